set_option maxRecDepth 100000 in
set_option maxHeartbeats 1000000 in
theorem c_X11_sum {M : gM} {S : gS} {L : gLg} (hM : 408 ≤ M.1) {T : Nat → Int32} {N t q c : Nat} {l0 : gSg} (hN : N ≤ 400) (hb : ∀ i, tb8 (T i)) (ht : t < 6) (hq : kq1 S T N t q c l0) {m : Nat} {r : gRs} (hsm : smR T N m 0 0 (sk T N q) [] c r) (hl : l0.length + 3 ≤ sk T N q) : SX 5 0 0 mX11_sum [.ref 384] (kp M S L) (fun v M' => ∃ S', M' = kp M S' L ∧ kfr t S S' ∧ ((v = some (.int 0) ∧ ∃ g, r = .error g ∧ S' 0 9 = g) ∨ (v = some (.int 1) ∧ ∃ q1 l1 c1, r = .ok (sk T N q1, l1, c1) ∧ kq1 S' T N t q1 c1 (l0 ++ l1) ∧ l0.length + l1.length + 3 ≤ sk T N q1))) := by
  refine SX.intro [some (.ref 384), none] (by decide +kernel) (Nat.le_of_ble_eq_true rfl) rfl (fun E hE hQ => ?_)
  have hqN0 := (sk_le (T := T) hq.2.1).2
  have stp : ∀ (B : Nat), (∀ m2, m2 < B → ∀ (q1 c1 : Nat) (l1 : gSg) (S1 : gS) (lx : Option Value), kfr t S S1 → kq1 S1 T N t q1 c1 (l0 ++ l1) → dnO T N m2 r (sk T N q1) l1 c1 → l0.length + l1.length + 3 ≤ (sk T N q1) → RX E mX11_sum.2.2.1 0 0 9 [some (.ref 384), lx] [] (kp M S1 L)) → ∀ (q1 c1 : Nat) (l1 : gSg) (S1 : gS) (lx : Option Value), kfr t S S1 → kq1 S1 T N t q1 c1 (l0 ++ l1) → dnO T N B r (sk T N q1) l1 c1 → l0.length + l1.length + 3 ≤ (sk T N q1) → RX E mX11_sum.2.2.1 0 0 9 [some (.ref 384), lx] [] (kp M S1 L) := by
    intro B ih0 q1 c1 l1 S1 lx fx q1k hdn hln
    have hq1N := (sk_le (T := T) q1k.2.1).2
    refine rx_aload_n hE dX11_sum_9 (i := 0) rfl rfl ?_
    refine rx_call0 (rx_callV (av := []) hE dX11_sum_10 lk_X11_105 (c_X11_seeQ hM hN q1k) (kp_o hM) np_X11_see rfl rfl (by decide) (Nat.le_of_ble_eq_true rfl) rfl ?_)
    rintro v M' ⟨rfl, rfl⟩
    have q2 := q1k.mv (sk_le (T := T) q1k.2.1).2
    have q1h := q1k.2.1
    have k46 : ∀ (s : Nat) (lx : Option Value), adO T N (sk T N q1) = s → ¬ s = 0 → RX E mX11_sum.2.2.1 0 0 46 [some (.ref 384), lx] [.int (nI s)] (kp M (k_f S1 8 (nI (sk T N q1))) L) := by
      intro s lx hs hs0
      obtain ⟨m2, hm2, hsm⟩ : ∃ m2, m2 < B ∧ smR T N m2 s 0 (nx T N (sk T N q1)) l1 c1 r := by
        rcases hdn.2 with ⟨_, m2, h1, h2⟩ | ⟨h, _⟩
        · rw [hs] at h2; exact ⟨m2, h1, h2⟩
        · exact absurd (hs.symm.trans h) hs0
      have hlt := adO_lt (T := T) (N := N) (p := (sk T N q1)) (by rw [hs]; exact hs0)
      have hnx := nx_lt (T := T) hlt.1
      have hsk : sk T N ((sk T N q1) + 1) = nx T N (sk T N q1) := by
        unfold nx
        rw [hlt.2]
      have q3 := q2.mv (q' := (sk T N q1) + 1) (by omega)
      have hopt : opt s = [(s, 0)] := if_neg hs0
      have hos := opt_le s
      have hnN := (nx_le (T := T) (N := N) (p := (sk T N q1)) (by omega)).2
      refine rx_istore_n_1 hE dX11_sum_46 (by decide) rfl ?_
      refine rx_aload_n hE dX11_sum_47 (i := 0) rfl rfl ?_
      refine rx_dup hE dX11_sum_48 rfl ?_
      refine rx_getf hE dX11_sum_49 fl_X11_102_10 (kp_o hM) rfl ?_
      refine rx_int _ (nI (sk T N q1)) rfl ?_
      refine rx_iconst hE dX11_sum_52 (v := 1) (by decide) ?_
      refine rx_iadd hE dX11_sum_53 ?_
      refine rx_int _ (nI ((sk T N q1) + 1)) (nI_1 _) ?_
      refine rx_put hE dX11_sum_54 fl_X11_102_10 fw_10_8 (kp_o hM) (fun _ => rfl) (fun _ => rfl) (Nat.le_of_ble_eq_true rfl) ?_
      refine rx_mem (M' := kp M (k_f (k_f S1 8 (nI (sk T N q1))) 8 (nI ((sk T N q1) + 1))) L) kw_c8 ?_
      refine rx_aload_n hE dX11_sum_57 (i := 0) rfl rfl ?_
      refine rx_call0 (rx_callV (av := []) hE dX11_sum_58 lk_X11_192 (c_X11_term (S := (k_f (k_f S1 8 (nI (sk T N q1))) 8 (nI ((sk T N q1) + 1)))) (l0 := l0) (l := l1) (a := s) (r := r) (m := m2) hM hN hb ht q3 (by rw [hsk]; exact hsm) (by rw [hsk]; omega)) (kp_o hM) np_X11_term rfl rfl (by decide) (Nat.le_of_ble_eq_true rfl) rfl ?_)
      rintro v M' ⟨S4, rfl, f4, hv⟩
      rcases hv with ⟨rfl, g, hg, e9⟩ | ⟨rfl, q2', l2, c2, q4, hd2, hl2⟩
      · skip
        refine rx_if_ne (tgt := 66) hE dX11_sum_61 (by decide) (fun c61 => absurd rfl c61) (fun c61 => ?_)
        refine rx_iconst hE dX11_sum_64 (v := 0) (by decide) ?_
        exact rx_tret hE hQ rfl rfl dX11_sum_65 ⟨S4, rfl, fx.trans ((kfr.f t _ (by omega) _).trans ((kfr.f t _ (by omega) _).trans f4)), Or.inl ⟨rfl, g, hg, e9⟩⟩
      · have hq2N := (sk_le (T := T) q4.2.1).2
        refine rx_if_ne (tgt := 66) hE dX11_sum_61 (by decide) (fun c61 => ?_) (fun c61 => absurd c61 (by decide))
        refine rx_aload_n hE dX11_sum_66 (i := 0) rfl rfl ?_
        refine rx_iload_n hE dX11_sum_67 (i := 1) rfl rfl ?_
        refine rx_iconst hE dX11_sum_68 (v := 0) (by decide) ?_
        refine rx_call0 (rx_callV (av := [.int (nI s), .int (nI 0)]) hE dX11_sum_69 lk_X11_174 (c_X11_putsQ (S := S4) hM ht q4 (by simp only [List.length_append]; omega) s 0) (kp_o hM) np_X11_puts rfl rfl (by decide) (Nat.le_of_ble_eq_true rfl) rfl ?_)
        rintro v M' ⟨rfl, S5, rfl, f5, q5⟩
        refine rx_goto (tgt := 9) hE dX11_sum_72 (by decide) ?_
        exact ih0 m2 hm2 _ _ _ _ _ (fx.trans (((kfr.f t _ (by omega) _).trans ((kfr.f t _ (by omega) _).trans f4)).trans f5)) (by rw [List.append_assoc] at q5; exact q5) (by rw [hopt] at hd2; exact hd2) (by rw [hopt] at hl2; simp only [List.length_append, List.length_cons, List.length_nil] at hl2 ⊢; omega)
    refine rx_bipush hE dX11_sum_13 (v := 43) (by decide) ?_
    refine rx_icmp_eq (tgt := 27) hE dX11_sum_15 (by decide) (fun c15 => ?_) (fun c15 => ?_)
    · have h43 : sgn T N (sk T N q1) 43 := (see_is hb (k := 43) (by decide)).mp c15
      refine rx_aload_n hE dX11_sum_27 (i := 0) rfl rfl ?_
      refine rx_getf hE dX11_sum_28 fl_X11_7_10 (kp_o hM) rfl ?_
      refine rx_aload_n hE dX11_sum_31 (i := 0) rfl rfl ?_
      refine rx_getf hE dX11_sum_32 fl_X11_102_10 (kp_o hM) rfl ?_
      refine rx_int _ (nI (sk T N q1)) rfl ?_
      refine rx_baldN (i := (sk T N q1)) hE dX11_sum_35 (kp_1 hM) (by have := q2.2.1; omega) (by decide) ?_
      refine rx_int _ 43 ((congrFun q2.1.2 _).trans h43.2) ?_
      refine rx_bipush hE dX11_sum_36 (v := 43) (by decide) ?_
      refine rx_icmp_ne (tgt := 45) hE dX11_sum_38 (by decide) (fun c38 => absurd rfl c38) (fun c38 => ?_)
      refine rx_iconst hE dX11_sum_41 (v := 2) (by decide) ?_
      refine rx_goto (tgt := 46) hE dX11_sum_42 (by decide) ?_
      exact k46 2 _ (adO_43 h43) (by decide)
    · have h43 : ¬ sgn T N (sk T N q1) 43 := fun z => c15 ((see_is hb (k := 43) (by decide)).mpr z)
      refine rx_aload_n hE dX11_sum_18 (i := 0) rfl rfl ?_
      refine rx_call0 (rx_callV (av := []) hE dX11_sum_19 lk_X11_105 (c_X11_seeZ hM hN q2 (sk_sk q1h)) (kp_o hM) np_X11_see rfl rfl (by decide) (Nat.le_of_ble_eq_true rfl) rfl ?_)
      rintro v M' ⟨rfl, rfl⟩
      refine rx_bipush hE dX11_sum_22 (v := 45) (by decide) ?_
      refine rx_icmp_ne (tgt := 75) hE dX11_sum_24 (by decide) (fun c24 => ?_) (fun c24 => ?_)
      · have h45 : ¬ sgn T N (sk T N q1) 45 := fun z => c24 ((see_is hb (k := 45) (by decide)).mpr z)
        refine rx_iconst hE dX11_sum_75 (v := 1) (by decide) ?_
        exact rx_tret hE hQ rfl rfl dX11_sum_76 ⟨(k_f S1 8 (nI (sk T N q1))), rfl, fx.trans (kfr.f t _ (by omega) _), Or.inr ⟨rfl, (sk T N q1), l1, c1, by
          rw [sk_sk q1h]
          rcases hdn.2 with ⟨h, _⟩ | ⟨_, h⟩
          · exact absurd (adO_no h43 h45) h
          · exact h, q2, by rw [sk_sk q1h]; exact hln⟩⟩
      · have h45 : sgn T N (sk T N q1) 45 := (see_is hb (k := 45) (by decide)).mp c24
        refine rx_aload_n hE dX11_sum_27 (i := 0) rfl rfl ?_
        refine rx_getf hE dX11_sum_28 fl_X11_7_10 (kp_o hM) rfl ?_
        refine rx_aload_n hE dX11_sum_31 (i := 0) rfl rfl ?_
        refine rx_getf hE dX11_sum_32 fl_X11_102_10 (kp_o hM) rfl ?_
        refine rx_int _ (nI (sk T N q1)) rfl ?_
        refine rx_baldN (i := (sk T N q1)) hE dX11_sum_35 (kp_1 hM) (by have := q2.2.1; omega) (by decide) ?_
        refine rx_int _ 45 ((congrFun q2.1.2 _).trans h45.2) ?_
        refine rx_bipush hE dX11_sum_36 (v := 43) (by decide) ?_
        refine rx_icmp_ne (tgt := 45) hE dX11_sum_38 (by decide) (fun c38 => ?_) (fun c38 => absurd c38 (by decide))
        refine rx_iconst hE dX11_sum_45 (v := 3) (by decide) ?_
        exact k46 3 _ (adO_45 h45) (by decide)
  have l1 : ∀ (B : Nat), ∀ (q1 c1 : Nat) (l1 : gSg) (S1 : gS) (lx : Option Value), kfr t S S1 → kq1 S1 T N t q1 c1 (l0 ++ l1) → dnO T N B r (sk T N q1) l1 c1 → l0.length + l1.length + 3 ≤ (sk T N q1) → RX E mX11_sum.2.2.1 0 0 9 [some (.ref 384), lx] [] (kp M S1 L) := fun B => Nat.strongRecOn B (fun B ih => stp B ih)
  refine rx_aload_n hE dX11_sum_0 (i := 0) rfl rfl ?_
  refine rx_call0 (rx_callV (av := []) hE dX11_sum_1 lk_X11_192 (c_X11_term (l0 := l0) (l := []) (a := 0) (r := r) (m := m) hM hN hb ht (by rw [List.append_nil]; exact hq) hsm (by show l0.length + 0 + 0 + 3 ≤ sk T N q; omega)) (kp_o hM) np_X11_term rfl rfl (by decide) (Nat.le_of_ble_eq_true rfl) rfl ?_)
  rintro v M' ⟨S4, rfl, f4, hv⟩
  rcases hv with ⟨rfl, g, hg, e9⟩ | ⟨rfl, q2', l2, c2, q4, hd2, hl2⟩
  · skip
    refine rx_if_ne (tgt := 9) hE dX11_sum_4 (by decide) (fun c4 => absurd rfl c4) (fun c4 => ?_)
    refine rx_iconst hE dX11_sum_7 (v := 0) (by decide) ?_
    exact rx_tret hE hQ rfl rfl dX11_sum_8 ⟨S4, rfl, f4, Or.inl ⟨rfl, g, hg, e9⟩⟩
  · skip
    refine rx_if_ne (tgt := 9) hE dX11_sum_4 (by decide) (fun c4 => ?_) (fun c4 => absurd c4 (by decide))
    exact l1 m _ _ l2 _ _ f4 q4 (by rw [show l2 ++ opt 0 = l2 from List.append_nil _] at hd2; exact hd2) (by have k0 : (opt 0).length = 0 := rfl; omega)
set_option maxRecDepth 100000 in
set_option maxHeartbeats 1000000 in
theorem c_X11_compare {M : gM} {S : gS} {L : gLg} (hM : 408 ≤ M.1) {T : Nat → Int32} {N t q c : Nat} {l0 : gSg} (hN : N ≤ 400) (hb : ∀ i, tb8 (T i)) (ht : t < 6) (hq : kq1 S T N t q c l0) {r : gRs} (hcp : cpR T N (sk T N q) c r) (hl : l0.length + 3 ≤ sk T N q) : SX 6 0 0 mX11_compare [.ref 384] (kp M S L) (fun v M' => ∃ S', M' = kp M S' L ∧ kfr t S S' ∧ ((v = some (.int 0) ∧ ∃ g, r = .error g ∧ S' 0 9 = g) ∨ (v = some (.int 1) ∧ ∃ q1 l1 c1, r = .ok (sk T N q1, l1, c1) ∧ kq1 S' T N t q1 c1 (l0 ++ l1) ∧ l0.length + l1.length + 3 ≤ sk T N q1))) := by
  refine SX.intro [some (.ref 384), none, none, none, none] (by decide +kernel) (Nat.le_of_ble_eq_true rfl) rfl (fun E hE hQ => ?_)
  obtain ⟨mS, r1, hsm, h⟩ := hcp
  refine rx_aload_n hE dX11_compare_0 (i := 0) rfl rfl ?_
  refine rx_call0 (rx_callV (av := []) hE dX11_compare_1 lk_X11_195 (c_X11_sum (S := S) (l0 := l0) (r := r1) (m := mS) hM hN hb ht hq hsm hl) (kp_o hM) np_X11_sum rfl rfl (by decide) (Nat.le_of_ble_eq_true rfl) rfl ?_)
  rintro v M' ⟨S1, rfl, f1, hv⟩
  rcases hv with ⟨rfl, g, hg, e9⟩ | ⟨rfl, q1, l1, c1, hr, q1k, h1l⟩
  · skip
    refine rx_if_ne (tgt := 9) hE dX11_compare_4 (by decide) (fun c4 => absurd rfl c4) (fun c4 => ?_)
    refine rx_iconst hE dX11_compare_7 (v := 0) (by decide) ?_
    exact rx_tret hE hQ rfl rfl dX11_compare_8 ⟨S1, rfl, f1, Or.inl ⟨rfl, g, (by
        rcases h with ⟨g', h3, h4⟩ | ⟨p1', l1', c1', h3, _⟩
        · rw [hg] at h3
          injection h3 with h3
          rw [h4, h3]
        · rw [hg] at h3
          exact absurd h3 (by simp)), e9⟩⟩
  · skip
    have hr' : r1 = _ := hr
    rcases h with ⟨g', h3, h4⟩ | ⟨p1', l1', c1', h3, h⟩
    · rw [hr] at h3
      exact absurd h3 (by simp)
    rw [hr] at h3
    injection h3 with h3
    injection h3 with z1 h3
    injection h3 with z2 z3
    subst z1 z2 z3
    rw [hr] at hsm
    have hp1N := (sk_le (T := T) q1k.2.1).2
    have k152 : ∀ (s : Nat) (S5 : gS) (x1 x2 : Option Value) (y3 : Int32) (x4 : Option Value), cmO T N (sk T N q1) = 6 + s → c1 < 60 → kfr t S S5 → kq1 S5 T N t (te T N (sk T N q1)) (c1 + 1) (l0 ++ l1) → RX E mX11_compare.2.2.1 0 0 152 [some (.ref 384), x1, x2, some (.int y3), x4] [.int (nI s)] (kp M S5 L) := by
      intro s S5 x1 x2 y3 x4 hcs hc60 f5 k5
      obtain ⟨m2, r2, hsm2, h2⟩ : ∃ m2 r2, smR T N m2 0 0 (nx T N (sk T N q1)) [] (c1 + 1) r2 ∧ ((∃ g, r2 = .error g ∧ r = .error g) ∨ ∃ p2 l2 c2, r2 = .ok (p2, l2, c2) ∧ r = .ok (p2, l1 ++ l2 ++ [(cmO T N (sk T N q1), 0)], c2)) := by
        rcases h with ⟨h1, _⟩ | ⟨_, h1, _⟩ | ⟨_, _, m2, r2, h3, h4⟩
        · omega
        · omega
        · exact ⟨m2, r2, h3, h4⟩
      have hlt := cmO_lt (T := T) (N := N) (p := (sk T N q1)) (by omega)
      have hnx := nx_lt (T := T) hlt
      refine rx_istore_4 hE dX11_compare_152 (by decide) rfl ?_
      refine rx_aload_n hE dX11_compare_154 (i := 0) rfl rfl ?_
      refine rx_call0 (rx_callV (av := []) hE dX11_compare_155 lk_X11_195 (c_X11_sum (S := S5) (l0 := (l0 ++ l1)) (r := r2) (m := m2) hM hN hb ht k5 hsm2 (by simp only [List.length_append]; rw [show sk T N (te T N (sk T N q1)) = nx T N (sk T N q1) from rfl]; omega)) (kp_o hM) np_X11_sum rfl rfl (by decide) (Nat.le_of_ble_eq_true rfl) rfl ?_)
      rintro v M' ⟨S6, rfl, f6, hv⟩
      rcases hv with ⟨rfl, g, hg, e9⟩ | ⟨rfl, q6, l6, c6, hr, k6, h6⟩
      · skip
        refine rx_if_ne (tgt := 163) hE dX11_compare_158 (by decide) (fun c158 => absurd rfl c158) (fun c158 => ?_)
        refine rx_iconst hE dX11_compare_161 (v := 0) (by decide) ?_
        exact rx_tret hE hQ rfl rfl dX11_compare_162 ⟨S6, rfl, f5.trans f6, Or.inl ⟨rfl, g, (by
              rcases h2 with ⟨g', h3, h4⟩ | ⟨p2', l2', c2', h3, h4⟩
              · rw [hg] at h3
                injection h3 with h3
                rw [h4, h3]
              · rw [hg] at h3
                exact absurd h3 (by simp)), e9⟩⟩
      · skip
        refine rx_if_ne (tgt := 163) hE dX11_compare_158 (by decide) (fun c158 => ?_) (fun c158 => absurd c158 (by decide))
        refine rx_aload_n hE dX11_compare_163 (i := 0) rfl rfl ?_
        refine rx_bipush hE dX11_compare_164 (v := 6) (by decide) ?_
        refine rx_iload hE dX11_compare_166 rfl ?_
        refine rx_iadd hE dX11_compare_168 ?_
        refine rx_int _ (nI (6 + s)) (nI_add _ _) ?_
        refine rx_iconst hE dX11_compare_169 (v := 0) (by decide) ?_
        refine rx_call0 (rx_callV (av := [.int (nI (6 + s)), .int (nI 0)]) hE dX11_compare_170 lk_X11_174 (c_X11_putsQ (S := S6) hM ht k6 (by have := (sk_le (T := T) k6.2.1).2; simp only [List.length_append] at h6 ⊢; omega) (6 + s) 0) (kp_o hM) np_X11_puts rfl rfl (by decide) (Nat.le_of_ble_eq_true rfl) rfl ?_)
        rintro v M' ⟨rfl, S7, rfl, f7, k7⟩
        refine rx_iconst hE dX11_compare_173 (v := 1) (by decide) ?_
        exact rx_tret hE hQ rfl rfl dX11_compare_174 ⟨S7, rfl, f5.trans (f6.trans f7), Or.inr ⟨rfl, q6, l1 ++ l6 ++ [(6 + s, 0)], c6, (by
              rcases h2 with ⟨g', h3, h4⟩ | ⟨p2', l2', c2', h3, h4⟩
              · rw [hr] at h3
                exact absurd h3 (by simp)
              · rw [hr] at h3
                injection h3 with h3
                injection h3 with z1 h3
                injection h3 with z2 z3
                subst z1 z2 z3
                rw [h4, hcs]), by simp only [List.append_assoc] at k7 ⊢; exact k7, by
              have hcp2 := (cpR_ty (p' := sk T N q6) (l' := l1 ++ l6 ++ [(6 + s, 0)]) (c' := c6) ⟨mS, _, hsm, Or.inr ⟨_, l1, c1, rfl, Or.inr (Or.inr ⟨by omega, hc60, m2, _, hsm2, Or.inr ⟨_, l6, c6, hr, by rw [hcs]⟩⟩)⟩⟩ (sk_le (T := T) hq.2.1).2).2.1
              omega⟩⟩
    refine rx_if_ne (tgt := 9) hE dX11_compare_4 (by decide) (fun c4 => ?_) (fun c4 => absurd c4 (by decide))
    refine rx_aload_n hE dX11_compare_9 (i := 0) rfl rfl ?_
    refine rx_call0 (rx_callV (av := []) hE dX11_compare_10 lk_X11_105 (c_X11_seeQ hM hN q1k) (kp_o hM) np_X11_see rfl rfl (by decide) (Nat.le_of_ble_eq_true rfl) rfl ?_)
    rintro v M' ⟨rfl, rfl⟩
    have q2 := q1k.mv (sk_le (T := T) q1k.2.1).2
    refine rx_istore_n_1 hE dX11_compare_13 (by decide) rfl ?_
    refine rx_aload_n hE dX11_compare_14 (i := 0) rfl rfl ?_
    refine rx_getf hE dX11_compare_15 fl_X11_102_10 (kp_o hM) rfl ?_
    refine rx_int _ (nI (sk T N q1)) rfl ?_
    refine rx_istore_n_2 hE dX11_compare_18 (by decide) rfl ?_
    refine rx_iload_n hE dX11_compare_19 (i := 1) rfl rfl ?_
    refine rx_bipush hE dX11_compare_20 (v := 60) (by decide) ?_
    refine rx_icmp_eq (tgt := 44) hE dX11_compare_22 (by decide) (fun c22 => ?_) (fun c22 => ?_)
    · have h60 : sgn T N (sk T N q1) 60 := (see_is hb (k := 60) (by decide)).mp c22
      rw [c22]
      refine rx_aload_n hE dX11_compare_44 (i := 0) rfl rfl ?_
      refine rx_dup hE dX11_compare_45 rfl ?_
      refine rx_getf hE dX11_compare_46 fl_X11_102_10 (kp_o hM) rfl ?_
      refine rx_int _ (nI (sk T N q1)) rfl ?_
      refine rx_iconst hE dX11_compare_49 (v := 1) (by decide) ?_
      refine rx_iadd hE dX11_compare_50 ?_
      refine rx_int _ (nI ((sk T N q1) + 1)) (nI_1 _) ?_
      refine rx_put hE dX11_compare_51 fl_X11_102_10 fw_10_8 (kp_o hM) (fun _ => rfl) (fun _ => rfl) (Nat.le_of_ble_eq_true rfl) ?_
      refine rx_mem (M' := kp M (k_f S1 8 (nI (sk T N q1 + 1))) L) (kw_c8.trans (by rw [k_ff2])) ?_
      refine rx_iload_n hE dX11_compare_54 (i := 1) rfl rfl ?_
      refine rx_bipush hE dX11_compare_55 (v := 61) (by decide) ?_
      refine rx_icmp_eq (tgt := 89) hE dX11_compare_57 (by decide) (fun c57 => absurd c57 (by decide)) (fun c57 => ?_)
      refine rx_aload_n hE dX11_compare_60 (i := 0) rfl rfl ?_
      refine rx_getf hE dX11_compare_61 fl_X11_102_10 (kp_o hM) rfl ?_
      refine rx_int _ (nI ((sk T N q1) + 1)) rfl ?_
      refine rx_aload_n hE dX11_compare_64 (i := 0) rfl rfl ?_
      refine rx_getf hE dX11_compare_65 fl_X11_92_10 (kp_o hM) rfl ?_
      refine rx_int _ (nI N) ((kf_ne _ (by decide)).trans q1k.1.1) ?_
      refine rx_icmp_ge (tgt := 89) hE dX11_compare_68 (by decide) (fun c68 => ?_) (fun c68 => ?_)
      · have hin : ¬ (sk T N q1) + 1 < N := fun z => absurd c68 (nI_ge (a := (sk T N q1) + 1) (b := N) z (by omega))
        refine rx_iconst hE dX11_compare_89 (v := 0) (by decide) ?_
        refine rx_istore_n_3 hE dX11_compare_90 (by decide) rfl ?_
        refine rx_iload_n hE dX11_compare_91 (i := 3) rfl rfl ?_
        refine rx_if_eq (tgt := 105) hE dX11_compare_92 (by decide) (fun c92 => ?_) (fun c92 => absurd rfl c92)
        refine rx_aload_n hE dX11_compare_105 (i := 0) rfl rfl ?_
        refine rx_iload_n hE dX11_compare_106 (i := 2) rfl rfl ?_
        have hsg : ¬ sgn T N (sk T N q1 + 1) 61 := fun z => hin z.1
        have hcv : cmO T N (sk T N q1) = 6 + 0 := by
          unfold cmO
          rw [if_pos h60, if_neg hsg]
        have hcm : ¬ cmO T N (sk T N q1) = 0 := by omega
        have hte : te T N (sk T N q1) = (sk T N q1) + 1 := by
          rw [(cm_te (k := 60) (Or.inl rfl) h60).2.1, if_neg hsg]
        have hteN := (te_le (T := T) (N := N) (p := (sk T N q1)) (by omega)).2.1
        have q4 := q1k.mv (q' := (sk T N q1) + 1) (by omega)
        refine rx_call0 (rx_callV (av := [.int (nI (sk T N q1))]) hE dX11_compare_107 lk_X11_182 (c_X11_makesQ (S := (k_f S1 8 (nI (sk T N q1 + 1)))) hM q4 (sk T N q1)) (kp_o hM) np_X11_makes rfl rfl (by decide) (Nat.le_of_ble_eq_true rfl) rfl ?_)
        rintro v M' ⟨S5, rfl, f5, hv⟩
        rcases hv with ⟨hc60, rfl, e9⟩ | ⟨hc60, rfl, _, q5⟩
        · skip
          refine rx_if_ne (tgt := 115) hE dX11_compare_110 (by decide) (fun c110 => absurd rfl c110) (fun c110 => ?_)
          refine rx_iconst hE dX11_compare_113 (v := 0) (by decide) ?_
          exact rx_tret hE hQ rfl rfl dX11_compare_114 ⟨S5, rfl, f1.trans ((kfr.f t _ (by omega) _).trans f5), Or.inl ⟨rfl, fE (sk T N q1) 3, (by
              rcases h with ⟨h1, _⟩ | ⟨_, _, h1⟩ | ⟨_, h1, _⟩
              · exact absurd h1 hcm
              · exact h1
              · omega), e9⟩⟩
        · skip
          refine rx_if_ne (tgt := 115) hE dX11_compare_110 (by decide) (fun c110 => ?_) (fun c110 => absurd c110 (by decide))
          refine rx_iload_n hE dX11_compare_115 (i := 1) rfl rfl ?_
          refine rx_bipush hE dX11_compare_116 (v := 60) (by decide) ?_
          refine rx_icmp_ne (tgt := 133) hE dX11_compare_118 (by decide) (fun c118 => absurd rfl c118) (fun c118 => ?_)
          refine rx_iload_n hE dX11_compare_121 (i := 3) rfl rfl ?_
          refine rx_if_eq (tgt := 129) hE dX11_compare_122 (by decide) (fun c122 => ?_) (fun c122 => absurd rfl c122)
          refine rx_iconst hE dX11_compare_129 (v := 0) (by decide) ?_
          refine rx_goto (tgt := 152) hE dX11_compare_130 (by decide) ?_
          exact k152 0 S5 _ _ _ _ hcv hc60 (f1.trans ((kfr.f t _ (by omega) _).trans f5)) (by rw [hte]; exact q5)
      · have hin : (sk T N q1) + 1 < N := Classical.byContradiction (fun z => c68 (nI_le (a := N) (b := (sk T N q1) + 1) (by omega) (by omega)))
        refine rx_aload_n hE dX11_compare_71 (i := 0) rfl rfl ?_
        refine rx_getf hE dX11_compare_72 fl_X11_7_10 (kp_o hM) rfl ?_
        refine rx_aload_n hE dX11_compare_75 (i := 0) rfl rfl ?_
        refine rx_getf hE dX11_compare_76 fl_X11_102_10 (kp_o hM) rfl ?_
        refine rx_int _ (nI ((sk T N q1) + 1)) rfl ?_
        refine rx_baldN (i := (sk T N q1) + 1) hE dX11_compare_79 (kp_1 hM) (by omega) (by decide) ?_
        refine rx_int _ (T ((sk T N q1) + 1)) (congrFun q1k.1.2 _) ?_
        refine rx_bipush hE dX11_compare_80 (v := 61) (by decide) ?_
        refine rx_icmp_ne (tgt := 89) hE dX11_compare_82 (by decide) (fun c82 => ?_) (fun c82 => ?_)
        · refine rx_iconst hE dX11_compare_89 (v := 0) (by decide) ?_
          refine rx_istore_n_3 hE dX11_compare_90 (by decide) rfl ?_
          refine rx_iload_n hE dX11_compare_91 (i := 3) rfl rfl ?_
          refine rx_if_eq (tgt := 105) hE dX11_compare_92 (by decide) (fun c92 => ?_) (fun c92 => absurd rfl c92)
          refine rx_aload_n hE dX11_compare_105 (i := 0) rfl rfl ?_
          refine rx_iload_n hE dX11_compare_106 (i := 2) rfl rfl ?_
          have hsg : ¬ sgn T N (sk T N q1 + 1) 61 := fun z => c82 z.2
          have hcv : cmO T N (sk T N q1) = 6 + 0 := by
            unfold cmO
            rw [if_pos h60, if_neg hsg]
          have hcm : ¬ cmO T N (sk T N q1) = 0 := by omega
          have hte : te T N (sk T N q1) = (sk T N q1) + 1 := by
            rw [(cm_te (k := 60) (Or.inl rfl) h60).2.1, if_neg hsg]
          have hteN := (te_le (T := T) (N := N) (p := (sk T N q1)) (by omega)).2.1
          have q4 := q1k.mv (q' := (sk T N q1) + 1) (by omega)
          refine rx_call0 (rx_callV (av := [.int (nI (sk T N q1))]) hE dX11_compare_107 lk_X11_182 (c_X11_makesQ (S := (k_f S1 8 (nI (sk T N q1 + 1)))) hM q4 (sk T N q1)) (kp_o hM) np_X11_makes rfl rfl (by decide) (Nat.le_of_ble_eq_true rfl) rfl ?_)
          rintro v M' ⟨S5, rfl, f5, hv⟩
          rcases hv with ⟨hc60, rfl, e9⟩ | ⟨hc60, rfl, _, q5⟩
          · skip
            refine rx_if_ne (tgt := 115) hE dX11_compare_110 (by decide) (fun c110 => absurd rfl c110) (fun c110 => ?_)
            refine rx_iconst hE dX11_compare_113 (v := 0) (by decide) ?_
            exact rx_tret hE hQ rfl rfl dX11_compare_114 ⟨S5, rfl, f1.trans ((kfr.f t _ (by omega) _).trans f5), Or.inl ⟨rfl, fE (sk T N q1) 3, (by
                rcases h with ⟨h1, _⟩ | ⟨_, _, h1⟩ | ⟨_, h1, _⟩
                · exact absurd h1 hcm
                · exact h1
                · omega), e9⟩⟩
          · skip
            refine rx_if_ne (tgt := 115) hE dX11_compare_110 (by decide) (fun c110 => ?_) (fun c110 => absurd c110 (by decide))
            refine rx_iload_n hE dX11_compare_115 (i := 1) rfl rfl ?_
            refine rx_bipush hE dX11_compare_116 (v := 60) (by decide) ?_
            refine rx_icmp_ne (tgt := 133) hE dX11_compare_118 (by decide) (fun c118 => absurd rfl c118) (fun c118 => ?_)
            refine rx_iload_n hE dX11_compare_121 (i := 3) rfl rfl ?_
            refine rx_if_eq (tgt := 129) hE dX11_compare_122 (by decide) (fun c122 => ?_) (fun c122 => absurd rfl c122)
            refine rx_iconst hE dX11_compare_129 (v := 0) (by decide) ?_
            refine rx_goto (tgt := 152) hE dX11_compare_130 (by decide) ?_
            exact k152 0 S5 _ _ _ _ hcv hc60 (f1.trans ((kfr.f t _ (by omega) _).trans f5)) (by rw [hte]; exact q5)
        · refine rx_iconst hE dX11_compare_85 (v := 1) (by decide) ?_
          refine rx_goto (tgt := 90) hE dX11_compare_86 (by decide) ?_
          refine rx_istore_n_3 hE dX11_compare_90 (by decide) rfl ?_
          refine rx_iload_n hE dX11_compare_91 (i := 3) rfl rfl ?_
          refine rx_if_eq (tgt := 105) hE dX11_compare_92 (by decide) (fun c92 => absurd c92 (by decide)) (fun c92 => ?_)
          refine rx_aload_n hE dX11_compare_95 (i := 0) rfl rfl ?_
          refine rx_dup hE dX11_compare_96 rfl ?_
          refine rx_getf hE dX11_compare_97 fl_X11_102_10 (kp_o hM) rfl ?_
          refine rx_int _ (nI ((sk T N q1) + 1)) rfl ?_
          refine rx_iconst hE dX11_compare_100 (v := 1) (by decide) ?_
          refine rx_iadd hE dX11_compare_101 ?_
          refine rx_int _ (nI ((sk T N q1) + 2)) (nI_1 _) ?_
          refine rx_put hE dX11_compare_102 fl_X11_102_10 fw_10_8 (kp_o hM) (fun _ => rfl) (fun _ => rfl) (Nat.le_of_ble_eq_true rfl) ?_
          refine rx_mem (M' := kp M (k_f S1 8 (nI (sk T N q1 + 2))) L) (kw_c8.trans (by rw [k_ff2])) ?_
          refine rx_aload_n hE dX11_compare_105 (i := 0) rfl rfl ?_
          refine rx_iload_n hE dX11_compare_106 (i := 2) rfl rfl ?_
          have hsg : sgn T N (sk T N q1 + 1) 61 := ⟨hin, c82⟩
          have hcv : cmO T N (sk T N q1) = 6 + 1 := by
            unfold cmO
            rw [if_pos h60, if_pos hsg]
          have hcm : ¬ cmO T N (sk T N q1) = 0 := by omega
          have hte : te T N (sk T N q1) = (sk T N q1) + 2 := by
            rw [(cm_te (k := 60) (Or.inl rfl) h60).2.1, if_pos hsg]
          have hteN := (te_le (T := T) (N := N) (p := (sk T N q1)) (by omega)).2.1
          have q4 := q1k.mv (q' := (sk T N q1) + 2) (by omega)
          refine rx_call0 (rx_callV (av := [.int (nI (sk T N q1))]) hE dX11_compare_107 lk_X11_182 (c_X11_makesQ (S := (k_f S1 8 (nI (sk T N q1 + 2)))) hM q4 (sk T N q1)) (kp_o hM) np_X11_makes rfl rfl (by decide) (Nat.le_of_ble_eq_true rfl) rfl ?_)
          rintro v M' ⟨S5, rfl, f5, hv⟩
          rcases hv with ⟨hc60, rfl, e9⟩ | ⟨hc60, rfl, _, q5⟩
          · skip
            refine rx_if_ne (tgt := 115) hE dX11_compare_110 (by decide) (fun c110 => absurd rfl c110) (fun c110 => ?_)
            refine rx_iconst hE dX11_compare_113 (v := 0) (by decide) ?_
            exact rx_tret hE hQ rfl rfl dX11_compare_114 ⟨S5, rfl, f1.trans ((kfr.f t _ (by omega) _).trans f5), Or.inl ⟨rfl, fE (sk T N q1) 3, (by
                rcases h with ⟨h1, _⟩ | ⟨_, _, h1⟩ | ⟨_, h1, _⟩
                · exact absurd h1 hcm
                · exact h1
                · omega), e9⟩⟩
          · skip
            refine rx_if_ne (tgt := 115) hE dX11_compare_110 (by decide) (fun c110 => ?_) (fun c110 => absurd c110 (by decide))
            refine rx_iload_n hE dX11_compare_115 (i := 1) rfl rfl ?_
            refine rx_bipush hE dX11_compare_116 (v := 60) (by decide) ?_
            refine rx_icmp_ne (tgt := 133) hE dX11_compare_118 (by decide) (fun c118 => absurd rfl c118) (fun c118 => ?_)
            refine rx_iload_n hE dX11_compare_121 (i := 3) rfl rfl ?_
            refine rx_if_eq (tgt := 129) hE dX11_compare_122 (by decide) (fun c122 => absurd c122 (by decide)) (fun c122 => ?_)
            refine rx_iconst hE dX11_compare_125 (v := 1) (by decide) ?_
            refine rx_goto (tgt := 152) hE dX11_compare_126 (by decide) ?_
            exact k152 1 S5 _ _ _ _ hcv hc60 (f1.trans ((kfr.f t _ (by omega) _).trans f5)) (by rw [hte]; exact q5)
    · have h60 : ¬ sgn T N (sk T N q1) 60 := fun z => c22 ((see_is hb (k := 60) (by decide)).mpr z)
      refine rx_iload_n hE dX11_compare_25 (i := 1) rfl rfl ?_
      refine rx_bipush hE dX11_compare_26 (v := 61) (by decide) ?_
      refine rx_icmp_eq (tgt := 44) hE dX11_compare_28 (by decide) (fun c28 => ?_) (fun c28 => ?_)
      · have h61 : sgn T N (sk T N q1) 61 := (see_is hb (k := 61) (by decide)).mp c28
        rw [c28]
        refine rx_aload_n hE dX11_compare_44 (i := 0) rfl rfl ?_
        refine rx_dup hE dX11_compare_45 rfl ?_
        refine rx_getf hE dX11_compare_46 fl_X11_102_10 (kp_o hM) rfl ?_
        refine rx_int _ (nI (sk T N q1)) rfl ?_
        refine rx_iconst hE dX11_compare_49 (v := 1) (by decide) ?_
        refine rx_iadd hE dX11_compare_50 ?_
        refine rx_int _ (nI ((sk T N q1) + 1)) (nI_1 _) ?_
        refine rx_put hE dX11_compare_51 fl_X11_102_10 fw_10_8 (kp_o hM) (fun _ => rfl) (fun _ => rfl) (Nat.le_of_ble_eq_true rfl) ?_
        refine rx_mem (M' := kp M (k_f S1 8 (nI (sk T N q1 + 1))) L) (kw_c8.trans (by rw [k_ff2])) ?_
        refine rx_iload_n hE dX11_compare_54 (i := 1) rfl rfl ?_
        refine rx_bipush hE dX11_compare_55 (v := 61) (by decide) ?_
        refine rx_icmp_eq (tgt := 89) hE dX11_compare_57 (by decide) (fun c57 => ?_) (fun c57 => absurd rfl c57)
        refine rx_iconst hE dX11_compare_89 (v := 0) (by decide) ?_
        refine rx_istore_n_3 hE dX11_compare_90 (by decide) rfl ?_
        refine rx_iload_n hE dX11_compare_91 (i := 3) rfl rfl ?_
        refine rx_if_eq (tgt := 105) hE dX11_compare_92 (by decide) (fun c92 => ?_) (fun c92 => absurd rfl c92)
        refine rx_aload_n hE dX11_compare_105 (i := 0) rfl rfl ?_
        refine rx_iload_n hE dX11_compare_106 (i := 2) rfl rfl ?_
        have hcv : cmO T N (sk T N q1) = 6 + 2 := by
          unfold cmO
          rw [if_neg h60, if_pos h61]
        have hcm : ¬ cmO T N (sk T N q1) = 0 := by omega
        have hte : te T N (sk T N q1) = (sk T N q1) + 1 := by
          exact sg_te (k := 61) (by decide) h61
        have hteN := (te_le (T := T) (N := N) (p := (sk T N q1)) (by omega)).2.1
        have q4 := q1k.mv (q' := (sk T N q1) + 1) (by omega)
        refine rx_call0 (rx_callV (av := [.int (nI (sk T N q1))]) hE dX11_compare_107 lk_X11_182 (c_X11_makesQ (S := (k_f S1 8 (nI (sk T N q1 + 1)))) hM q4 (sk T N q1)) (kp_o hM) np_X11_makes rfl rfl (by decide) (Nat.le_of_ble_eq_true rfl) rfl ?_)
        rintro v M' ⟨S5, rfl, f5, hv⟩
        rcases hv with ⟨hc60, rfl, e9⟩ | ⟨hc60, rfl, _, q5⟩
        · skip
          refine rx_if_ne (tgt := 115) hE dX11_compare_110 (by decide) (fun c110 => absurd rfl c110) (fun c110 => ?_)
          refine rx_iconst hE dX11_compare_113 (v := 0) (by decide) ?_
          exact rx_tret hE hQ rfl rfl dX11_compare_114 ⟨S5, rfl, f1.trans ((kfr.f t _ (by omega) _).trans f5), Or.inl ⟨rfl, fE (sk T N q1) 3, (by
              rcases h with ⟨h1, _⟩ | ⟨_, _, h1⟩ | ⟨_, h1, _⟩
              · exact absurd h1 hcm
              · exact h1
              · omega), e9⟩⟩
        · skip
          refine rx_if_ne (tgt := 115) hE dX11_compare_110 (by decide) (fun c110 => ?_) (fun c110 => absurd c110 (by decide))
          refine rx_iload_n hE dX11_compare_115 (i := 1) rfl rfl ?_
          refine rx_bipush hE dX11_compare_116 (v := 60) (by decide) ?_
          refine rx_icmp_ne (tgt := 133) hE dX11_compare_118 (by decide) (fun c118 => ?_) (fun c118 => absurd c118 (by decide))
          refine rx_iload_n hE dX11_compare_133 (i := 1) rfl rfl ?_
          refine rx_bipush hE dX11_compare_134 (v := 61) (by decide) ?_
          refine rx_icmp_ne (tgt := 143) hE dX11_compare_136 (by decide) (fun c136 => absurd rfl c136) (fun c136 => ?_)
          refine rx_iconst hE dX11_compare_139 (v := 2) (by decide) ?_
          refine rx_goto (tgt := 152) hE dX11_compare_140 (by decide) ?_
          exact k152 2 S5 _ _ _ _ hcv hc60 (f1.trans ((kfr.f t _ (by omega) _).trans f5)) (by rw [hte]; exact q5)
      · have h61 : ¬ sgn T N (sk T N q1) 61 := fun z => c28 ((see_is hb (k := 61) (by decide)).mpr z)
        refine rx_iload_n hE dX11_compare_31 (i := 1) rfl rfl ?_
        refine rx_bipush hE dX11_compare_32 (v := 62) (by decide) ?_
        refine rx_icmp_eq (tgt := 44) hE dX11_compare_34 (by decide) (fun c34 => ?_) (fun c34 => ?_)
        · have h62 : sgn T N (sk T N q1) 62 := (see_is hb (k := 62) (by decide)).mp c34
          rw [c34]
          refine rx_aload_n hE dX11_compare_44 (i := 0) rfl rfl ?_
          refine rx_dup hE dX11_compare_45 rfl ?_
          refine rx_getf hE dX11_compare_46 fl_X11_102_10 (kp_o hM) rfl ?_
          refine rx_int _ (nI (sk T N q1)) rfl ?_
          refine rx_iconst hE dX11_compare_49 (v := 1) (by decide) ?_
          refine rx_iadd hE dX11_compare_50 ?_
          refine rx_int _ (nI ((sk T N q1) + 1)) (nI_1 _) ?_
          refine rx_put hE dX11_compare_51 fl_X11_102_10 fw_10_8 (kp_o hM) (fun _ => rfl) (fun _ => rfl) (Nat.le_of_ble_eq_true rfl) ?_
          refine rx_mem (M' := kp M (k_f S1 8 (nI (sk T N q1 + 1))) L) (kw_c8.trans (by rw [k_ff2])) ?_
          refine rx_iload_n hE dX11_compare_54 (i := 1) rfl rfl ?_
          refine rx_bipush hE dX11_compare_55 (v := 61) (by decide) ?_
          refine rx_icmp_eq (tgt := 89) hE dX11_compare_57 (by decide) (fun c57 => absurd c57 (by decide)) (fun c57 => ?_)
          refine rx_aload_n hE dX11_compare_60 (i := 0) rfl rfl ?_
          refine rx_getf hE dX11_compare_61 fl_X11_102_10 (kp_o hM) rfl ?_
          refine rx_int _ (nI ((sk T N q1) + 1)) rfl ?_
          refine rx_aload_n hE dX11_compare_64 (i := 0) rfl rfl ?_
          refine rx_getf hE dX11_compare_65 fl_X11_92_10 (kp_o hM) rfl ?_
          refine rx_int _ (nI N) ((kf_ne _ (by decide)).trans q1k.1.1) ?_
          refine rx_icmp_ge (tgt := 89) hE dX11_compare_68 (by decide) (fun c68 => ?_) (fun c68 => ?_)
          · have hin : ¬ (sk T N q1) + 1 < N := fun z => absurd c68 (nI_ge (a := (sk T N q1) + 1) (b := N) z (by omega))
            refine rx_iconst hE dX11_compare_89 (v := 0) (by decide) ?_
            refine rx_istore_n_3 hE dX11_compare_90 (by decide) rfl ?_
            refine rx_iload_n hE dX11_compare_91 (i := 3) rfl rfl ?_
            refine rx_if_eq (tgt := 105) hE dX11_compare_92 (by decide) (fun c92 => ?_) (fun c92 => absurd rfl c92)
            refine rx_aload_n hE dX11_compare_105 (i := 0) rfl rfl ?_
            refine rx_iload_n hE dX11_compare_106 (i := 2) rfl rfl ?_
            have hsg : ¬ sgn T N (sk T N q1 + 1) 61 := fun z => hin z.1
            have hcv : cmO T N (sk T N q1) = 6 + 4 := by
              unfold cmO
              rw [if_neg h60, if_neg h61, if_pos h62, if_neg hsg]
            have hcm : ¬ cmO T N (sk T N q1) = 0 := by omega
            have hte : te T N (sk T N q1) = (sk T N q1) + 1 := by
              rw [(cm_te (k := 62) (Or.inr rfl) h62).2.1, if_neg hsg]
            have hteN := (te_le (T := T) (N := N) (p := (sk T N q1)) (by omega)).2.1
            have q4 := q1k.mv (q' := (sk T N q1) + 1) (by omega)
            refine rx_call0 (rx_callV (av := [.int (nI (sk T N q1))]) hE dX11_compare_107 lk_X11_182 (c_X11_makesQ (S := (k_f S1 8 (nI (sk T N q1 + 1)))) hM q4 (sk T N q1)) (kp_o hM) np_X11_makes rfl rfl (by decide) (Nat.le_of_ble_eq_true rfl) rfl ?_)
            rintro v M' ⟨S5, rfl, f5, hv⟩
            rcases hv with ⟨hc60, rfl, e9⟩ | ⟨hc60, rfl, _, q5⟩
            · skip
              refine rx_if_ne (tgt := 115) hE dX11_compare_110 (by decide) (fun c110 => absurd rfl c110) (fun c110 => ?_)
              refine rx_iconst hE dX11_compare_113 (v := 0) (by decide) ?_
              exact rx_tret hE hQ rfl rfl dX11_compare_114 ⟨S5, rfl, f1.trans ((kfr.f t _ (by omega) _).trans f5), Or.inl ⟨rfl, fE (sk T N q1) 3, (by
                  rcases h with ⟨h1, _⟩ | ⟨_, _, h1⟩ | ⟨_, h1, _⟩
                  · exact absurd h1 hcm
                  · exact h1
                  · omega), e9⟩⟩
            · skip
              refine rx_if_ne (tgt := 115) hE dX11_compare_110 (by decide) (fun c110 => ?_) (fun c110 => absurd c110 (by decide))
              refine rx_iload_n hE dX11_compare_115 (i := 1) rfl rfl ?_
              refine rx_bipush hE dX11_compare_116 (v := 60) (by decide) ?_
              refine rx_icmp_ne (tgt := 133) hE dX11_compare_118 (by decide) (fun c118 => ?_) (fun c118 => absurd c118 (by decide))
              refine rx_iload_n hE dX11_compare_133 (i := 1) rfl rfl ?_
              refine rx_bipush hE dX11_compare_134 (v := 61) (by decide) ?_
              refine rx_icmp_ne (tgt := 143) hE dX11_compare_136 (by decide) (fun c136 => ?_) (fun c136 => absurd c136 (by decide))
              refine rx_iload_n hE dX11_compare_143 (i := 3) rfl rfl ?_
              refine rx_if_eq (tgt := 151) hE dX11_compare_144 (by decide) (fun c144 => ?_) (fun c144 => absurd rfl c144)
              refine rx_iconst hE dX11_compare_151 (v := 4) (by decide) ?_
              exact k152 4 S5 _ _ _ _ hcv hc60 (f1.trans ((kfr.f t _ (by omega) _).trans f5)) (by rw [hte]; exact q5)
          · have hin : (sk T N q1) + 1 < N := Classical.byContradiction (fun z => c68 (nI_le (a := N) (b := (sk T N q1) + 1) (by omega) (by omega)))
            refine rx_aload_n hE dX11_compare_71 (i := 0) rfl rfl ?_
            refine rx_getf hE dX11_compare_72 fl_X11_7_10 (kp_o hM) rfl ?_
            refine rx_aload_n hE dX11_compare_75 (i := 0) rfl rfl ?_
            refine rx_getf hE dX11_compare_76 fl_X11_102_10 (kp_o hM) rfl ?_
            refine rx_int _ (nI ((sk T N q1) + 1)) rfl ?_
            refine rx_baldN (i := (sk T N q1) + 1) hE dX11_compare_79 (kp_1 hM) (by omega) (by decide) ?_
            refine rx_int _ (T ((sk T N q1) + 1)) (congrFun q1k.1.2 _) ?_
            refine rx_bipush hE dX11_compare_80 (v := 61) (by decide) ?_
            refine rx_icmp_ne (tgt := 89) hE dX11_compare_82 (by decide) (fun c82 => ?_) (fun c82 => ?_)
            · refine rx_iconst hE dX11_compare_89 (v := 0) (by decide) ?_
              refine rx_istore_n_3 hE dX11_compare_90 (by decide) rfl ?_
              refine rx_iload_n hE dX11_compare_91 (i := 3) rfl rfl ?_
              refine rx_if_eq (tgt := 105) hE dX11_compare_92 (by decide) (fun c92 => ?_) (fun c92 => absurd rfl c92)
              refine rx_aload_n hE dX11_compare_105 (i := 0) rfl rfl ?_
              refine rx_iload_n hE dX11_compare_106 (i := 2) rfl rfl ?_
              have hsg : ¬ sgn T N (sk T N q1 + 1) 61 := fun z => c82 z.2
              have hcv : cmO T N (sk T N q1) = 6 + 4 := by
                unfold cmO
                rw [if_neg h60, if_neg h61, if_pos h62, if_neg hsg]
              have hcm : ¬ cmO T N (sk T N q1) = 0 := by omega
              have hte : te T N (sk T N q1) = (sk T N q1) + 1 := by
                rw [(cm_te (k := 62) (Or.inr rfl) h62).2.1, if_neg hsg]
              have hteN := (te_le (T := T) (N := N) (p := (sk T N q1)) (by omega)).2.1
              have q4 := q1k.mv (q' := (sk T N q1) + 1) (by omega)
              refine rx_call0 (rx_callV (av := [.int (nI (sk T N q1))]) hE dX11_compare_107 lk_X11_182 (c_X11_makesQ (S := (k_f S1 8 (nI (sk T N q1 + 1)))) hM q4 (sk T N q1)) (kp_o hM) np_X11_makes rfl rfl (by decide) (Nat.le_of_ble_eq_true rfl) rfl ?_)
              rintro v M' ⟨S5, rfl, f5, hv⟩
              rcases hv with ⟨hc60, rfl, e9⟩ | ⟨hc60, rfl, _, q5⟩
              · skip
                refine rx_if_ne (tgt := 115) hE dX11_compare_110 (by decide) (fun c110 => absurd rfl c110) (fun c110 => ?_)
                refine rx_iconst hE dX11_compare_113 (v := 0) (by decide) ?_
                exact rx_tret hE hQ rfl rfl dX11_compare_114 ⟨S5, rfl, f1.trans ((kfr.f t _ (by omega) _).trans f5), Or.inl ⟨rfl, fE (sk T N q1) 3, (by
                    rcases h with ⟨h1, _⟩ | ⟨_, _, h1⟩ | ⟨_, h1, _⟩
                    · exact absurd h1 hcm
                    · exact h1
                    · omega), e9⟩⟩
              · skip
                refine rx_if_ne (tgt := 115) hE dX11_compare_110 (by decide) (fun c110 => ?_) (fun c110 => absurd c110 (by decide))
                refine rx_iload_n hE dX11_compare_115 (i := 1) rfl rfl ?_
                refine rx_bipush hE dX11_compare_116 (v := 60) (by decide) ?_
                refine rx_icmp_ne (tgt := 133) hE dX11_compare_118 (by decide) (fun c118 => ?_) (fun c118 => absurd c118 (by decide))
                refine rx_iload_n hE dX11_compare_133 (i := 1) rfl rfl ?_
                refine rx_bipush hE dX11_compare_134 (v := 61) (by decide) ?_
                refine rx_icmp_ne (tgt := 143) hE dX11_compare_136 (by decide) (fun c136 => ?_) (fun c136 => absurd c136 (by decide))
                refine rx_iload_n hE dX11_compare_143 (i := 3) rfl rfl ?_
                refine rx_if_eq (tgt := 151) hE dX11_compare_144 (by decide) (fun c144 => ?_) (fun c144 => absurd rfl c144)
                refine rx_iconst hE dX11_compare_151 (v := 4) (by decide) ?_
                exact k152 4 S5 _ _ _ _ hcv hc60 (f1.trans ((kfr.f t _ (by omega) _).trans f5)) (by rw [hte]; exact q5)
            · refine rx_iconst hE dX11_compare_85 (v := 1) (by decide) ?_
              refine rx_goto (tgt := 90) hE dX11_compare_86 (by decide) ?_
              refine rx_istore_n_3 hE dX11_compare_90 (by decide) rfl ?_
              refine rx_iload_n hE dX11_compare_91 (i := 3) rfl rfl ?_
              refine rx_if_eq (tgt := 105) hE dX11_compare_92 (by decide) (fun c92 => absurd c92 (by decide)) (fun c92 => ?_)
              refine rx_aload_n hE dX11_compare_95 (i := 0) rfl rfl ?_
              refine rx_dup hE dX11_compare_96 rfl ?_
              refine rx_getf hE dX11_compare_97 fl_X11_102_10 (kp_o hM) rfl ?_
              refine rx_int _ (nI ((sk T N q1) + 1)) rfl ?_
              refine rx_iconst hE dX11_compare_100 (v := 1) (by decide) ?_
              refine rx_iadd hE dX11_compare_101 ?_
              refine rx_int _ (nI ((sk T N q1) + 2)) (nI_1 _) ?_
              refine rx_put hE dX11_compare_102 fl_X11_102_10 fw_10_8 (kp_o hM) (fun _ => rfl) (fun _ => rfl) (Nat.le_of_ble_eq_true rfl) ?_
              refine rx_mem (M' := kp M (k_f S1 8 (nI (sk T N q1 + 2))) L) (kw_c8.trans (by rw [k_ff2])) ?_
              refine rx_aload_n hE dX11_compare_105 (i := 0) rfl rfl ?_
              refine rx_iload_n hE dX11_compare_106 (i := 2) rfl rfl ?_
              have hsg : sgn T N (sk T N q1 + 1) 61 := ⟨hin, c82⟩
              have hcv : cmO T N (sk T N q1) = 6 + 3 := by
                unfold cmO
                rw [if_neg h60, if_neg h61, if_pos h62, if_pos hsg]
              have hcm : ¬ cmO T N (sk T N q1) = 0 := by omega
              have hte : te T N (sk T N q1) = (sk T N q1) + 2 := by
                rw [(cm_te (k := 62) (Or.inr rfl) h62).2.1, if_pos hsg]
              have hteN := (te_le (T := T) (N := N) (p := (sk T N q1)) (by omega)).2.1
              have q4 := q1k.mv (q' := (sk T N q1) + 2) (by omega)
              refine rx_call0 (rx_callV (av := [.int (nI (sk T N q1))]) hE dX11_compare_107 lk_X11_182 (c_X11_makesQ (S := (k_f S1 8 (nI (sk T N q1 + 2)))) hM q4 (sk T N q1)) (kp_o hM) np_X11_makes rfl rfl (by decide) (Nat.le_of_ble_eq_true rfl) rfl ?_)
              rintro v M' ⟨S5, rfl, f5, hv⟩
              rcases hv with ⟨hc60, rfl, e9⟩ | ⟨hc60, rfl, _, q5⟩
              · skip
                refine rx_if_ne (tgt := 115) hE dX11_compare_110 (by decide) (fun c110 => absurd rfl c110) (fun c110 => ?_)
                refine rx_iconst hE dX11_compare_113 (v := 0) (by decide) ?_
                exact rx_tret hE hQ rfl rfl dX11_compare_114 ⟨S5, rfl, f1.trans ((kfr.f t _ (by omega) _).trans f5), Or.inl ⟨rfl, fE (sk T N q1) 3, (by
                    rcases h with ⟨h1, _⟩ | ⟨_, _, h1⟩ | ⟨_, h1, _⟩
                    · exact absurd h1 hcm
                    · exact h1
                    · omega), e9⟩⟩
              · skip
                refine rx_if_ne (tgt := 115) hE dX11_compare_110 (by decide) (fun c110 => ?_) (fun c110 => absurd c110 (by decide))
                refine rx_iload_n hE dX11_compare_115 (i := 1) rfl rfl ?_
                refine rx_bipush hE dX11_compare_116 (v := 60) (by decide) ?_
                refine rx_icmp_ne (tgt := 133) hE dX11_compare_118 (by decide) (fun c118 => ?_) (fun c118 => absurd c118 (by decide))
                refine rx_iload_n hE dX11_compare_133 (i := 1) rfl rfl ?_
                refine rx_bipush hE dX11_compare_134 (v := 61) (by decide) ?_
                refine rx_icmp_ne (tgt := 143) hE dX11_compare_136 (by decide) (fun c136 => ?_) (fun c136 => absurd c136 (by decide))
                refine rx_iload_n hE dX11_compare_143 (i := 3) rfl rfl ?_
                refine rx_if_eq (tgt := 151) hE dX11_compare_144 (by decide) (fun c144 => absurd c144 (by decide)) (fun c144 => ?_)
                refine rx_iconst hE dX11_compare_147 (v := 3) (by decide) ?_
                refine rx_goto (tgt := 152) hE dX11_compare_148 (by decide) ?_
                exact k152 3 S5 _ _ _ _ hcv hc60 (f1.trans ((kfr.f t _ (by omega) _).trans f5)) (by rw [hte]; exact q5)
        · have h62 : ¬ sgn T N (sk T N q1) 62 := fun z => c34 ((see_is hb (k := 62) (by decide)).mpr z)
          have hcm0 : cmO T N (sk T N q1) = 0 := by
            unfold cmO
            rw [if_neg h60, if_neg h61, if_neg h62]
          refine rx_aload_n hE dX11_compare_37 (i := 0) rfl rfl ?_
          refine rx_iconst hE dX11_compare_38 (v := 0) (by decide) ?_
          refine rx_iload_n hE dX11_compare_39 (i := 2) rfl rfl ?_
          refine rx_call0 (rx_callV (av := [.int (nI 0), .int (nI (sk T N q1))]) hE dX11_compare_40 lk_X11_123 (c_X11_failsQ (t := t) hM q2.2.2.2.1 (sk T N q1) 0) (kp_o hM) np_X11_fails rfl rfl (by decide) (Nat.le_of_ble_eq_true rfl) rfl ?_)
          rintro v M' ⟨rfl, S3, rfl, f3, e9⟩
          exact rx_tret hE hQ rfl rfl dX11_compare_43 ⟨S3, rfl, f1.trans ((kfr.f t _ (by omega) _).trans f3), Or.inl ⟨rfl, _, (by
            rcases h with ⟨_, h1⟩ | ⟨h1, _⟩ | ⟨h1, _⟩
            · exact h1
            · exact absurd hcm0 h1
            · exact absurd hcm0 h1), e9⟩⟩
