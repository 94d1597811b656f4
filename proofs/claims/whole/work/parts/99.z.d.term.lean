/-! ===== term, sum ===== -/
def cnO (T : Nat → Int32) (N m a : Nat) (r : gRs) (p1 : Nat) (l1 : gSg) (c1 : Nat) : Prop := (¬ tmO T N p1 = 0 ∧ smR T N m a (tmO T N p1) (nx T N p1) l1 c1 r) ∨ (tmO T N p1 = 0 ∧ ¬ adO T N p1 = 0 ∧ smR T N m (adO T N p1) 0 (nx T N p1) (l1 ++ opt a) c1 r) ∨ (tmO T N p1 = 0 ∧ adO T N p1 = 0 ∧ r = .ok (p1, l1 ++ opt a, c1))
def dnO (T : Nat → Int32) (N B : Nat) (r : gRs) (p1 : Nat) (l1 : gSg) (c1 : Nat) : Prop := tmO T N p1 = 0 ∧ ((¬ adO T N p1 = 0 ∧ ∃ m, m < B ∧ smR T N m (adO T N p1) 0 (nx T N p1) l1 c1 r) ∨ (adO T N p1 = 0 ∧ r = .ok (p1, l1, c1)))
section SMQ
variable {T : Nat → Int32} {N : Nat}
theorem smR_E {m a t p c w : Nat} {l : gSg} {r : gRs} (h : smR T N m a t p l c r) (hw : pvE T N p c w) : r = .error (fE p (nI w)) := by
  cases m with
  | zero => exact absurd h id
  | succ m =>
    rcases h with ⟨w', h1, h⟩ | ⟨x, h1, _⟩
    · rw [h, pvE_det hw h1]
    · exact absurd hw (fun z => pvOE h1 z)
theorem smR_O {m a t p c : Nat} {l : gSg} {r : gRs} {x : Nat × Nat} (h : smR T N m a t p l c r) (hx : pvO T N p c x) : ∃ m', m = m' + 1 ∧ cnO T N m' a r (nx T N p) (l ++ x :: opt t) (c + 1) := by
  cases m with
  | zero => exact absurd h id
  | succ m =>
    rcases h with ⟨w', h1, h⟩ | ⟨x', h1, h⟩
    · exact absurd h1 (fun z => pvOE hx z)
    · obtain rfl := pvO_det hx h1
      exact ⟨m, rfl, h⟩
theorem c_X11_seeZ {M : gM} {S : gS} {L : gLg} {t p c : Nat} {l : gSg} (hM : 408 ≤ M.1) (hN : N ≤ 400) (hq : kq1 S T N t p c l) (hz : sk T N p = p) : SX 0 0 0 mX11_see [.ref 384] (kp M S L) (fun v M' => v = some (.int (if p < N then T p &&& 255 else -1)) ∧ M' = kp M S L) := by
  have h := c_X11_seeQ (M := M) (L := L) hM hN hq
  rw [hz, ← hq.2.2.1, k_f_id2] at h
  exact h
theorem tmO_42 {p : Nat} (h : sgn T N p 42) : tmO T N p = 4 := if_pos h
theorem tmO_47 {p : Nat} (h : sgn T N p 47) : tmO T N p = 5 := by
  unfold tmO
  rw [if_neg (fun z => absurd (z.2.symm.trans h.2) (by decide)), if_pos h]
theorem tmO_37 {p : Nat} (h : sgn T N p 37) : tmO T N p = 14 := by
  unfold tmO
  rw [if_neg (fun z => absurd (z.2.symm.trans h.2) (by decide)), if_neg (fun z => absurd (z.2.symm.trans h.2) (by decide)), if_pos h]
theorem tmO_no {p : Nat} (h1 : ¬ sgn T N p 42) (h2 : ¬ sgn T N p 47) (h3 : ¬ sgn T N p 37) : tmO T N p = 0 := by
  unfold tmO
  rw [if_neg h1, if_neg h2, if_neg h3]
theorem adO_43 {p : Nat} (h : sgn T N p 43) : adO T N p = 2 := if_pos h
theorem adO_45 {p : Nat} (h : sgn T N p 45) : adO T N p = 3 := by
  unfold adO
  rw [if_neg (fun z => absurd (z.2.symm.trans h.2) (by decide)), if_pos h]
theorem adO_no {p : Nat} (h1 : ¬ sgn T N p 43) (h2 : ¬ sgn T N p 45) : adO T N p = 0 := by
  unfold adO
  rw [if_neg h1, if_neg h2]
theorem nx_sg {p k : Nat} (hk : k ∈ sgs) (h : sgn T N p (nI k)) : sk T N (p + 1) = nx T N p := by
  unfold nx
  rw [sg_te hk h]
end SMQ
set_option maxRecDepth 100000 in
set_option maxHeartbeats 1000000 in
theorem c_X11_term {M : gM} {S : gS} {L : gLg} (hM : 408 ≤ M.1) {T : Nat → Int32} {N t q c : Nat} {l0 l : gSg} (hN : N ≤ 400) (hb : ∀ i, tb8 (T i)) (ht : t < 6) (hq : kq1 S T N t q c (l0 ++ l)) {m a : Nat} {r : gRs} (hsm : smR T N m a 0 (sk T N q) l c r) (hl : l0.length + l.length + (opt a).length + 3 ≤ sk T N q) : SX 4 0 0 mX11_term [.ref 384] (kp M S L) (fun v M' => ∃ S', M' = kp M S' L ∧ kfr t S S' ∧ ((v = some (.int 0) ∧ ∃ g, r = .error g ∧ S' 0 9 = g) ∨ (v = some (.int 1) ∧ ∃ q1 l1 c1, kq1 S' T N t q1 c1 (l0 ++ l1) ∧ dnO T N m r (sk T N q1) (l1 ++ opt a) c1 ∧ l0.length + l1.length + (opt a).length + 3 ≤ sk T N q1))) := by
  refine SX.intro [some (.ref 384), none] (by decide +kernel) (Nat.le_of_ble_eq_true rfl) rfl (fun E hE hQ => ?_)
  have hqN0 := (sk_le (T := T) hq.2.1).2
  have hoa := opt_le a
  have stp : ∀ (m1 : Nat), (∀ (m2 q1 c1 : Nat) (l1 : gSg) (S1 : gS) (lx : Option Value), m1 = m2 + 1 → kfr t S S1 → kq1 S1 T N t q1 c1 (l0 ++ l1) → cnO T N m2 a r (sk T N q1) l1 c1 → l0.length + l1.length + (opt a).length + 3 ≤ (sk T N q1) → RX E mX11_term.2.2.1 0 0 9 [some (.ref 384), lx] [] (kp M S1 L)) → ∀ (q1 c1 : Nat) (l1 : gSg) (S1 : gS) (lx : Option Value), m1 < m → kfr t S S1 → kq1 S1 T N t q1 c1 (l0 ++ l1) → cnO T N m1 a r (sk T N q1) l1 c1 → l0.length + l1.length + (opt a).length + 3 ≤ (sk T N q1) → RX E mX11_term.2.2.1 0 0 9 [some (.ref 384), lx] [] (kp M S1 L) := by
    intro m1 ih0 q1 c1 l1 S1 lx hmm fx q1k hcn hln
    have hq1N := (sk_le (T := T) q1k.2.1).2
    refine rx_aload_n hE dX11_term_9 (i := 0) rfl rfl ?_
    refine rx_call0 (rx_callV (av := []) hE dX11_term_10 lk_X11_105 (c_X11_seeQ hM hN q1k) (kp_o hM) np_X11_see rfl rfl (by decide) (Nat.le_of_ble_eq_true rfl) rfl ?_)
    rintro v M' ⟨rfl, rfl⟩
    have q2 := q1k.mv (sk_le (T := T) q1k.2.1).2
    have q1h := q1k.2.1
    have k74 : ∀ (s : Nat) (lx : Option Value), tmO T N (sk T N q1) = s → ¬ s = 0 → RX E mX11_term.2.2.1 0 0 74 [some (.ref 384), lx] [.int (nI s)] (kp M (k_f S1 8 (nI (sk T N q1))) L) := by
      intro s lx hs hs0
      have hsm : smR T N m1 a s (nx T N (sk T N q1)) l1 c1 r := by
        rcases hcn with ⟨_, h⟩ | ⟨h, _⟩ | ⟨h, _⟩
        · rw [hs] at h; exact h
        · exact absurd (hs.symm.trans h) hs0
        · exact absurd (hs.symm.trans h) hs0
      have hlt := tmO_lt (T := T) (N := N) (p := (sk T N q1)) (by rw [hs]; exact hs0)
      have hnx := nx_lt (T := T) hlt.1
      have hsk : sk T N ((sk T N q1) + 1) = nx T N (sk T N q1) := by
        unfold nx
        rw [hlt.2]
      have q3 := q2.mv (q' := (sk T N q1) + 1) (by omega)
      have hopt : opt s = [(s, 0)] := if_neg hs0
      have hnN := (nx_le (T := T) (N := N) (p := (sk T N q1)) (by omega)).2
      refine rx_istore_n_1 hE dX11_term_74 (by decide) rfl ?_
      refine rx_aload_n hE dX11_term_75 (i := 0) rfl rfl ?_
      refine rx_dup hE dX11_term_76 rfl ?_
      refine rx_getf hE dX11_term_77 fl_X11_102_10 (kp_o hM) rfl ?_
      refine rx_int _ (nI (sk T N q1)) rfl ?_
      refine rx_iconst hE dX11_term_80 (v := 1) (by decide) ?_
      refine rx_iadd hE dX11_term_81 ?_
      refine rx_int _ (nI ((sk T N q1) + 1)) (nI_1 _) ?_
      refine rx_put hE dX11_term_82 fl_X11_102_10 fw_10_8 (kp_o hM) (fun _ => rfl) (fun _ => rfl) (Nat.le_of_ble_eq_true rfl) ?_
      refine rx_mem (M' := kp M (k_f (k_f S1 8 (nI (sk T N q1))) 8 (nI ((sk T N q1) + 1))) L) kw_c8 ?_
      refine rx_aload_n hE dX11_term_85 (i := 0) rfl rfl ?_
      refine rx_call0 (rx_callV (av := []) hE dX11_term_86 lk_X11_188 (c_X11_value (S := (k_f (k_f S1 8 (nI (sk T N q1))) 8 (nI ((sk T N q1) + 1)))) hM hN hb ht q3 (by simp only [List.length_append]; omega)) (kp_o hM) np_X11_value rfl rfl (by decide) (Nat.le_of_ble_eq_true rfl) rfl ?_)
      rintro v M' ⟨S4, rfl, f4, hv⟩
      rw [hsk] at hv
      rcases hv with ⟨wv, hv, rfl, e9⟩ | ⟨x, hv, rfl, q4⟩
      · skip
        refine rx_if_ne (tgt := 94) hE dX11_term_89 (by decide) (fun c89 => absurd rfl c89) (fun c89 => ?_)
        refine rx_iconst hE dX11_term_92 (v := 0) (by decide) ?_
        exact rx_tret hE hQ rfl rfl dX11_term_93 ⟨S4, rfl, fx.trans ((kfr.f t _ (by omega) _).trans ((kfr.f t _ (by omega) _).trans f4)), Or.inl ⟨rfl, _, smR_E hsm hv, e9⟩⟩
      · obtain ⟨m2, rfl, hcn2⟩ := smR_O hsm hv
        have hx1 := pvO_lt (nx_le (T := T) (p := sk T N q1) (by omega)).2 hv
        have hx2 := nx_lt (T := T) hx1
        refine rx_if_ne (tgt := 94) hE dX11_term_89 (by decide) (fun c89 => ?_) (fun c89 => absurd c89 (by decide))
        refine rx_aload_n hE dX11_term_94 (i := 0) rfl rfl ?_
        refine rx_iload_n hE dX11_term_95 (i := 1) rfl rfl ?_
        refine rx_iconst hE dX11_term_96 (v := 0) (by decide) ?_
        refine rx_call0 (rx_callV (av := [.int (nI s), .int (nI 0)]) hE dX11_term_97 lk_X11_174 (c_X11_putsQ (S := S4) hM ht q4 (by simp only [List.length_append, List.length_cons, List.length_nil]; omega) s 0) (kp_o hM) np_X11_puts rfl rfl (by decide) (Nat.le_of_ble_eq_true rfl) rfl ?_)
        rintro v M' ⟨rfl, S5, rfl, f5, q5⟩
        refine rx_goto (tgt := 9) hE dX11_term_100 (by decide) ?_
        exact ih0 m2 _ _ _ _ _ rfl (fx.trans (((kfr.f t _ (by omega) _).trans ((kfr.f t _ (by omega) _).trans f4)).trans f5)) (by rw [List.append_assoc, List.append_assoc] at q5; exact q5) (by rw [hopt] at hcn2; exact hcn2) (by simp only [List.length_append, List.length_cons, List.length_nil]; rw [show sk T N (te T N (nx T N (sk T N q1))) = nx T N (nx T N (sk T N q1)) from rfl]; omega)
    refine rx_bipush hE dX11_term_13 (v := 42) (by decide) ?_
    refine rx_icmp_eq (tgt := 36) hE dX11_term_15 (by decide) (fun c15 => ?_) (fun c15 => ?_)
    · have h42 : sgn T N (sk T N q1) 42 := (see_is hb (k := 42) (by decide)).mp c15
      refine rx_aload_n hE dX11_term_36 (i := 0) rfl rfl ?_
      refine rx_getf hE dX11_term_37 fl_X11_7_10 (kp_o hM) rfl ?_
      refine rx_aload_n hE dX11_term_40 (i := 0) rfl rfl ?_
      refine rx_getf hE dX11_term_41 fl_X11_102_10 (kp_o hM) rfl ?_
      refine rx_int _ (nI (sk T N q1)) rfl ?_
      refine rx_baldN (i := (sk T N q1)) hE dX11_term_44 (kp_1 hM) (by have := q2.2.1; omega) (by decide) ?_
      refine rx_int _ 42 ((congrFun q2.1.2 _).trans h42.2) ?_
      refine rx_bipush hE dX11_term_45 (v := 42) (by decide) ?_
      refine rx_icmp_ne (tgt := 54) hE dX11_term_47 (by decide) (fun c47 => absurd rfl c47) (fun c47 => ?_)
      refine rx_iconst hE dX11_term_50 (v := 4) (by decide) ?_
      refine rx_goto (tgt := 74) hE dX11_term_51 (by decide) ?_
      exact k74 4 _ (tmO_42 h42) (by decide)
    · have h42 : ¬ sgn T N (sk T N q1) 42 := fun z => c15 ((see_is hb (k := 42) (by decide)).mpr z)
      refine rx_aload_n hE dX11_term_18 (i := 0) rfl rfl ?_
      refine rx_call0 (rx_callV (av := []) hE dX11_term_19 lk_X11_105 (c_X11_seeZ hM hN q2 (sk_sk q1h)) (kp_o hM) np_X11_see rfl rfl (by decide) (Nat.le_of_ble_eq_true rfl) rfl ?_)
      rintro v M' ⟨rfl, rfl⟩
      refine rx_bipush hE dX11_term_22 (v := 47) (by decide) ?_
      refine rx_icmp_eq (tgt := 36) hE dX11_term_24 (by decide) (fun c24 => ?_) (fun c24 => ?_)
      · have h47 : sgn T N (sk T N q1) 47 := (see_is hb (k := 47) (by decide)).mp c24
        refine rx_aload_n hE dX11_term_36 (i := 0) rfl rfl ?_
        refine rx_getf hE dX11_term_37 fl_X11_7_10 (kp_o hM) rfl ?_
        refine rx_aload_n hE dX11_term_40 (i := 0) rfl rfl ?_
        refine rx_getf hE dX11_term_41 fl_X11_102_10 (kp_o hM) rfl ?_
        refine rx_int _ (nI (sk T N q1)) rfl ?_
        refine rx_baldN (i := (sk T N q1)) hE dX11_term_44 (kp_1 hM) (by have := q2.2.1; omega) (by decide) ?_
        refine rx_int _ 47 ((congrFun q2.1.2 _).trans h47.2) ?_
        refine rx_bipush hE dX11_term_45 (v := 42) (by decide) ?_
        refine rx_icmp_ne (tgt := 54) hE dX11_term_47 (by decide) (fun c47 => ?_) (fun c47 => absurd c47 (by decide))
        refine rx_aload_n hE dX11_term_54 (i := 0) rfl rfl ?_
        refine rx_getf hE dX11_term_55 fl_X11_7_10 (kp_o hM) rfl ?_
        refine rx_aload_n hE dX11_term_58 (i := 0) rfl rfl ?_
        refine rx_getf hE dX11_term_59 fl_X11_102_10 (kp_o hM) rfl ?_
        refine rx_int _ (nI (sk T N q1)) rfl ?_
        refine rx_baldN (i := (sk T N q1)) hE dX11_term_62 (kp_1 hM) (by have := q2.2.1; omega) (by decide) ?_
        refine rx_int _ 47 ((congrFun q2.1.2 _).trans h47.2) ?_
        refine rx_bipush hE dX11_term_63 (v := 47) (by decide) ?_
        refine rx_icmp_ne (tgt := 72) hE dX11_term_65 (by decide) (fun c65 => absurd rfl c65) (fun c65 => ?_)
        refine rx_iconst hE dX11_term_68 (v := 5) (by decide) ?_
        refine rx_goto (tgt := 74) hE dX11_term_69 (by decide) ?_
        exact k74 5 _ (tmO_47 h47) (by decide)
      · have h47 : ¬ sgn T N (sk T N q1) 47 := fun z => c24 ((see_is hb (k := 47) (by decide)).mpr z)
        refine rx_aload_n hE dX11_term_27 (i := 0) rfl rfl ?_
        refine rx_call0 (rx_callV (av := []) hE dX11_term_28 lk_X11_105 (c_X11_seeZ hM hN q2 (sk_sk q1h)) (kp_o hM) np_X11_see rfl rfl (by decide) (Nat.le_of_ble_eq_true rfl) rfl ?_)
        rintro v M' ⟨rfl, rfl⟩
        refine rx_bipush hE dX11_term_31 (v := 37) (by decide) ?_
        refine rx_icmp_ne (tgt := 103) hE dX11_term_33 (by decide) (fun c33 => ?_) (fun c33 => ?_)
        · have h37 : ¬ sgn T N (sk T N q1) 37 := fun z => c33 ((see_is hb (k := 37) (by decide)).mpr z)
          refine rx_iconst hE dX11_term_103 (v := 1) (by decide) ?_
          exact rx_tret hE hQ rfl rfl dX11_term_104 ⟨(k_f S1 8 (nI (sk T N q1))), rfl, fx.trans (kfr.f t _ (by omega) _), Or.inr ⟨rfl, (sk T N q1), l1, c1, q2, by
            rw [sk_sk q1h]
            have h0 := tmO_no h42 h47 h37
            refine ⟨h0, ?_⟩
            rcases hcn with ⟨h, _⟩ | ⟨_, h, h'⟩ | ⟨_, h, h'⟩
            · exact absurd h0 h
            · exact Or.inl ⟨h, m1, by omega, h'⟩
            · exact Or.inr ⟨h, h'⟩, by rw [sk_sk q1h]; exact hln⟩⟩
        · have h37 : sgn T N (sk T N q1) 37 := (see_is hb (k := 37) (by decide)).mp c33
          refine rx_aload_n hE dX11_term_36 (i := 0) rfl rfl ?_
          refine rx_getf hE dX11_term_37 fl_X11_7_10 (kp_o hM) rfl ?_
          refine rx_aload_n hE dX11_term_40 (i := 0) rfl rfl ?_
          refine rx_getf hE dX11_term_41 fl_X11_102_10 (kp_o hM) rfl ?_
          refine rx_int _ (nI (sk T N q1)) rfl ?_
          refine rx_baldN (i := (sk T N q1)) hE dX11_term_44 (kp_1 hM) (by have := q2.2.1; omega) (by decide) ?_
          refine rx_int _ 37 ((congrFun q2.1.2 _).trans h37.2) ?_
          refine rx_bipush hE dX11_term_45 (v := 42) (by decide) ?_
          refine rx_icmp_ne (tgt := 54) hE dX11_term_47 (by decide) (fun c47 => ?_) (fun c47 => absurd c47 (by decide))
          refine rx_aload_n hE dX11_term_54 (i := 0) rfl rfl ?_
          refine rx_getf hE dX11_term_55 fl_X11_7_10 (kp_o hM) rfl ?_
          refine rx_aload_n hE dX11_term_58 (i := 0) rfl rfl ?_
          refine rx_getf hE dX11_term_59 fl_X11_102_10 (kp_o hM) rfl ?_
          refine rx_int _ (nI (sk T N q1)) rfl ?_
          refine rx_baldN (i := (sk T N q1)) hE dX11_term_62 (kp_1 hM) (by have := q2.2.1; omega) (by decide) ?_
          refine rx_int _ 37 ((congrFun q2.1.2 _).trans h37.2) ?_
          refine rx_bipush hE dX11_term_63 (v := 47) (by decide) ?_
          refine rx_icmp_ne (tgt := 72) hE dX11_term_65 (by decide) (fun c65 => ?_) (fun c65 => absurd c65 (by decide))
          refine rx_bipush hE dX11_term_72 (v := 14) (by decide) ?_
          exact k74 14 _ (tmO_37 h37) (by decide)
  have l1 : ∀ (m1 q1 c1 : Nat) (l1 : gSg) (S1 : gS) (lx : Option Value), m1 < m → kfr t S S1 → kq1 S1 T N t q1 c1 (l0 ++ l1) → cnO T N m1 a r (sk T N q1) l1 c1 → l0.length + l1.length + (opt a).length + 3 ≤ (sk T N q1) → RX E mX11_term.2.2.1 0 0 9 [some (.ref 384), lx] [] (kp M S1 L) := by
    intro m1
    induction m1 with
    | zero => exact stp 0 (fun m2 _ _ _ _ _ h => absurd h (by omega))
    | succ m1 ih => exact fun q1 c1 l1 S1 lx hm => stp (m1 + 1) (fun m2 q1 c1 l1 S1 lx h a b c d => by
        have e : m2 = m1 := by omega
        subst e
        exact ih q1 c1 l1 S1 lx (by omega) a b c d) q1 c1 l1 S1 lx hm
  refine rx_aload_n hE dX11_term_0 (i := 0) rfl rfl ?_
  refine rx_call0 (rx_callV (av := []) hE dX11_term_1 lk_X11_188 (c_X11_value hM hN hb ht hq (by simp only [List.length_append]; omega)) (kp_o hM) np_X11_value rfl rfl (by decide) (Nat.le_of_ble_eq_true rfl) rfl ?_)
  rintro v M' ⟨S4, rfl, f4, hv⟩
  rcases hv with ⟨wv, hv, rfl, e9⟩ | ⟨x, hv, rfl, q4⟩
  · skip
    refine rx_if_ne (tgt := 9) hE dX11_term_4 (by decide) (fun c4 => absurd rfl c4) (fun c4 => ?_)
    refine rx_iconst hE dX11_term_7 (v := 0) (by decide) ?_
    exact rx_tret hE hQ rfl rfl dX11_term_8 ⟨S4, rfl, f4, Or.inl ⟨rfl, _, smR_E hsm hv, e9⟩⟩
  · obtain ⟨m2, hm2, hcn2⟩ := smR_O hsm hv
    have hx1 := pvO_lt (sk_le (T := T) hq.2.1).2 hv
    have hx2 := nx_lt (T := T) hx1
    refine rx_if_ne (tgt := 9) hE dX11_term_4 (by decide) (fun c4 => ?_) (fun c4 => absurd c4 (by decide))
    exact l1 m2 _ _ (l ++ [x]) _ _ (by omega) f4 (by rw [List.append_assoc] at q4; exact q4) hcn2 (by simp only [List.length_append, List.length_cons, List.length_nil]; rw [show sk T N (te T N (sk T N q)) = nx T N (sk T N q) from rfl]; omega)
