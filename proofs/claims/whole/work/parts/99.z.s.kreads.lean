/-! ===== readsAll of a junction ===== -/
def kfy (S S' : gS) : Prop := (∀ r, r ≠ 0 → r ≠ 3 → r ≠ 6 → S' r = S r) ∧ ∀ i, i ≠ 1 → i ≠ 8 → i ≠ 9 → i ≠ 10 → i ≠ 12 → i ≠ 14 → S' 0 i = S 0 i
theorem kfy.trans {S S' S'' : gS} (h : kfy S S') (h' : kfy S' S'') : kfy S S'' := ⟨fun k a b c => (h'.1 k a b c).trans (h.1 k a b c), fun i a b c d e f => (h'.2 i a b c d e f).trans (h.2 i a b c d e f)⟩
theorem kfk.l {S S' : gS} (h : kfk S S') : kfy S S' := ⟨fun k a _ b => h.1 k a b, fun i _ b c d _ e => h.2 i b c d e⟩
theorem kfy.f (S : gS) {i : Nat} (hi : i = 1 ∨ i = 8 ∨ i = 9 ∨ i = 10 ∨ i = 12 ∨ i = 14) (v : Int32) : kfy S (k_f S i v) := ⟨fun k a _ _ => kf_row v a, fun j a b c d e f => kf_ne v (by omega)⟩
theorem kfy.s3 (S : gS) (v : Nat → Int32) : kfy S (k_s S 3 v) := ⟨fun j _ a _ => if_neg a, fun _ _ _ _ _ _ _ => rfl⟩
def jnO (T : Nat → Int32) (N m : Nat) (r : Except Int32 gJn) (p1 k : Nat) (J : gJn) : Prop := (¬ p1 < N ∧ r = .ok J) ∨ (p1 < N ∧ ¬ sgn T N p1 59 ∧ r = .error (fE p1 0)) ∨ (sgn T N p1 59 ∧ jlR T N m (nx T N p1) k J r)
theorem jms_dec {n w w' : Nat} {J : gJn} (h : w = w') (a : jms n w J) (b : ¬ jms n w' J) : False := b (h ▸ a)
theorem jl_step {T : Nat → Int32} {N m p k : Nat} {J : gJn} {r : Except Int32 gJn} (h : jlR T N m p k J r) : ∃ m', m = m' + 1 ∧ (wjN T N p = -1 → r = .error (fE p 0)) ∧ ∀ w, w < 4 → wjN T N p = nI w → (jms k w J → r = .error (fE p 4)) ∧ (¬ jms k w J → (∀ g, jcF T N w (nx T N p) J = .error g → r = .error g) ∧ ∀ p1 J1, jcF T N w (nx T N p) J = .ok (p1, J1) → jnO T N m' r p1 (k + 1) J1) := by
  cases m with
  | zero => exact absurd h id
  | succ m =>
    rcases h with ⟨a1, h⟩ | ⟨w, a1, a2, h⟩
    · refine ⟨m, rfl, fun _ => h, fun w hw e => ?_⟩
      rw [a1] at e
      exact absurd e.symm (nI_m1 (by omega))
    · refine ⟨m, rfl, fun e => absurd (a2.symm.trans e) (nI_m1 (by omega)), fun w' hw' e => ?_⟩
      have hww : w = w' := nI_inj (by omega) (by omega) (a2.symm.trans e)
      subst hww
      rcases h with ⟨b1, h⟩ | ⟨b1, h⟩
      · exact ⟨fun _ => h, fun z => absurd b1 z⟩
      · refine ⟨fun z => absurd z b1, fun _ => ⟨fun g hg => ?_, fun p1 J1 hJ => ?_⟩⟩
        · rcases h with ⟨g', e1, h⟩ | ⟨p1, J1, e1, _⟩
          · rw [hg] at e1
            injection e1 with e1
            rw [h, e1]
          · rw [hg] at e1
            exact absurd e1 (by simp)
        · rcases h with ⟨g', e1, h⟩ | ⟨p1', J1', e1, h⟩
          · rw [hJ] at e1
            exact absurd e1 (by simp)
          · rw [hJ] at e1
            injection e1 with e1
            injection e1 with z1 z2
            subst z1 z2
            exact h
set_option maxRecDepth 100000 in
set_option maxHeartbeats 1000000 in
theorem c_X11_readsAllJ {M : gM} {S : gS} {L : gLg} (hM : 408 ≤ M.1) {T : Nat → Int32} {N : Nat} (hN : N ≤ 400) (hb : ∀ i, tb8 (T i)) (h1 : S 0 1 = nI N) (hbt : S 1 = T) (h11 : S 0 11 = 6) (hj0 : kjr (S 6) j_zero 0) {m : Nat} {r : Except Int32 gJn} (hrl : jlR T N m (sk T N 0) 0 j_zero r) (hne : ∀ g, r = .error g → ¬ g = 0) : SX 11 0 0 mX11_readsAll [.ref 384] (kp M S L) (fun v M' => ∃ S', M' = kp M S' L ∧ kfy S S' ∧ S' 0 1 = 0 ∧ ((∃ g, r = .error g ∧ v = some (.int 0) ∧ S' 0 9 = g) ∨ ∃ K k, r = .ok K ∧ v = some (.int 1) ∧ kjr (S' 6) K (k + 1) ∧ jv (k + 1) K)) := by
  refine SX.intro [some (.ref 384), none] (by decide +kernel) (Nat.le_of_ble_eq_true rfl) rfl (fun E hE hQ => ?_)
  have k35 : ∀ (S1 : gS) (g : Int32), kfy S S1 → S1 0 9 = g → r = .error g → RX E mX11_readsAll.2.2.1 0 0 35 [some (.ref 384), some (.int 0)] [] (kp M S1 L) := by
    intro S1 g fx h9 hr
    refine rx_iload_n hE dX11_readsAll_35 (i := 1) rfl rfl ?_
    refine rx_if_eq (tgt := 66) hE dX11_readsAll_36 (by decide) (fun c36 => ?_) (fun c36 => absurd rfl c36)
    refine rx_iload_n hE dX11_readsAll_66 (i := 1) rfl rfl ?_
    refine rx_if_eq (tgt := 88) hE dX11_readsAll_67 (by decide) (fun c67 => ?_) (fun c67 => absurd rfl c67)
    refine rx_aload_n hE dX11_readsAll_88 (i := 0) rfl rfl ?_
    refine rx_iconst hE dX11_readsAll_89 (v := 0) (by decide) ?_
    refine rx_put hE dX11_readsAll_90 fl_X11_92_10 fw_10_1 (kp_o hM) (fun _ => rfl) (fun _ => rfl) (Nat.le_of_ble_eq_true rfl) ?_
    refine rx_mem (M' := kp M (k_f S1 1 0) L) kw_c1 ?_
    refine rx_aload_n hE dX11_readsAll_93 (i := 0) rfl rfl ?_
    refine rx_getf hE dX11_readsAll_94 fl_X11_99_10 (kp_o hM) rfl ?_
    refine rx_int _ g ((kf_ne _ (by decide)).trans h9) ?_
    refine rx_if_ne (tgt := 104) hE dX11_readsAll_97 (by decide) (fun c97 => ?_) (fun c97 => absurd c97 (hne g hr))
    refine rx_iconst hE dX11_readsAll_104 (v := 0) (by decide) ?_
    exact rx_tret hE hQ rfl rfl dX11_readsAll_105 ⟨(k_f S1 1 0), rfl, fx.trans (kfy.f S1 (i := 1) (by omega) 0), rfl, Or.inl ⟨g, hr, rfl, (kf_ne _ (by decide)).trans h9⟩⟩
  have stp : ∀ (m1 : Nat), (∀ m2, m1 = m2 + 1 → ∀ (q1 k : Nat) (J : gJn) (S1 : gS), kfy S S1 → kb1 S1 T N q1 → kjr (S1 6) J (k + 1) → S1 0 14 = nI (k + 1) → S1 0 11 = 6 → k + 1 ≤ 40 → jv (k + 1) J → jnO T N m2 r (sk T N q1) (k + 1) J → RX E mX11_readsAll.2.2.1 0 0 35 [some (.ref 384), some (.int 1)] [] (kp M S1 L)) → ∀ (q1 k : Nat) (J : gJn) (S1 : gS), kfy S S1 → kb1 S1 T N q1 → kjr (S1 6) J (k + 1) → S1 0 14 = nI (k + 1) → S1 0 11 = 6 → k + 1 ≤ 40 → jv (k + 1) J → jnO T N m1 r (sk T N q1) (k + 1) J → RX E mX11_readsAll.2.2.1 0 0 35 [some (.ref 384), some (.int 1)] [] (kp M S1 L) := by
    intro m1 ih0 q1 k0 J S1 fx q1k hj h14 h11 hk hjv hkn
    refine rx_iload_n hE dX11_readsAll_35 (i := 1) rfl rfl ?_
    refine rx_if_eq (tgt := 66) hE dX11_readsAll_36 (by decide) (fun c36 => absurd c36 (by decide)) (fun c36 => ?_)
    refine rx_aload_n hE dX11_readsAll_39 (i := 0) rfl rfl ?_
    refine rx_call0 (rx_callV (av := []) hE dX11_readsAll_40 lk_X11_105 (c_X11_seeB hM hN q1k) (kp_o hM) np_X11_see rfl rfl (by decide) (Nat.le_of_ble_eq_true rfl) rfl ?_)
    rintro v M' ⟨rfl, rfl⟩
    have q2 := q1k.mv (sk_le (T := T) q1k.2.1).2
    have hzz := sk_sk (T := T) (N := N) q1k.2.1
    have hp1N := q2.2.1
    refine rx_bipush hE dX11_readsAll_43 (v := 59) (by decide) ?_
    refine rx_icmp_ne (tgt := 66) hE dX11_readsAll_45 (by decide) (fun c45 => ?_) (fun c45 => ?_)
    · have h59 : ¬ sgn T N (sk T N q1) 59 := fun z => c45 ((see_is hb (k := 59) (by decide)).mpr z)
      refine rx_iload_n hE dX11_readsAll_66 (i := 1) rfl rfl ?_
      refine rx_if_eq (tgt := 88) hE dX11_readsAll_67 (by decide) (fun c67 => absurd c67 (by decide)) (fun c67 => ?_)
      refine rx_aload_n hE dX11_readsAll_70 (i := 0) rfl rfl ?_
      refine rx_call0 (rx_callV (av := []) hE dX11_readsAll_71 lk_X11_105 (c_X11_seeBZ hM hN q2 hzz) (kp_o hM) np_X11_see rfl rfl (by decide) (Nat.le_of_ble_eq_true rfl) rfl ?_)
      rintro v M' ⟨rfl, rfl⟩
      refine rx_iconst hE dX11_readsAll_74 (v := -1) (by decide) ?_
      refine rx_icmp_eq (tgt := 88) hE dX11_readsAll_75 (by decide) (fun c75 => ?_) (fun c75 => ?_)
      · have hpl : ¬ (sk T N q1) < N := (see_end hb).mp c75
        refine rx_aload_n hE dX11_readsAll_88 (i := 0) rfl rfl ?_
        refine rx_iconst hE dX11_readsAll_89 (v := 0) (by decide) ?_
        refine rx_put hE dX11_readsAll_90 fl_X11_92_10 fw_10_1 (kp_o hM) (fun _ => rfl) (fun _ => rfl) (Nat.le_of_ble_eq_true rfl) ?_
        refine rx_mem (M' := kp M (k_f (k_f S1 8 (nI (sk T N q1))) 1 0) L) kw_c1 ?_
        refine rx_aload_n hE dX11_readsAll_93 (i := 0) rfl rfl ?_
        refine rx_getf hE dX11_readsAll_94 fl_X11_99_10 (kp_o hM) rfl ?_
        refine rx_int _ 0 ((kf_ne _ (by decide)).trans q2.2.2.2) ?_
        refine rx_if_ne (tgt := 104) hE dX11_readsAll_97 (by decide) (fun c97 => absurd rfl c97) (fun c97 => ?_)
        refine rx_iconst hE dX11_readsAll_100 (v := 1) (by decide) ?_
        refine rx_goto (tgt := 105) hE dX11_readsAll_101 (by decide) ?_
        exact rx_tret hE hQ rfl rfl dX11_readsAll_105 ⟨(k_f (k_f S1 8 (nI (sk T N q1))) 1 0), rfl, (fx.trans (kfy.f _ (i := 8) (by omega) _)).trans (kfy.f _ (i := 1) (by omega) 0), rfl, Or.inr ⟨J, k0, (by
          rcases hkn with ⟨_, h⟩ | ⟨h, _⟩ | ⟨h, _⟩
          · exact h
          · exact absurd h hpl
          · exact absurd h h59), rfl, hj, hjv⟩⟩
      · have hpl : (sk T N q1) < N := Classical.byContradiction (fun z => c75 ((see_end hb).mpr z))
        refine rx_aload_n hE dX11_readsAll_78 (i := 0) rfl rfl ?_
        refine rx_iconst hE dX11_readsAll_79 (v := 0) (by decide) ?_
        refine rx_aload_n hE dX11_readsAll_80 (i := 0) rfl rfl ?_
        refine rx_getf hE dX11_readsAll_81 fl_X11_102_10 (kp_o hM) rfl ?_
        refine rx_int _ (nI (sk T N q1)) q2.2.2.1 ?_
        refine rx_call0 (rx_callV (av := [.int (nI 0), .int (nI (sk T N q1))]) hE dX11_readsAll_84 lk_X11_123 (c_X11_failsB hM q2.2.2.2 (sk T N q1) 0) (kp_o hM) np_X11_fails rfl rfl (by decide) (Nat.le_of_ble_eq_true rfl) rfl ?_)
        rintro v M' ⟨rfl, S3, rfl, f3, e9⟩
        refine rx_pop hE dX11_readsAll_87 rfl ?_
        refine rx_aload_n hE dX11_readsAll_88 (i := 0) rfl rfl ?_
        refine rx_iconst hE dX11_readsAll_89 (v := 0) (by decide) ?_
        refine rx_put hE dX11_readsAll_90 fl_X11_92_10 fw_10_1 (kp_o hM) (fun _ => rfl) (fun _ => rfl) (Nat.le_of_ble_eq_true rfl) ?_
        refine rx_mem (M' := kp M (k_f S3 1 0) L) kw_c1 ?_
        have hrr : r = .error (fE (sk T N q1) 0) := by
          rcases hkn with ⟨h, _⟩ | ⟨_, _, h⟩ | ⟨h, _⟩
          · exact absurd hpl h
          · exact h
          · exact absurd h h59
        refine rx_aload_n hE dX11_readsAll_93 (i := 0) rfl rfl ?_
        refine rx_getf hE dX11_readsAll_94 fl_X11_99_10 (kp_o hM) rfl ?_
        refine rx_int _ (fE (sk T N q1) 0) ((kf_ne _ (by decide)).trans e9) ?_
        refine rx_if_ne (tgt := 104) hE dX11_readsAll_97 (by decide) (fun c97 => ?_) (fun c97 => absurd c97 (hne _ hrr))
        refine rx_iconst hE dX11_readsAll_104 (v := 0) (by decide) ?_
        exact rx_tret hE hQ rfl rfl dX11_readsAll_105 ⟨(k_f S3 1 0), rfl, (fx.trans ((kfy.f _ (i := 8) (by omega) _).trans f3.k.l)).trans (kfy.f _ (i := 1) (by omega) 0), rfl, Or.inl ⟨_, hrr, rfl, (kf_ne _ (by decide)).trans e9⟩⟩
    · have h59 : sgn T N (sk T N q1) 59 := (see_is hb (k := 59) (by decide)).mp c45
      have hsk := nx_sg (k := 59) (by decide) h59
      have hnx := nx_lt (T := T) h59.1
      obtain ⟨m2, hm2, st1, st2⟩ := jl_step (by
        rcases hkn with ⟨h, _⟩ | ⟨_, h, _⟩ | ⟨_, h⟩
        · exact absurd h59.1 h
        · exact absurd h59 h
        · exact h)
      subst hm2
      rw [← hsk] at st1 st2
      refine rx_aload_n hE dX11_readsAll_48 (i := 0) rfl rfl ?_
      refine rx_dup hE dX11_readsAll_49 rfl ?_
      refine rx_getf hE dX11_readsAll_50 fl_X11_102_10 (kp_o hM) rfl ?_
      refine rx_int _ (nI (sk T N q1)) rfl ?_
      refine rx_iconst hE dX11_readsAll_53 (v := 1) (by decide) ?_
      refine rx_iadd hE dX11_readsAll_54 ?_
      refine rx_int _ (nI ((sk T N q1) + 1)) (nI_1 _) ?_
      refine rx_put hE dX11_readsAll_55 fl_X11_102_10 fw_10_8 (kp_o hM) (fun _ => rfl) (fun _ => rfl) (Nat.le_of_ble_eq_true rfl) ?_
      refine rx_mem (M' := kp M (k_f (k_f S1 8 (nI (sk T N q1))) 8 (nI ((sk T N q1) + 1))) L) kw_c8 ?_
      refine rx_aload_n hE dX11_readsAll_58 (i := 0) rfl rfl ?_
      refine rx_call0 (rx_callV (av := []) hE dX11_readsAll_59 lk_X11_264 (c_X11_clauseHereJ (S := (k_f (k_f S1 8 (nI (sk T N q1))) 8 (nI ((sk T N q1) + 1)))) (k := k0 + 1) hM hN (q2.mv (q' := (sk T N q1) + 1) (by omega)) hj h11 h14 hk hjv) (kp_o hM) np_X11_clauseHere rfl rfl (by decide) (Nat.le_of_ble_eq_true rfl) rfl ?_)
      rintro v M' ⟨S4, rfl, f4, hv⟩
      have hv' : (∃ g, v = some (.int 0) ∧ S4 0 9 = g ∧ r = .error g) ∨ (v = some (.int 1) ∧ ∃ q4 J4, kb1 S4 T N q4 ∧ kjr (S4 6) J4 (k0 + 1 + 1) ∧ S4 0 14 = nI (k0 + 1 + 1) ∧ k0 + 1 + 1 ≤ 40 ∧ jv (k0 + 1 + 1) J4 ∧ jnO T N m2 r (sk T N q4) (k0 + 1 + 1) J4) := by
        rcases hv with ⟨h1, e, e9⟩ | ⟨w, hw4, hw, ⟨h1, e, e9⟩ | ⟨h1, h2⟩⟩
        · exact Or.inl ⟨_, e, e9, st1 h1⟩
        · exact Or.inl ⟨_, e, e9, (st2 w hw4 hw).1 h1⟩
        · rcases h2 with ⟨g, hg, e, e9⟩ | ⟨q4, J4, hJ, e, k4, hj4, h144⟩
          · exact Or.inl ⟨g, e, e9, ((st2 w hw4 hw).2 h1).1 g hg⟩
          · exact Or.inr ⟨e, q4, J4, k4, hj4, h144, Classical.byContradiction (fun z => h1 (Or.inl (by omega))), (jv_step (nx_le (T := T) (sk_le (T := T) (q2.mv (q' := sk T N q1 + 1) (by omega)).2.1).2).2 hw4 hjv h1 hJ).1, ((st2 w hw4 hw).2 h1).2 _ _ hJ⟩
      rcases hv' with ⟨g, rfl, e9, hrr⟩ | ⟨rfl, q4, J4, k4, hj4, h144, hk4, hv4, hkn⟩
      · skip
        refine rx_istore_n_1 hE dX11_readsAll_62 (by decide) rfl ?_
        refine rx_goto (tgt := 35) hE dX11_readsAll_63 (by decide) ?_
        exact k35 S4 _ ((fx.trans ((kfy.f _ (i := 8) (by omega) _).trans (kfy.f _ (i := 8) (by omega) _))).trans f4.l) e9 hrr
      · skip
        refine rx_istore_n_1 hE dX11_readsAll_62 (by decide) rfl ?_
        refine rx_goto (tgt := 35) hE dX11_readsAll_63 (by decide) ?_
        exact ih0 m2 rfl _ (k0 + 1) _ _ ((fx.trans ((kfy.f _ (i := 8) (by omega) _).trans (kfy.f _ (i := 8) (by omega) _))).trans f4.l) k4 hj4 h144 ((f4.2 11 (by decide) (by decide) (by decide) (by decide)).trans h11) hk4 hv4 hkn
  have l1 : ∀ (m1 : Nat), ∀ (q1 k : Nat) (J : gJn) (S1 : gS), kfy S S1 → kb1 S1 T N q1 → kjr (S1 6) J (k + 1) → S1 0 14 = nI (k + 1) → S1 0 11 = 6 → k + 1 ≤ 40 → jv (k + 1) J → jnO T N m1 r (sk T N q1) (k + 1) J → RX E mX11_readsAll.2.2.1 0 0 35 [some (.ref 384), some (.int 1)] [] (kp M S1 L) := by
    intro m1
    induction m1 with
    | zero => exact stp 0 (fun m2 h => absurd h (by omega))
    | succ m1 ih => exact stp (m1 + 1) (fun m2 h => by
        have e : m2 = m1 := by omega
        subst e
        exact ih)
  refine rx_aload_n hE dX11_readsAll_0 (i := 0) rfl rfl ?_
  refine rx_getf hE dX11_readsAll_1 fl_X11_17_10 (kp_o hM) rfl ?_
  refine rx_aload_n hE dX11_readsAll_4 (i := 0) rfl rfl ?_
  refine rx_getf hE dX11_readsAll_5 fl_X11_158_10 (kp_o hM) rfl ?_
  refine rx_int _ (nI 6) h11 ?_
  refine rx_iconst hE dX11_readsAll_8 (v := 0) (by decide) ?_
  refine rx_iastN (i := 6) hE dX11_readsAll_9 (kp_3 hM) (by decide) (by decide) ?_
  refine rx_mem (M' := kp M (k_s S 3 (upd (S 3) 6 0)) L) kw_3 ?_
  refine rx_aload_n hE dX11_readsAll_10 (i := 0) rfl rfl ?_
  refine rx_iconst hE dX11_readsAll_11 (v := 0) (by decide) ?_
  refine rx_put hE dX11_readsAll_12 fl_X11_255_10 fw_10_14 (kp_o hM) (fun _ => rfl) (fun _ => rfl) (Nat.le_of_ble_eq_true rfl) ?_
  refine rx_mem (M' := kp M (k_f (k_s S 3 (upd (S 3) 6 0)) 14 0) L) kw_c14 ?_
  refine rx_aload_n hE dX11_readsAll_15 (i := 0) rfl rfl ?_
  refine rx_iconst hE dX11_readsAll_16 (v := 0) (by decide) ?_
  refine rx_put hE dX11_readsAll_17 fl_X11_102_10 fw_10_8 (kp_o hM) (fun _ => rfl) (fun _ => rfl) (Nat.le_of_ble_eq_true rfl) ?_
  refine rx_mem (M' := kp M (k_f (k_f (k_s S 3 (upd (S 3) 6 0)) 14 0) 8 0) L) kw_c8 ?_
  refine rx_aload_n hE dX11_readsAll_20 (i := 0) rfl rfl ?_
  refine rx_iconst hE dX11_readsAll_21 (v := 0) (by decide) ?_
  refine rx_put hE dX11_readsAll_22 fl_X11_99_10 fw_10_9 (kp_o hM) (fun _ => rfl) (fun _ => rfl) (Nat.le_of_ble_eq_true rfl) ?_
  refine rx_mem (M' := kp M (k_f (k_f (k_f (k_s S 3 (upd (S 3) 6 0)) 14 0) 8 0) 9 0) L) kw_c9 ?_
  refine rx_aload_n hE dX11_readsAll_25 (i := 0) rfl rfl ?_
  refine rx_iconst hE dX11_readsAll_26 (v := 0) (by decide) ?_
  refine rx_put hE dX11_readsAll_27 fl_X11_161_10 fw_10_12 (kp_o hM) (fun _ => rfl) (fun _ => rfl) (Nat.le_of_ble_eq_true rfl) ?_
  obtain ⟨S0, hS0, fx0, q0, hj00, h140, h110⟩ : ∃ S0, kp M (k_f (k_f (k_f (k_f (k_s S 3 (upd (S 3) 6 0)) 14 0) 8 0) 9 0) 12 0) L = kp M S0 L ∧ kfy S S0 ∧ kb1 S0 T N 0 ∧ kjr (S0 6) j_zero 0 ∧ S0 0 14 = nI 0 ∧ S0 0 11 = 6 := ⟨(k_f (k_f (k_f (k_f (k_s S 3 (upd (S 3) 6 0)) 14 0) 8 0) 9 0) 12 0), rfl, ((kfy.s3 S _).trans ((kfy.f _ (i := 14) (by omega) _).trans ((kfy.f _ (i := 8) (by omega) _).trans ((kfy.f _ (i := 9) (by omega) _).trans (kfy.f _ (i := 12) (by omega) _))))), ⟨⟨h1, hbt⟩, Nat.zero_le _, rfl, rfl⟩, hj0, rfl, h11⟩
  refine rx_mem (kw_c12.trans hS0) ?_
  refine rx_aload_n hE dX11_readsAll_30 (i := 0) rfl rfl ?_
  obtain ⟨m2, hm2, st1, st2⟩ := jl_step hrl
  subst hm2
  refine rx_call0 (rx_callV (av := []) hE dX11_readsAll_31 lk_X11_264 (c_X11_clauseHereJ (S := S0) (k := 0) (J := j_zero) hM hN q0 hj00 h110 h140 (by decide) jv_zero) (kp_o hM) np_X11_clauseHere rfl rfl (by decide) (Nat.le_of_ble_eq_true rfl) rfl ?_)
  rintro v M' ⟨S4, rfl, f4, hv⟩
  have hv' : (∃ g, v = some (.int 0) ∧ S4 0 9 = g ∧ r = .error g) ∨ (v = some (.int 1) ∧ ∃ q4 J4, kb1 S4 T N q4 ∧ kjr (S4 6) J4 (0 + 1) ∧ S4 0 14 = nI (0 + 1) ∧ 0 + 1 ≤ 40 ∧ jv (0 + 1) J4 ∧ jnO T N m2 r (sk T N q4) (0 + 1) J4) := by
    rcases hv with ⟨h1, e, e9⟩ | ⟨w, hw4, hw, ⟨h1, e, e9⟩ | ⟨h1, h2⟩⟩
    · exact Or.inl ⟨_, e, e9, st1 h1⟩
    · exact Or.inl ⟨_, e, e9, (st2 w hw4 hw).1 h1⟩
    · rcases h2 with ⟨g, hg, e, e9⟩ | ⟨q4, J4, hJ, e, k4, hj4, h144⟩
      · exact Or.inl ⟨g, e, e9, ((st2 w hw4 hw).2 h1).1 g hg⟩
      · exact Or.inr ⟨e, q4, J4, k4, hj4, h144, Classical.byContradiction (fun z => h1 (Or.inl (by omega))), (jv_step (nx_le (T := T) (sk_le (T := T) (Nat.zero_le N)).2).2 hw4 jv_zero h1 hJ).1, ((st2 w hw4 hw).2 h1).2 _ _ hJ⟩
  rcases hv' with ⟨g, rfl, e9, hrr⟩ | ⟨rfl, q4, J4, k4, hj4, h144, hk4, hv4, hkn⟩
  · skip
    refine rx_istore_n_1 hE dX11_readsAll_34 (by decide) rfl ?_
    exact k35 S4 _ (fx0.trans f4.l) e9 hrr
  · skip
    refine rx_istore_n_1 hE dX11_readsAll_34 (by decide) rfl ?_
    exact l1 m2 _ 0 _ _ (fx0.trans f4.l) k4 hj4 h144 ((f4.2 11 (by decide) (by decide) (by decide) (by decide)).trans h110) hk4 hv4 hkn
