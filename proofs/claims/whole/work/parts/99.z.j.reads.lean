/-! ===== clauses of a rule ===== -/
def fls (cl : List gCl) : gSg := cl.flatMap flq
theorem fls_app (cl : List gCl) (x : gCl) : fls (cl ++ [x]) = fls cl ++ flq x := by
  unfold fls
  rw [List.flatMap_append]
  simp
def kcr (S : gS) (t : Nat) (cl : List gCl) : Prop := S 5 t = nI cl.length ∧ ∀ i x, cl[i]? = some x → krw S t i (fls (cl.take i)).length x
theorem krw.eq {S S' : gS} {t i b : Nat} {x : gCl} (h : krw S t i b x) (h4 : ∀ j, j < 48 * t + 4 * i + 4 → S' 4 j = S 4 j) : krw S' t i b x := by
  obtain ⟨a1, a2, a3, a4⟩ := h
  refine ⟨(h4 _ (by omega)).trans a1, (h4 _ (by omega)).trans a2, fun z => (h4 _ (by omega)).trans (a3 z), fun y z => ⟨(h4 _ (by omega)).trans (a4 y z).1, (h4 _ (by omega)).trans (a4 y z).2⟩⟩
theorem kcr.app {S S' : gS} {t : Nat} {cl : List gCl} {x : gCl} (h : kcr S t cl) (h4 : ∀ j, j < 48 * t + 4 * cl.length → S' 4 j = S 4 j) (h5 : S' 5 t = nI (cl.length + 1)) (hx : krw S' t cl.length (fls cl).length x) : kcr S' t (cl ++ [x]) := by
  refine ⟨by rw [List.length_append]; exact h5, fun i y hy => ?_⟩
  by_cases e : i = cl.length
  · subst e
    rw [List.getElem?_append_right (Nat.le_refl _), Nat.sub_self] at hy
    have hxy : x = y := Option.some.inj hy
    subst hxy
    rw [List.take_append_of_le_length (Nat.le_refl _), List.take_length]
    exact hx
  · have hl := (List.getElem?_eq_some_iff.mp hy).1
    rw [List.length_append] at hl
    have hl2 : i < cl.length := by
      have : [x].length = 1 := rfl
      omega
    rw [List.getElem?_append_left hl2] at hy
    rw [List.take_append_of_le_length (by omega)]
    exact (h.2 i y hy).eq (fun j hj => h4 j (by omega))
def knO (T : Nat → Int32) (N m : Nat) (r : Except Int32 (List gCl)) (p1 c1 : Nat) (cl : List gCl) : Prop := (¬ p1 < N ∧ r = .ok cl) ∨ (p1 < N ∧ ¬ sgn T N p1 59 ∧ r = .error (fE p1 0)) ∨ (sgn T N p1 59 ∧ rlR T N m (nx T N p1) cl.length c1 cl r)
theorem rl_step {T : Nat → Int32} {N m p c : Nat} {cl : List gCl} {r : Except Int32 (List gCl)} (h : rlR T N m p cl.length c cl r) : ∃ m' r1, m = m' + 1 ∧ (¬ qwd T N p 12468 = 0 → cl.length < 12 → clR T N (nx T N p) c r1) ∧ (qwd T N p 12468 = 0 → r = .error (fE p 0)) ∧ (¬ qwd T N p 12468 = 0 → cl.length = 12 → r = .error (fE p 4)) ∧ (¬ qwd T N p 12468 = 0 → cl.length < 12 → (∀ g, r1 = .error g → r = .error g) ∧ ∀ p1 x c1, r1 = .ok (p1, x, c1) → knO T N m' r p1 c1 (cl ++ [x])) := by
  cases m with
  | zero => exact absurd h id
  | succ m =>
    rcases h with ⟨a1, h⟩ | ⟨a1, a2, h⟩ | ⟨a1, a2, r1, a3, h⟩
    · exact ⟨m, .error 0, rfl, fun z => absurd a1 z, fun _ => h, fun z => absurd a1 z, fun z => absurd a1 z⟩
    · exact ⟨m, .error 0, rfl, fun _ z => absurd z (by omega), fun z => absurd z a1, fun _ _ => h, fun _ z => absurd z (by omega)⟩
    · refine ⟨m, r1, rfl, fun _ _ => a3, fun z => absurd z a1, fun _ z => absurd z (by omega), fun _ _ => ⟨fun g hg => ?_, fun p1 x c1 hx => ?_⟩⟩
      · rcases h with ⟨g', e, h⟩ | ⟨p1, q, c1, e, _⟩
        · rw [hg] at e
          injection e with e
          rw [h, e]
        · rw [hg] at e
          exact absurd e (by simp)
      · rcases h with ⟨g', e, h⟩ | ⟨p1', q, c1', e, h⟩
        · rw [hx] at e
          exact absurd e (by simp)
        · rw [hx] at e
          injection e with e
          injection e with z1 e
          injection e with z2 z3
          subst z1 z2 z3
          unfold knO
          rw [List.length_append]
          exact h
theorem kq1.f14 {S : gS} {T : Nat → Int32} {N t q c : Nat} {l : gSg} (h : kq1 S T N t q c l) (v : Int32) : kq1 (k_f S 14 v) T N t q c l := ⟨h.1, h.2.1, h.2.2.1, h.2.2.2.1, h.2.2.2.2.1, h.2.2.2.2.2.1, h.2.2.2.2.2.2⟩
set_option maxRecDepth 100000 in
set_option maxHeartbeats 1000000 in
theorem c_X11_clauseHere {M : gM} {S : gS} {L : gLg} (hM : 408 ≤ M.1) {T : Nat → Int32} {N t q c : Nat} {cl : List gCl} (hN : N ≤ 400) (hb : ∀ i, tb8 (T i)) (ht : t < 6) (hq : kq1 S T N t q c (fls cl)) (h14 : S 0 14 = nI cl.length) (hn : cl.length ≤ 12) (hcr : kcr S t cl) (hl : (fls cl).length ≤ sk T N q) {r1 : Except Int32 (Nat × gCl × Nat)} (hcl : ¬ qwd T N (sk T N q) 12468 = 0 → cl.length < 12 → clR T N (nx T N (sk T N q)) c r1) : SX 10 0 0 mX11_clauseHere [.ref 384] (kp M S L) (fun v M' => ∃ S', M' = kp M S' L ∧ kfc t S S' ∧ ((qwd T N (sk T N q) 12468 = 0 ∧ v = some (.int 0) ∧ S' 0 9 = fE (sk T N q) 0) ∨ (¬ qwd T N (sk T N q) 12468 = 0 ∧ cl.length = 12 ∧ v = some (.int 0) ∧ S' 0 9 = fE (sk T N q) 4) ∨ (¬ qwd T N (sk T N q) 12468 = 0 ∧ cl.length < 12 ∧ ((v = some (.int 0) ∧ ∃ g, r1 = .error g ∧ S' 0 9 = g) ∨ (v = some (.int 1) ∧ ∃ q1 x c1, r1 = .ok (sk T N q1, x, c1) ∧ kq1 S' T N t q1 c1 (fls (cl ++ [x])) ∧ S' 0 14 = nI (cl ++ [x]).length ∧ kcr S' t (cl ++ [x]) ∧ (fls (cl ++ [x])).length + 2 ≤ sk T N q1))))) := by
  refine SX.intro [some (.ref 384), none, none] (by decide +kernel) (Nat.le_of_ble_eq_true rfl) rfl (fun E hE hQ => ?_)
  refine rx_aload_n hE dX11_clauseHere_0 (i := 0) rfl rfl ?_
  refine rx_call0 (rx_callV (av := []) hE dX11_clauseHere_1 lk_X11_105 (c_X11_seeQ hM hN hq) (kp_o hM) np_X11_see rfl rfl (by decide) (Nat.le_of_ble_eq_true rfl) rfl ?_)
  rintro v M' ⟨rfl, rfl⟩
  have q1 := hq.mv (sk_le (T := T) hq.2.1).2
  have hzz := sk_sk (T := T) (N := N) hq.2.1
  refine rx_pop hE dX11_clauseHere_4 rfl ?_
  refine rx_aload_n hE dX11_clauseHere_5 (i := 0) rfl rfl ?_
  refine rx_getf hE dX11_clauseHere_6 fl_X11_102_10 (kp_o hM) rfl ?_
  refine rx_int _ (nI (sk T N q)) rfl ?_
  refine rx_istore_n_1 hE dX11_clauseHere_9 (by decide) rfl ?_
  refine rx_aload_n hE dX11_clauseHere_10 (i := 0) rfl rfl ?_
  refine rx_getf hE dX11_clauseHere_11 fl_X11_158_10 (kp_o hM) rfl ?_
  refine rx_int _ (nI t) hq.2.2.2.2.1 ?_
  refine rx_bipush hE dX11_clauseHere_14 (v := 6) (by decide) ?_
  refine rx_icmp_ne (tgt := 23) hE dX11_clauseHere_16 (by decide) (fun c16 => ?_) (fun c16 => absurd (nI_inj (a := t) (b := 6) (by omega) (by decide) c16) (by omega))
  refine rx_iconst hE dX11_clauseHere_23 (v := 0) (by decide) ?_
  refine rx_istore_n_2 hE dX11_clauseHere_24 (by decide) rfl ?_
  refine rx_iload_n hE dX11_clauseHere_25 (i := 2) rfl rfl ?_
  refine rx_if_eq (tgt := 39) hE dX11_clauseHere_26 (by decide) (fun c26 => ?_) (fun c26 => absurd rfl c26)
  refine rx_aload_n hE dX11_clauseHere_39 (i := 0) rfl rfl ?_
  refine rx_ldc2 hE dX11_clauseHere_40 kl_X11_144 ?_
  refine rx_call0 (rx_callV (av := [.long 12468]) hE dX11_clauseHere_43 lk_X11_113 (c_X11_isWordZ hM hN q1 hzz 12468) (kp_o hM) np_X11_isWord rfl rfl (by decide) (Nat.le_of_ble_eq_true rfl) rfl ?_)
  rintro v M' ⟨rfl, rfl⟩
  refine rx_if_ne (tgt := 56) hE dX11_clauseHere_46 (by decide) (fun c46 => ?_) (fun c46 => ?_)
  · have hlt : ¬ qwd T N (sk T N q) 12468 = 0 := c46
    refine rx_aload_n hE dX11_clauseHere_56 (i := 0) rfl rfl ?_
    refine rx_getf hE dX11_clauseHere_57 fl_X11_255_10 (kp_o hM) rfl ?_
    refine rx_int _ (nI cl.length) h14 ?_
    refine rx_iload_n hE dX11_clauseHere_60 (i := 2) rfl rfl ?_
    refine rx_if_eq (tgt := 69) hE dX11_clauseHere_61 (by decide) (fun c61 => ?_) (fun c61 => absurd rfl c61)
    refine rx_bipush hE dX11_clauseHere_69 (v := 12) (by decide) ?_
    refine rx_icmp_ne (tgt := 81) hE dX11_clauseHere_71 (by decide) (fun c71 => ?_) (fun c71 => ?_)
    · have hn12 : cl.length < 12 := Classical.byContradiction (fun z => c71 (by rw [show cl.length = 12 by omega]; rfl))
      refine rx_aload_n hE dX11_clauseHere_81 (i := 0) rfl rfl ?_
      refine rx_dup hE dX11_clauseHere_82 rfl ?_
      refine rx_getf hE dX11_clauseHere_83 fl_X11_255_10 (kp_o hM) rfl ?_
      refine rx_int _ (nI cl.length) h14 ?_
      refine rx_iconst hE dX11_clauseHere_86 (v := 1) (by decide) ?_
      refine rx_iadd hE dX11_clauseHere_87 ?_
      refine rx_int _ (nI (cl.length + 1)) (nI_1 _) ?_
      refine rx_put hE dX11_clauseHere_88 fl_X11_255_10 fw_10_14 (kp_o hM) (fun _ => rfl) (fun _ => rfl) (Nat.le_of_ble_eq_true rfl) ?_
      refine rx_mem (M' := kp M (k_f (k_f S 8 (nI (sk T N q))) 14 (nI (cl.length + 1))) L) kw_c14 ?_
      have q2 := q1.f14 (nI (cl.length + 1))
      refine rx_iload_n hE dX11_clauseHere_91 (i := 2) rfl rfl ?_
      refine rx_if_eq (tgt := 103) hE dX11_clauseHere_92 (by decide) (fun c92 => ?_) (fun c92 => absurd rfl c92)
      refine rx_aload_n hE dX11_clauseHere_103 (i := 0) rfl rfl ?_
      refine rx_call0 (rx_callV (av := []) hE dX11_clauseHere_104 lk_X11_261 (c_X11_isLetHere (S := (k_f (k_f S 8 (nI (sk T N q))) 14 (nI (cl.length + 1)))) (i := cl.length) (r := r1) hM hN hb ht q2 hn12 hcr.1 (hcl hlt hn12) hlt hl) (kp_o hM) np_X11_isLetHere rfl rfl (by decide) (Nat.le_of_ble_eq_true rfl) rfl ?_)
      rintro v M' ⟨S3, rfl, f3, hv⟩
      obtain ⟨vv, rfl, hn⟩ : ∃ vv : Int32, v = some (.int vv) ∧ narrow .boolean (.int vv) = .int vv := by
        rcases hv with ⟨e, _⟩ | ⟨e, _⟩
        · exact ⟨0, e, rfl⟩
        · exact ⟨1, e, rfl⟩
      exact rx_tret hE hQ hn rfl dX11_clauseHere_107 ⟨S3, rfl, (kfc.f t S (i := 8) (by omega) _).trans ((kfc.f t _ (i := 14) (by omega) _).trans f3), Or.inr (Or.inr ⟨hlt, hn12, (by
        rcases hv with ⟨e, g, hg, e9⟩ | ⟨e, q3, x, c3, hr3, k3, h53, h43, hw3, hl3, h143⟩
        · exact Or.inl ⟨e, g, hg, e9⟩
        · refine Or.inr ⟨e, q3, x, c3, hr3, by rw [fls_app]; exact k3, by rw [h143, List.length_append]; rfl, ?_, by rw [fls_app]; exact hl3⟩
          exact kcr.app (S := (k_f (k_f S 8 (nI (sk T N q))) 14 (nI (cl.length + 1)))) (S' := S3) ⟨hcr.1, fun i x hx => (hcr.2 i x hx).eq (fun j _ => rfl)⟩ h43 h53 hw3)⟩)⟩
    · have hn12 : cl.length = 12 := nI_inj (by omega) (by decide) c71
      refine rx_aload_n hE dX11_clauseHere_74 (i := 0) rfl rfl ?_
      refine rx_iconst hE dX11_clauseHere_75 (v := 4) (by decide) ?_
      refine rx_iload_n hE dX11_clauseHere_76 (i := 1) rfl rfl ?_
      refine rx_call0 (rx_callV (av := [.int (nI 4), .int (nI (sk T N q))]) hE dX11_clauseHere_77 lk_X11_123 (c_X11_failsQ (t := t) hM q1.2.2.2.1 (sk T N q) 4) (kp_o hM) np_X11_fails rfl rfl (by decide) (Nat.le_of_ble_eq_true rfl) rfl ?_)
      rintro v M' ⟨rfl, S3, rfl, f3, e9⟩
      exact rx_tret hE hQ rfl rfl dX11_clauseHere_80 ⟨S3, rfl, (kfc.f t S (i := 8) (by omega) _).trans f3.c, Or.inr (Or.inl ⟨hlt, hn12, rfl, e9⟩)⟩
  · have hlt : qwd T N (sk T N q) 12468 = 0 := c46
    refine rx_aload_n hE dX11_clauseHere_49 (i := 0) rfl rfl ?_
    refine rx_iconst hE dX11_clauseHere_50 (v := 0) (by decide) ?_
    refine rx_iload_n hE dX11_clauseHere_51 (i := 1) rfl rfl ?_
    refine rx_call0 (rx_callV (av := [.int (nI 0), .int (nI (sk T N q))]) hE dX11_clauseHere_52 lk_X11_123 (c_X11_failsQ (t := t) hM q1.2.2.2.1 (sk T N q) 0) (kp_o hM) np_X11_fails rfl rfl (by decide) (Nat.le_of_ble_eq_true rfl) rfl ?_)
    rintro v M' ⟨rfl, S3, rfl, f3, e9⟩
    exact rx_tret hE hQ rfl rfl dX11_clauseHere_55 ⟨S3, rfl, (kfc.f t S (i := 8) (by omega) _).trans f3.c, Or.inl ⟨hlt, rfl, e9⟩⟩
/-! ===== readsAll of a rule ===== -/
def kfd (t : Nat) (S S' : gS) : Prop := (∀ k, k ≠ 0 → k ≠ 2 → k ≠ 3 → k ≠ 4 → k ≠ 5 → k ≠ 7 → S' k = S k) ∧ (∀ i, i ≠ 1 → i ≠ 8 → i ≠ 9 → i ≠ 10 → i ≠ 12 → i ≠ 13 → i ≠ 14 → i ≠ 16 → S' 0 i = S 0 i) ∧ (∀ i, i < 400 * t → S' 2 i = S 2 i) ∧ (∀ i, i < 48 * t → S' 4 i = S 4 i) ∧ ∀ i, i ≠ t → S' 5 i = S 5 i
theorem kfc.d {t : Nat} {S S' : gS} (h : kfc t S S') : kfd t S S' := ⟨h.1, fun i _ b c d e f g j => h.2.1 i b c d e f g j, h.2.2.1, h.2.2.2.1, h.2.2.2.2⟩
theorem kfd.trans {t : Nat} {S S' S'' : gS} (h : kfd t S S') (h' : kfd t S' S'') : kfd t S S'' := ⟨fun k a b c d e f => (h'.1 k a b c d e f).trans (h.1 k a b c d e f), fun i z a b c d e f g => (h'.2.1 i z a b c d e f g).trans (h.2.1 i z a b c d e f g), fun i a => (h'.2.2.1 i a).trans (h.2.2.1 i a), fun i a => (h'.2.2.2.1 i a).trans (h.2.2.2.1 i a), fun i a => (h'.2.2.2.2 i a).trans (h.2.2.2.2 i a)⟩
theorem kfd.f1 (t : Nat) (S : gS) (v : Int32) : kfd t S (k_f S 1 v) := ⟨fun k a _ _ _ _ _ => kf_row v a, fun j a _ _ _ _ _ _ _ => kf_ne v a, fun _ _ => by rw [kf_row v (by decide)], fun _ _ => by rw [kf_row v (by decide)], fun _ _ => by rw [kf_row v (by decide)]⟩
theorem kfc.s3 (t : Nat) (S : gS) (v : Nat → Int32) : kfc t S (k_s S 3 v) := ⟨fun j _ _ a _ _ _ => if_neg a, fun _ _ _ _ _ _ _ _ => rfl, fun _ _ => rfl, fun _ _ => rfl, fun _ _ => rfl⟩
set_option maxRecDepth 100000 in
set_option maxHeartbeats 1000000 in
theorem c_X11_readsAll {M : gM} {S : gS} {L : gLg} (hM : 408 ≤ M.1) {T : Nat → Int32} {N t : Nat} (hN : N ≤ 400) (hb : ∀ i, tb8 (T i)) (ht : t < 6) (h1 : S 0 1 = nI N) (hbt : S 1 = T) (h11 : S 0 11 = nI t) (h5 : S 5 t = 0) {m : Nat} {r : Except Int32 (List gCl)} (hrl : rlR T N m (sk T N 0) 0 0 [] r) (hne : ∀ g, r = .error g → ¬ g = 0) : SX 11 0 0 mX11_readsAll [.ref 384] (kp M S L) (fun v M' => ∃ S', M' = kp M S' L ∧ kfd t S S' ∧ S' 0 1 = 0 ∧ ((∃ g, r = .error g ∧ v = some (.int 0) ∧ S' 0 9 = g) ∨ ∃ cl, r = .ok cl ∧ v = some (.int 1) ∧ kls S' t (fls cl) ∧ kcr S' t cl ∧ cl.length ≤ 12 ∧ (fls cl).length ≤ 400)) := by
  refine SX.intro [some (.ref 384), none] (by decide +kernel) (Nat.le_of_ble_eq_true rfl) rfl (fun E hE hQ => ?_)
  have k35 : ∀ (S1 : gS) (g : Int32), kfc t S S1 → S1 0 9 = g → r = .error g → RX E mX11_readsAll.2.2.1 0 0 35 [some (.ref 384), some (.int 0)] [] (kp M S1 L) := by
    intro S1 g fx h9 hr
    refine rx_iload_n hE dX11_readsAll_35 (i := 1) rfl rfl ?_
    refine rx_if_eq (tgt := 66) hE dX11_readsAll_36 (by decide) (fun c36 => ?_) (fun c36 => absurd rfl c36)
    refine rx_iload_n hE dX11_readsAll_66 (i := 1) rfl rfl ?_
    refine rx_if_eq (tgt := 88) hE dX11_readsAll_67 (by decide) (fun c67 => ?_) (fun c67 => absurd rfl c67)
    refine rx_aload_n hE dX11_readsAll_88 (i := 0) rfl rfl ?_
    refine rx_iconst hE dX11_readsAll_89 (v := 0) (by decide) ?_
    refine rx_put hE dX11_readsAll_90 fl_X11_92_10 fw_10_1 (kp_o hM) (fun _ => rfl) (fun _ => rfl) (Nat.le_of_ble_eq_true rfl) ?_
    refine rx_mem (M' := kp M (k_f S1 1 0) L) kw_c1 ?_
    refine rx_aload_n hE dX11_readsAll_93 (i := 0) rfl rfl ?_
    refine rx_getf hE dX11_readsAll_94 fl_X11_99_10 (kp_o hM) rfl ?_
    refine rx_int _ g ((kf_ne _ (by decide)).trans h9) ?_
    refine rx_if_ne (tgt := 104) hE dX11_readsAll_97 (by decide) (fun c97 => ?_) (fun c97 => absurd c97 (hne g hr))
    refine rx_iconst hE dX11_readsAll_104 (v := 0) (by decide) ?_
    exact rx_tret hE hQ rfl rfl dX11_readsAll_105 ⟨(k_f S1 1 0), rfl, fx.d.trans (kfd.f1 t S1 0), rfl, Or.inl ⟨g, hr, rfl, (kf_ne _ (by decide)).trans h9⟩⟩
  have stp : ∀ (m1 : Nat), (∀ m2, m1 = m2 + 1 → ∀ (q1 c1 : Nat) (cl : List gCl) (S1 : gS), kfc t S S1 → kq1 S1 T N t q1 c1 (fls cl) → S1 0 14 = nI cl.length → kcr S1 t cl → cl.length ≤ 12 → (fls cl).length + 2 ≤ sk T N q1 → knO T N m2 r (sk T N q1) c1 cl → RX E mX11_readsAll.2.2.1 0 0 35 [some (.ref 384), some (.int 1)] [] (kp M S1 L)) → ∀ (q1 c1 : Nat) (cl : List gCl) (S1 : gS), kfc t S S1 → kq1 S1 T N t q1 c1 (fls cl) → S1 0 14 = nI cl.length → kcr S1 t cl → cl.length ≤ 12 → (fls cl).length + 2 ≤ sk T N q1 → knO T N m1 r (sk T N q1) c1 cl → RX E mX11_readsAll.2.2.1 0 0 35 [some (.ref 384), some (.int 1)] [] (kp M S1 L) := by
    intro m1 ih0 q1 c1 cl S1 fx q1k h14 hcr hn hl hkn
    refine rx_iload_n hE dX11_readsAll_35 (i := 1) rfl rfl ?_
    refine rx_if_eq (tgt := 66) hE dX11_readsAll_36 (by decide) (fun c36 => absurd c36 (by decide)) (fun c36 => ?_)
    refine rx_aload_n hE dX11_readsAll_39 (i := 0) rfl rfl ?_
    refine rx_call0 (rx_callV (av := []) hE dX11_readsAll_40 lk_X11_105 (c_X11_seeQ hM hN q1k) (kp_o hM) np_X11_see rfl rfl (by decide) (Nat.le_of_ble_eq_true rfl) rfl ?_)
    rintro v M' ⟨rfl, rfl⟩
    have q2 := q1k.mv (sk_le (T := T) q1k.2.1).2
    have hzz := sk_sk (T := T) (N := N) q1k.2.1
    have hp1N := q2.2.1
    refine rx_bipush hE dX11_readsAll_43 (v := 59) (by decide) ?_
    refine rx_icmp_ne (tgt := 66) hE dX11_readsAll_45 (by decide) (fun c45 => ?_) (fun c45 => ?_)
    · have h59 : ¬ sgn T N (sk T N q1) 59 := fun z => c45 ((see_is hb (k := 59) (by decide)).mpr z)
      refine rx_iload_n hE dX11_readsAll_66 (i := 1) rfl rfl ?_
      refine rx_if_eq (tgt := 88) hE dX11_readsAll_67 (by decide) (fun c67 => absurd c67 (by decide)) (fun c67 => ?_)
      refine rx_aload_n hE dX11_readsAll_70 (i := 0) rfl rfl ?_
      refine rx_call0 (rx_callV (av := []) hE dX11_readsAll_71 lk_X11_105 (c_X11_seeZ hM hN q2 hzz) (kp_o hM) np_X11_see rfl rfl (by decide) (Nat.le_of_ble_eq_true rfl) rfl ?_)
      rintro v M' ⟨rfl, rfl⟩
      refine rx_iconst hE dX11_readsAll_74 (v := -1) (by decide) ?_
      refine rx_icmp_eq (tgt := 88) hE dX11_readsAll_75 (by decide) (fun c75 => ?_) (fun c75 => ?_)
      · have hpl : ¬ (sk T N q1) < N := (see_end hb).mp c75
        refine rx_aload_n hE dX11_readsAll_88 (i := 0) rfl rfl ?_
        refine rx_iconst hE dX11_readsAll_89 (v := 0) (by decide) ?_
        refine rx_put hE dX11_readsAll_90 fl_X11_92_10 fw_10_1 (kp_o hM) (fun _ => rfl) (fun _ => rfl) (Nat.le_of_ble_eq_true rfl) ?_
        refine rx_mem (M' := kp M (k_f (k_f S1 8 (nI (sk T N q1))) 1 0) L) kw_c1 ?_
        refine rx_aload_n hE dX11_readsAll_93 (i := 0) rfl rfl ?_
        refine rx_getf hE dX11_readsAll_94 fl_X11_99_10 (kp_o hM) rfl ?_
        refine rx_int _ 0 ((kf_ne _ (by decide)).trans q2.2.2.2.1) ?_
        refine rx_if_ne (tgt := 104) hE dX11_readsAll_97 (by decide) (fun c97 => absurd rfl c97) (fun c97 => ?_)
        refine rx_iconst hE dX11_readsAll_100 (v := 1) (by decide) ?_
        refine rx_goto (tgt := 105) hE dX11_readsAll_101 (by decide) ?_
        exact rx_tret hE hQ rfl rfl dX11_readsAll_105 ⟨(k_f (k_f S1 8 (nI (sk T N q1))) 1 0), rfl, (fx.trans (kfc.f t _ (i := 8) (by omega) _)).d.trans (kfd.f1 t _ 0), rfl, Or.inr ⟨cl, (by
          rcases hkn with ⟨_, h⟩ | ⟨h, _⟩ | ⟨h, _⟩
          · exact h
          · exact absurd h hpl
          · exact absurd h h59), rfl, q1k.2.2.2.2.2.2, ⟨hcr.1, fun i x hx => (hcr.2 i x hx).eq (fun j _ => rfl)⟩, hn, by omega⟩⟩
      · have hpl : (sk T N q1) < N := Classical.byContradiction (fun z => c75 ((see_end hb).mpr z))
        refine rx_aload_n hE dX11_readsAll_78 (i := 0) rfl rfl ?_
        refine rx_iconst hE dX11_readsAll_79 (v := 0) (by decide) ?_
        refine rx_aload_n hE dX11_readsAll_80 (i := 0) rfl rfl ?_
        refine rx_getf hE dX11_readsAll_81 fl_X11_102_10 (kp_o hM) rfl ?_
        refine rx_int _ (nI (sk T N q1)) q2.2.2.1 ?_
        refine rx_call0 (rx_callV (av := [.int (nI 0), .int (nI (sk T N q1))]) hE dX11_readsAll_84 lk_X11_123 (c_X11_failsQ (t := t) hM q2.2.2.2.1 (sk T N q1) 0) (kp_o hM) np_X11_fails rfl rfl (by decide) (Nat.le_of_ble_eq_true rfl) rfl ?_)
        rintro v M' ⟨rfl, S3, rfl, f3, e9⟩
        refine rx_pop hE dX11_readsAll_87 rfl ?_
        refine rx_aload_n hE dX11_readsAll_88 (i := 0) rfl rfl ?_
        refine rx_iconst hE dX11_readsAll_89 (v := 0) (by decide) ?_
        refine rx_put hE dX11_readsAll_90 fl_X11_92_10 fw_10_1 (kp_o hM) (fun _ => rfl) (fun _ => rfl) (Nat.le_of_ble_eq_true rfl) ?_
        refine rx_mem (M' := kp M (k_f S3 1 0) L) kw_c1 ?_
        have hrr : r = .error (fE (sk T N q1) 0) := by
          rcases hkn with ⟨h, _⟩ | ⟨_, _, h⟩ | ⟨h, _⟩
          · exact absurd hpl h
          · exact h
          · exact absurd h h59
        refine rx_aload_n hE dX11_readsAll_93 (i := 0) rfl rfl ?_
        refine rx_getf hE dX11_readsAll_94 fl_X11_99_10 (kp_o hM) rfl ?_
        refine rx_int _ (fE (sk T N q1) 0) ((kf_ne _ (by decide)).trans e9) ?_
        refine rx_if_ne (tgt := 104) hE dX11_readsAll_97 (by decide) (fun c97 => ?_) (fun c97 => absurd c97 (hne _ hrr))
        refine rx_iconst hE dX11_readsAll_104 (v := 0) (by decide) ?_
        exact rx_tret hE hQ rfl rfl dX11_readsAll_105 ⟨(k_f S3 1 0), rfl, (fx.trans ((kfc.f t _ (i := 8) (by omega) _).trans f3.c)).d.trans (kfd.f1 t _ 0), rfl, Or.inl ⟨_, hrr, rfl, (kf_ne _ (by decide)).trans e9⟩⟩
    · have h59 : sgn T N (sk T N q1) 59 := (see_is hb (k := 59) (by decide)).mp c45
      have hsk := nx_sg (k := 59) (by decide) h59
      have hnx := nx_lt (T := T) h59.1
      obtain ⟨m2, r1, hm2, hcl, st1, st2, st3⟩ : ∃ m' r1, m1 = m' + 1 ∧ _ := rl_step (by
        rcases hkn with ⟨h, _⟩ | ⟨_, h, _⟩ | ⟨_, h⟩
        · exact absurd h59.1 h
        · exact absurd h59 h
        · exact h)
      subst hm2
      rw [← hsk] at hcl st1 st2 st3
      refine rx_aload_n hE dX11_readsAll_48 (i := 0) rfl rfl ?_
      refine rx_dup hE dX11_readsAll_49 rfl ?_
      refine rx_getf hE dX11_readsAll_50 fl_X11_102_10 (kp_o hM) rfl ?_
      refine rx_int _ (nI (sk T N q1)) rfl ?_
      refine rx_iconst hE dX11_readsAll_53 (v := 1) (by decide) ?_
      refine rx_iadd hE dX11_readsAll_54 ?_
      refine rx_int _ (nI ((sk T N q1) + 1)) (nI_1 _) ?_
      refine rx_put hE dX11_readsAll_55 fl_X11_102_10 fw_10_8 (kp_o hM) (fun _ => rfl) (fun _ => rfl) (Nat.le_of_ble_eq_true rfl) ?_
      refine rx_mem (M' := kp M (k_f (k_f S1 8 (nI (sk T N q1))) 8 (nI ((sk T N q1) + 1))) L) kw_c8 ?_
      refine rx_aload_n hE dX11_readsAll_58 (i := 0) rfl rfl ?_
      refine rx_call0 (rx_callV (av := []) hE dX11_readsAll_59 lk_X11_264 (c_X11_clauseHere (S := (k_f (k_f S1 8 (nI (sk T N q1))) 8 (nI ((sk T N q1) + 1)))) hM hN hb ht (q2.mv (q' := (sk T N q1) + 1) (by omega)) h14 hn ⟨hcr.1, fun i x hx => (hcr.2 i x hx).eq (fun j _ => rfl)⟩ (by rw [hsk]; omega) hcl) (kp_o hM) np_X11_clauseHere rfl rfl (by decide) (Nat.le_of_ble_eq_true rfl) rfl ?_)
      rintro v M' ⟨S4, rfl, f4, hv⟩
      have hv' : (∃ g, v = some (.int 0) ∧ S4 0 9 = g ∧ r = .error g) ∨ (v = some (.int 1) ∧ cl.length < 12 ∧ ∃ q4 x c4, kq1 S4 T N t q4 c4 (fls (cl ++ [x])) ∧ S4 0 14 = nI (cl ++ [x]).length ∧ kcr S4 t (cl ++ [x]) ∧ (fls (cl ++ [x])).length + 2 ≤ sk T N q4 ∧ knO T N m2 r (sk T N q4) c4 (cl ++ [x])) := by
        rcases hv with ⟨h1, e, e9⟩ | ⟨h1, h2, e, e9⟩ | ⟨h1, h2, h3⟩
        · exact Or.inl ⟨_, e, e9, st1 h1⟩
        · exact Or.inl ⟨_, e, e9, st2 h1 h2⟩
        · rcases h3 with ⟨e, g, hg, e9⟩ | ⟨e, q4, x, c4, hr4, k4, h144, hcr4, hl4⟩
          · exact Or.inl ⟨g, e, e9, (st3 h1 h2).1 g hg⟩
          · exact Or.inr ⟨e, h2, q4, x, c4, k4, h144, hcr4, hl4, (st3 h1 h2).2 _ _ _ hr4⟩
      rcases hv' with ⟨g, rfl, e9, hrr⟩ | ⟨rfl, h12, q4, x, c4, k4, h144, hcr4, hl4, hkn⟩
      · skip
        refine rx_istore_n_1 hE dX11_readsAll_62 (by decide) rfl ?_
        refine rx_goto (tgt := 35) hE dX11_readsAll_63 (by decide) ?_
        exact k35 S4 _ ((fx.trans ((kfc.f t _ (i := 8) (by omega) _).trans (kfc.f t _ (i := 8) (by omega) _))).trans f4) e9 hrr
      · skip
        refine rx_istore_n_1 hE dX11_readsAll_62 (by decide) rfl ?_
        refine rx_goto (tgt := 35) hE dX11_readsAll_63 (by decide) ?_
        exact ih0 m2 rfl _ _ _ _ ((fx.trans ((kfc.f t _ (i := 8) (by omega) _).trans (kfc.f t _ (i := 8) (by omega) _))).trans f4) k4 h144 hcr4 (by rw [List.length_append]; show cl.length + 1 ≤ 12; omega) (by omega) hkn
  have l1 : ∀ (m1 : Nat), ∀ (q1 c1 : Nat) (cl : List gCl) (S1 : gS), kfc t S S1 → kq1 S1 T N t q1 c1 (fls cl) → S1 0 14 = nI cl.length → kcr S1 t cl → cl.length ≤ 12 → (fls cl).length + 2 ≤ sk T N q1 → knO T N m1 r (sk T N q1) c1 cl → RX E mX11_readsAll.2.2.1 0 0 35 [some (.ref 384), some (.int 1)] [] (kp M S1 L) := by
    intro m1
    induction m1 with
    | zero => exact stp 0 (fun m2 h => absurd h (by omega))
    | succ m1 ih => exact stp (m1 + 1) (fun m2 h => by
        have e : m2 = m1 := by omega
        subst e
        exact ih)
  refine rx_aload_n hE dX11_readsAll_0 (i := 0) rfl rfl ?_
  refine rx_getf hE dX11_readsAll_1 fl_X11_17_10 (kp_o hM) rfl ?_
  refine rx_aload_n hE dX11_readsAll_4 (i := 0) rfl rfl ?_
  refine rx_getf hE dX11_readsAll_5 fl_X11_158_10 (kp_o hM) rfl ?_
  refine rx_int _ (nI t) h11 ?_
  refine rx_iconst hE dX11_readsAll_8 (v := 0) (by decide) ?_
  refine rx_iastN (i := t) hE dX11_readsAll_9 (kp_3 hM) (by omega) (by decide) ?_
  refine rx_mem (M' := kp M (k_s S 3 (upd (S 3) t 0)) L) kw_3 ?_
  refine rx_aload_n hE dX11_readsAll_10 (i := 0) rfl rfl ?_
  refine rx_iconst hE dX11_readsAll_11 (v := 0) (by decide) ?_
  refine rx_put hE dX11_readsAll_12 fl_X11_255_10 fw_10_14 (kp_o hM) (fun _ => rfl) (fun _ => rfl) (Nat.le_of_ble_eq_true rfl) ?_
  refine rx_mem (M' := kp M (k_f (k_s S 3 (upd (S 3) t 0)) 14 0) L) kw_c14 ?_
  refine rx_aload_n hE dX11_readsAll_15 (i := 0) rfl rfl ?_
  refine rx_iconst hE dX11_readsAll_16 (v := 0) (by decide) ?_
  refine rx_put hE dX11_readsAll_17 fl_X11_102_10 fw_10_8 (kp_o hM) (fun _ => rfl) (fun _ => rfl) (Nat.le_of_ble_eq_true rfl) ?_
  refine rx_mem (M' := kp M (k_f (k_f (k_s S 3 (upd (S 3) t 0)) 14 0) 8 0) L) kw_c8 ?_
  refine rx_aload_n hE dX11_readsAll_20 (i := 0) rfl rfl ?_
  refine rx_iconst hE dX11_readsAll_21 (v := 0) (by decide) ?_
  refine rx_put hE dX11_readsAll_22 fl_X11_99_10 fw_10_9 (kp_o hM) (fun _ => rfl) (fun _ => rfl) (Nat.le_of_ble_eq_true rfl) ?_
  refine rx_mem (M' := kp M (k_f (k_f (k_f (k_s S 3 (upd (S 3) t 0)) 14 0) 8 0) 9 0) L) kw_c9 ?_
  refine rx_aload_n hE dX11_readsAll_25 (i := 0) rfl rfl ?_
  refine rx_iconst hE dX11_readsAll_26 (v := 0) (by decide) ?_
  refine rx_put hE dX11_readsAll_27 fl_X11_161_10 fw_10_12 (kp_o hM) (fun _ => rfl) (fun _ => rfl) (Nat.le_of_ble_eq_true rfl) ?_
  obtain ⟨S0, hS0, fx0, q0, h140, hcr0⟩ : ∃ S0, kp M (k_f (k_f (k_f (k_f (k_s S 3 (upd (S 3) t 0)) 14 0) 8 0) 9 0) 12 0) L = kp M S0 L ∧ kfc t S S0 ∧ kq1 S0 T N t 0 0 (fls []) ∧ S0 0 14 = nI ([] : List gCl).length ∧ kcr S0 t [] := ⟨(k_f (k_f (k_f (k_f (k_s S 3 (upd (S 3) t 0)) 14 0) 8 0) 9 0) 12 0), rfl, ((kfc.s3 t S _).trans ((kfc.f t _ (i := 14) (by omega) _).trans ((kfc.f t _ (i := 8) (by omega) _).trans ((kfc.f t _ (i := 9) (by omega) _).trans (kfc.f t _ (i := 12) (by omega) _))))), ⟨⟨h1, hbt⟩, Nat.zero_le _, rfl, rfl, h11, ⟨rfl, by omega⟩, upd_e0 _ _ _, fun j x z => absurd z (by simp [fls])⟩, rfl, h5, fun i x z => absurd z (by simp)⟩
  refine rx_mem (kw_c12.trans hS0) ?_
  refine rx_aload_n hE dX11_readsAll_30 (i := 0) rfl rfl ?_
  obtain ⟨m2, r1, hm2, hcl, st1, st2, st3⟩ : ∃ m' r1, m = m' + 1 ∧ _ := rl_step (cl := []) hrl
  subst hm2
  refine rx_call0 (rx_callV (av := []) hE dX11_readsAll_31 lk_X11_264 (c_X11_clauseHere (S := S0) hM hN hb ht q0 h140 (by decide) hcr0 (Nat.zero_le _) hcl) (kp_o hM) np_X11_clauseHere rfl rfl (by decide) (Nat.le_of_ble_eq_true rfl) rfl ?_)
  rintro v M' ⟨S4, rfl, f4, hv⟩
  have hv' : (∃ g, v = some (.int 0) ∧ S4 0 9 = g ∧ r = .error g) ∨ (v = some (.int 1) ∧ ([] : List gCl).length < 12 ∧ ∃ q4 x c4, kq1 S4 T N t q4 c4 (fls ([] ++ [x])) ∧ S4 0 14 = nI ([] ++ [x]).length ∧ kcr S4 t ([] ++ [x]) ∧ (fls ([] ++ [x])).length + 2 ≤ sk T N q4 ∧ knO T N m2 r (sk T N q4) c4 ([] ++ [x])) := by
    rcases hv with ⟨h1, e, e9⟩ | ⟨h1, h2, e, e9⟩ | ⟨h1, h2, h3⟩
    · exact Or.inl ⟨_, e, e9, st1 h1⟩
    · exact Or.inl ⟨_, e, e9, st2 h1 h2⟩
    · rcases h3 with ⟨e, g, hg, e9⟩ | ⟨e, q4, x, c4, hr4, k4, h144, hcr4, hl4⟩
      · exact Or.inl ⟨g, e, e9, (st3 h1 h2).1 g hg⟩
      · exact Or.inr ⟨e, h2, q4, x, c4, k4, h144, hcr4, hl4, (st3 h1 h2).2 _ _ _ hr4⟩
  rcases hv' with ⟨g, rfl, e9, hrr⟩ | ⟨rfl, h12, q4, x, c4, k4, h144, hcr4, hl4, hkn⟩
  · skip
    refine rx_istore_n_1 hE dX11_readsAll_34 (by decide) rfl ?_
    exact k35 S4 _ (fx0.trans f4) e9 hrr
  · skip
    refine rx_istore_n_1 hE dX11_readsAll_34 (by decide) rfl ?_
    exact l1 m2 _ _ _ _ (fx0.trans f4) k4 h144 hcr4 (by rw [List.length_append]; show ([] : List gCl).length + 1 ≤ 12; omega) (by omega) hkn
