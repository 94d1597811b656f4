/-! ===== isLetHere ===== -/
def flq (x : gCl) : gSg := x.1 ++ x.2.getD []
def krw (S : gS) (t i b : Nat) (x : gCl) : Prop := S 4 (48 * t + 4 * i) = nI b ∧ S 4 (48 * t + 4 * i + 1) = nI (b + x.1.length) ∧ (x.2 = none → S 4 (48 * t + 4 * i + 2) = -1) ∧ ∀ y, x.2 = some y → S 4 (48 * t + 4 * i + 2) = nI (b + x.1.length) ∧ S 4 (48 * t + 4 * i + 3) = nI (b + x.1.length + y.length)
def kfc (t : Nat) (S S' : gS) : Prop := (∀ k, k ≠ 0 → k ≠ 2 → k ≠ 3 → k ≠ 4 → k ≠ 5 → k ≠ 7 → S' k = S k) ∧ (∀ i, i ≠ 8 → i ≠ 9 → i ≠ 10 → i ≠ 12 → i ≠ 13 → i ≠ 14 → i ≠ 16 → S' 0 i = S 0 i) ∧ (∀ i, i < 400 * t → S' 2 i = S 2 i) ∧ (∀ i, i < 48 * t → S' 4 i = S 4 i) ∧ ∀ i, i ≠ t → S' 5 i = S 5 i
theorem kfc.refl (t : Nat) (S : gS) : kfc t S S := ⟨fun _ _ _ _ _ _ _ => rfl, fun _ _ _ _ _ _ _ _ => rfl, fun _ _ => rfl, fun _ _ => rfl, fun _ _ => rfl⟩
theorem kfc.trans {t : Nat} {S S' S'' : gS} (h : kfc t S S') (h' : kfc t S' S'') : kfc t S S'' := ⟨fun k a b c d e f => (h'.1 k a b c d e f).trans (h.1 k a b c d e f), fun i a b c d e f g => (h'.2.1 i a b c d e f g).trans (h.2.1 i a b c d e f g), fun i a => (h'.2.2.1 i a).trans (h.2.2.1 i a), fun i a => (h'.2.2.2.1 i a).trans (h.2.2.2.1 i a), fun i a => (h'.2.2.2.2 i a).trans (h.2.2.2.2 i a)⟩
theorem kft.c {t : Nat} {S S' : gS} (h : kft t S S') : kfc t S S' := ⟨fun k a b c _ _ f => h.1 k a b c f, fun i a b c d e _ g => h.2.1 i a b c d e g, h.2.2, fun i _ => by rw [h.1 4 (by decide) (by decide) (by decide) (by decide)], fun i _ => by rw [h.1 5 (by decide) (by decide) (by decide) (by decide)]⟩
theorem kfr.c {t : Nat} {S S' : gS} (h : kfr t S S') : kfc t S S' := h.t.c
theorem kfc.f (t : Nat) (S : gS) {i : Nat} (hi : i = 8 ∨ i = 9 ∨ i = 10 ∨ i = 12 ∨ i = 13 ∨ i = 14 ∨ i = 16) (v : Int32) : kfc t S (k_f S i v) := ⟨fun k a _ _ _ _ _ => kf_row v a, fun j a b c d e f g => kf_ne v (by omega), fun _ _ => by rw [kf_row v (by decide)], fun _ _ => by rw [kf_row v (by decide)], fun _ _ => by rw [kf_row v (by decide)]⟩
theorem kfc.s4 (t : Nat) (S : gS) {k : Nat} (hk : 48 * t ≤ k) (v : Int32) : kfc t S (k_s S 4 (upd (S 4) k v)) := ⟨fun j _ _ _ a _ _ => if_neg a, fun _ _ _ _ _ _ _ _ => rfl, fun _ _ => rfl, fun i hi => if_neg (by omega), fun _ _ => rfl⟩
theorem kfc.s5 (t : Nat) (S : gS) (v : Int32) : kfc t S (k_s S 5 (upd (S 5) t v)) := ⟨fun j _ _ _ _ a _ => if_neg a, fun _ _ _ _ _ _ _ _ => rfl, fun _ _ => rfl, fun _ _ => rfl, fun i hi => if_neg hi⟩
theorem upd_e0 (f : Nat → Int32) (k : Nat) (v : Int32) : upd f k v k = v := if_pos rfl
theorem upd_n0 (f : Nat → Int32) {k j : Nat} (v : Int32) (h : j ≠ k) : upd f k v j = f j := if_neg h
set_option maxRecDepth 100000 in
set_option maxHeartbeats 1000000 in
theorem c_X11_isLetHere {M : gM} {S : gS} {L : gLg} (hM : 408 ≤ M.1) {T : Nat → Int32} {N t q c : Nat} {l : gSg} (hN : N ≤ 400) (hb : ∀ i, tb8 (T i)) (ht : t < 6) (hq : kq1 S T N t q c l) {i : Nat} (hi : i < 12) (h5 : S 5 t = nI i) {r : Except Int32 (Nat × gCl × Nat)} (hcl : clR T N (nx T N q) c r) (hlt : ¬ qwd T N q 12468 = 0) (hl : l.length ≤ q) : SX 9 0 0 mX11_isLetHere [.ref 384] (kp M S L) (fun v M' => ∃ S', M' = kp M S' L ∧ kfc t S S' ∧ ((v = some (.int 0) ∧ ∃ g, r = .error g ∧ S' 0 9 = g) ∨ (v = some (.int 1) ∧ ∃ q1 x c1, r = .ok (sk T N q1, x, c1) ∧ kq1 S' T N t q1 c1 (l ++ flq x) ∧ S' 5 t = nI (i + 1) ∧ (∀ j, j < 48 * t + 4 * i → S' 4 j = S 4 j) ∧ krw S' t i l.length x ∧ (l ++ flq x).length + 2 ≤ sk T N q1 ∧ S' 0 14 = S 0 14))) := by
  refine SX.intro [some (.ref 384), none] (by decide +kernel) (Nat.le_of_ble_eq_true rfl) rfl (fun E hE hQ => ?_)
  have hwt0 := wd_te hq.2.1 hlt
  have hte : te T N q = tru ltB T N q := hwt0.2.2
  have hle := let_te hq.2.1 hlt
  obtain ⟨m1, r1, hsm, h⟩ := hcl
  have k110 : ∀ (S7 : gS) (q7 c7 : Nat) (x : gCl), kfc t S S7 → kq1 S7 T N t q7 c7 (l ++ flq x) → S7 5 t = nI i → (∀ j, j < (48 * t + 4 * i) → S7 4 j = S 4 j) → S7 4 (48 * t + 4 * i) = nI l.length → S7 4 ((48 * t + 4 * i) + 1) = nI (l.length + x.1.length) → (x.2 = none → S7 4 ((48 * t + 4 * i) + 2) = -1) → (∀ y, x.2 = some y → S7 4 ((48 * t + 4 * i) + 2) = nI (l.length + x.1.length)) → r = .ok (sk T N q7, x, c7) → (l ++ flq x).length + 2 ≤ sk T N q7 → S7 0 14 = S 0 14 → RX E mX11_isLetHere.2.2.1 0 0 110 [some (.ref 384), some (.int (nI (48 * t + 4 * i)))] [] (kp M S7 L) := by
    intro S7 q7 c7 x f7 q7k h5 h4 h40 h41 h42 h43 hr hlb h14
    refine rx_aload_n hE dX11_isLetHere_110 (i := 0) rfl rfl ?_
    refine rx_getf hE dX11_isLetHere_111 fl_X11_20_10 (kp_o hM) rfl ?_
    refine rx_iload_n hE dX11_isLetHere_114 (i := 1) rfl rfl ?_
    refine rx_iconst hE dX11_isLetHere_115 (v := 3) (by decide) ?_
    refine rx_iadd hE dX11_isLetHere_116 ?_
    refine rx_int _ (nI (48 * t + 4 * i + 3)) (nI_add _ _) ?_
    refine rx_aload_n hE dX11_isLetHere_117 (i := 0) rfl rfl ?_
    refine rx_getf hE dX11_isLetHere_118 fl_X11_17_10 (kp_o hM) rfl ?_
    refine rx_aload_n hE dX11_isLetHere_121 (i := 0) rfl rfl ?_
    refine rx_getf hE dX11_isLetHere_122 fl_X11_158_10 (kp_o hM) rfl ?_
    refine rx_int _ (nI t) q7k.2.2.2.2.1 ?_
    refine rx_ialdN (i := t) hE dX11_isLetHere_125 (kp_3 hM) (by omega) (by decide) ?_
    refine rx_int _ (nI (l ++ flq x).length) q7k.2.2.2.2.2.2.1 ?_
    refine rx_iastN (i := (48 * t + 4 * i) + 3) hE dX11_isLetHere_126 (kp_4 hM) (by omega) (by decide) ?_
    refine rx_mem (M' := kp M (k_s S7 4 (upd (S7 4) ((48 * t + 4 * i) + 3) (nI (l ++ flq x).length))) L) kw_4 ?_
    refine rx_aload_n hE dX11_isLetHere_127 (i := 0) rfl rfl ?_
    refine rx_getf hE dX11_isLetHere_128 fl_X11_23_10 (kp_o hM) rfl ?_
    refine rx_aload_n hE dX11_isLetHere_131 (i := 0) rfl rfl ?_
    refine rx_getf hE dX11_isLetHere_132 fl_X11_158_10 (kp_o hM) rfl ?_
    refine rx_int _ (nI t) q7k.2.2.2.2.1 ?_
    refine rx_dup2 hE dX11_isLetHere_135 rfl rfl ?_
    refine rx_ialdN (i := t) hE dX11_isLetHere_136 (kp_5 hM) (by omega) (by decide) ?_
    refine rx_int _ (nI i) h5 ?_
    refine rx_iconst hE dX11_isLetHere_137 (v := 1) (by decide) ?_
    refine rx_iadd hE dX11_isLetHere_138 ?_
    refine rx_int _ (nI (i + 1)) (nI_1 i) ?_
    refine rx_iastN (i := t) hE dX11_isLetHere_139 (kp_5 hM) (by omega) (by decide) ?_
    refine rx_mem (M' := kp M (k_s (k_s S7 4 (upd (S7 4) ((48 * t + 4 * i) + 3) (nI (l ++ flq x).length))) 5 (upd (S7 5) t (nI (i + 1)))) L) kw_5 ?_
    refine rx_iconst hE dX11_isLetHere_140 (v := 1) (by decide) ?_
    exact rx_tret hE hQ rfl rfl dX11_isLetHere_141 ⟨(k_s (k_s S7 4 (upd (S7 4) ((48 * t + 4 * i) + 3) (nI (l ++ flq x).length))) 5 (upd (S7 5) t (nI (i + 1)))), rfl, f7.trans ((kfc.s4 t S7 (by omega) _).trans (kfc.s5 t _ _)), Or.inr ⟨rfl, q7, x, c7, hr, q7k, upd_e0 _ _ _, fun j hj => (upd_n0 _ _ (by omega)).trans (h4 j hj), ⟨(upd_n0 _ _ (by omega)).trans h40, (upd_n0 _ _ (by omega)).trans h41, fun z => (upd_n0 _ _ (by omega)).trans (h42 z), fun y z => ⟨(upd_n0 _ _ (by omega)).trans (h43 y z), (upd_e0 _ _ _).trans (by unfold flq; rw [z, List.length_append, List.length_append]; show nI (l.length + (x.1.length + y.length)) = _; rw [Nat.add_assoc])⟩⟩, hlb, h14⟩⟩
  refine rx_aload_n hE dX11_isLetHere_0 (i := 0) rfl rfl ?_
  refine rx_call0 (rx_callV (av := []) hE dX11_isLetHere_1 lk_X11_117 (c_X11_passWordQ hM hN hq) (kp_o hM) np_X11_passWord rfl rfl (by decide) (Nat.le_of_ble_eq_true rfl) rfl ?_)
  rintro v M' ⟨rfl, S1, rfl, f1, q1⟩
  rw [← hte] at q1
  refine rx_bipush hE dX11_isLetHere_4 (v := 48) (by decide) ?_
  refine rx_aload_n hE dX11_isLetHere_6 (i := 0) rfl rfl ?_
  refine rx_getf hE dX11_isLetHere_7 fl_X11_158_10 (kp_o hM) rfl ?_
  refine rx_int _ (nI t) q1.2.2.2.2.1 ?_
  refine rx_imul hE dX11_isLetHere_10 ?_
  refine rx_int _ (nI (48 * t)) (pk_mul 48 t) ?_
  refine rx_iconst hE dX11_isLetHere_11 (v := 4) (by decide) ?_
  refine rx_aload_n hE dX11_isLetHere_12 (i := 0) rfl rfl ?_
  refine rx_getf hE dX11_isLetHere_13 fl_X11_23_10 (kp_o hM) rfl ?_
  refine rx_aload_n hE dX11_isLetHere_16 (i := 0) rfl rfl ?_
  refine rx_getf hE dX11_isLetHere_17 fl_X11_158_10 (kp_o hM) rfl ?_
  refine rx_int _ (nI t) q1.2.2.2.2.1 ?_
  refine rx_ialdN (i := t) hE dX11_isLetHere_20 (kp_5 hM) (by omega) (by decide) ?_
  refine rx_int _ (nI i) ((congrFun (f1.1 5 (by decide) (by decide) (by decide)) t).trans h5) ?_
  refine rx_imul hE dX11_isLetHere_21 ?_
  refine rx_int _ (nI (4 * i)) (pk_mul 4 i) ?_
  refine rx_iadd hE dX11_isLetHere_22 ?_
  refine rx_int _ (nI (48 * t + 4 * i)) (nI_add _ _) ?_
  refine rx_istore_n_1 hE dX11_isLetHere_23 (by decide) rfl ?_
  refine rx_aload_n hE dX11_isLetHere_24 (i := 0) rfl rfl ?_
  refine rx_getf hE dX11_isLetHere_25 fl_X11_20_10 (kp_o hM) rfl ?_
  refine rx_iload_n hE dX11_isLetHere_28 (i := 1) rfl rfl ?_
  refine rx_aload_n hE dX11_isLetHere_29 (i := 0) rfl rfl ?_
  refine rx_getf hE dX11_isLetHere_30 fl_X11_17_10 (kp_o hM) rfl ?_
  refine rx_aload_n hE dX11_isLetHere_33 (i := 0) rfl rfl ?_
  refine rx_getf hE dX11_isLetHere_34 fl_X11_158_10 (kp_o hM) rfl ?_
  refine rx_int _ (nI t) q1.2.2.2.2.1 ?_
  refine rx_ialdN (i := t) hE dX11_isLetHere_37 (kp_3 hM) (by omega) (by decide) ?_
  refine rx_int _ (nI l.length) q1.2.2.2.2.2.2.1 ?_
  refine rx_iastN (i := (48 * t + 4 * i)) hE dX11_isLetHere_38 (kp_4 hM) (by omega) (by decide) ?_
  refine rx_mem (M' := kp M (k_s S1 4 (upd (S1 4) (48 * t + 4 * i) (nI l.length))) L) kw_4 ?_
  have q2 : kq1 (k_s S1 4 (upd (S1 4) (48 * t + 4 * i) (nI l.length))) T N t (te T N q) c l := q1
  have fS2 : kfc t S (k_s S1 4 (upd (S1 4) (48 * t + 4 * i) (nI l.length))) := f1.c.trans (kfc.s4 t S1 (by omega) _)
  refine rx_aload_n hE dX11_isLetHere_39 (i := 0) rfl rfl ?_
  refine rx_call0 (rx_callV (av := []) hE dX11_isLetHere_40 lk_X11_195 (c_X11_sum (S := (k_s S1 4 (upd (S1 4) (48 * t + 4 * i) (nI l.length)))) (l0 := l) (r := r1) (m := m1) hM hN hb ht q2 hsm (by show l.length + 3 ≤ nx T N q; omega)) (kp_o hM) np_X11_sum rfl rfl (by decide) (Nat.le_of_ble_eq_true rfl) rfl ?_)
  rintro v M' ⟨S3, rfl, f3, hv⟩
  rcases hv with ⟨rfl, g, hg, e9⟩ | ⟨rfl, q3, l3, c3, hr3, q3k, hl3⟩
  · skip
    refine rx_if_ne (tgt := 48) hE dX11_isLetHere_43 (by decide) (fun c43 => absurd rfl c43) (fun c43 => ?_)
    refine rx_iconst hE dX11_isLetHere_46 (v := 0) (by decide) ?_
    exact rx_tret hE hQ rfl rfl dX11_isLetHere_47 ⟨S3, rfl, fS2.trans f3.c, Or.inl ⟨rfl, g, (by
        rcases h with ⟨g', h3, h4⟩ | ⟨p1', l1', c1', h3, _⟩
        · rw [hg] at h3
          injection h3 with h3
          rw [h4, h3]
        · rw [hg] at h3
          exact absurd h3 (by simp)), e9⟩⟩
  · skip
    rcases h with ⟨g', h3, h4⟩ | ⟨p1', l1', c1', h3, h⟩
    · rw [hr3] at h3
      exact absurd h3 (by simp)
    rw [hr3] at h3
    injection h3 with h3
    injection h3 with z1 h3
    injection h3 with z2 z3
    subst z1 z2 z3
    have hp3N := (sk_le (T := T) q3k.2.1).2
    have hr6 : qwd T N (sk T N q3) 294 = 0 → r = .ok (sk T N q3, (l3, none), c3) := fun z => by
      rcases h with ⟨_, h4⟩ | ⟨h4, _⟩
      · exact h4
      · exact absurd z h4
    have hr7 : ¬ qwd T N (sk T N q3) 294 = 0 → ∃ m' r2, mtR T N m' false [] (nx T N (sk T N q3)) [] c3 r2 ∧ ((∃ g, r2 = .error g ∧ r = .error g) ∨ ∃ p2 l2 c2, r2 = .ok (p2, l2, c2) ∧ r = .ok (p2, (l3, some l2), c2)) := fun z => by
      rcases h with ⟨h4, _⟩ | ⟨_, h4⟩
      · exact absurd h4 z
      · exact h4
    refine rx_if_ne (tgt := 48) hE dX11_isLetHere_43 (by decide) (fun c43 => ?_) (fun c43 => absurd c43 (by decide))
    refine rx_aload_n hE dX11_isLetHere_48 (i := 0) rfl rfl ?_
    refine rx_getf hE dX11_isLetHere_49 fl_X11_20_10 (kp_o hM) rfl ?_
    refine rx_iload_n hE dX11_isLetHere_52 (i := 1) rfl rfl ?_
    refine rx_iconst hE dX11_isLetHere_53 (v := 1) (by decide) ?_
    refine rx_iadd hE dX11_isLetHere_54 ?_
    refine rx_int _ (nI (48 * t + 4 * i + 1)) (nI_add _ _) ?_
    refine rx_aload_n hE dX11_isLetHere_55 (i := 0) rfl rfl ?_
    refine rx_getf hE dX11_isLetHere_56 fl_X11_17_10 (kp_o hM) rfl ?_
    refine rx_aload_n hE dX11_isLetHere_59 (i := 0) rfl rfl ?_
    refine rx_getf hE dX11_isLetHere_60 fl_X11_158_10 (kp_o hM) rfl ?_
    refine rx_int _ (nI t) q3k.2.2.2.2.1 ?_
    refine rx_ialdN (i := t) hE dX11_isLetHere_63 (kp_3 hM) (by omega) (by decide) ?_
    refine rx_int _ (nI (l ++ l3).length) q3k.2.2.2.2.2.2.1 ?_
    refine rx_iastN (i := (48 * t + 4 * i) + 1) hE dX11_isLetHere_64 (kp_4 hM) (by omega) (by decide) ?_
    refine rx_mem (M' := kp M (k_s S3 4 (upd (S3 4) ((48 * t + 4 * i) + 1) (nI (l ++ l3).length))) L) kw_4 ?_
    refine rx_aload_n hE dX11_isLetHere_65 (i := 0) rfl rfl ?_
    refine rx_getf hE dX11_isLetHere_66 fl_X11_20_10 (kp_o hM) rfl ?_
    refine rx_iload_n hE dX11_isLetHere_69 (i := 1) rfl rfl ?_
    refine rx_iconst hE dX11_isLetHere_70 (v := 2) (by decide) ?_
    refine rx_iadd hE dX11_isLetHere_71 ?_
    refine rx_int _ (nI (48 * t + 4 * i + 2)) (nI_add _ _) ?_
    refine rx_iconst hE dX11_isLetHere_72 (v := -1) (by decide) ?_
    refine rx_iastN (i := (48 * t + 4 * i) + 2) hE dX11_isLetHere_73 (kp_4 hM) (by omega) (by decide) ?_
    obtain ⟨S5, hS5, fS5, q5, h55, h540, h541, h542, h54, h514⟩ : ∃ S5, kp M (k_s (k_s S3 4 (upd (S3 4) ((48 * t + 4 * i) + 1) (nI (l ++ l3).length))) 4 (upd ((k_s S3 4 (upd (S3 4) ((48 * t + 4 * i) + 1) (nI (l ++ l3).length))) 4) ((48 * t + 4 * i) + 2) (-1))) L = kp M S5 L ∧ kfc t S S5 ∧ kq1 S5 T N t q3 c3 (l ++ l3) ∧ S5 5 t = nI i ∧ S5 4 (48 * t + 4 * i) = nI l.length ∧ S5 4 ((48 * t + 4 * i) + 1) = nI (l.length + l3.length) ∧ S5 4 ((48 * t + 4 * i) + 2) = -1 ∧ (∀ j, j < (48 * t + 4 * i) → S5 4 j = S 4 j) ∧ S5 0 14 = S 0 14 := ⟨(k_s (k_s S3 4 (upd (S3 4) ((48 * t + 4 * i) + 1) (nI (l ++ l3).length))) 4 (upd ((k_s S3 4 (upd (S3 4) ((48 * t + 4 * i) + 1) (nI (l ++ l3).length))) 4) ((48 * t + 4 * i) + 2) (-1))), rfl, (fS2.trans (f3.c.trans ((kfc.s4 t S3 (k := (48 * t + 4 * i) + 1) (by omega) _).trans (kfc.s4 t _ (k := (48 * t + 4 * i) + 2) (by omega) _)))), q3k, ((congrFun (f3.1 5 (by decide) (by decide) (by decide)) t).trans ((congrFun (f1.1 5 (by decide) (by decide) (by decide)) t).trans h5)), ((upd_n0 _ _ (by omega)).trans ((upd_n0 _ _ (by omega)).trans ((congrFun (f3.1 4 (by decide) (by decide) (by decide)) _).trans (upd_e0 _ _ _)))), ((upd_n0 _ _ (by omega)).trans ((upd_e0 _ _ _).trans (by rw [List.length_append]))), upd_e0 _ _ _, (fun j hj => (upd_n0 _ _ (by omega)).trans ((upd_n0 _ _ (by omega)).trans ((congrFun (f3.1 4 (by decide) (by decide) (by decide)) j).trans ((upd_n0 _ _ (by omega)).trans (congrFun (f1.1 4 (by decide) (by decide) (by decide)) j))))), ((f3.2.1 14 (by decide) (by decide) (by decide) (by decide)).trans (f1.2.1 14 (by decide) (by decide) (by decide) (by decide)))⟩
    refine rx_mem (kw_4.trans hS5) ?_
    refine rx_aload_n hE dX11_isLetHere_74 (i := 0) rfl rfl ?_
    refine rx_ldc2 hE dX11_isLetHere_75 kl_X11_222 ?_
    refine rx_call0 (rx_callV (av := [.long 294]) hE dX11_isLetHere_78 lk_X11_224 (c_X11_takesWord (S := S5) hM hN q5.1.1 q5.1.2 q5.2.1 q5.2.2.1 294) (kp_o hM) np_X11_takesWord rfl rfl (by decide) (Nat.le_of_ble_eq_true rfl) rfl ?_)
    rintro v M' ⟨rfl, rfl⟩
    by_cases hif : qwd T N (sk T N q3) 294 = 0
    · rw [if_pos hif, if_pos hif]
      have q6 := q5.mv (q' := (sk T N q3)) hp3N
      refine rx_if_eq (tgt := 110) hE dX11_isLetHere_81 (by decide) (fun c81 => ?_) (fun c81 => absurd rfl c81)
      exact k110 (k_f S5 8 (nI (sk T N q3))) (sk T N q3) c3 (l3, none) (fS5.trans (kfc.f t S5 (i := 8) (by omega) _)) (by rw [show l ++ flq (l3, none) = l ++ l3 by unfold flq; rw [show (none : Option gSg).getD [] = [] from rfl, List.append_nil]]; exact q6) h55 h54 h540 h541 (fun _ => h542) (fun y z => absurd z (by simp)) (by rw [sk_sk q3k.2.1]; exact hr6 hif) (by rw [sk_sk q3k.2.1, show l ++ flq (l3, none) = l ++ l3 by unfold flq; rw [show (none : Option gSg).getD [] = [] from rfl, List.append_nil], List.length_append]; omega) h514
    · rw [if_neg hif, if_neg hif]
      have hwt := wd_te hp3N hif
      have hnx3 := nx_lt (T := T) hwt.1
      have q6 := q5.mv (q' := tru ltB T N (sk T N q3)) (by rw [← hwt.2.2]; exact (te_le hp3N).2.1)
      obtain ⟨m2, r2, hmt2, h2⟩ := hr7 hif
      refine rx_if_eq (tgt := 110) hE dX11_isLetHere_81 (by decide) (fun c81 => absurd c81 (by decide)) (fun c81 => ?_)
      refine rx_aload_n hE dX11_isLetHere_84 (i := 0) rfl rfl ?_
      refine rx_getf hE dX11_isLetHere_85 fl_X11_20_10 (kp_o hM) rfl ?_
      refine rx_iload_n hE dX11_isLetHere_88 (i := 1) rfl rfl ?_
      refine rx_iconst hE dX11_isLetHere_89 (v := 2) (by decide) ?_
      refine rx_iadd hE dX11_isLetHere_90 ?_
      refine rx_int _ (nI (48 * t + 4 * i + 2)) (nI_add _ _) ?_
      refine rx_aload_n hE dX11_isLetHere_91 (i := 0) rfl rfl ?_
      refine rx_getf hE dX11_isLetHere_92 fl_X11_17_10 (kp_o hM) rfl ?_
      refine rx_aload_n hE dX11_isLetHere_95 (i := 0) rfl rfl ?_
      refine rx_getf hE dX11_isLetHere_96 fl_X11_158_10 (kp_o hM) rfl ?_
      refine rx_int _ (nI t) q6.2.2.2.2.1 ?_
      refine rx_ialdN (i := t) hE dX11_isLetHere_99 (kp_3 hM) (by omega) (by decide) ?_
      refine rx_int _ (nI (l ++ l3).length) q6.2.2.2.2.2.2.1 ?_
      refine rx_iastN (i := (48 * t + 4 * i) + 2) hE dX11_isLetHere_100 (kp_4 hM) (by omega) (by decide) ?_
      obtain ⟨S7, hS7, fS7, q7, h75, h740, h741, h742, h74, h714⟩ : ∃ S7, kp M (k_s (k_f S5 8 (nI (tru ltB T N (sk T N q3)))) 4 (upd ((k_f S5 8 (nI (tru ltB T N (sk T N q3)))) 4) ((48 * t + 4 * i) + 2) (nI (l ++ l3).length))) L = kp M S7 L ∧ kfc t S S7 ∧ kq1 S7 T N t (te T N (sk T N q3)) c3 (l ++ l3) ∧ S7 5 t = nI i ∧ S7 4 (48 * t + 4 * i) = nI l.length ∧ S7 4 ((48 * t + 4 * i) + 1) = nI (l.length + l3.length) ∧ S7 4 ((48 * t + 4 * i) + 2) = nI (l.length + l3.length) ∧ (∀ j, j < (48 * t + 4 * i) → S7 4 j = S 4 j) ∧ S7 0 14 = S 0 14 := ⟨(k_s (k_f S5 8 (nI (tru ltB T N (sk T N q3)))) 4 (upd ((k_f S5 8 (nI (tru ltB T N (sk T N q3)))) 4) ((48 * t + 4 * i) + 2) (nI (l ++ l3).length))), rfl, (fS5.trans (kfc.f t S5 (i := 8) (by omega) _)).trans (kfc.s4 t _ (k := (48 * t + 4 * i) + 2) (by omega) _), by rw [hwt.2.2]; exact q6, h55, (upd_n0 _ _ (by omega)).trans h540, (upd_n0 _ _ (by omega)).trans h541, (upd_e0 _ _ _).trans (by rw [List.length_append]), fun j hj => (upd_n0 _ _ (by omega)).trans (h54 j hj), h514⟩
      refine rx_mem (kw_4.trans hS7) ?_
      refine rx_aload_n hE dX11_isLetHere_101 (i := 0) rfl rfl ?_
      refine rx_call0 (rx_callV (av := []) hE dX11_isLetHere_102 lk_X11_227 (c_X11_tested (S := S7) (l0 := l ++ l3) (r := r2) (m := m2) hM hN hb ht q7 hmt2 (by rw [List.length_append, show sk T N (te T N (sk T N q3)) = nx T N (sk T N q3) from rfl]; omega)) (kp_o hM) np_X11_tested rfl rfl (by decide) (Nat.le_of_ble_eq_true rfl) rfl ?_)
      rintro v M' ⟨S8, rfl, f8, hv⟩
      rcases hv with ⟨rfl, g, hg, e9⟩ | ⟨rfl, q8, l8, c8, hr8, q8k, hl8⟩
      · skip
        refine rx_if_ne (tgt := 110) hE dX11_isLetHere_105 (by decide) (fun c105 => absurd rfl c105) (fun c105 => ?_)
        refine rx_iconst hE dX11_isLetHere_108 (v := 0) (by decide) ?_
        exact rx_tret hE hQ rfl rfl dX11_isLetHere_109 ⟨S8, rfl, fS7.trans f8.c, Or.inl ⟨rfl, g, (by
            rcases h2 with ⟨g', h3, h4⟩ | ⟨p1', l1', c1', h3, _⟩
            · rw [hg] at h3
              injection h3 with h3
              rw [h4, h3]
            · rw [hg] at h3
              exact absurd h3 (by simp)), e9⟩⟩
      · skip
        refine rx_if_ne (tgt := 110) hE dX11_isLetHere_105 (by decide) (fun c105 => ?_) (fun c105 => absurd c105 (by decide))
        exact k110 S8 q8 c8 (l3, some l8) (fS7.trans f8.c) (by rw [show l ++ flq (l3, some l8) = l ++ l3 ++ l8 from (List.append_assoc _ _ _).symm]; exact q8k) ((congrFun (f8.1 5 (by decide) (by decide) (by decide) (by decide)) t).trans h75) (fun j hj => (congrFun (f8.1 4 (by decide) (by decide) (by decide) (by decide)) _).trans (h74 j hj)) ((congrFun (f8.1 4 (by decide) (by decide) (by decide) (by decide)) _).trans h740) ((congrFun (f8.1 4 (by decide) (by decide) (by decide) (by decide)) _).trans h741) (fun z => absurd z (by simp)) (fun y _ => (congrFun (f8.1 4 (by decide) (by decide) (by decide) (by decide)) _).trans h742) (by
            rcases h2 with ⟨g', h3, h4⟩ | ⟨p1', l1', c1', h3, h4⟩
            · rw [hr8] at h3
              exact absurd h3 (by simp)
            · rw [hr8] at h3
              injection h3 with h3
              injection h3 with z1 h3
              injection h3 with z2 z3
              subst z1 z2 z3
              exact h4) (by rw [show l ++ flq (l3, some l8) = l ++ l3 ++ l8 from (List.append_assoc _ _ _).symm, List.length_append]; omega) ((f8.2.1 14 (by decide) (by decide) (by decide) (by decide) (by decide) (by decide)).trans h714)
