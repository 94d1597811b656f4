/-! ===== the reference's rule ===== -/
theorem fls_at : ∀ (cl : List gCl) (c : Nat) (q : gCl), cl[c]? = some q → fls cl = fls (cl.take c) ++ (flq q ++ fls (cl.drop (c + 1)))
  | [], c, q, h => absurd h (by simp)
  | x :: cl, 0, q, h => by
    have e : x = q := by simpa using h
    subst e
    rfl
  | x :: cl, c + 1, q, h => by
    have e : cl[c]? = some q := by simpa using h
    show flq x ++ fls cl = (flq x ++ fls (cl.take c)) ++ _
    rw [fls_at cl c q e, List.append_assoc]
    rfl
theorem krel_of {S : gS} {t : Nat} {cl : List gCl} (h1 : kls S t (fls cl)) (h2 : kcr S t cl) (h3 : cl.length ≤ 12) (h4 : (fls cl).length ≤ 400) (hk : ∀ q ∈ cl, kct q) : krel S t cl := by
  refine ⟨h2.1, h3, fun c q hq => ?_, fun q hq => (hk q hq).cw⟩
  obtain ⟨a1, a2, a3, a4⟩ := h2.2 c q hq
  have e := fls_at cl c q hq
  have hlen : (fls cl).length = (fls (cl.take c)).length + (q.1.length + (q.2.getD []).length) + (fls (cl.drop (c + 1))).length := by
    rw [e, List.length_append, List.length_append, show flq q = q.1 ++ q.2.getD [] from rfl, List.length_append]
    omega
  have hget : ∀ j x, (q.1 ++ q.2.getD [])[j]? = some x → S 2 (400 * t + ((fls (cl.take c)).length + j)) = nI (x.1 + 16 * x.2) := fun j x hx => by
    refine h1.2 _ x ?_
    rw [e, List.getElem?_append_right (by omega), Nat.add_sub_cancel_left, show flq q = q.1 ++ q.2.getD [] from rfl, List.getElem?_append_left (List.getElem?_eq_some_iff.mp hx).1]
    exact hx
  refine ⟨(fls (cl.take c)).length, a1, a2, ⟨by omega, fun j x hx => hget j x ?_⟩, a3, fun y hy => ⟨(a4 y hy).1, (a4 y hy).2, ⟨by rw [hy] at hlen; show _ + (y.length) ≤ 400; have : ((some y : Option gSg).getD []).length = y.length := rfl; omega, fun j x hx => ?_⟩⟩⟩
  · rw [List.getElem?_append_left (List.getElem?_eq_some_iff.mp hx).1]
    exact hx
  · rw [show (fls (cl.take c)).length + q.1.length + j = (fls (cl.take c)).length + (q.1.length + j) by omega]
    refine hget _ x ?_
    rw [List.getElem?_append_right (by omega), Nat.add_sub_cancel_left, hy]
    exact hx
def kfe (t : Nat) (S S' : gS) : Prop := (∀ k, k ≠ 0 → k ≠ 2 → k ≠ 3 → k ≠ 4 → k ≠ 5 → k ≠ 7 → S' k = S k) ∧ (∀ i, i ≠ 1 → i ≠ 2 → i ≠ 8 → i ≠ 9 → i ≠ 10 → i ≠ 11 → i ≠ 12 → i ≠ 13 → i ≠ 14 → i ≠ 16 → S' 0 i = S 0 i) ∧ (∀ i, i < 400 * t → S' 2 i = S 2 i) ∧ (∀ i, i < 48 * t → S' 4 i = S 4 i) ∧ ∀ i, i ≠ t → S' 5 i = S 5 i
theorem kfd.e {t : Nat} {S S' : gS} (h : kfd t S S') : kfe t S S' := ⟨h.1, fun i a _ b c d _ e f g j => h.2.1 i a b c d e f g j, h.2.2.1, h.2.2.2.1, h.2.2.2.2⟩
theorem kfe.trans {t : Nat} {S S' S'' : gS} (h : kfe t S S') (h' : kfe t S' S'') : kfe t S S'' := ⟨fun k a b c d e f => (h'.1 k a b c d e f).trans (h.1 k a b c d e f), fun i a b c d e f g j k l => (h'.2.1 i a b c d e f g j k l).trans (h.2.1 i a b c d e f g j k l), fun i a => (h'.2.2.1 i a).trans (h.2.2.1 i a), fun i a => (h'.2.2.2.1 i a).trans (h.2.2.2.1 i a), fun i a => (h'.2.2.2.2 i a).trans (h.2.2.2.2 i a)⟩
theorem kfe.f (t : Nat) (S : gS) {i : Nat} (hi : i = 2 ∨ i = 11) (v : Int32) : kfe t S (k_f S i v) := ⟨fun k a _ _ _ _ _ => kf_row v a, fun j a b c d e f g h k l => kf_ne v (by omega), fun _ _ => by rw [kf_row v (by decide)], fun _ _ => by rw [kf_row v (by decide)], fun _ _ => by rw [kf_row v (by decide)]⟩
theorem kfe.s5 (t : Nat) (S : gS) (v : Int32) : kfe t S (k_s S 5 (upd (S 5) t v)) := (kfc.s5 t S v).d.e
set_option maxRecDepth 100000 in
set_option maxHeartbeats 1000000 in
theorem c_X11_ruleF {M : gM} {S : gS} {L : gLg} (hM : 408 ≤ M.1) {T : Nat → Int32} {N i : Nat} (hN : N ≤ 400) (hb : ∀ j, tb8 (T j)) (h1 : S 0 1 = nI N) (hbt : S 1 = T) (h2 : S 0 2 = nI i) (hi : i = 6) : SX 0 0 0 mX11_rule [.ref 384] (kp M S L) (fun v M' => v = some (.int (-1)) ∧ M' = kp M S L) := by
  refine SX.intro [some (.ref 384)] (by decide +kernel) (Nat.le_of_ble_eq_true rfl) rfl (fun E hE hQ => ?_)
  refine rx_aload_n hE dX11_rule_0 (i := 0) rfl rfl ?_
  refine rx_getf hE dX11_rule_1 fl_X11_267_10 (kp_o hM) rfl ?_
  refine rx_int _ (nI i) h2 ?_
  refine rx_bipush hE dX11_rule_4 (v := 6) (by decide) ?_
  refine rx_icmp_ne (tgt := 11) hE dX11_rule_6 (by decide) (fun c6 => absurd (by rw [hi]; rfl) c6) (fun c6 => ?_)
  refine rx_iconst hE dX11_rule_9 (v := -1) (by decide) ?_
  exact rx_iret hE hQ rfl dX11_rule_10 ⟨rfl, rfl⟩
set_option maxRecDepth 100000 in
set_option maxHeartbeats 1000000 in
theorem c_X11_rule {M : gM} {S : gS} {L : gLg} (hM : 408 ≤ M.1) {T : Nat → Int32} {N i : Nat} (hN : N ≤ 400) (hb : ∀ j, tb8 (T j)) (h1 : S 0 1 = nI N) (hbt : S 1 = T) (h2 : S 0 2 = nI i) (hi : i < 6) {m : Nat} {r : Except Int32 (List gCl)} (hrl : rlR T N m (sk T N 0) 0 0 [] r) (hne : ∀ g, r = .error g → ¬ g = 0) : SX 12 0 0 mX11_rule [.ref 384] (kp M S L) (fun v M' => ∃ S', M' = kp M S' L ∧ kfe i S S' ∧ S' 0 1 = 0 ∧ ((∃ g, r = .error g ∧ v = some (.int (-2 - g)) ∧ S' 0 2 = nI i) ∨ ∃ cl, r = .ok cl ∧ v = some (.int (nI i)) ∧ S' 0 2 = nI (i + 1) ∧ kls S' i (fls cl) ∧ kcr S' i cl ∧ cl.length ≤ 12 ∧ (fls cl).length ≤ 400)) := by
  refine SX.intro [some (.ref 384)] (by decide +kernel) (Nat.le_of_ble_eq_true rfl) rfl (fun E hE hQ => ?_)
  refine rx_aload_n hE dX11_rule_0 (i := 0) rfl rfl ?_
  refine rx_getf hE dX11_rule_1 fl_X11_267_10 (kp_o hM) rfl ?_
  refine rx_int _ (nI i) h2 ?_
  refine rx_bipush hE dX11_rule_4 (v := 6) (by decide) ?_
  refine rx_icmp_ne (tgt := 11) hE dX11_rule_6 (by decide) (fun c6 => ?_) (fun c6 => absurd (nI_inj (a := i) (b := 6) (by omega) (by decide) c6) (by omega))
  refine rx_aload_n hE dX11_rule_11 (i := 0) rfl rfl ?_
  refine rx_aload_n hE dX11_rule_12 (i := 0) rfl rfl ?_
  refine rx_getf hE dX11_rule_13 fl_X11_267_10 (kp_o hM) rfl ?_
  refine rx_int _ (nI i) h2 ?_
  refine rx_put hE dX11_rule_16 fl_X11_158_10 fw_10_11 (kp_o hM) (fun _ => rfl) (fun _ => rfl) (Nat.le_of_ble_eq_true rfl) ?_
  refine rx_mem (M' := kp M (k_f S 11 (nI i)) L) kw_c11 ?_
  refine rx_aload_n hE dX11_rule_19 (i := 0) rfl rfl ?_
  refine rx_getf hE dX11_rule_20 fl_X11_23_10 (kp_o hM) rfl ?_
  refine rx_aload_n hE dX11_rule_23 (i := 0) rfl rfl ?_
  refine rx_getf hE dX11_rule_24 fl_X11_158_10 (kp_o hM) rfl ?_
  refine rx_int _ (nI i) rfl ?_
  refine rx_iconst hE dX11_rule_27 (v := 0) (by decide) ?_
  refine rx_iastN (i := i) hE dX11_rule_28 (kp_5 hM) (by omega) (by decide) ?_
  refine rx_mem (M' := kp M (k_s (k_f S 11 (nI i)) 5 (upd ((k_f S 11 (nI i)) 5) i 0)) L) kw_5 ?_
  refine rx_aload_n hE dX11_rule_29 (i := 0) rfl rfl ?_
  refine rx_call0 (rx_callV (av := []) hE dX11_rule_30 lk_X11_270 (c_X11_readsAll (S := (k_s (k_f S 11 (nI i)) 5 (upd ((k_f S 11 (nI i)) 5) i 0))) (t := i) (r := r) hM hN hb hi h1 hbt rfl (upd_e0 _ _ _) hrl hne) (kp_o hM) np_X11_readsAll rfl rfl (by decide) (Nat.le_of_ble_eq_true rfl) rfl ?_)
  rintro v M' ⟨S3, rfl, f3, h31, hv⟩
  rcases hv with ⟨g, hr, rfl, e9⟩ | ⟨cl, hr, rfl, hkl, hcr, h12, h400⟩
  · skip
    refine rx_if_ne (tgt := 44) hE dX11_rule_33 (by decide) (fun c33 => absurd rfl c33) (fun c33 => ?_)
    refine rx_bipush hE dX11_rule_36 (v := -2) (by decide) ?_
    refine rx_aload_n hE dX11_rule_38 (i := 0) rfl rfl ?_
    refine rx_getf hE dX11_rule_39 fl_X11_99_10 (kp_o hM) rfl ?_
    refine rx_int _ g e9 ?_
    refine rx_isub hE dX11_rule_42 ?_
    exact rx_iret hE hQ rfl dX11_rule_43 ⟨S3, rfl, ((kfe.f i S (Or.inr rfl) _).trans (kfe.s5 i _ _)).trans f3.e, h31, Or.inl ⟨g, hr, rfl, (f3.2.1 2 (by decide) (by decide) (by decide) (by decide) (by decide) (by decide) (by decide) (by decide)).trans h2⟩⟩
  · skip
    refine rx_if_ne (tgt := 44) hE dX11_rule_33 (by decide) (fun c33 => ?_) (fun c33 => absurd c33 (by decide))
    refine rx_aload_n hE dX11_rule_44 (i := 0) rfl rfl ?_
    refine rx_dup hE dX11_rule_45 rfl ?_
    refine rx_getf hE dX11_rule_46 fl_X11_267_10 (kp_o hM) rfl ?_
    refine rx_int _ (nI i) ((f3.2.1 2 (by decide) (by decide) (by decide) (by decide) (by decide) (by decide) (by decide) (by decide)).trans h2) ?_
    refine rx_iconst hE dX11_rule_49 (v := 1) (by decide) ?_
    refine rx_iadd hE dX11_rule_50 ?_
    refine rx_int _ (nI (i + 1)) (nI_1 i) ?_
    refine rx_put hE dX11_rule_51 fl_X11_267_10 fw_10_2 (kp_o hM) (fun _ => rfl) (fun _ => rfl) (Nat.le_of_ble_eq_true rfl) ?_
    refine rx_mem (M' := kp M (k_f S3 2 (nI (i + 1))) L) kw_c2 ?_
    refine rx_aload_n hE dX11_rule_54 (i := 0) rfl rfl ?_
    refine rx_getf hE dX11_rule_55 fl_X11_267_10 (kp_o hM) rfl ?_
    refine rx_int _ (nI (i + 1)) rfl ?_
    refine rx_iconst hE dX11_rule_58 (v := 1) (by decide) ?_
    refine rx_isub hE dX11_rule_59 ?_
    refine rx_int _ (nI i) (sA_eq i) ?_
    exact rx_iret hE hQ rfl dX11_rule_60 ⟨(k_f S3 2 (nI (i + 1))), rfl, (((kfe.f i S (Or.inr rfl) _).trans (kfe.s5 i _ _)).trans f3.e).trans (kfe.f i S3 (Or.inl rfl) _), h31, Or.inr ⟨cl, hr, rfl, rfl, hkl, hcr, h12, h400⟩⟩
