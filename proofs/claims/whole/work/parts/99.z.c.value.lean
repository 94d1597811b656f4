/-! ===== the reference reads a rule: t its number, q the place, c what is made, l the signs put ===== -/
def kls (S : gS) (t : Nat) (l : gSg) : Prop := S 3 t = nI l.length ∧ ∀ j x, l[j]? = some x → S 2 (400 * t + j) = nI (x.1 + 16 * x.2)
def kq1 (S : gS) (T : Nat → Int32) (N t q c : Nat) (l : gSg) : Prop := (S 0 1 = nI N ∧ S 1 = T) ∧ q ≤ N ∧ S 0 8 = nI q ∧ S 0 9 = 0 ∧ S 0 11 = nI t ∧ (S 0 12 = nI c ∧ c ≤ 60) ∧ kls S t l
def kfr (t : Nat) (S S' : gS) : Prop := (∀ k, k ≠ 0 → k ≠ 2 → k ≠ 3 → S' k = S k) ∧ (∀ i, i ≠ 8 → i ≠ 9 → i ≠ 10 → i ≠ 12 → S' 0 i = S 0 i) ∧ ∀ i, i < 400 * t → S' 2 i = S 2 i
theorem kfr.refl (t : Nat) (S : gS) : kfr t S S := ⟨fun _ _ _ _ => rfl, fun _ _ _ _ _ => rfl, fun _ _ => rfl⟩
theorem kfr.trans {t : Nat} {S S' S'' : gS} (h : kfr t S S') (h' : kfr t S' S'') : kfr t S S'' := ⟨fun k a b c => (h'.1 k a b c).trans (h.1 k a b c), fun i a b c d => (h'.2.1 i a b c d).trans (h.2.1 i a b c d), fun i a => (h'.2.2 i a).trans (h.2.2 i a)⟩
theorem kf_ne {S : gS} {i j : Nat} (v : Int32) (h : j ≠ i) : k_f S i v 0 j = S 0 j := by
  show (if (0 : Nat) = 0 then upd (S 0) i v else S 0) j = S 0 j
  rw [if_pos rfl]
  exact if_neg h
theorem kf_row {S : gS} {i k : Nat} (v : Int32) (h : k ≠ 0) : k_f S i v k = S k := if_neg h
theorem kfr.f (t : Nat) (S : gS) {i : Nat} (hi : i = 8 ∨ i = 9 ∨ i = 10 ∨ i = 12) (v : Int32) : kfr t S (k_f S i v) := ⟨fun k a _ _ => kf_row v a, fun j a b c d => kf_ne v (by omega), fun _ _ => by rw [kf_row v (by decide)]⟩
theorem kfr.no {t : Nat} {S S' : gS} (h : kno S S') : kfr t S S' := ⟨fun k a _ _ => h.1 k a, fun i a b c _ => h.2 i a b c, fun i _ => by rw [h.1 2 (by decide)]⟩
theorem kq1.mv {S : gS} {T : Nat → Int32} {N t q c : Nat} {l : gSg} (h : kq1 S T N t q c l) {q' : Nat} (hq : q' ≤ N) : kq1 (k_f S 8 (nI q')) T N t q' c l := ⟨h.1, hq, rfl, h.2.2.2.1, h.2.2.2.2.1, h.2.2.2.2.2.1, h.2.2.2.2.2.2⟩
section KQ
variable {M : gM} {S : gS} {L : gLg} {T : Nat → Int32} {N t q c : Nat} {l : gSg}
theorem c_X11_seeQ (hM : 408 ≤ M.1) (hN : N ≤ 400) (hq : kq1 S T N t q c l) : SX 0 0 0 mX11_see [.ref 384] (kp M S L) (fun v M' => v = some (.int (if sk T N q < N then T (sk T N q) &&& 255 else -1)) ∧ M' = kp M (k_f S 8 (nI (sk T N q))) L) := c_X11_see hM hN hq.1.1 hq.1.2 hq.2.1 hq.2.2.1
theorem c_X11_failsQ (hM : 408 ≤ M.1) (h9 : S 0 9 = 0) (p w : Nat) : SX 0 0 0 mX11_fails [.ref 384, .int (nI w), .int (nI p)] (kp M S L) (fun v M' => v = some (.int 0) ∧ ∃ S', M' = kp M S' L ∧ kfr t S S' ∧ S' 0 9 = fE p (nI w)) := by
  refine SX.weaken (c_X11_fails hM (nI w) (nI p)) (fun v M' h => ?_)
  obtain ⟨rfl, rfl⟩ := h
  rw [if_pos h9]
  exact ⟨rfl, _, rfl, kfr.f t S (by omega) _, rfl⟩
theorem c_X11_makesQ (hM : 408 ≤ M.1) (hq : kq1 S T N t q c l) (p : Nat) : SX 1 0 0 mX11_makes [.ref 384, .int (nI p)] (kp M S L) (fun v M' => ∃ S', M' = kp M S' L ∧ kfr t S S' ∧ ((c = 60 ∧ v = some (.int 0) ∧ S' 0 9 = fE p (nI 3)) ∨ (c < 60 ∧ v = some (.int 1) ∧ S' = k_f S 12 (nI (c + 1)) ∧ kq1 S' T N t q (c + 1) l))) := by
  have hc := hq.2.2.2.2.2.1.2
  refine SX.weaken (c_X11_makes hM hc hq.2.2.2.2.2.1.1 (nI p)) (fun v M' h => ?_)
  obtain ⟨rfl, rfl⟩ := h
  by_cases e : c = 60
  · rw [if_pos e, if_pos e, if_pos hq.2.2.2.1]
    exact ⟨_, rfl, kfr.f t S (by omega) _, Or.inl ⟨e, rfl, rfl⟩⟩
  · rw [if_neg e, if_neg e]
    exact ⟨_, rfl, kfr.f t S (by omega) _, Or.inr ⟨by omega, rfl, rfl, hq.1, hq.2.1, hq.2.2.1, hq.2.2.2.1, hq.2.2.2.2.1, ⟨rfl, by omega⟩, hq.2.2.2.2.2.2⟩⟩
theorem kls_put {s w : Nat} (ht : t < 6) (h : kls S t l) (hl : l.length < 400) : kls (k_s (k_s S 2 (upd (S 2) (400 * t + l.length) (nI s + 16 * nI w))) 3 (upd (S 3) t (nI (l.length + 1)))) t (l ++ [(s, w)]) := by
  refine ⟨?_, fun j x hj => ?_⟩
  · show upd (S 3) t (nI (l.length + 1)) t = _
    rw [List.length_append]
    exact if_pos rfl
  · show upd (S 2) (400 * t + l.length) (nI s + 16 * nI w) (400 * t + j) = _
    unfold upd
    by_cases e : j = l.length
    · subst e
      rw [if_pos rfl]
      rw [List.getElem?_append_right (Nat.le_refl _), Nat.sub_self] at hj
      have hx : (s, w) = x := Option.some.inj hj
      subst hx
      rw [show (16 : Int32) = nI 16 from rfl, pk_mul, nI_add]
    · rw [if_neg (by omega)]
      have hl1 := (List.getElem?_eq_some_iff.mp hj).1
      rw [List.length_append] at hl1
      have hl2 : j < l.length := by
        have : [(s, w)].length = 1 := rfl
        omega
      rw [List.getElem?_append_left hl2] at hj
      exact h.2 j x hj
theorem kfr.put {s : Int32} {k : Nat} {v : Int32} : kfr t S (k_s (k_s S 2 (upd (S 2) (400 * t + k) s)) 3 (upd (S 3) t v)) := by
  refine ⟨fun i a b c => ?_, fun i _ _ _ _ => rfl, fun i hi => ?_⟩
  · show (if i = 3 then _ else (if i = 2 then _ else S i)) = S i
    rw [if_neg c, if_neg b]
  · show upd (S 2) (400 * t + k) s i = S 2 i
    exact if_neg (by omega)
theorem c_X11_putsQ (hM : 408 ≤ M.1) (ht : t < 6) (hq : kq1 S T N t q c l) (hl : l.length < 400) (s w : Nat) : SX 0 0 0 mX11_puts [.ref 384, .int (nI s), .int (nI w)] (kp M S L) (fun v M' => v = none ∧ ∃ S', M' = kp M S' L ∧ kfr t S S' ∧ kq1 S' T N t q c (l ++ [(s, w)])) := by
  refine SX.weaken (c_X11_puts hM ht hq.2.2.2.2.1 hl hq.2.2.2.2.2.2.1 (nI s) (nI w)) (fun v M' h => ?_)
  obtain ⟨rfl, rfl⟩ := h
  exact ⟨rfl, _, rfl, kfr.put, hq.1, hq.2.1, hq.2.2.1, hq.2.2.2.1, hq.2.2.2.2.1, hq.2.2.2.2.2.1, kls_put ht hq.2.2.2.2.2.2 hl⟩
theorem c_X11_passWordQ (hM : 408 ≤ M.1) (hN : N ≤ 400) (hq : kq1 S T N t q c l) : SX 1 0 0 mX11_passWord [.ref 384] (kp M S L) (fun v M' => v = none ∧ ∃ S', M' = kp M S' L ∧ kfr t S S' ∧ kq1 S' T N t (tru ltB T N q) c l) := by
  refine SX.weaken (c_X11_passWord hM hN hq.1.1 hq.1.2 hq.2.1 hq.2.2.1) (fun v M' h => ?_)
  obtain ⟨rfl, rfl⟩ := h
  exact ⟨rfl, _, rfl, kfr.f t S (by omega) _, hq.mv (tru_le hq.2.1).2.1⟩
theorem qwh_lt {p : Nat} : ¬ qwh T N p < 0 ↔ ¬ qwh T N p = -1 := by
  rcases qwh_is T N p with h | ⟨w, hw, h⟩
  · rw [h]
    decide
  · rw [h]
    exact ⟨fun _ => nI_m1 (by omega), fun _ => Int32.not_lt.mpr (nI_le (a := 0) (b := w) (by omega) (by omega))⟩
theorem qwh_tk {p : Nat} (hp : p ≤ N) (h : ¬ qwh T N p = -1) : tk T N p = 1 := by
  refine Classical.byContradiction (fun z => h ?_)
  unfold qwh
  simp only [qwd_no hp z, if_true]
theorem tk1_te {p : Nat} (h : tk T N p = 1) : te T N p = tru ltB T N p := by
  have z := tk_is1.mp h
  exact (tk_1 z.1 z.2).2
end KQ
set_option maxRecDepth 100000 in
set_option maxHeartbeats 1000000 in
theorem c_X11_value {M : gM} {S : gS} {L : gLg} (hM : 408 ≤ M.1) {T : Nat → Int32} {N t q c : Nat} {l : gSg} (hN : N ≤ 400) (hb : ∀ i, tb8 (T i)) (ht : t < 6) (hq : kq1 S T N t q c l) (hl : l.length < 400) : SX 3 0 0 mX11_value [.ref 384] (kp M S L) (fun v M' => ∃ S', M' = kp M S' L ∧ kfr t S S' ∧ ((∃ w, pvE T N (sk T N q) c w ∧ v = some (.int 0) ∧ S' 0 9 = fE (sk T N q) (nI w)) ∨ ∃ x, pvO T N (sk T N q) c x ∧ v = some (.int 1) ∧ kq1 S' T N t (te T N (sk T N q)) (c + 1) (l ++ [x]))) := by
  refine SX.intro [some (.ref 384), none, none] (by decide +kernel) (Nat.le_of_ble_eq_true rfl) rfl (fun E hE hQ => ?_)
  refine rx_aload_n hE dX11_value_0 (i := 0) rfl rfl ?_
  refine rx_call0 (rx_callV (av := []) hE dX11_value_1 lk_X11_105 (c_X11_seeQ hM hN hq) (kp_o hM) np_X11_see rfl rfl (by decide) (Nat.le_of_ble_eq_true rfl) rfl ?_)
  rintro v M' ⟨rfl, rfl⟩
  have q1 := hq.mv (sk_le (T := T) hq.2.1).2
  refine rx_pop hE dX11_value_4 rfl ?_
  refine rx_aload_n hE dX11_value_5 (i := 0) rfl rfl ?_
  refine rx_getf hE dX11_value_6 fl_X11_102_10 (kp_o hM) rfl ?_
  refine rx_int _ (nI (sk T N q)) rfl ?_
  refine rx_istore_n_1 hE dX11_value_9 (by decide) rfl ?_
  refine rx_aload_n hE dX11_value_10 (i := 0) rfl rfl ?_
  refine rx_aload_n hE dX11_value_11 (i := 0) rfl rfl ?_
  refine rx_getf hE dX11_value_12 fl_X11_102_10 (kp_o hM) rfl ?_
  refine rx_int _ (nI (sk T N q)) rfl ?_
  refine rx_call0 (rx_callV (av := [.int (nI (sk T N q))]) hE dX11_value_15 lk_X11_120 (c_X11_isDigit (S := (k_f S 8 (nI (sk T N q)))) hM hN q1.1.1 q1.1.2 (i := sk T N q) (by have := q1.2.1; omega)) (kp_o hM) np_X11_isDigit rfl rfl (by decide) (Nat.le_of_ble_eq_true rfl) rfl ?_)
  rintro v M' ⟨rfl, rfl⟩
  refine rx_if_eq (tgt := 52) hE dX11_value_18 (by decide) (fun c18 => ?_) (fun c18 => ?_)
  · have hd2 : ¬ tk T N (sk T N q) = 2 := fun z => absurd c18 (by rw [if_pos (tk_is2.mp z)]; decide)
    refine rx_aload_n hE dX11_value_52 (i := 0) rfl rfl ?_
    refine rx_call0 (rx_callV (av := []) hE dX11_value_53 lk_X11_185 (c_X11_wordHere hM hN q1.1.1 q1.1.2 q1.2.1 q1.2.2.1) (kp_o hM) np_X11_wordHere rfl rfl (by decide) (Nat.le_of_ble_eq_true rfl) rfl ?_)
    rw [sk_sk hq.2.1]
    rintro v M' ⟨rfl, rfl⟩
    have q2 := q1.mv (q' := sk T N q) q1.2.1
    refine rx_istore_n_2 hE dX11_value_56 (by decide) rfl ?_
    refine rx_iload_n hE dX11_value_57 (i := 2) rfl rfl ?_
    refine rx_if_ge (tgt := 68) hE dX11_value_58 (by decide) (fun c58 => ?_) (fun c58 => ?_)
    · have hqw : ¬ qwh T N (sk T N q) = -1 := qwh_lt.mp (Int32.not_lt.mpr c58)
      obtain ⟨xv, hxv, hxe⟩ := (qwh_is T N (sk T N q)).resolve_left hqw
      refine rx_aload_n hE dX11_value_68 (i := 0) rfl rfl ?_
      refine rx_iload_n hE dX11_value_69 (i := 1) rfl rfl ?_
      refine rx_call0 (rx_callV (av := [.int (nI (sk T N q))]) hE dX11_value_70 lk_X11_182 (c_X11_makesQ (S := (k_f (k_f S 8 (nI (sk T N q))) 8 (nI (sk T N q)))) hM q2 (sk T N q)) (kp_o hM) np_X11_makes rfl rfl (by decide) (Nat.le_of_ble_eq_true rfl) rfl ?_)
      rintro v M' ⟨S3, rfl, f3, hv⟩
      rcases hv with ⟨hc, rfl, e9⟩ | ⟨hc, rfl, hS3, q3⟩
      · skip
        refine rx_if_ne (tgt := 78) hE dX11_value_73 (by decide) (fun c73 => absurd rfl c73) (fun c73 => ?_)
        refine rx_iconst hE dX11_value_76 (v := 0) (by decide) ?_
        exact rx_tret hE hQ rfl rfl dX11_value_77 ⟨S3, rfl, (kfr.f t S (by omega) _).trans ((kfr.f t _ (by omega) _).trans f3), Or.inl ⟨3, Or.inr (Or.inr ⟨hc, Or.inr ⟨hd2, hqw⟩, rfl⟩), rfl, e9⟩⟩
      · skip
        refine rx_if_ne (tgt := 78) hE dX11_value_73 (by decide) (fun c73 => ?_) (fun c73 => absurd c73 (by decide))
        refine rx_aload_n hE dX11_value_78 (i := 0) rfl rfl ?_
        refine rx_call0 (rx_callV (av := []) hE dX11_value_79 lk_X11_117 (c_X11_passWordQ (S := S3) hM hN q3) (kp_o hM) np_X11_passWord rfl rfl (by decide) (Nat.le_of_ble_eq_true rfl) rfl ?_)
        rintro v M' ⟨rfl, S4, rfl, f4, q4⟩
        refine rx_aload_n hE dX11_value_82 (i := 0) rfl rfl ?_
        refine rx_iconst hE dX11_value_83 (v := 1) (by decide) ?_
        refine rx_iload_n hE dX11_value_84 (i := 2) rfl rfl ?_
        refine rx_int _ (nI xv) hxe ?_
        refine rx_call0 (rx_callV (av := [.int (nI 1), .int (nI xv)]) hE dX11_value_85 lk_X11_174 (c_X11_putsQ (S := S4) hM ht q4 hl 1 xv) (kp_o hM) np_X11_puts rfl rfl (by decide) (Nat.le_of_ble_eq_true rfl) rfl ?_)
        rintro v M' ⟨rfl, S5, rfl, f5, q5⟩
        refine rx_iconst hE dX11_value_88 (v := 1) (by decide) ?_
        exact rx_tret hE hQ rfl rfl dX11_value_89 ⟨S5, rfl, (kfr.f t S (by omega) _).trans ((kfr.f t _ (by omega) _).trans (f3.trans (f4.trans f5))), Or.inr ⟨(1, xv), ⟨hc, Or.inr ⟨hd2, rfl, hxv, hxe⟩⟩, rfl, by rw [tk1_te (qwh_tk q1.2.1 hqw)]; exact q5⟩⟩
    · have hqw : qwh T N (sk T N q) = -1 := Classical.byContradiction (fun z => c58 (Int32.not_lt.mp (qwh_lt.mpr z)))
      refine rx_aload_n hE dX11_value_61 (i := 0) rfl rfl ?_
      refine rx_iconst hE dX11_value_62 (v := 0) (by decide) ?_
      refine rx_iload_n hE dX11_value_63 (i := 1) rfl rfl ?_
      refine rx_call0 (rx_callV (av := [.int (nI 0), .int (nI (sk T N q))]) hE dX11_value_64 lk_X11_123 (c_X11_failsQ (t := t) hM q2.2.2.2.1 (sk T N q) 0) (kp_o hM) np_X11_fails rfl rfl (by decide) (Nat.le_of_ble_eq_true rfl) rfl ?_)
      rintro v M' ⟨rfl, S3, rfl, f3, e9⟩
      exact rx_tret hE hQ rfl rfl dX11_value_67 ⟨S3, rfl, (kfr.f t S (by omega) _).trans ((kfr.f t _ (by omega) _).trans f3), Or.inl ⟨0, Or.inl ⟨hd2, hqw, rfl⟩, rfl, e9⟩⟩
  · have hd2 : tk T N (sk T N q) = 2 := tk_is2.mpr (Classical.byContradiction (fun z => c18 (if_neg z)))
    refine rx_aload_n hE dX11_value_21 (i := 0) rfl rfl ?_
    refine rx_iconst hE dX11_value_22 (v := 0) (by decide) ?_
    refine rx_ldc hE dX11_value_23 k_X11_178 ?_
    refine rx_call0 (rx_callV (av := [.int 0, .int 99999]) hE dX11_value_25 lk_X11_179 (c_X11_numberHere hM hN q1.1.1 q1.1.2 q1.2.1 q1.2.2.1 0 99999) (kp_o hM) np_X11_numberHere rfl rfl (by decide) (Nat.le_of_ble_eq_true rfl) rfl ?_)
    rintro v M' ⟨S2, rfl, hno, hk⟩
    rw [sk_sk hq.2.1] at hk
    rcases hk with ⟨hg, rfl, e8, e9, e10⟩ | ⟨hg, rfl, e9⟩
    · have q2 : kq1 S2 T N t (te T N (sk T N q)) c l := ⟨⟨(hno.2 1 (by decide) (by decide) (by decide)).trans q1.1.1, (hno.1 1 (by decide)).trans q1.1.2⟩, (te_le q1.2.1).2.1, e8, e9.trans q1.2.2.2.1, (hno.2 11 (by decide) (by decide) (by decide)).trans q1.2.2.2.2.1, ⟨(hno.2 12 (by decide) (by decide) (by decide)).trans q1.2.2.2.2.2.1.1, q1.2.2.2.2.2.1.2⟩, by unfold kls; rw [hno.1 3 (by decide), hno.1 2 (by decide)]; exact q1.2.2.2.2.2.2⟩
      obtain ⟨h2, h5⟩ := tno5.mp hg
      obtain ⟨xv, hxv, hxe⟩ := num5 h2 h5
      refine rx_if_eq (tgt := 39) hE dX11_value_28 (by decide) (fun c28 => absurd c28 (by decide)) (fun c28 => ?_)
      refine rx_aload_n hE dX11_value_31 (i := 0) rfl rfl ?_
      refine rx_iload_n hE dX11_value_32 (i := 1) rfl rfl ?_
      refine rx_call0 (rx_callV (av := [.int (nI (sk T N q))]) hE dX11_value_33 lk_X11_182 (c_X11_makesQ (S := S2) hM q2 (sk T N q)) (kp_o hM) np_X11_makes rfl rfl (by decide) (Nat.le_of_ble_eq_true rfl) rfl ?_)
      rintro v M' ⟨S3, rfl, f3, hv⟩
      rcases hv with ⟨hc, rfl, e9⟩ | ⟨hc, rfl, hS3, q3⟩
      · skip
        refine rx_if_ne (tgt := 41) hE dX11_value_36 (by decide) (fun c36 => absurd rfl c36) (fun c36 => ?_)
        refine rx_iconst hE dX11_value_39 (v := 0) (by decide) ?_
        exact rx_tret hE hQ rfl rfl dX11_value_40 ⟨S3, rfl, ((kfr.f t S (by omega) _).trans (kfr.no hno)).trans f3, Or.inl ⟨3, Or.inr (Or.inr ⟨hc, Or.inl ⟨h2, h5⟩, rfl⟩), rfl, e9⟩⟩
      · skip
        refine rx_if_ne (tgt := 41) hE dX11_value_36 (by decide) (fun c36 => ?_) (fun c36 => absurd c36 (by decide))
        refine rx_aload_n hE dX11_value_41 (i := 0) rfl rfl ?_
        refine rx_iconst hE dX11_value_42 (v := 0) (by decide) ?_
        refine rx_aload_n hE dX11_value_43 (i := 0) rfl rfl ?_
        refine rx_getf hE dX11_value_44 fl_X11_127_10 (kp_o hM) rfl ?_
        refine rx_int _ (nI xv) (by rw [hS3, kf_ne _ (by decide), e10]; exact hxe) ?_
        refine rx_call0 (rx_callV (av := [.int (nI 0), .int (nI xv)]) hE dX11_value_47 lk_X11_174 (c_X11_putsQ (S := S3) hM ht q3 hl 0 xv) (kp_o hM) np_X11_puts rfl rfl (by decide) (Nat.le_of_ble_eq_true rfl) rfl ?_)
        rintro v M' ⟨rfl, S4, rfl, f4, q4⟩
        refine rx_iconst hE dX11_value_50 (v := 1) (by decide) ?_
        exact rx_tret hE hQ rfl rfl dX11_value_51 ⟨S4, rfl, ((kfr.f t S (by omega) _).trans (kfr.no hno)).trans (f3.trans f4), Or.inr ⟨(0, xv), ⟨hc, Or.inl ⟨h2, h5, rfl, hxv, hxe⟩⟩, rfl, q4⟩⟩
    · skip
      refine rx_if_eq (tgt := 39) hE dX11_value_28 (by decide) (fun c28 => ?_) (fun c28 => absurd rfl c28)
      refine rx_iconst hE dX11_value_39 (v := 0) (by decide) ?_
      exact rx_tret hE hQ rfl rfl dX11_value_40 ⟨S2, rfl, ((kfr.f t S (by omega) _).trans (kfr.no hno)), Or.inl ⟨1, Or.inr (Or.inl ⟨hd2, fun z => hg (tno5.mpr ⟨hd2, z⟩), rfl⟩), rfl, by rw [e9, if_pos hd2, show (k_f S 8 (nI (sk T N q))) 0 9 = 0 from hq.2.2.2.1, tfl_0]; rfl⟩⟩
