/-! ===== closes, fact, tested ===== -/
section KQ2
variable {M : gM} {S : gS} {L : gLg} {T : Nat → Int32} {N t p q c : Nat} {l : gSg} {O : List Nat}
theorem c_X11_isWordQ (hM : 408 ≤ M.1) (hN : N ≤ 400) (hq : kq1 S T N t q c l) (w : Int64) : SX 1 0 0 mX11_isWord [.ref 384, .long w] (kp M S L) (fun v M' => v = some (.int (qwd T N (sk T N q) w)) ∧ M' = kp M (k_f S 8 (nI (sk T N q))) L) := c_X11_isWord hM hN hq.1.1 hq.1.2 hq.2.1 hq.2.2.1 w
theorem c_X11_isWordZ (hM : 408 ≤ M.1) (hN : N ≤ 400) (hq : kq1 S T N t p c l) (hz : sk T N p = p) (w : Int64) : SX 1 0 0 mX11_isWord [.ref 384, .long w] (kp M S L) (fun v M' => v = some (.int (qwd T N p w)) ∧ M' = kp M S L) := by
  have h := c_X11_isWordQ (M := M) (L := L) hM hN hq w
  rw [hz, ← hq.2.2.1, k_f_id2] at h
  exact h
theorem c_X11_opensQ (hM : 408 ≤ M.1) (hq : kq1 S T N t p c l) (ho : kop S O) {x : Nat} (hx : x = 91 ∨ x = 11) (hd : dpO O ≤ 10) (hl : O.length < 400) : SX 1 0 0 mX11_opens [.ref 384, .int (nI x)] (kp M S L) (fun v M' => ∃ S', M' = kp M S' L ∧ kft t S S' ∧ ((dpO O = 10 ∧ v = some (.int 0) ∧ S' 0 9 = fE p (nI 2)) ∨ (dpO O < 10 ∧ v = some (.int 1) ∧ kq1 S' T N t p c l ∧ kop S' (x :: O)))) := by
  refine SX.weaken (c_X11_opens hM hd ho.2.2.1 hl ho.1 (nI x)) (fun v M' h => ?_)
  obtain ⟨rfl, rfl⟩ := h
  by_cases e : dpO O = 10
  · rw [if_pos e, if_pos e, if_pos hq.2.2.2.1]
    refine ⟨_, rfl, kft.f t S (by omega) _, Or.inl ⟨e, rfl, ?_⟩⟩
    show 1 + 8 * S 0 8 + 2 = _
    rw [hq.2.2.1]
    rfl
  · rw [if_neg e, if_neg e]
    refine ⟨_, rfl, (kft.f t S (by omega) _).trans ((kft.s7 t _ _).trans (kft.f t _ (by omega) _)), Or.inr ⟨by omega, rfl, ((hq.f (Or.inl rfl) _).s7 _).f (Or.inr rfl) _, kop_push ho (by omega) rfl rfl ?_⟩⟩
    show nI (dpO O + 1) = nI ((if x = 91 ∨ x = 11 then 1 else 0) + dpO O)
    rw [if_pos hx, Nat.add_comm]
end KQ2
set_option maxRecDepth 100000 in
set_option maxHeartbeats 1000000 in
theorem c_X11_closes {M : gM} {S : gS} {L : gLg} (hM : 408 ≤ M.1) {T : Nat → Int32} {N t q c : Nat} {l0 l : gSg} {O : List Nat} (hN : N ≤ 400) (hb : ∀ i, tb8 (T i)) (ht : t < 6) (hq : kq1 S T N t q c (l0 ++ l)) (ho : kop S O) (hl : l0.length + l.length + O.length + 3 ≤ sk T N q) {m : Nat} {r : gRs} (hmt : mtR T N m true O (sk T N q) l c r) : SX 2 0 0 mX11_closes [.ref 384] (kp M S L) (fun v M' => v = none ∧ ∃ S', M' = kp M S' L ∧ kft t S S' ∧ ∃ q' l' O' m', m' ≤ m ∧ kq1 S' T N t q' c (l0 ++ l') ∧ kop S' O' ∧ (lyL 3 O' = [] ∧ lyR 3 O' = O') ∧ mtR T N m' true O' (sk T N q') l' c r ∧ ¬ (sgn T N (sk T N q') 93 ∧ 91 ∈ O') ∧ l0.length + l'.length + O'.length + 3 ≤ sk T N q' ∧ dpO O' ≤ dpO O) := by
  refine SX.intro [some (.ref 384)] (by decide +kernel) (Nat.le_of_ble_eq_true rfl) rfl (fun E hE hQ => ?_)
  have hqN0 := (sk_le (T := T) hq.2.1).2
  have stp : ∀ (m1 : Nat), (∀ m2, m2 < m1 → ∀ (q1 : Nat) (l1 : gSg) (O1 : List Nat) (S1 : gS), m2 ≤ m → kft t S S1 → kq1 S1 T N t q1 c (l0 ++ l1) → kop S1 O1 → (lyL 3 O1 = [] ∧ lyR 3 O1 = O1) → mtR T N m2 true O1 (sk T N q1) l1 c r → l0.length + l1.length + O1.length + 3 ≤ sk T N q1 → dpO O1 ≤ dpO O → RX E mX11_closes.2.2.1 0 0 5 [some (.ref 384)] [] (kp M S1 L)) → ∀ (q1 : Nat) (l1 : gSg) (O1 : List Nat) (S1 : gS), m1 ≤ m → kft t S S1 → kq1 S1 T N t q1 c (l0 ++ l1) → kop S1 O1 → (lyL 3 O1 = [] ∧ lyR 3 O1 = O1) → mtR T N m1 true O1 (sk T N q1) l1 c r → l0.length + l1.length + O1.length + 3 ≤ sk T N q1 → dpO O1 ≤ dpO O → RX E mX11_closes.2.2.1 0 0 5 [some (.ref 384)] [] (kp M S1 L) := by
    intro m1 ih0 q1 l1 O1 S1 hmm fx q1k ho1 h3 hmt1 hl1 hdO
    have hq1N := (sk_le (T := T) q1k.2.1).2
    refine rx_aload_n hE dX11_closes_5 (i := 0) rfl rfl ?_
    refine rx_call0 (rx_callV (av := []) hE dX11_closes_6 lk_X11_105 (c_X11_seeQ hM hN q1k) (kp_o hM) np_X11_see rfl rfl (by decide) (Nat.le_of_ble_eq_true rfl) rfl ?_)
    rintro v M' ⟨rfl, rfl⟩
    have q2 := q1k.mv (sk_le (T := T) q1k.2.1).2
    have q1h := q1k.2.1
    have o2 := ho1.fr (t := t) (kfr.f t _ (i := 8) (by omega) (nI (sk T N q1)))
    have hp1N := q2.2.1
    refine rx_bipush hE dX11_closes_9 (v := 93) (by decide) ?_
    refine rx_icmp_ne (tgt := 64) hE dX11_closes_11 (by decide) (fun c11 => ?_) (fun c11 => ?_)
    · have hs93 : ¬ sgn T N (sk T N q1) 93 := fun z => c11 ((see_is hb (k := 93) (by decide)).mpr z)
      exact rx_vret hE hQ rfl dX11_closes_64 ⟨rfl, (k_f S1 8 (nI (sk T N q1))), rfl, fx.trans (kft.f t _ (by omega) _), sk T N q1, l1, O1, m1, hmm, q2, o2, h3, by rw [sk_sk q1h]; exact hmt1, by rw [sk_sk q1h]; exact (fun z => hs93 z.1), by rw [sk_sk q1h]; exact hl1, hdO⟩
    · have hs93 : sgn T N (sk T N q1) 93 := (see_is hb (k := 93) (by decide)).mp c11
      refine rx_aload_n hE dX11_closes_14 (i := 0) rfl rfl ?_
      refine rx_call0 (rx_callV (av := []) hE dX11_closes_15 lk_X11_209 (c_X11_insideQ hM o2 (by omega)) (kp_o hM) np_X11_isInside rfl rfl (by decide) (Nat.le_of_ble_eq_true rfl) rfl ?_)
      rintro v M' ⟨rfl, rfl⟩
      refine rx_if_eq (tgt := 64) hE dX11_closes_18 (by decide) (fun c18 => ?_) (fun c18 => ?_)
      · have hin : ¬ 91 ∈ O1 := fun z => absurd c18 (by rw [if_pos z]; decide)
        exact rx_vret hE hQ rfl dX11_closes_64 ⟨rfl, (k_f S1 8 (nI (sk T N q1))), rfl, fx.trans (kft.f t _ (by omega) _), sk T N q1, l1, O1, m1, hmm, q2, o2, h3, by rw [sk_sk q1h]; exact hmt1, by rw [sk_sk q1h]; exact (fun z => hin z.2), by rw [sk_sk q1h]; exact hl1, hdO⟩
      · have hin : 91 ∈ O1 := Classical.byContradiction (fun z => c18 (if_neg z))
        refine rx_aload_n hE dX11_closes_21 (i := 0) rfl rfl ?_
        refine rx_iconst hE dX11_closes_22 (v := 1) (by decide) ?_
        refine rx_call0 (rx_callV (av := [.int (nI 1)]) hE dX11_closes_23 lk_X11_206 (c_X11_layDown (S := (k_f S1 8 (nI (sk T N q1)))) hM ht q2 (k := 1) (by decide) (by decide) o2 (by simp only [List.length_append]; omega)) (kp_o hM) np_X11_layDown rfl rfl (by decide) (Nat.le_of_ble_eq_true rfl) rfl ?_)
        rintro v M' ⟨rfl, S3, rfl, f3, k3, o3⟩
        obtain ⟨O2, hO2⟩ := ly1_91 O1 ho1.2.2.2 hin
        rw [hO2] at o3
        have hly := ly_len 1 O1
        rw [hO2, List.length_cons] at hly
        obtain ⟨m2, hm2, hmt2⟩ : ∃ m2, m2 < m1 ∧ mtR T N m2 true O2 (nx T N (sk T N q1)) (l1 ++ lyL 1 O1) c r := by
          cases m1 with
          | zero => exact absurd hmt1 id
          | succ m2 =>
            rcases hmt1 with ⟨_, h⟩ | ⟨h, _⟩ | ⟨h, _⟩ | ⟨h, _⟩
            · rw [h3.1, h3.2, List.append_nil, hO2] at h
              exact ⟨m2, Nat.lt_succ_self _, h⟩
            · exact absurd ⟨hs93, hin⟩ h
            · exact absurd ⟨hs93, hin⟩ h
            · exact absurd ⟨hs93, hin⟩ h
        have hsk := nx_sg (k := 93) (by decide) hs93
        have hnx := nx_lt (T := T) hs93.1
        refine rx_aload_n hE dX11_closes_26 (i := 0) rfl rfl ?_
        refine rx_dup hE dX11_closes_27 rfl ?_
        refine rx_getf hE dX11_closes_28 fl_X11_167_10 (kp_o hM) rfl ?_
        refine rx_int _ (nI (91 :: O2).length) o3.1 ?_
        refine rx_iconst hE dX11_closes_31 (v := 1) (by decide) ?_
        refine rx_isub hE dX11_closes_32 ?_
        refine rx_int _ (nI O2.length) (by rw [List.length_cons]; exact sA_eq _) ?_
        refine rx_put hE dX11_closes_33 fl_X11_167_10 fw_10_16 (kp_o hM) (fun _ => rfl) (fun _ => rfl) (Nat.le_of_ble_eq_true rfl) ?_
        refine rx_mem (M' := kp M (k_f S3 16 (nI O2.length)) L) kw_c16 ?_
        refine rx_aload_n hE dX11_closes_36 (i := 0) rfl rfl ?_
        refine rx_dup hE dX11_closes_37 rfl ?_
        refine rx_getf hE dX11_closes_38 fl_X11_164_10 (kp_o hM) rfl ?_
        refine rx_int _ (nI (dpO O2 + 1)) (o3.2.2.1.trans (by show nI (1 + dpO O2) = _; rw [Nat.add_comm])) ?_
        refine rx_iconst hE dX11_closes_41 (v := 1) (by decide) ?_
        refine rx_isub hE dX11_closes_42 ?_
        refine rx_int _ (nI (dpO O2)) (sA_eq _) ?_
        refine rx_put hE dX11_closes_43 fl_X11_164_10 fw_10_13 (kp_o hM) (fun _ => rfl) (fun _ => rfl) (Nat.le_of_ble_eq_true rfl) ?_
        refine rx_mem (M' := kp M (k_f (k_f S3 16 (nI O2.length)) 13 (nI (dpO O2))) L) kw_c13 ?_
        refine rx_aload_n hE dX11_closes_46 (i := 0) rfl rfl ?_
        refine rx_dup hE dX11_closes_47 rfl ?_
        refine rx_getf hE dX11_closes_48 fl_X11_102_10 (kp_o hM) rfl ?_
        refine rx_int _ (nI (sk T N q1)) k3.2.2.1 ?_
        refine rx_iconst hE dX11_closes_51 (v := 1) (by decide) ?_
        refine rx_iadd hE dX11_closes_52 ?_
        refine rx_int _ (nI (sk T N q1 + 1)) (nI_1 _) ?_
        refine rx_put hE dX11_closes_53 fl_X11_102_10 fw_10_8 (kp_o hM) (fun _ => rfl) (fun _ => rfl) (Nat.le_of_ble_eq_true rfl) ?_
        refine rx_mem (M' := kp M (k_f (k_f (k_f S3 16 (nI O2.length)) 13 (nI (dpO O2))) 8 (nI (sk T N q1 + 1))) L) kw_c8 ?_
        have o5 : kop (k_f (k_f S3 16 (nI O2.length)) 13 (nI (dpO O2))) O2 := kop_pop o3 rfl rfl rfl
        have q6 := ((k3.f (Or.inr rfl) (nI O2.length)).f (Or.inl rfl) (nI (dpO O2))).mv (q' := sk T N q1 + 1) (by have := hs93.1; omega)
        have o6 : kop (k_f (k_f (k_f S3 16 (nI O2.length)) 13 (nI (dpO O2))) 8 (nI (sk T N q1 + 1))) O2 := o5.fr (t := t) (kfr.f t _ (by omega) _)
        refine rx_aload_n hE dX11_closes_56 (i := 0) rfl rfl ?_
        refine rx_iconst hE dX11_closes_57 (v := 3) (by decide) ?_
        refine rx_call0 (rx_callV (av := [.int (nI 3)]) hE dX11_closes_58 lk_X11_206 (c_X11_layDown (S := (k_f (k_f (k_f S3 16 (nI O2.length)) 13 (nI (dpO O2))) 8 (nI (sk T N q1 + 1)))) hM ht q6 (k := 3) (by decide) (by decide) o6 (by simp only [List.length_append]; have hN1 := (nx_le (T := T) (N := N) (p := sk T N q1) (by omega)).2; omega)) (kp_o hM) np_X11_layDown rfl rfl (by decide) (Nat.le_of_ble_eq_true rfl) rfl ?_)
        rintro v M' ⟨rfl, S7, rfl, f7, k7, o7⟩
        refine rx_goto (tgt := 5) hE dX11_closes_61 (by decide) ?_
        exact ih0 m2 hm2 _ _ _ _ (by omega) (fx.trans ((kft.f t _ (by omega) _).trans (f3.trans ((kft.f t _ (by omega) _).trans ((kft.f t _ (by omega) _).trans ((kft.f t _ (by omega) _).trans f7)))))) (by rw [List.append_assoc, List.append_assoc, ← List.append_assoc l1] at k7; exact k7) o7 (ly3_id O2) (by rw [hsk]; exact mt_ly3 hmt2) (by have hly3 := ly_len 3 O2; rw [hsk]; simp only [List.length_append]; omega) (by have d1 := ly_dp (k := 3) O2; have d2 := ly_dp (k := 1) O1; rw [hO2] at d2; have d3 : dpO (91 :: O2) = 1 + dpO O2 := rfl; omega)
  have l1 : ∀ (m1 : Nat), ∀ (q1 : Nat) (l1 : gSg) (O1 : List Nat) (S1 : gS), m1 ≤ m → kft t S S1 → kq1 S1 T N t q1 c (l0 ++ l1) → kop S1 O1 → (lyL 3 O1 = [] ∧ lyR 3 O1 = O1) → mtR T N m1 true O1 (sk T N q1) l1 c r → l0.length + l1.length + O1.length + 3 ≤ sk T N q1 → dpO O1 ≤ dpO O → RX E mX11_closes.2.2.1 0 0 5 [some (.ref 384)] [] (kp M S1 L) := fun m1 => Nat.strongRecOn m1 (fun m1 ih => stp m1 ih)
  refine rx_aload_n hE dX11_closes_0 (i := 0) rfl rfl ?_
  refine rx_iconst hE dX11_closes_1 (v := 3) (by decide) ?_
  refine rx_call0 (rx_callV (av := [.int (nI 3)]) hE dX11_closes_2 lk_X11_206 (c_X11_layDown (S := S) hM ht hq (k := 3) (by decide) (by decide) ho (by simp only [List.length_append]; omega)) (kp_o hM) np_X11_layDown rfl rfl (by decide) (Nat.le_of_ble_eq_true rfl) rfl ?_)
  rintro v M' ⟨rfl, S3, rfl, f3, k3, o3⟩
  exact l1 m q (l ++ lyL 3 O) (lyR 3 O) _ (Nat.le_refl _) f3 (by rw [List.append_assoc] at k3; exact k3) o3 (ly3_id O) (mt_ly3 hmt) (by have hly := ly_len 3 O; rw [List.length_append]; omega) (ly_dp O)
set_option maxRecDepth 100000 in
set_option maxHeartbeats 1000000 in
theorem c_X11_fact {M : gM} {S : gS} {L : gLg} (hM : 408 ≤ M.1) {T : Nat → Int32} {N t q c : Nat} {l0 l : gSg} {O : List Nat} (hN : N ≤ 400) (hb : ∀ i, tb8 (T i)) (ht : t < 6) (hq : kq1 S T N t q c (l0 ++ l)) (ho : kop S O) (hl : l0.length + l.length + O.length + 3 ≤ sk T N q) {m : Nat} {r : gRs} (hmt : mtR T N m false O (sk T N q) l c r) (hdp0 : dpO O ≤ 10) : SX 7 0 0 mX11_fact [.ref 384] (kp M S L) (fun v M' => ∃ S', M' = kp M S' L ∧ kft t S S' ∧ ((v = some (.int 0) ∧ ∃ g, r = .error g ∧ S' 0 9 = g) ∨ (v = some (.int 1) ∧ ∃ q' l' c' O' m', m' < m ∧ kq1 S' T N t q' c' (l0 ++ l') ∧ kop S' O' ∧ dpO O' ≤ 10 ∧ mtR T N m' true O' (sk T N q') l' c' r ∧ l0.length + l'.length + O'.length + 3 ≤ sk T N q'))) := by
  refine SX.intro [some (.ref 384), none, none] (by decide +kernel) (Nat.le_of_ble_eq_true rfl) rfl (fun E hE hQ => ?_)
  have hqN0 := (sk_le (T := T) hq.2.1).2
  have stp : ∀ (m1 : Nat), (∀ m2, m2 < m1 → ∀ (q1 c1 : Nat) (l1 : gSg) (O1 : List Nat) (S1 : gS) (lx : Option Value), m2 ≤ m → kft t S S1 → kq1 S1 T N t q1 c1 (l0 ++ l1) → kop S1 O1 → dpO O1 ≤ 10 → mtR T N m2 false O1 (sk T N q1) l1 c1 r → l0.length + l1.length + O1.length + 3 ≤ sk T N q1 → RX E mX11_fact.2.2.1 0 0 2 [some (.ref 384), some (.int 1), lx] [] (kp M S1 L)) → ∀ (q1 c1 : Nat) (l1 : gSg) (O1 : List Nat) (S1 : gS) (lx : Option Value), m1 ≤ m → kft t S S1 → kq1 S1 T N t q1 c1 (l0 ++ l1) → kop S1 O1 → dpO O1 ≤ 10 → mtR T N m1 false O1 (sk T N q1) l1 c1 r → l0.length + l1.length + O1.length + 3 ≤ sk T N q1 → RX E mX11_fact.2.2.1 0 0 2 [some (.ref 384), some (.int 1), lx] [] (kp M S1 L) := by
    intro m1 ih0 q1 c1 l1 O1 S1 lx hmm fx q1k ho1 hdp hmt1 hl1
    have hq1N := (sk_le (T := T) q1k.2.1).2
    refine rx_iload_n hE dX11_fact_2 (i := 1) rfl rfl ?_
    refine rx_if_eq (tgt := 75) hE dX11_fact_3 (by decide) (fun c3 => absurd c3 (by decide)) (fun c3 => ?_)
    refine rx_iconst hE dX11_fact_6 (v := 0) (by decide) ?_
    refine rx_istore_n_1 hE dX11_fact_7 (by decide) rfl ?_
    refine rx_aload_n hE dX11_fact_8 (i := 0) rfl rfl ?_
    refine rx_call0 (rx_callV (av := []) hE dX11_fact_9 lk_X11_105 (c_X11_seeQ hM hN q1k) (kp_o hM) np_X11_see rfl rfl (by decide) (Nat.le_of_ble_eq_true rfl) rfl ?_)
    rintro v M' ⟨rfl, rfl⟩
    have q2 := q1k.mv (sk_le (T := T) q1k.2.1).2
    have q1h := q1k.2.1
    have o2 := ho1.fr (t := t) (kfr.f t _ (i := 8) (by omega) (nI (sk T N q1)))
    have hp1N := q2.2.1
    refine rx_istore_n_2 hE dX11_fact_12 (by decide) rfl ?_
    refine rx_aload_n hE dX11_fact_13 (i := 0) rfl rfl ?_
    refine rx_ldc2 hE dX11_fact_14 kl_X11_198 ?_
    refine rx_call0 (rx_callV (av := [.long 14836]) hE dX11_fact_17 lk_X11_113 (c_X11_isWordZ hM hN q2 (sk_sk q1h) 14836) (kp_o hM) np_X11_isWord rfl rfl (by decide) (Nat.le_of_ble_eq_true rfl) rfl ?_)
    rintro v M' ⟨rfl, rfl⟩
    refine rx_if_eq (tgt := 43) hE dX11_fact_20 (by decide) (fun c20 => ?_) (fun c20 => ?_)
    · have hnt : qwd T N (sk T N q1) 14836 = 0 := c20
      refine rx_iload_n hE dX11_fact_43 (i := 2) rfl rfl ?_
      refine rx_bipush hE dX11_fact_44 (v := 91) (by decide) ?_
      refine rx_icmp_ne (tgt := 72) hE dX11_fact_46 (by decide) (fun c46 => ?_) (fun c46 => ?_)
      · have hs91 : ¬ sgn T N (sk T N q1) 91 := fun z => c46 ((see_is hb (k := 91) (by decide)).mpr z)
        refine rx_goto (tgt := 2) hE dX11_fact_72 (by decide) ?_
        obtain ⟨m2, hm2, r1, hcp, hst⟩ : ∃ m2, m2 < m1 ∧ ∃ r1, cpR T N (sk T N q1) c1 r1 ∧ ((∃ g, r1 = .error g ∧ r = .error g) ∨ ∃ p1 l2 c2, r1 = .ok (p1, l2, c2) ∧ mtR T N m2 true O1 p1 (l1 ++ l2) c2 r) := by
          cases m1 with
          | zero => exact absurd hmt1 id
          | succ m2 =>
            rcases hmt1 with ⟨h, _⟩ | ⟨_, h, _⟩ | ⟨_, _, r1, h1, h2⟩
            · exact absurd hnt h
            · exact absurd h hs91
            · exact ⟨m2, Nat.lt_succ_self _, r1, h1, h2⟩
        refine rx_iload_n hE dX11_fact_2 (i := 1) rfl rfl ?_
        refine rx_if_eq (tgt := 75) hE dX11_fact_3 (by decide) (fun c3 => ?_) (fun c3 => absurd rfl c3)
        refine rx_aload_n hE dX11_fact_75 (i := 0) rfl rfl ?_
        refine rx_call0 (rx_callV (av := []) hE dX11_fact_76 lk_X11_203 (c_X11_compare (S := (k_f S1 8 (nI (sk T N q1)))) (l0 := l0 ++ l1) (r := r1) hM hN hb ht q2 (by rw [sk_sk q1h]; exact hcp) (by rw [sk_sk q1h]; simp only [List.length_append]; omega)) (kp_o hM) np_X11_compare rfl rfl (by decide) (Nat.le_of_ble_eq_true rfl) rfl ?_)
        rintro v M' ⟨S3, rfl, f3, hv⟩
        rcases hv with ⟨rfl, g, hg, e9⟩ | ⟨rfl, q3, l3, c3, hr3, q3k, hl3⟩
        · skip
          exact rx_tret hE hQ rfl rfl dX11_fact_79 ⟨S3, rfl, fx.trans ((kft.f t _ (by omega) _).trans f3.t), Or.inl ⟨rfl, g, (by
              rcases hst with ⟨g', h3, h4⟩ | ⟨p1', l1', c1', h3, _⟩
              · rw [hg] at h3
                injection h3 with h3
                rw [h4, h3]
              · rw [hg] at h3
                exact absurd h3 (by simp)), e9⟩⟩
        · skip
          exact rx_tret hE hQ rfl rfl dX11_fact_79 ⟨S3, rfl, fx.trans ((kft.f t _ (by omega) _).trans f3.t), Or.inr ⟨rfl, q3, l1 ++ l3, c3, O1, m2, by omega, by rw [List.append_assoc] at q3k; exact q3k, o2.fr f3, hdp, (by
              rcases hst with ⟨g', h3, h4⟩ | ⟨p1', l1', c1', h3, h⟩
              · rw [hr3] at h3
                exact absurd h3 (by simp)
              · rw [hr3] at h3
                injection h3 with h3
                injection h3 with z1 h3
                injection h3 with z2 z3
                subst z1 z2 z3
                exact h), (by
              rw [hr3] at hcp
              have hty := (cpR_ty hcp hq1N).2.1
              rw [List.length_append]
              omega)⟩⟩
      · have hs91 : sgn T N (sk T N q1) 91 := (see_is hb (k := 91) (by decide)).mp c46
        refine rx_aload_n hE dX11_fact_49 (i := 0) rfl rfl ?_
        refine rx_bipush hE dX11_fact_50 (v := 91) (by decide) ?_
        have hsk := nx_sg (k := 91) (by decide) hs91
        have hnx := nx_lt (T := T) hs91.1
        have hlt91 := hs91.1
        obtain ⟨m2, hm2, hst⟩ : ∃ m2, m2 < m1 ∧ ((dpO O1 = 10 ∧ r = .error (fE (sk T N q1) 2)) ∨ (dpO O1 < 10 ∧ mtR T N m2 false (91 :: O1) (nx T N (sk T N q1)) l1 c1 r)) := by
          cases m1 with
          | zero => exact absurd hmt1 id
          | succ m2 =>
            rcases hmt1 with ⟨h, _⟩ | ⟨_, _, h⟩ | ⟨_, h, _⟩
            · exact absurd hnt h
            · exact ⟨m2, Nat.lt_succ_self _, h⟩
            · exact absurd hs91 h
        refine rx_call0 (rx_callV (av := [.int (nI 91)]) hE dX11_fact_52 lk_X11_200 (c_X11_opensQ (S := (k_f S1 8 (nI (sk T N q1)))) hM q2 o2 (x := 91) (Or.inl rfl) hdp (by omega)) (kp_o hM) np_X11_opens rfl rfl (by decide) (Nat.le_of_ble_eq_true rfl) rfl ?_)
        rintro v M' ⟨S3, rfl, f3, hv⟩
        rcases hv with ⟨hd, rfl, e9⟩ | ⟨hd, rfl, q3, o3⟩
        · skip
          refine rx_if_ne (tgt := 60) hE dX11_fact_55 (by decide) (fun c55 => absurd rfl c55) (fun c55 => ?_)
          refine rx_iconst hE dX11_fact_58 (v := 0) (by decide) ?_
          exact rx_tret hE hQ rfl rfl dX11_fact_59 ⟨S3, rfl, fx.trans ((kft.f t _ (by omega) _).trans f3), Or.inl ⟨rfl, _, (by
              rcases hst with ⟨_, h⟩ | ⟨h, _⟩
              · exact h
              · omega), e9⟩⟩
        · skip
          refine rx_if_ne (tgt := 60) hE dX11_fact_55 (by decide) (fun c55 => ?_) (fun c55 => absurd c55 (by decide))
          refine rx_aload_n hE dX11_fact_60 (i := 0) rfl rfl ?_
          refine rx_dup hE dX11_fact_61 rfl ?_
          refine rx_getf hE dX11_fact_62 fl_X11_102_10 (kp_o hM) rfl ?_
          refine rx_int _ (nI (sk T N q1)) q3.2.2.1 ?_
          refine rx_iconst hE dX11_fact_65 (v := 1) (by decide) ?_
          refine rx_iadd hE dX11_fact_66 ?_
          refine rx_int _ (nI (sk T N q1 + 1)) (nI_1 _) ?_
          refine rx_put hE dX11_fact_67 fl_X11_102_10 fw_10_8 (kp_o hM) (fun _ => rfl) (fun _ => rfl) (Nat.le_of_ble_eq_true rfl) ?_
          refine rx_mem (M' := kp M (k_f S3 8 (nI (sk T N q1 + 1))) L) kw_c8 ?_
          refine rx_iconst hE dX11_fact_70 (v := 1) (by decide) ?_
          refine rx_istore_n_1 hE dX11_fact_71 (by decide) rfl ?_
          refine rx_goto (tgt := 2) hE dX11_fact_72 (by decide) ?_
          exact ih0 m2 hm2 _ _ _ _ _ _ (by omega) (fx.trans ((kft.f t _ (by omega) _).trans (f3.trans (kft.f t _ (by omega) _)))) (q3.mv (q' := sk T N q1 + 1) (by omega)) (o3.fr (t := t) (kfr.f t _ (by omega) _)) (by show 1 + dpO O1 ≤ 10; omega) (by rw [hsk]; exact (by
              rcases hst with ⟨h, _⟩ | ⟨_, h⟩
              · omega
              · exact h)) (by rw [List.length_cons, hsk]; omega)
    · have hnt : ¬ qwd T N (sk T N q1) 14836 = 0 := c20
      refine rx_aload_n hE dX11_fact_23 (i := 0) rfl rfl ?_
      refine rx_bipush hE dX11_fact_24 (v := 11) (by decide) ?_
      have hwt := wd_te hp1N hnt
      have hte : te T N (sk T N q1) = tru ltB T N (sk T N q1) := hwt.2.2
      have hnx := nx_lt (T := T) hwt.1
      obtain ⟨m2, hm2, hst⟩ : ∃ m2, m2 < m1 ∧ ((dpO O1 = 10 ∧ r = .error (fE (sk T N q1) 2)) ∨ (dpO O1 < 10 ∧ mtR T N m2 false (11 :: O1) (nx T N (sk T N q1)) l1 c1 r)) := by
        cases m1 with
        | zero => exact absurd hmt1 id
        | succ m2 =>
          rcases hmt1 with ⟨_, h⟩ | ⟨h, _⟩ | ⟨h, _⟩
          · exact ⟨m2, Nat.lt_succ_self _, h⟩
          · exact absurd h hnt
          · exact absurd h hnt
      refine rx_call0 (rx_callV (av := [.int (nI 11)]) hE dX11_fact_26 lk_X11_200 (c_X11_opensQ (S := (k_f S1 8 (nI (sk T N q1)))) hM q2 o2 (x := 11) (Or.inr rfl) hdp (by omega)) (kp_o hM) np_X11_opens rfl rfl (by decide) (Nat.le_of_ble_eq_true rfl) rfl ?_)
      rintro v M' ⟨S3, rfl, f3, hv⟩
      rcases hv with ⟨hd, rfl, e9⟩ | ⟨hd, rfl, q3, o3⟩
      · skip
        refine rx_if_ne (tgt := 34) hE dX11_fact_29 (by decide) (fun c29 => absurd rfl c29) (fun c29 => ?_)
        refine rx_iconst hE dX11_fact_32 (v := 0) (by decide) ?_
        exact rx_tret hE hQ rfl rfl dX11_fact_33 ⟨S3, rfl, fx.trans ((kft.f t _ (by omega) _).trans f3), Or.inl ⟨rfl, _, (by
            rcases hst with ⟨_, h⟩ | ⟨h, _⟩
            · exact h
            · omega), e9⟩⟩
      · skip
        refine rx_if_ne (tgt := 34) hE dX11_fact_29 (by decide) (fun c29 => ?_) (fun c29 => absurd c29 (by decide))
        refine rx_aload_n hE dX11_fact_34 (i := 0) rfl rfl ?_
        refine rx_call0 (rx_callV (av := []) hE dX11_fact_35 lk_X11_117 (c_X11_passWordQ (S := S3) hM hN q3) (kp_o hM) np_X11_passWord rfl rfl (by decide) (Nat.le_of_ble_eq_true rfl) rfl ?_)
        rintro v M' ⟨rfl, S4, rfl, f4, q4⟩
        rw [← hte] at q4
        refine rx_iconst hE dX11_fact_38 (v := 1) (by decide) ?_
        refine rx_istore_n_1 hE dX11_fact_39 (by decide) rfl ?_
        refine rx_goto (tgt := 72) hE dX11_fact_40 (by decide) ?_
        refine rx_goto (tgt := 2) hE dX11_fact_72 (by decide) ?_
        exact ih0 m2 hm2 _ _ _ _ _ _ (by omega) (fx.trans ((kft.f t _ (by omega) _).trans (f3.trans f4.t))) q4 (o3.fr f4) (by show 1 + dpO O1 ≤ 10; omega) (by
            rcases hst with ⟨h, _⟩ | ⟨_, h⟩
            · omega
            · exact h) (by rw [List.length_cons]; show _ ≤ nx T N (sk T N q1); omega)
  have l1 : ∀ (m1 : Nat), ∀ (q1 c1 : Nat) (l1 : gSg) (O1 : List Nat) (S1 : gS) (lx : Option Value), m1 ≤ m → kft t S S1 → kq1 S1 T N t q1 c1 (l0 ++ l1) → kop S1 O1 → dpO O1 ≤ 10 → mtR T N m1 false O1 (sk T N q1) l1 c1 r → l0.length + l1.length + O1.length + 3 ≤ sk T N q1 → RX E mX11_fact.2.2.1 0 0 2 [some (.ref 384), some (.int 1), lx] [] (kp M S1 L) := fun m1 => Nat.strongRecOn m1 (fun m1 ih => stp m1 ih)
  refine rx_iconst hE dX11_fact_0 (v := 1) (by decide) ?_
  refine rx_istore_n_1 hE dX11_fact_1 (by decide) rfl ?_
  exact l1 m q c l O S _ (Nat.le_refl _) (kft.refl t S) hq ho hdp0 hmt hl
