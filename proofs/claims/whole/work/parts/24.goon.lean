theorem jgt1_f (set : Int32) (k : Nat) (J : gJn) {f : Nat} (h0 : f ≠ 0) (h4 : f ≠ 4) (h6 : f ≠ 6) (h7 : f ≠ 7) : jgt1 set k J f = J f := by
  unfold jgt1
  split
  · simp only [j_s, j_leave, if_neg h0, if_neg h4, if_neg h6, if_neg h7]
  · simp only [j_s, if_neg h7]
theorem jgtF_f (set : Int32) {f : Nat} (h0 : f ≠ 0) (h4 : f ≠ 4) (h5 : f ≠ 5) (h6 : f ≠ 6) (h7 : f ≠ 7) : ∀ (n k : Nat) (J : gJn) (acc : Int32), (jgtF set k n J acc).1 f = J f
  | 0, _, _, _ => rfl
  | n + 1, k, J, acc => by
    show (jgtF set (k + 1) n (jgt2 k (jgt1 set k J)) (jgtA set k J acc)).1 f = J f
    rw [jgtF_f set h0 h4 h5 h6 h7 n]
    show (if f = 5 then _ else jgt1 set k J f) = J f
    rw [if_neg h5, jgt1_f set k J h0 h4 h6 h7]
theorem j_go_f (pn : Nat → Nat) (R : Nat) (set : Int32) (J : gJn) {f : Nat} (h0 : f ≠ 0) (h4 : f ≠ 4) (h5 : f ≠ 5) (h6 : f ≠ 6) (h7 : f ≠ 7) (h9 : f ≠ 9) : j_go pn R set J f = J f := by
  show j_end pn R (jgtF set 0 R J 0) f = J f
  simp only [j_end, j_c, if_neg h9]
  exact jgtF_f set h0 h4 h5 h6 h7 R 0 J 0
theorem j_go_9 (pn : Nat → Nat) (R : Nat) (set : Int32) (J : gJn) (i : Nat) : j_go pn R set J 9 i = if i = 3 then J 9 3 + 1 else if i = 4 then j_heard (J 9 4) (jso pn (jgtF set 0 R J 0).2 R) else J 9 i := by
  have e := jgtF_f set (f := 9) (by decide) (by decide) (by decide) (by decide) (by decide) R 0 J 0
  show j_end pn R (jgtF set 0 R J 0) 9 i = _
  simp only [j_end, j_c, if_pos, upd, e]
theorem jone_9 (t : gJn → Nat → Int32 → Bool) (J : gJn) {i : Nat} (h3 : i ≠ 3) (h4 : i ≠ 4) : jone t J 9 i = J 9 i := by
  unfold jone
  rw [j_go_9, if_neg h3, if_neg h4, jarF_f (by decide)]
theorem jone_93 (t : gJn → Nat → Int32 → Bool) (J : gJn) : jone t J 9 3 = J 9 3 + 1 := by
  unfold jone
  rw [j_go_9, if_pos rfl, jarF_f (by decide)]
theorem jone_f (t : gJn → Nat → Int32 → Bool) (J : gJn) {f : Nat} (h0 : f ≠ 0) (h4 : f ≠ 4) (h5 : f ≠ 5) (h6 : f ≠ 6) (h7 : f ≠ 7) (h9 : f ≠ 9) : jone t J f = J f := by
  unfold jone
  rw [j_go_f _ _ _ _ h0 h4 h5 h6 h7 h9, jarF_f h0]
theorem jone_R (t : gJn → Nat → Int32 → Bool) (J : gJn) : jR (jone t J) = jR J := by
  unfold jR
  rw [jone_9 t J (by decide) (by decide)]
theorem jone_B (t : gJn → Nat → Int32 → Bool) (J : gJn) : jB (jone t J) = jB J := by
  unfold jB
  rw [jone_9 t J (by decide) (by decide)]
theorem jone_P (t : gJn → Nat → Int32 → Bool) (J : gJn) : jP (jone t J) = jP J := by
  unfold jP
  rw [jone_f t J (by decide) (by decide) (by decide) (by decide) (by decide) (by decide)]
theorem jok.next {J : gJn} (h : jok J) : J 9 3 + 1 = nI (jT J + 1) := by
  rw [h.2.2.2.2.2.2.1, nI_1]
theorem jone_T (t : gJn → Nat → Int32 → Bool) {J : gJn} (h : jok J) : jT (jone t J) = jT J + 1 := by
  have h5 := h.2.2.2.2.2.2.2
  show (jone t J 9 3).toNatClampNeg = _
  rw [jone_93, h.next]
  exact nI_clamp (by omega)
theorem jok.one (t : gJn → Nat → Int32 → Bool) {J : gJn} (h : jok J) (hT : jT J + 1 < 1000000) : jok (jone t J) := by
  obtain ⟨a1, a2, a3, a4, a5, a6, a7, a8⟩ := id h
  refine ⟨?_, ?_, ?_, ?_, ?_, ?_, ?_, ?_⟩
  · rw [jone_9 t J (by decide) (by decide), jone_R]; exact a1
  · rw [jone_R]; exact a2
  · intro i hi
    rw [jone_P, jone_f t J (by decide) (by decide) (by decide) (by decide) (by decide) (by decide)]
    exact a3 i hi
  · rw [jone_9 t J (by decide) (by decide), jone_B]; exact a4
  · rw [jone_B]; exact a5
  · rw [jone_B]; exact a6
  · rw [jone_93, jone_T t h]; exact h.next
  · rw [jone_T t h]; exact hT
theorem jok.many (t : gJn → Nat → Int32 → Bool) : ∀ (n : Nat) {J : gJn}, jok J → jT J + n < 1000000 → jok (jmanyF t n J) ∧ jT (jmanyF t n J) = jT J + n
  | 0, J, h, _ => ⟨h, rfl⟩
  | n + 1, J, h, hT => by
    have h1 := h.one t (by omega)
    have h2 := jone_T t h
    have h3 := jok.many t n h1 (by omega)
    refine ⟨h3.1, ?_⟩
    show jT (jmanyF t n (jone t J)) = _
    rw [h3.2, h2]
    omega
theorem jmany_s (t : gJn → Nat → Int32 → Bool) : ∀ (n : Nat) (J : gJn), jmanyF t (n + 1) J = jone t (jmanyF t n J)
  | 0, _ => rfl
  | n + 1, J => by
    show jmanyF t (n + 1) (jone t J) = jone t (jmanyF t n (jone t J))
    exact jmany_s t n (jone t J)
set_option maxRecDepth 100000 in
set_option maxHeartbeats 4000000 in
theorem c_X2_goOn0 {M : gM} {a N : Nat} {J : gJn} (hb : jb M a) (hj : jok J) (hT : jT J + N < 1000000) : SX 6 0 0 mX2_goOn [.ref a, .int (nI N), .null] (jp M a J) (fun v M' => v = none ∧ M' = jp M a (jmanyF jt0 N J)) := by
  refine SX.intro [some (.ref a), some (.int (nI N)), some (.null), none] (by decide +kernel) (Nat.le_of_ble_eq_true rfl) rfl (fun E hE hQ => ?_)
  have loop : ∀ (n k : Nat) (J' : gJn) , k + n = N → jok J' → jT J' + n < 1000000 → jmanyF (jt0) n J' = jmanyF (jt0) N J → RX E mX2_goOn.2.2.1 0 0 2 [some (.ref a), some (.int (nI N)), some .null, some (.int (nI k))] [] (jp M a J') := by
    intro n
    induction n with
    | zero =>
      intro k J' hk hj' hT hF
      refine rx_iload_n hE dX2_goOn_2 (i := 3) rfl rfl ?_
      refine rx_iload_n hE dX2_goOn_3 (i := 1) rfl rfl ?_
      refine rx_icmp_ge (tgt := 19) hE dX2_goOn_4 (by decide) (fun c4 => ?_) (fun c4 => absurd (nI_le (by omega) (by omega)) c4)
      exact rx_vret hE hQ rfl dX2_goOn_19 ⟨rfl, by rw [← hF]; rfl⟩
    | succ n ih =>
      intro k J' hk hj' hT hF
      refine rx_iload_n hE dX2_goOn_2 (i := 3) rfl rfl ?_
      refine rx_iload_n hE dX2_goOn_3 (i := 1) rfl rfl ?_
      refine rx_icmp_ge (tgt := 19) hE dX2_goOn_4 (by decide) (fun c4 => absurd c4 (nI_ge (by omega) (by omega))) (fun c4 => ?_)
      refine rx_aload_n hE dX2_goOn_7 (i := 0) rfl rfl ?_
      refine rx_aload_nN hE dX2_goOn_8 (i := 2) rfl rfl ?_
      refine rx_call0 (rx_callV (av := [.null]) hE dX2_goOn_9 lk_X2_115 (c_X2_oneBeat0 hb hj') (jp_o hb) np_X2_oneBeat rfl rfl (by decide) (Nat.le_of_ble_eq_true rfl) rfl ?_)
      rintro v M' ⟨rfl, rfl⟩
      refine rx_pop hE dX2_goOn_12 rfl ?_
      refine rx_iinc_3 hE dX2_goOn_13 (v := 1) (by decide) (by decide) rfl ?_
      rw [nI_1]
      refine rx_goto (tgt := 2) hE dX2_goOn_16 (by decide) ?_
      exact ih (k + 1) _ (by omega) (hj'.one (jt0) (by omega)) (by rw [jone_T (jt0) hj']; omega) hF
  refine rx_iconst hE dX2_goOn_0 (v := 0) (by decide) ?_
  refine rx_istore_n_3 hE dX2_goOn_1 (by decide) rfl ?_
  exact loop N 0 J (by omega) hj hT rfl
set_option maxRecDepth 100000 in
set_option maxHeartbeats 4000000 in
theorem c_X2_goOn1 {M : gM} {a p n0 N : Nat} {J : gJn} {f : Nat → Int32} {g : Nat → Int64} (hb : jb M a) (hr0 : rb M p) (hd : p + 3 ≤ a ∨ a + 10 ≤ p) (hn : n0 < 2 ^ 31) (hj : jok J) (hT : jT J + N < 1000000) : SX 6 0 0 mX2_goOn [.ref a, .int (nI N), .ref p] (jp (rp M p n0 f g) a J) (fun v M' => v = none ∧ ∃ op : Nat → Int64, M' = jp (rp M p n0 f op) a (jmanyF (jt1 f n0) N J)) := by
  refine SX.intro [some (.ref a), some (.int (nI N)), some (.ref p), none] (by decide +kernel) (Nat.le_of_ble_eq_true rfl) rfl (fun E hE hQ => ?_)
  have loop : ∀ (n k : Nat) (J' : gJn) (op : Nat → Int64), k + n = N → jok J' → jT J' + n < 1000000 → jmanyF (jt1 f n0) n J' = jmanyF (jt1 f n0) N J → RX E mX2_goOn.2.2.1 0 0 2 [some (.ref a), some (.int (nI N)), some (.ref p), some (.int (nI k))] [] (jp (rp M p n0 f op) a J') := by
    intro n
    induction n with
    | zero =>
      intro k J' op hk hj' hT hF
      refine rx_iload_n hE dX2_goOn_2 (i := 3) rfl rfl ?_
      refine rx_iload_n hE dX2_goOn_3 (i := 1) rfl rfl ?_
      refine rx_icmp_ge (tgt := 19) hE dX2_goOn_4 (by decide) (fun c4 => ?_) (fun c4 => absurd (nI_le (by omega) (by omega)) c4)
      exact rx_vret hE hQ rfl dX2_goOn_19 ⟨rfl, op, by rw [← hF]; rfl⟩
    | succ n ih =>
      intro k J' op hk hj' hT hF
      refine rx_iload_n hE dX2_goOn_2 (i := 3) rfl rfl ?_
      refine rx_iload_n hE dX2_goOn_3 (i := 1) rfl rfl ?_
      refine rx_icmp_ge (tgt := 19) hE dX2_goOn_4 (by decide) (fun c4 => absurd c4 (nI_ge (by omega) (by omega))) (fun c4 => ?_)
      refine rx_aload_n hE dX2_goOn_7 (i := 0) rfl rfl ?_
      refine rx_aload_n hE dX2_goOn_8 (i := 2) rfl rfl ?_
      refine rx_call0 (rx_callV (av := [.ref p]) hE dX2_goOn_9 lk_X2_115 (c_X2_oneBeat1 hb hr0 hd hn hj') (jp_o hb) np_X2_oneBeat rfl rfl (by decide) (Nat.le_of_ble_eq_true rfl) rfl ?_)
      rintro v M' ⟨rfl, op', rfl⟩
      refine rx_pop hE dX2_goOn_12 rfl ?_
      refine rx_iinc_3 hE dX2_goOn_13 (v := 1) (by decide) (by decide) rfl ?_
      rw [nI_1]
      refine rx_goto (tgt := 2) hE dX2_goOn_16 (by decide) ?_
      exact ih (k + 1) _ _ (by omega) (hj'.one (jt1 f n0) (by omega)) (by rw [jone_T (jt1 f n0) hj']; omega) hF
  refine rx_iconst hE dX2_goOn_0 (v := 0) (by decide) ?_
  refine rx_istore_n_3 hE dX2_goOn_1 (by decide) rfl ?_
  exact loop N 0 J g (by omega) hj hT rfl
