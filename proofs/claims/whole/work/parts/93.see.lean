/-! ===== the reference's tape ===== -/
theorem k_f_id2 (S : gS) (i : Nat) : k_f S i (S 0 i) = S := by
  funext k
  unfold k_f
  by_cases h : k = 0
  · rw [if_pos h, h]
    funext j
    unfold upd
    by_cases e : j = i
    · rw [if_pos e, e]
    · rw [if_neg e]
  · rw [if_neg h]
theorem k_ff2 (S : gS) (i : Nat) (x y : Int32) : k_f (k_f S i x) i y = k_f S i y := by
  funext k
  unfold k_f
  by_cases h : k = 0
  · rw [if_pos h, if_pos h, if_pos rfl]
    funext j
    unfold upd
    by_cases e : j = i
    · rw [if_pos e, if_pos e]
    · rw [if_neg e, if_neg e, if_neg e]
  · rw [if_neg h, if_neg h, if_neg h]
set_option maxRecDepth 100000 in
set_option maxHeartbeats 1000000 in
theorem c_X11_isDigit {M : gM} {S : gS} {L : gLg} (hM : 408 ≤ M.1) {T : Nat → Int32} {N : Nat} (hN : N ≤ 400) (h1 : S 0 1 = nI N) (hb : S 1 = T) {i : Nat} (hi : i ≤ 400) : SX 0 0 0 mX11_isDigit [.ref 384, .int (nI i)] (kp M S L) (fun v M' => v = some (.int (if i < N ∧ tdg (T i) then 1 else 0)) ∧ M' = kp M S L) := by
  refine SX.intro [some (.ref 384), some (.int (nI i))] (by decide +kernel) (Nat.le_of_ble_eq_true rfl) rfl (fun E hE hQ => ?_)
  refine rx_iload_n hE dX11_isDigit_0 (i := 1) rfl rfl ?_
  refine rx_aload_n hE dX11_isDigit_1 (i := 0) rfl rfl ?_
  refine rx_getf hE dX11_isDigit_2 fl_X11_92_10 (kp_o hM) rfl ?_
  refine rx_int _ (nI N) h1 ?_
  refine rx_icmp_ge (tgt := 34) hE dX11_isDigit_5 (by decide) (fun c5 => ?_) (fun c5 => ?_)
  · have hiN : ¬ i < N := fun q => absurd c5 (nI_ge (a := i) (b := N) (by omega) (by omega))
    refine rx_iconst hE dX11_isDigit_34 (v := 0) (by decide) ?_
    exact rx_tret hE hQ rfl rfl dX11_isDigit_35 ⟨by rw [if_neg (fun q => hiN q.1)], rfl⟩
  · have hiN : i < N := Classical.byContradiction (fun q => c5 (nI_le (by omega) (by omega)))
    refine rx_aload_n hE dX11_isDigit_8 (i := 0) rfl rfl ?_
    refine rx_getf hE dX11_isDigit_9 fl_X11_7_10 (kp_o hM) rfl ?_
    refine rx_iload_n hE dX11_isDigit_12 (i := 1) rfl rfl ?_
    refine rx_baldN (i := i) hE dX11_isDigit_13 (kp_1 hM) (by omega) (by decide) ?_
    refine rx_int _ (T i) (congrFun hb i) ?_
    refine rx_bipush hE dX11_isDigit_14 (v := 48) (by decide) ?_
    refine rx_icmp_lt (tgt := 34) hE dX11_isDigit_16 (by decide) (fun c16 => ?_) (fun c16 => ?_)
    · refine rx_iconst hE dX11_isDigit_34 (v := 0) (by decide) ?_
      exact rx_tret hE hQ rfl rfl dX11_isDigit_35 ⟨by rw [if_neg (fun q => q.2.1 c16)], rfl⟩
    · refine rx_aload_n hE dX11_isDigit_19 (i := 0) rfl rfl ?_
      refine rx_getf hE dX11_isDigit_20 fl_X11_7_10 (kp_o hM) rfl ?_
      refine rx_iload_n hE dX11_isDigit_23 (i := 1) rfl rfl ?_
      refine rx_baldN (i := i) hE dX11_isDigit_24 (kp_1 hM) (by omega) (by decide) ?_
      refine rx_int _ (T i) (congrFun hb i) ?_
      refine rx_bipush hE dX11_isDigit_25 (v := 57) (by decide) ?_
      refine rx_icmp_gt (tgt := 34) hE dX11_isDigit_27 (by decide) (fun c27 => ?_) (fun c27 => ?_)
      · refine rx_iconst hE dX11_isDigit_34 (v := 0) (by decide) ?_
        exact rx_tret hE hQ rfl rfl dX11_isDigit_35 ⟨by rw [if_neg (fun q => q.2.2 c27)], rfl⟩
      · refine rx_iconst hE dX11_isDigit_30 (v := 1) (by decide) ?_
        refine rx_goto (tgt := 35) hE dX11_isDigit_31 (by decide) ?_
        exact rx_tret hE hQ rfl rfl dX11_isDigit_35 ⟨by rw [if_pos ⟨hiN, c16, c27⟩], rfl⟩
set_option maxRecDepth 100000 in
set_option maxHeartbeats 1000000 in
theorem c_X11_isLetter {M : gM} {S : gS} {L : gLg} (hM : 408 ≤ M.1) {T : Nat → Int32} {N : Nat} (hN : N ≤ 400) (h1 : S 0 1 = nI N) (hb : S 1 = T) {i : Nat} (hi : i ≤ 400) : SX 0 0 0 mX11_isLetter [.ref 384, .int (nI i)] (kp M S L) (fun v M' => v = some (.int (if i < N ∧ tlt (T i) then 1 else 0)) ∧ M' = kp M S L) := by
  refine SX.intro [some (.ref 384), some (.int (nI i))] (by decide +kernel) (Nat.le_of_ble_eq_true rfl) rfl (fun E hE hQ => ?_)
  refine rx_iload_n hE dX11_isLetter_0 (i := 1) rfl rfl ?_
  refine rx_aload_n hE dX11_isLetter_1 (i := 0) rfl rfl ?_
  refine rx_getf hE dX11_isLetter_2 fl_X11_92_10 (kp_o hM) rfl ?_
  refine rx_int _ (nI N) h1 ?_
  refine rx_icmp_ge (tgt := 34) hE dX11_isLetter_5 (by decide) (fun c5 => ?_) (fun c5 => ?_)
  · have hiN : ¬ i < N := fun q => absurd c5 (nI_ge (a := i) (b := N) (by omega) (by omega))
    refine rx_iconst hE dX11_isLetter_34 (v := 0) (by decide) ?_
    exact rx_tret hE hQ rfl rfl dX11_isLetter_35 ⟨by rw [if_neg (fun q => hiN q.1)], rfl⟩
  · have hiN : i < N := Classical.byContradiction (fun q => c5 (nI_le (by omega) (by omega)))
    refine rx_aload_n hE dX11_isLetter_8 (i := 0) rfl rfl ?_
    refine rx_getf hE dX11_isLetter_9 fl_X11_7_10 (kp_o hM) rfl ?_
    refine rx_iload_n hE dX11_isLetter_12 (i := 1) rfl rfl ?_
    refine rx_baldN (i := i) hE dX11_isLetter_13 (kp_1 hM) (by omega) (by decide) ?_
    refine rx_int _ (T i) (congrFun hb i) ?_
    refine rx_bipush hE dX11_isLetter_14 (v := 97) (by decide) ?_
    refine rx_icmp_lt (tgt := 34) hE dX11_isLetter_16 (by decide) (fun c16 => ?_) (fun c16 => ?_)
    · refine rx_iconst hE dX11_isLetter_34 (v := 0) (by decide) ?_
      exact rx_tret hE hQ rfl rfl dX11_isLetter_35 ⟨by rw [if_neg (fun q => q.2.1 c16)], rfl⟩
    · refine rx_aload_n hE dX11_isLetter_19 (i := 0) rfl rfl ?_
      refine rx_getf hE dX11_isLetter_20 fl_X11_7_10 (kp_o hM) rfl ?_
      refine rx_iload_n hE dX11_isLetter_23 (i := 1) rfl rfl ?_
      refine rx_baldN (i := i) hE dX11_isLetter_24 (kp_1 hM) (by omega) (by decide) ?_
      refine rx_int _ (T i) (congrFun hb i) ?_
      refine rx_bipush hE dX11_isLetter_25 (v := 122) (by decide) ?_
      refine rx_icmp_gt (tgt := 34) hE dX11_isLetter_27 (by decide) (fun c27 => ?_) (fun c27 => ?_)
      · refine rx_iconst hE dX11_isLetter_34 (v := 0) (by decide) ?_
        exact rx_tret hE hQ rfl rfl dX11_isLetter_35 ⟨by rw [if_neg (fun q => q.2.2 c27)], rfl⟩
      · refine rx_iconst hE dX11_isLetter_30 (v := 1) (by decide) ?_
        refine rx_goto (tgt := 35) hE dX11_isLetter_31 (by decide) ?_
        exact rx_tret hE hQ rfl rfl dX11_isLetter_35 ⟨by rw [if_pos ⟨hiN, c16, c27⟩], rfl⟩
set_option maxRecDepth 100000 in
set_option maxHeartbeats 1000000 in
theorem c_X11_fails {M : gM} {S : gS} {L : gLg} (hM : 408 ≤ M.1) (kind at0 : Int32) : SX 0 0 0 mX11_fails [.ref 384, .int kind, .int at0] (kp M S L) (fun v M' => v = some (.int 0) ∧ M' = kp M (if S 0 9 = 0 then k_f S 9 (1 + 8 * at0 + kind) else S) L) := by
  refine SX.intro [some (.ref 384), some (.int kind), some (.int at0)] (by decide +kernel) (Nat.le_of_ble_eq_true rfl) rfl (fun E hE hQ => ?_)
  refine rx_aload_n hE dX11_fails_0 (i := 0) rfl rfl ?_
  refine rx_getf hE dX11_fails_1 fl_X11_99_10 (kp_o hM) rfl ?_
  refine rx_if_ne (tgt := 19) hE dX11_fails_4 (by decide) (fun c4 => ?_) (fun c4 => ?_)
  · refine rx_iconst hE dX11_fails_19 (v := 0) (by decide) ?_
    exact rx_tret hE hQ rfl rfl dX11_fails_20 ⟨rfl, by rw [if_neg c4]⟩
  · refine rx_aload_n hE dX11_fails_7 (i := 0) rfl rfl ?_
    refine rx_iconst hE dX11_fails_8 (v := 1) (by decide) ?_
    refine rx_bipush hE dX11_fails_9 (v := 8) (by decide) ?_
    refine rx_iload_n hE dX11_fails_11 (i := 2) rfl rfl ?_
    refine rx_imul hE dX11_fails_12 ?_
    refine rx_iadd hE dX11_fails_13 ?_
    refine rx_iload_n hE dX11_fails_14 (i := 1) rfl rfl ?_
    refine rx_iadd hE dX11_fails_15 ?_
    refine rx_put hE dX11_fails_16 fl_X11_99_10 fw_10_9 (kp_o hM) (fun _ => rfl) (fun _ => rfl) (Nat.le_of_ble_eq_true rfl) ?_
    refine rx_mem kw_c9 ?_
    refine rx_iconst hE dX11_fails_19 (v := 0) (by decide) ?_
    exact rx_tret hE hQ rfl rfl dX11_fails_20 ⟨rfl, by rw [if_pos c4]⟩
set_option maxRecDepth 100000 in
set_option maxHeartbeats 1000000 in
theorem c_X11_see {M : gM} {S : gS} {L : gLg} (hM : 408 ≤ M.1) {T : Nat → Int32} {N : Nat} (hN : N ≤ 400) (h1 : S 0 1 = nI N) (hb : S 1 = T) {q : Nat} (hq : q ≤ N) (h8 : S 0 8 = nI q) : SX 0 0 0 mX11_see [.ref 384] (kp M S L) (fun v M' => v = some (.int (if sk T N q < N then T (sk T N q) &&& 255 else -1)) ∧ M' = kp M (k_f S 8 (nI (sk T N q))) L) := by
  refine SX.intro [some (.ref 384)] (by decide +kernel) (Nat.le_of_ble_eq_true rfl) rfl (fun E hE hQ => ?_)
  have tail : ∀ (p : Nat), p ≤ N → sk T N q = p → RX E mX11_see.2.2.1 0 0 38 [some (.ref 384)] [] (kp M (k_f S 8 (nI p)) L) := by
    intro p hp hsk
    refine rx_aload_n hE dX11_see_38 (i := 0) rfl rfl ?_
    refine rx_getf hE dX11_see_39 fl_X11_102_10 (kp_o hM) rfl ?_
    refine rx_int _ (nI p) rfl ?_
    refine rx_aload_n hE dX11_see_42 (i := 0) rfl rfl ?_
    refine rx_getf hE dX11_see_43 fl_X11_92_10 (kp_o hM) rfl ?_
    refine rx_int _ (nI N) h1 ?_
    refine rx_icmp_ge (tgt := 65) hE dX11_see_46 (by decide) (fun c46 => ?_) (fun c46 => ?_)
    · have hpN : ¬ p < N := fun z => absurd c46 (nI_ge (a := p) (b := N) (by omega) (by omega))
      refine rx_iconst hE dX11_see_65 (v := -1) (by decide) ?_
      exact rx_iret hE hQ rfl dX11_see_66 ⟨by rw [hsk, if_neg hpN], by rw [hsk]⟩
    · have hpN : p < N := Classical.byContradiction (fun z => c46 (nI_le (by omega) (by omega)))
      refine rx_aload_n hE dX11_see_49 (i := 0) rfl rfl ?_
      refine rx_getf hE dX11_see_50 fl_X11_7_10 (kp_o hM) rfl ?_
      refine rx_aload_n hE dX11_see_53 (i := 0) rfl rfl ?_
      refine rx_getf hE dX11_see_54 fl_X11_102_10 (kp_o hM) rfl ?_
      refine rx_int _ (nI p) rfl ?_
      refine rx_baldN hE dX11_see_57 (kp_1 hM) (by omega) (by decide) ?_
      refine rx_int _ (T p) (congrFun hb p) ?_
      refine rx_sipush hE dX11_see_58 (v := 255) (by decide) ?_
      refine rx_iand hE dX11_see_61 ?_
      refine rx_goto (tgt := 66) hE dX11_see_62 (by decide) ?_
      exact rx_iret hE hQ rfl dX11_see_66 ⟨by rw [hsk, if_pos hpN], by rw [hsk]⟩
  have l1 : ∀ (m1 p : Nat), p + m1 = N → sk T N p = sk T N q → RX E mX11_see.2.2.1 0 0 0 [some (.ref 384)] [] (kp M (k_f S 8 (nI p)) L) := by
    intro m1
    induction m1 with
    | zero =>
      intro p hpn hE1
      refine rx_aload_n hE dX11_see_0 (i := 0) rfl rfl ?_
      refine rx_getf hE dX11_see_1 fl_X11_102_10 (kp_o hM) rfl ?_
      refine rx_int _ (nI p) rfl ?_
      refine rx_aload_n hE dX11_see_4 (i := 0) rfl rfl ?_
      refine rx_getf hE dX11_see_5 fl_X11_92_10 (kp_o hM) rfl ?_
      refine rx_int _ (nI N) h1 ?_
      refine rx_icmp_ge (tgt := 38) hE dX11_see_8 (by decide) (fun c8 => ?_) (fun c8 => absurd (nI_le (a := N) (b := p) (by omega) (by omega)) c8)
      exact tail p (by omega) (by rw [← hE1]; exact tru_z (fun z => absurd z.1 (by omega)))
    | succ m1 ihm1 =>
      intro p hpn hE1
      refine rx_aload_n hE dX11_see_0 (i := 0) rfl rfl ?_
      refine rx_getf hE dX11_see_1 fl_X11_102_10 (kp_o hM) rfl ?_
      refine rx_int _ (nI p) rfl ?_
      refine rx_aload_n hE dX11_see_4 (i := 0) rfl rfl ?_
      refine rx_getf hE dX11_see_5 fl_X11_92_10 (kp_o hM) rfl ?_
      refine rx_int _ (nI N) h1 ?_
      refine rx_icmp_ge (tgt := 38) hE dX11_see_8 (by decide) (fun c8 => absurd c8 (nI_ge (a := p) (b := N) (by omega) (by omega))) (fun c8 => ?_)
      refine rx_aload_n hE dX11_see_11 (i := 0) rfl rfl ?_
      refine rx_getf hE dX11_see_12 fl_X11_7_10 (kp_o hM) rfl ?_
      refine rx_aload_n hE dX11_see_15 (i := 0) rfl rfl ?_
      refine rx_getf hE dX11_see_16 fl_X11_102_10 (kp_o hM) rfl ?_
      refine rx_int _ (nI p) rfl ?_
      refine rx_baldN hE dX11_see_19 (kp_1 hM) (by omega) (by decide) ?_
      refine rx_int _ (T p) (congrFun hb p) ?_
      refine rx_bipush hE dX11_see_20 (v := 32) (by decide) ?_
      refine rx_icmp_ne (tgt := 38) hE dX11_see_22 (by decide) (fun c22 => ?_) (fun c22 => ?_)
      · exact tail p (by omega) (by rw [← hE1]; exact tru_z (fun z => c22 (of_decide_eq_true z.2)))
      · refine rx_aload_n hE dX11_see_25 (i := 0) rfl rfl ?_
        refine rx_dup hE dX11_see_26 rfl ?_
        refine rx_getf hE dX11_see_27 fl_X11_102_10 (kp_o hM) rfl ?_
        refine rx_int _ (nI p) rfl ?_
        refine rx_iconst hE dX11_see_30 (v := 1) (by decide) ?_
        refine rx_iadd hE dX11_see_31 ?_
        refine rx_int _ (nI (p + 1)) (nI_1 p) ?_
        refine rx_put hE dX11_see_32 fl_X11_102_10 fw_10_8 (kp_o hM) (fun _ => rfl) (fun _ => rfl) (Nat.le_of_ble_eq_true rfl) ?_
        refine rx_mem (M' := kp M (k_f S 8 (nI (p + 1))) L) (kw_c8.trans (by rw [k_ff2])) ?_
        refine rx_goto (tgt := 0) hE dX11_see_35 (by decide) ?_
        exact ihm1 (p + 1) (by omega) (by rw [← hE1]; exact (tru_s (by omega) (decide_eq_true c22)).symm)
  refine rx_mem (M' := kp M (k_f S 8 (nI q)) L) (by rw [← h8, k_f_id2]) ?_
  exact l1 (N - q) q (by omega) rfl
set_option maxRecDepth 100000 in
set_option maxHeartbeats 1000000 in
theorem c_X11_passWord {M : gM} {S : gS} {L : gLg} (hM : 408 ≤ M.1) {T : Nat → Int32} {N : Nat} (hN : N ≤ 400) (h1 : S 0 1 = nI N) (hb : S 1 = T) {q : Nat} (hq : q ≤ N) (h8 : S 0 8 = nI q) : SX 1 0 0 mX11_passWord [.ref 384] (kp M S L) (fun v M' => v = none ∧ M' = kp M (k_f S 8 (nI (tru ltB T N q))) L) := by
  refine SX.intro [some (.ref 384)] (by decide +kernel) (Nat.le_of_ble_eq_true rfl) rfl (fun E hE hQ => ?_)
  have l1 : ∀ (m1 p : Nat), p + m1 = N → tru ltB T N p = tru ltB T N q → RX E mX11_passWord.2.2.1 0 0 0 [some (.ref 384)] [] (kp M (k_f S 8 (nI p)) L) := by
    intro m1
    induction m1 with
    | zero =>
      intro p hpn hE1
      refine rx_aload_n hE dX11_passWord_0 (i := 0) rfl rfl ?_
      refine rx_aload_n hE dX11_passWord_1 (i := 0) rfl rfl ?_
      refine rx_getf hE dX11_passWord_2 fl_X11_102_10 (kp_o hM) rfl ?_
      refine rx_int _ (nI p) rfl ?_
      refine rx_call0 (rx_callV (av := [.int (nI p)]) hE dX11_passWord_5 lk_X11_109 (c_X11_isLetter (S := k_f S 8 (nI p)) hM hN h1 hb (i := p) (by omega)) (kp_o hM) np_X11_isLetter rfl rfl (by decide) (Nat.le_of_ble_eq_true rfl) rfl ?_)
      rintro v M' ⟨rfl, rfl⟩
      refine rx_if_eq (tgt := 24) hE dX11_passWord_8 (by decide) (fun c8 => ?_) (fun c8 => absurd (if_neg (fun z => absurd z.1 (by omega))) c8)
      exact rx_vret hE hQ rfl dX11_passWord_24 ⟨rfl, by rw [← hE1, tru_z (fun z => absurd z.1 (by omega))]⟩
    | succ m1 ihm1 =>
      intro p hpn hE1
      refine rx_aload_n hE dX11_passWord_0 (i := 0) rfl rfl ?_
      refine rx_aload_n hE dX11_passWord_1 (i := 0) rfl rfl ?_
      refine rx_getf hE dX11_passWord_2 fl_X11_102_10 (kp_o hM) rfl ?_
      refine rx_int _ (nI p) rfl ?_
      refine rx_call0 (rx_callV (av := [.int (nI p)]) hE dX11_passWord_5 lk_X11_109 (c_X11_isLetter (S := k_f S 8 (nI p)) hM hN h1 hb (i := p) (by omega)) (kp_o hM) np_X11_isLetter rfl rfl (by decide) (Nat.le_of_ble_eq_true rfl) rfl ?_)
      rintro v M' ⟨rfl, rfl⟩
      refine rx_if_eq (tgt := 24) hE dX11_passWord_8 (by decide) (fun c8 => ?_) (fun c8 => ?_)
      · exact rx_vret hE hQ rfl dX11_passWord_24 ⟨rfl, by rw [← hE1, tru_z (fun z => absurd c8 (by rw [if_pos ⟨z.1, of_decide_eq_true z.2⟩]; decide))]⟩
      · refine rx_aload_n hE dX11_passWord_11 (i := 0) rfl rfl ?_
        refine rx_dup hE dX11_passWord_12 rfl ?_
        refine rx_getf hE dX11_passWord_13 fl_X11_102_10 (kp_o hM) rfl ?_
        refine rx_int _ (nI p) rfl ?_
        refine rx_iconst hE dX11_passWord_16 (v := 1) (by decide) ?_
        refine rx_iadd hE dX11_passWord_17 ?_
        refine rx_int _ (nI (p + 1)) (nI_1 p) ?_
        refine rx_put hE dX11_passWord_18 fl_X11_102_10 fw_10_8 (kp_o hM) (fun _ => rfl) (fun _ => rfl) (Nat.le_of_ble_eq_true rfl) ?_
        refine rx_mem (M' := kp M (k_f S 8 (nI (p + 1))) L) (kw_c8.trans (by rw [k_ff2])) ?_
        refine rx_goto (tgt := 0) hE dX11_passWord_21 (by decide) ?_
        have hy : p < N ∧ tlt (T p) := Classical.byContradiction (fun z => c8 (if_neg z))
        exact ihm1 (p + 1) (by omega) (by rw [← hE1]; exact (tru_s hy.1 (decide_eq_true hy.2)).symm)
  refine rx_mem (M' := kp M (k_f S 8 (nI q)) L) (by rw [← h8, k_f_id2]) ?_
  exact l1 (N - q) q (by omega) rfl
