/-! ===== the tape, rules in force ===== -/
def q_force (S : gS) (rule : Int32) : Int32 := if ¬ rule = -1 ∧ k_isRule S rule = 0 then -2 else S 0 21
def q_forceS (S : gS) (rule : Int32) : gS := if ¬ rule = -1 ∧ k_isRule S rule = 0 then S else k_f S 21 rule
def q_end (tp n : Int32) : Int32 := if n < 0 ∨ ¬ n ≤ tp then -1 else n
def q_endS (S : gS) (n : Int32) : gS := if n < 0 ∨ ¬ n ≤ S 0 1 then S else k_f S 1 n
def qby (v : Int32) (j : Nat) : Int32 := (v >>> (nI (24 - 8 * j) &&& 31)).toInt8.toInt32
def qf4 (f : Nat → Int32) (p : Nat) (v : Int32) : Nat → Int32 := upd (upd (upd (upd f p (qby v 0)) (p + 1) (qby v 1)) (p + 2) (qby v 2)) (p + 3) (qby v 3)
set_option maxRecDepth 100000 in
set_option maxHeartbeats 4000000 in
theorem c_X11_force {M : gM} {S : gS} {L : gLg} {J : gJn} (hM : 408 ≤ M.1) (rule : Int32) : SX 1 0 0 mX11_force [.ref 384, .int rule] (kp M (kput S J) L) (fun v M' => v = some (.int (q_force S rule)) ∧ M' = kp M (kput (q_forceS S rule) J) L) := by
  refine SX.intro [some (.ref 384), some (.int rule), none] (by decide +kernel) (Nat.le_of_ble_eq_true rfl) rfl (fun E hE hQ => ?_)
  refine rx_iload_n hE dX11_force_0 (i := 1) rfl rfl ?_
  refine rx_iconst hE dX11_force_1 (v := -1) (by decide) ?_
  refine rx_icmp_eq (tgt := 16) hE dX11_force_2 (by decide) (fun c2 => ?_) (fun c2 => ?_)
  · refine rx_aload_n hE dX11_force_16 (i := 0) rfl rfl ?_
    refine rx_getf hE dX11_force_17 fl_X11_42_10 (kp_o hM) rfl ?_
    refine rx_int _ _ (kr_f (by decide)) ?_
    refine rx_int _ (S 0 21) rfl ?_
    refine rx_istore_n_2 hE dX11_force_20 (by decide) rfl ?_
    refine rx_aload_n hE dX11_force_21 (i := 0) rfl rfl ?_
    refine rx_iload_n hE dX11_force_22 (i := 1) rfl rfl ?_
    refine rx_put hE dX11_force_23 fl_X11_42_10 fw_10_21 (kp_o hM) (fun _ => rfl) (fun _ => rfl) (Nat.le_of_ble_eq_true rfl) ?_
    refine rx_mem (M' := kp M (kput (k_f S 21 rule) J) L) (kw_c21.trans (by rw [kput_f21])) ?_
    refine rx_iload_n hE dX11_force_26 (i := 2) rfl rfl ?_
    exact rx_iret hE hQ rfl dX11_force_27 ⟨by unfold q_force; rw [if_neg (fun q => q.1 c2)], by unfold q_forceS; rw [if_neg (fun q => q.1 c2)]⟩
  · refine rx_aload_n hE dX11_force_5 (i := 0) rfl rfl ?_
    refine rx_iload_n hE dX11_force_6 (i := 1) rfl rfl ?_
    refine rx_call0 (rx_callV (av := [.int _]) hE dX11_force_7 lk_X11_306 (c_X11_isRule hM _) (kp_o hM) np_X11_isRule rfl rfl (by decide) (Nat.le_of_ble_eq_true rfl) rfl ?_)
    rintro v M' ⟨rfl, rfl⟩
    refine rx_if_ne (tgt := 16) hE dX11_force_10 (by decide) (fun c10 => ?_) (fun c10 => ?_)
    · refine rx_aload_n hE dX11_force_16 (i := 0) rfl rfl ?_
      refine rx_getf hE dX11_force_17 fl_X11_42_10 (kp_o hM) rfl ?_
      refine rx_int _ _ (kr_f (by decide)) ?_
      refine rx_int _ (S 0 21) rfl ?_
      refine rx_istore_n_2 hE dX11_force_20 (by decide) rfl ?_
      refine rx_aload_n hE dX11_force_21 (i := 0) rfl rfl ?_
      refine rx_iload_n hE dX11_force_22 (i := 1) rfl rfl ?_
      refine rx_put hE dX11_force_23 fl_X11_42_10 fw_10_21 (kp_o hM) (fun _ => rfl) (fun _ => rfl) (Nat.le_of_ble_eq_true rfl) ?_
      refine rx_mem (M' := kp M (kput (k_f S 21 rule) J) L) (kw_c21.trans (by rw [kput_f21])) ?_
      refine rx_iload_n hE dX11_force_26 (i := 2) rfl rfl ?_
      exact rx_iret hE hQ rfl dX11_force_27 ⟨by unfold q_force; rw [if_neg (fun q => c10 q.2)], by unfold q_forceS; rw [if_neg (fun q => c10 q.2)]⟩
    · refine rx_bipush hE dX11_force_13 (v := -2) (by decide) ?_
      exact rx_iret hE hQ rfl dX11_force_15 ⟨by unfold q_force; rw [if_pos ⟨c2, c10⟩], by unfold q_forceS; rw [if_pos ⟨c2, c10⟩]⟩
set_option maxRecDepth 100000 in
set_option maxHeartbeats 4000000 in
theorem c_X11_end {M : gM} {S : gS} {L : gLg} {J : gJn} (hM : 408 ≤ M.1) (n : Int32) : SX 0 0 0 mX11_end [.ref 384, .int n] (kp M (kput S J) L) (fun v M' => v = some (.int (q_end (S 0 1) n)) ∧ M' = kp M (kput (q_endS S n) J) L) := by
  refine SX.intro [some (.ref 384), some (.int n)] (by decide +kernel) (Nat.le_of_ble_eq_true rfl) rfl (fun E hE hQ => ?_)
  refine rx_iload_n hE dX11_end_0 (i := 1) rfl rfl ?_
  refine rx_if_lt (tgt := 12) hE dX11_end_1 (by decide) (fun c1 => ?_) (fun c1 => ?_)
  · refine rx_iconst hE dX11_end_12 (v := -1) (by decide) ?_
    exact rx_iret hE hQ rfl dX11_end_13 ⟨by unfold q_end; rw [if_pos (Or.inl c1)], by unfold q_endS; rw [if_pos (Or.inl c1)]⟩
  · refine rx_iload_n hE dX11_end_4 (i := 1) rfl rfl ?_
    refine rx_aload_n hE dX11_end_5 (i := 0) rfl rfl ?_
    refine rx_getf hE dX11_end_6 fl_X11_92_10 (kp_o hM) rfl ?_
    refine rx_int _ _ (kr_f (by decide)) ?_
    refine rx_int _ (S 0 1) rfl ?_
    refine rx_icmp_le (tgt := 14) hE dX11_end_9 (by decide) (fun c9 => ?_) (fun c9 => ?_)
    · refine rx_aload_n hE dX11_end_14 (i := 0) rfl rfl ?_
      refine rx_iload_n hE dX11_end_15 (i := 1) rfl rfl ?_
      refine rx_put hE dX11_end_16 fl_X11_92_10 fw_10_1 (kp_o hM) (fun _ => rfl) (fun _ => rfl) (Nat.le_of_ble_eq_true rfl) ?_
      refine rx_mem (M' := kp M (kput (k_f S 1 n) J) L) (kw_c1.trans (by rw [kput_f1])) ?_
      refine rx_iload_n hE dX11_end_19 (i := 1) rfl rfl ?_
      exact rx_iret hE hQ rfl dX11_end_20 ⟨by unfold q_end; rw [if_neg (fun q => q.elim c1 (fun z => z c9))], by unfold q_endS; rw [if_neg (fun q => q.elim c1 (fun z => z c9))]⟩
    · refine rx_iconst hE dX11_end_12 (v := -1) (by decide) ?_
      exact rx_iret hE hQ rfl dX11_end_13 ⟨by unfold q_end; rw [if_pos (Or.inr c9)], by unfold q_endS; rw [if_pos (Or.inr c9)]⟩
theorem k_sf {S : gS} {c i : Nat} {v : Nat → Int32} {x : Int32} (hc : c ≠ 0) : k_s (k_f S i x) c v = k_f (k_s S c v) i x := by
  funext k
  unfold k_s k_f
  by_cases h : k = c
  · subst h
    rw [if_pos rfl, if_neg hc]
    exact (if_pos rfl).symm
  · rw [if_neg h]
    by_cases h0 : k = 0
    · rw [if_pos h0, if_pos h0]
      show upd (S 0) i x = upd ((if (0 : Nat) = c then v else S 0)) i x
      rw [if_neg (Ne.symm hc)]
    · rw [if_neg h0, if_neg h0]
      exact (if_neg h).symm
set_option maxRecDepth 100000 in
set_option maxHeartbeats 4000000 in
theorem c_X11_four {M : gM} {S : gS} {L : gLg} {J : gJn} (hM : 408 ≤ M.1) {p : Nat} (hp : S 0 1 = nI p) (hp4 : p + 4 ≤ 400) (x : Int32) : SX 0 0 0 mX11_four [.ref 384, .int x] (kp M (kput S J) L) (fun v M' => v = none ∧ M' = kp M (kput (k_f (k_s S 1 (qf4 (S 1) p x)) 1 (nI (p + 4))) J) L) := by
  refine SX.intro [some (.ref 384), some (.int x), none] (by decide +kernel) (Nat.le_of_ble_eq_true rfl) rfl (fun E hE hQ => ?_)
  refine rx_bipush hE dX11_four_0 (v := 24) (by decide) ?_
  refine rx_istore_n_2 hE dX11_four_2 (by decide) rfl ?_
  refine rx_iload_n hE dX11_four_3 (i := 2) rfl rfl ?_
  refine rx_if_lt (tgt := 36) hE dX11_four_4 (by decide) (fun c4 => absurd c4 (by decide)) (fun c4 => ?_)
  refine rx_aload_n hE dX11_four_7 (i := 0) rfl rfl ?_
  refine rx_getf hE dX11_four_8 fl_X11_7_10 (kp_o hM) rfl ?_
  refine rx_aload_n hE dX11_four_11 (i := 0) rfl rfl ?_
  refine rx_getf hE dX11_four_12 fl_X11_92_10 (kp_o hM) rfl ?_
  refine rx_int _ _ (kr_f (by decide)) ?_
  refine rx_int _ (nI (p + 0)) (by first | exact hp | rfl) ?_
  refine rx_iload_n hE dX11_four_15 (i := 1) rfl rfl ?_
  refine rx_iload_n hE dX11_four_16 (i := 2) rfl rfl ?_
  refine rx_ishr hE dX11_four_17 ?_
  refine rx_i2b hE dX11_four_18 ?_
  refine rx_int _ (qby x 0) (by unfold qby; rfl) ?_
  refine rx_bastN hE dX11_four_19 (kp_1 hM) (by omega) (by decide) ?_
  refine rx_mem (M' := kp M (kput (k_s S 1 (upd (S 1) (p) (qby x 0))) J) L) (by rw [kw_1, kput_s (by decide) (by decide) (by decide), show vp_nar .byte (qby x 0) = qby x 0 from pk_vb _]; rfl) ?_
  refine rx_aload_n hE dX11_four_20 (i := 0) rfl rfl ?_
  refine rx_dup hE dX11_four_21 rfl ?_
  refine rx_getf hE dX11_four_22 fl_X11_92_10 (kp_o hM) rfl ?_
  refine rx_int _ _ (kr_f (by decide)) ?_
  refine rx_int _ (nI (p + 0)) (by first | exact hp | rfl) ?_
  refine rx_iconst hE dX11_four_25 (v := 1) (by decide) ?_
  refine rx_iadd hE dX11_four_26 ?_
  refine rx_int _ (nI (p + 1)) (nI_1 _) ?_
  refine rx_put hE dX11_four_27 fl_X11_92_10 fw_10_1 (kp_o hM) (fun _ => rfl) (fun _ => rfl) (Nat.le_of_ble_eq_true rfl) ?_
  refine rx_mem (M' := kp M (kput (k_f (k_s S 1 (upd (S 1) (p) (qby x 0))) 1 (nI (p + 1))) J) L) (kw_c1.trans (by rw [kput_f1])) ?_
  refine rx_iinc_2 hE dX11_four_30 (v := -8) (by decide) (by decide) rfl ?_
  refine rx_goto (tgt := 3) hE dX11_four_33 (by decide) ?_
  refine rx_iload_n hE dX11_four_3 (i := 2) rfl rfl ?_
  refine rx_if_lt (tgt := 36) hE dX11_four_4 (by decide) (fun c4 => absurd c4 (by decide)) (fun c4 => ?_)
  refine rx_aload_n hE dX11_four_7 (i := 0) rfl rfl ?_
  refine rx_getf hE dX11_four_8 fl_X11_7_10 (kp_o hM) rfl ?_
  refine rx_aload_n hE dX11_four_11 (i := 0) rfl rfl ?_
  refine rx_getf hE dX11_four_12 fl_X11_92_10 (kp_o hM) rfl ?_
  refine rx_int _ _ (kr_f (by decide)) ?_
  refine rx_int _ (nI (p + 1)) (by first | exact hp | rfl) ?_
  refine rx_iload_n hE dX11_four_15 (i := 1) rfl rfl ?_
  refine rx_iload_n hE dX11_four_16 (i := 2) rfl rfl ?_
  refine rx_ishr hE dX11_four_17 ?_
  refine rx_i2b hE dX11_four_18 ?_
  refine rx_int _ (qby x 1) (by unfold qby; rfl) ?_
  refine rx_bastN hE dX11_four_19 (kp_1 hM) (by omega) (by decide) ?_
  refine rx_mem (M' := kp M (kput (k_f (k_s S 1 (upd (upd (S 1) (p) (qby x 0)) (p + 1) (qby x 1))) 1 (nI (p + 1))) J) L) (by rw [kw_1, kput_s (by decide) (by decide) (by decide), show vp_nar .byte (qby x 1) = qby x 1 from pk_vb _, k_sf (by decide)]; show kp M (kput (k_f (k_s (k_s S 1 (upd (S 1) (p) (qby x 0))) 1 (upd (upd (S 1) (p) (qby x 0)) (p + 1) (qby x 1))) 1 (nI (p + 1))) J) L = _; rw [k_ss]) ?_
  refine rx_aload_n hE dX11_four_20 (i := 0) rfl rfl ?_
  refine rx_dup hE dX11_four_21 rfl ?_
  refine rx_getf hE dX11_four_22 fl_X11_92_10 (kp_o hM) rfl ?_
  refine rx_int _ _ (kr_f (by decide)) ?_
  refine rx_int _ (nI (p + 1)) (by first | exact hp | rfl) ?_
  refine rx_iconst hE dX11_four_25 (v := 1) (by decide) ?_
  refine rx_iadd hE dX11_four_26 ?_
  refine rx_int _ (nI (p + 2)) (nI_1 _) ?_
  refine rx_put hE dX11_four_27 fl_X11_92_10 fw_10_1 (kp_o hM) (fun _ => rfl) (fun _ => rfl) (Nat.le_of_ble_eq_true rfl) ?_
  refine rx_mem (M' := kp M (kput (k_f (k_s S 1 (upd (upd (S 1) (p) (qby x 0)) (p + 1) (qby x 1))) 1 (nI (p + 2))) J) L) (kw_c1.trans (by rw [kput_f1, k_ff])) ?_
  refine rx_iinc_2 hE dX11_four_30 (v := -8) (by decide) (by decide) rfl ?_
  refine rx_goto (tgt := 3) hE dX11_four_33 (by decide) ?_
  refine rx_iload_n hE dX11_four_3 (i := 2) rfl rfl ?_
  refine rx_if_lt (tgt := 36) hE dX11_four_4 (by decide) (fun c4 => absurd c4 (by decide)) (fun c4 => ?_)
  refine rx_aload_n hE dX11_four_7 (i := 0) rfl rfl ?_
  refine rx_getf hE dX11_four_8 fl_X11_7_10 (kp_o hM) rfl ?_
  refine rx_aload_n hE dX11_four_11 (i := 0) rfl rfl ?_
  refine rx_getf hE dX11_four_12 fl_X11_92_10 (kp_o hM) rfl ?_
  refine rx_int _ _ (kr_f (by decide)) ?_
  refine rx_int _ (nI (p + 2)) (by first | exact hp | rfl) ?_
  refine rx_iload_n hE dX11_four_15 (i := 1) rfl rfl ?_
  refine rx_iload_n hE dX11_four_16 (i := 2) rfl rfl ?_
  refine rx_ishr hE dX11_four_17 ?_
  refine rx_i2b hE dX11_four_18 ?_
  refine rx_int _ (qby x 2) (by unfold qby; rfl) ?_
  refine rx_bastN hE dX11_four_19 (kp_1 hM) (by omega) (by decide) ?_
  refine rx_mem (M' := kp M (kput (k_f (k_s S 1 (upd (upd (upd (S 1) (p) (qby x 0)) (p + 1) (qby x 1)) (p + 2) (qby x 2))) 1 (nI (p + 2))) J) L) (by rw [kw_1, kput_s (by decide) (by decide) (by decide), show vp_nar .byte (qby x 2) = qby x 2 from pk_vb _, k_sf (by decide)]; show kp M (kput (k_f (k_s (k_s S 1 (upd (upd (S 1) (p) (qby x 0)) (p + 1) (qby x 1))) 1 (upd (upd (upd (S 1) (p) (qby x 0)) (p + 1) (qby x 1)) (p + 2) (qby x 2))) 1 (nI (p + 2))) J) L = _; rw [k_ss]) ?_
  refine rx_aload_n hE dX11_four_20 (i := 0) rfl rfl ?_
  refine rx_dup hE dX11_four_21 rfl ?_
  refine rx_getf hE dX11_four_22 fl_X11_92_10 (kp_o hM) rfl ?_
  refine rx_int _ _ (kr_f (by decide)) ?_
  refine rx_int _ (nI (p + 2)) (by first | exact hp | rfl) ?_
  refine rx_iconst hE dX11_four_25 (v := 1) (by decide) ?_
  refine rx_iadd hE dX11_four_26 ?_
  refine rx_int _ (nI (p + 3)) (nI_1 _) ?_
  refine rx_put hE dX11_four_27 fl_X11_92_10 fw_10_1 (kp_o hM) (fun _ => rfl) (fun _ => rfl) (Nat.le_of_ble_eq_true rfl) ?_
  refine rx_mem (M' := kp M (kput (k_f (k_s S 1 (upd (upd (upd (S 1) (p) (qby x 0)) (p + 1) (qby x 1)) (p + 2) (qby x 2))) 1 (nI (p + 3))) J) L) (kw_c1.trans (by rw [kput_f1, k_ff])) ?_
  refine rx_iinc_2 hE dX11_four_30 (v := -8) (by decide) (by decide) rfl ?_
  refine rx_goto (tgt := 3) hE dX11_four_33 (by decide) ?_
  refine rx_iload_n hE dX11_four_3 (i := 2) rfl rfl ?_
  refine rx_if_lt (tgt := 36) hE dX11_four_4 (by decide) (fun c4 => absurd c4 (by decide)) (fun c4 => ?_)
  refine rx_aload_n hE dX11_four_7 (i := 0) rfl rfl ?_
  refine rx_getf hE dX11_four_8 fl_X11_7_10 (kp_o hM) rfl ?_
  refine rx_aload_n hE dX11_four_11 (i := 0) rfl rfl ?_
  refine rx_getf hE dX11_four_12 fl_X11_92_10 (kp_o hM) rfl ?_
  refine rx_int _ _ (kr_f (by decide)) ?_
  refine rx_int _ (nI (p + 3)) (by first | exact hp | rfl) ?_
  refine rx_iload_n hE dX11_four_15 (i := 1) rfl rfl ?_
  refine rx_iload_n hE dX11_four_16 (i := 2) rfl rfl ?_
  refine rx_ishr hE dX11_four_17 ?_
  refine rx_i2b hE dX11_four_18 ?_
  refine rx_int _ (qby x 3) (by unfold qby; rfl) ?_
  refine rx_bastN hE dX11_four_19 (kp_1 hM) (by omega) (by decide) ?_
  refine rx_mem (M' := kp M (kput (k_f (k_s S 1 (upd (upd (upd (upd (S 1) (p) (qby x 0)) (p + 1) (qby x 1)) (p + 2) (qby x 2)) (p + 3) (qby x 3))) 1 (nI (p + 3))) J) L) (by rw [kw_1, kput_s (by decide) (by decide) (by decide), show vp_nar .byte (qby x 3) = qby x 3 from pk_vb _, k_sf (by decide)]; show kp M (kput (k_f (k_s (k_s S 1 (upd (upd (upd (S 1) (p) (qby x 0)) (p + 1) (qby x 1)) (p + 2) (qby x 2))) 1 (upd (upd (upd (upd (S 1) (p) (qby x 0)) (p + 1) (qby x 1)) (p + 2) (qby x 2)) (p + 3) (qby x 3))) 1 (nI (p + 3))) J) L = _; rw [k_ss]) ?_
  refine rx_aload_n hE dX11_four_20 (i := 0) rfl rfl ?_
  refine rx_dup hE dX11_four_21 rfl ?_
  refine rx_getf hE dX11_four_22 fl_X11_92_10 (kp_o hM) rfl ?_
  refine rx_int _ _ (kr_f (by decide)) ?_
  refine rx_int _ (nI (p + 3)) (by first | exact hp | rfl) ?_
  refine rx_iconst hE dX11_four_25 (v := 1) (by decide) ?_
  refine rx_iadd hE dX11_four_26 ?_
  refine rx_int _ (nI (p + 4)) (nI_1 _) ?_
  refine rx_put hE dX11_four_27 fl_X11_92_10 fw_10_1 (kp_o hM) (fun _ => rfl) (fun _ => rfl) (Nat.le_of_ble_eq_true rfl) ?_
  refine rx_mem (M' := kp M (kput (k_f (k_s S 1 (upd (upd (upd (upd (S 1) (p) (qby x 0)) (p + 1) (qby x 1)) (p + 2) (qby x 2)) (p + 3) (qby x 3))) 1 (nI (p + 4))) J) L) (kw_c1.trans (by rw [kput_f1, k_ff])) ?_
  refine rx_iinc_2 hE dX11_four_30 (v := -8) (by decide) (by decide) rfl ?_
  refine rx_goto (tgt := 3) hE dX11_four_33 (by decide) ?_
  refine rx_iload_n hE dX11_four_3 (i := 2) rfl rfl ?_
  refine rx_if_lt (tgt := 36) hE dX11_four_4 (by decide) (fun c4 => ?_) (fun c4 => absurd (by decide) c4)
  exact rx_vret hE hQ rfl dX11_four_36 ⟨rfl, rfl⟩
def qf20 (f : Nat → Int32) (p : Nat) (a b c d e : Int32) : Nat → Int32 := qf4 (qf4 (qf4 (qf4 (qf4 f p a) (p + 4) b) (p + 8) c) (p + 12) d) (p + 16) e
def q_feed (p : Nat) : Int32 := if p + 20 ≤ 400 then nI (p + 20) else -1
def q_feedS (S : gS) (p : Nat) (a b c d e : Int32) : gS := if p + 20 ≤ 400 then k_f (k_s S 1 (qf20 (S 1) p a b c d e)) 1 (nI (p + 20)) else S
theorem k_fs1 (S : gS) (f f' : Nat → Int32) (x y : Int32) : k_f (k_s (k_f (k_s S 1 f) 1 x) 1 f') 1 y = k_f (k_s S 1 f') 1 y := by
  rw [k_sf (by decide), k_ff, k_ss]
set_option maxRecDepth 100000 in
set_option maxHeartbeats 4000000 in
theorem c_X11_feed {M : gM} {S : gS} {L : gLg} {J : gJn} (hM : 408 ≤ M.1) {p : Nat} (hp : S 0 1 = nI p) (hp4 : p ≤ 400) (a b c d e : Int32) : SX 1 0 0 mX11_feed [.ref 384, .int a, .int b, .int c, .int d, .int e] (kp M (kput S J) L) (fun v M' => v = some (.int (q_feed p)) ∧ M' = kp M (kput (q_feedS S p a b c d e) J) L) := by
  refine SX.intro [some (.ref 384), some (.int a), some (.int b), some (.int c), some (.int d), some (.int e)] (by decide +kernel) (Nat.le_of_ble_eq_true rfl) rfl (fun E hE hQ => ?_)
  refine rx_aload_n hE dX11_feed_0 (i := 0) rfl rfl ?_
  refine rx_getf hE dX11_feed_1 fl_X11_92_10 (kp_o hM) rfl ?_
  refine rx_int _ _ (kr_f (by decide)) ?_
  refine rx_int _ (nI p) hp ?_
  refine rx_bipush hE dX11_feed_4 (v := 20) (by decide) ?_
  refine rx_iadd hE dX11_feed_6 ?_
  refine rx_int _ (nI (p + 20)) (nI_add p 20) ?_
  refine rx_sipush hE dX11_feed_7 (v := 400) (by decide) ?_
  refine rx_icmp_le (tgt := 15) hE dX11_feed_10 (by decide) (fun c10 => ?_) (fun c10 => ?_)
  · have hc : p + 20 ≤ 400 := (nI_leI (by omega) (by omega)).mp c10
    refine rx_aload_n hE dX11_feed_15 (i := 0) rfl rfl ?_
    refine rx_iload_n hE dX11_feed_16 (i := 1) rfl rfl ?_
    refine rx_call0 (rx_callV (av := [.int a]) hE dX11_feed_17 lk_X11_95 (c_X11_four hM (S := S) (p := p) hp (by omega) a) (kp_o hM) np_X11_four rfl rfl (by decide) (Nat.le_of_ble_eq_true rfl) rfl ?_)
    rintro v M' ⟨rfl, rfl⟩
    refine rx_aload_n hE dX11_feed_20 (i := 0) rfl rfl ?_
    refine rx_iload_n hE dX11_feed_21 (i := 2) rfl rfl ?_
    refine rx_call0 (rx_callV (av := [.int b]) hE dX11_feed_22 lk_X11_95 (c_X11_four hM (S := (k_f (k_s S 1 (qf4 (S 1) (p) a)) 1 (nI (p + 4)))) (p := p + 4) rfl (by omega) b) (kp_o hM) np_X11_four rfl rfl (by decide) (Nat.le_of_ble_eq_true rfl) rfl ?_)
    rintro v M' ⟨rfl, rfl⟩
    refine rx_mem (M' := kp M (kput (k_f (k_s S 1 (qf4 (qf4 (S 1) (p) a) (p + 4) b)) 1 (nI (p + 8))) J) L) (by rw [k_fs1]; rfl) ?_
    refine rx_aload_n hE dX11_feed_25 (i := 0) rfl rfl ?_
    refine rx_iload_n hE dX11_feed_26 (i := 3) rfl rfl ?_
    refine rx_call0 (rx_callV (av := [.int c]) hE dX11_feed_27 lk_X11_95 (c_X11_four hM (S := (k_f (k_s S 1 (qf4 (qf4 (S 1) (p) a) (p + 4) b)) 1 (nI (p + 8)))) (p := p + 8) rfl (by omega) c) (kp_o hM) np_X11_four rfl rfl (by decide) (Nat.le_of_ble_eq_true rfl) rfl ?_)
    rintro v M' ⟨rfl, rfl⟩
    refine rx_mem (M' := kp M (kput (k_f (k_s S 1 (qf4 (qf4 (qf4 (S 1) (p) a) (p + 4) b) (p + 8) c)) 1 (nI (p + 12))) J) L) (by rw [k_fs1]; rfl) ?_
    refine rx_aload_n hE dX11_feed_30 (i := 0) rfl rfl ?_
    refine rx_iload hE dX11_feed_31 rfl ?_
    refine rx_call0 (rx_callV (av := [.int d]) hE dX11_feed_33 lk_X11_95 (c_X11_four hM (S := (k_f (k_s S 1 (qf4 (qf4 (qf4 (S 1) (p) a) (p + 4) b) (p + 8) c)) 1 (nI (p + 12)))) (p := p + 12) rfl (by omega) d) (kp_o hM) np_X11_four rfl rfl (by decide) (Nat.le_of_ble_eq_true rfl) rfl ?_)
    rintro v M' ⟨rfl, rfl⟩
    refine rx_mem (M' := kp M (kput (k_f (k_s S 1 (qf4 (qf4 (qf4 (qf4 (S 1) (p) a) (p + 4) b) (p + 8) c) (p + 12) d)) 1 (nI (p + 16))) J) L) (by rw [k_fs1]; rfl) ?_
    refine rx_aload_n hE dX11_feed_36 (i := 0) rfl rfl ?_
    refine rx_iload hE dX11_feed_37 rfl ?_
    refine rx_call0 (rx_callV (av := [.int e]) hE dX11_feed_39 lk_X11_95 (c_X11_four hM (S := (k_f (k_s S 1 (qf4 (qf4 (qf4 (qf4 (S 1) (p) a) (p + 4) b) (p + 8) c) (p + 12) d)) 1 (nI (p + 16)))) (p := p + 16) rfl (by omega) e) (kp_o hM) np_X11_four rfl rfl (by decide) (Nat.le_of_ble_eq_true rfl) rfl ?_)
    rintro v M' ⟨rfl, rfl⟩
    refine rx_mem (M' := kp M (kput (k_f (k_s S 1 (qf4 (qf4 (qf4 (qf4 (qf4 (S 1) (p) a) (p + 4) b) (p + 8) c) (p + 12) d) (p + 16) e)) 1 (nI (p + 20))) J) L) (by rw [k_fs1]; rfl) ?_
    refine rx_aload_n hE dX11_feed_42 (i := 0) rfl rfl ?_
    refine rx_getf hE dX11_feed_43 fl_X11_92_10 (kp_o hM) rfl ?_
    refine rx_int _ _ (kr_f (by decide)) ?_
    refine rx_int _ (nI (p + 20)) rfl ?_
    exact rx_iret hE hQ rfl dX11_feed_46 ⟨by unfold q_feed; rw [if_pos hc], by unfold q_feedS; rw [if_pos hc]; rfl⟩
  · have hc : ¬ p + 20 ≤ 400 := fun q => c10 ((nI_leI (a := p + 20) (b := 400) (by omega) (by omega)).mpr q)
    refine rx_iconst hE dX11_feed_13 (v := -1) (by decide) ?_
    exact rx_iret hE hQ rfl dX11_feed_14 ⟨by unfold q_feed; rw [if_neg hc], by unfold q_feedS; rw [if_neg hc]⟩
