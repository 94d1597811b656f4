set_option maxRecDepth 100000 in
set_option maxHeartbeats 1000000 in
theorem c_X11_makes {M : gM} {S : gS} {L : gLg} (hM : 408 ≤ M.1) {k : Nat} (hk : k ≤ 60) (h12 : S 0 12 = nI k) (at0 : Int32) : SX 1 0 0 mX11_makes [.ref 384, .int at0] (kp M S L) (fun v M' => v = some (.int (if k = 60 then 0 else 1)) ∧ M' = kp M (if k = 60 then (if S 0 9 = 0 then k_f S 9 (1 + 8 * at0 + 3) else S) else k_f S 12 (nI (k + 1))) L) := by
  refine SX.intro [some (.ref 384), some (.int at0)] (by decide +kernel) (Nat.le_of_ble_eq_true rfl) rfl (fun E hE hQ => ?_)
  refine rx_aload_n hE dX11_makes_0 (i := 0) rfl rfl ?_
  refine rx_getf hE dX11_makes_1 fl_X11_161_10 (kp_o hM) rfl ?_
  refine rx_int _ (nI k) h12 ?_
  refine rx_bipush hE dX11_makes_4 (v := 60) (by decide) ?_
  refine rx_icmp_ne (tgt := 16) hE dX11_makes_6 (by decide) (fun c6 => ?_) (fun c6 => ?_)
  · have hk0 : ¬ k = 60 := fun z => c6 (by rw [z]; rfl)
    refine rx_aload_n hE dX11_makes_16 (i := 0) rfl rfl ?_
    refine rx_dup hE dX11_makes_17 rfl ?_
    refine rx_getf hE dX11_makes_18 fl_X11_161_10 (kp_o hM) rfl ?_
    refine rx_int _ (nI k) h12 ?_
    refine rx_iconst hE dX11_makes_21 (v := 1) (by decide) ?_
    refine rx_iadd hE dX11_makes_22 ?_
    refine rx_int _ (nI (k + 1)) (nI_1 k) ?_
    refine rx_put hE dX11_makes_23 fl_X11_161_10 fw_10_12 (kp_o hM) (fun _ => rfl) (fun _ => rfl) (Nat.le_of_ble_eq_true rfl) ?_
    refine rx_mem (M' := kp M (k_f S 12 (nI (k + 1))) L) kw_c12 ?_
    refine rx_iconst hE dX11_makes_26 (v := 1) (by decide) ?_
    exact rx_tret hE hQ rfl rfl dX11_makes_27 ⟨by rw [if_neg hk0], by rw [if_neg hk0]⟩
  · have hk0 : k = 60 := nI_inj (by omega) (by decide) c6
    refine rx_aload_n hE dX11_makes_9 (i := 0) rfl rfl ?_
    refine rx_iconst hE dX11_makes_10 (v := 3) (by decide) ?_
    refine rx_iload_n hE dX11_makes_11 (i := 1) rfl rfl ?_
    refine rx_call0 (rx_callV (av := [.int 3, .int at0]) hE dX11_makes_12 lk_X11_123 (c_X11_fails (S := S) hM 3 at0) (kp_o hM) np_X11_fails rfl rfl (by decide) (Nat.le_of_ble_eq_true rfl) rfl ?_)
    rintro v M' ⟨rfl, rfl⟩
    exact rx_tret hE hQ rfl rfl dX11_makes_15 ⟨by rw [if_pos hk0], by rw [if_pos hk0]⟩
set_option maxRecDepth 100000 in
set_option maxHeartbeats 1000000 in
theorem c_X11_opens {M : gM} {S : gS} {L : gLg} (hM : 408 ≤ M.1) {d k : Nat} (hd : d ≤ 10) (h13 : S 0 13 = nI d) (hk : k < 400) (h16 : S 0 16 = nI k) (what : Int32) : SX 1 0 0 mX11_opens [.ref 384, .int what] (kp M S L) (fun v M' => v = some (.int (if d = 10 then 0 else 1)) ∧ M' = kp M (if d = 10 then (if S 0 9 = 0 then k_f S 9 (1 + 8 * S 0 8 + 2) else S) else k_f (k_s (k_f S 13 (nI (d + 1))) 7 (upd (S 7) k what)) 16 (nI (k + 1))) L) := by
  refine SX.intro [some (.ref 384), some (.int what)] (by decide +kernel) (Nat.le_of_ble_eq_true rfl) rfl (fun E hE hQ => ?_)
  refine rx_aload_n hE dX11_opens_0 (i := 0) rfl rfl ?_
  refine rx_getf hE dX11_opens_1 fl_X11_164_10 (kp_o hM) rfl ?_
  refine rx_int _ (nI d) h13 ?_
  refine rx_bipush hE dX11_opens_4 (v := 10) (by decide) ?_
  refine rx_icmp_ne (tgt := 19) hE dX11_opens_6 (by decide) (fun c6 => ?_) (fun c6 => ?_)
  · have hk0 : ¬ d = 10 := fun z => c6 (by rw [z]; rfl)
    refine rx_aload_n hE dX11_opens_19 (i := 0) rfl rfl ?_
    refine rx_dup hE dX11_opens_20 rfl ?_
    refine rx_getf hE dX11_opens_21 fl_X11_164_10 (kp_o hM) rfl ?_
    refine rx_int _ (nI d) h13 ?_
    refine rx_iconst hE dX11_opens_24 (v := 1) (by decide) ?_
    refine rx_iadd hE dX11_opens_25 ?_
    refine rx_int _ (nI (d + 1)) (nI_1 d) ?_
    refine rx_put hE dX11_opens_26 fl_X11_164_10 fw_10_13 (kp_o hM) (fun _ => rfl) (fun _ => rfl) (Nat.le_of_ble_eq_true rfl) ?_
    refine rx_mem (M' := kp M (k_f S 13 (nI (d + 1))) L) kw_c13 ?_
    refine rx_aload_n hE dX11_opens_29 (i := 0) rfl rfl ?_
    refine rx_getf hE dX11_opens_30 fl_X11_29_10 (kp_o hM) rfl ?_
    refine rx_aload_n hE dX11_opens_33 (i := 0) rfl rfl ?_
    refine rx_getf hE dX11_opens_34 fl_X11_167_10 (kp_o hM) rfl ?_
    refine rx_int _ (nI k) h16 ?_
    refine rx_iload_n hE dX11_opens_37 (i := 1) rfl rfl ?_
    refine rx_iastN (i := k) hE dX11_opens_38 (kp_7 hM) (by omega) (by decide) ?_
    refine rx_mem (M' := kp M (k_s (k_f S 13 (nI (d + 1))) 7 (upd (S 7) k what)) L) kw_7 ?_
    refine rx_aload_n hE dX11_opens_39 (i := 0) rfl rfl ?_
    refine rx_dup hE dX11_opens_40 rfl ?_
    refine rx_getf hE dX11_opens_41 fl_X11_167_10 (kp_o hM) rfl ?_
    refine rx_int _ (nI k) h16 ?_
    refine rx_iconst hE dX11_opens_44 (v := 1) (by decide) ?_
    refine rx_iadd hE dX11_opens_45 ?_
    refine rx_int _ (nI (k + 1)) (nI_1 k) ?_
    refine rx_put hE dX11_opens_46 fl_X11_167_10 fw_10_16 (kp_o hM) (fun _ => rfl) (fun _ => rfl) (Nat.le_of_ble_eq_true rfl) ?_
    refine rx_mem (M' := kp M (k_f (k_s (k_f S 13 (nI (d + 1))) 7 (upd (S 7) k what)) 16 (nI (k + 1))) L) kw_c16 ?_
    refine rx_iconst hE dX11_opens_49 (v := 1) (by decide) ?_
    exact rx_tret hE hQ rfl rfl dX11_opens_50 ⟨by rw [if_neg hk0], by rw [if_neg hk0]⟩
  · have hk0 : d = 10 := nI_inj (by omega) (by decide) c6
    refine rx_aload_n hE dX11_opens_9 (i := 0) rfl rfl ?_
    refine rx_iconst hE dX11_opens_10 (v := 2) (by decide) ?_
    refine rx_aload_n hE dX11_opens_11 (i := 0) rfl rfl ?_
    refine rx_getf hE dX11_opens_12 fl_X11_102_10 (kp_o hM) rfl ?_
    refine rx_call0 (rx_callV (av := [.int 2, .int (S 0 8)]) hE dX11_opens_15 lk_X11_123 (c_X11_fails (S := S) hM 2 (S 0 8)) (kp_o hM) np_X11_fails rfl rfl (by decide) (Nat.le_of_ble_eq_true rfl) rfl ?_)
    rintro v M' ⟨rfl, rfl⟩
    exact rx_tret hE hQ rfl rfl dX11_opens_18 ⟨by rw [if_pos hk0], by rw [if_pos hk0]⟩
set_option maxRecDepth 100000 in
set_option maxHeartbeats 1000000 in
theorem c_X11_puts {M : gM} {S : gS} {L : gLg} (hM : 408 ≤ M.1) {t k : Nat} (ht : t < 6) (h11 : S 0 11 = nI t) (hk : k < 400) (h3 : S 3 t = nI k) (s w : Int32) : SX 0 0 0 mX11_puts [.ref 384, .int s, .int w] (kp M S L) (fun v M' => v = none ∧ M' = kp M (k_s (k_s S 2 (upd (S 2) (400 * t + k) (s + 16 * w))) 3 (upd (S 3) t (nI (k + 1)))) L) := by
  refine SX.intro [some (.ref 384), some (.int s), some (.int w)] (by decide +kernel) (Nat.le_of_ble_eq_true rfl) rfl (fun E hE hQ => ?_)
  refine rx_aload_n hE dX11_puts_0 (i := 0) rfl rfl ?_
  refine rx_getf hE dX11_puts_1 fl_X11_13_10 (kp_o hM) rfl ?_
  refine rx_sipush hE dX11_puts_4 (v := 400) (by decide) ?_
  refine rx_aload_n hE dX11_puts_7 (i := 0) rfl rfl ?_
  refine rx_getf hE dX11_puts_8 fl_X11_158_10 (kp_o hM) rfl ?_
  refine rx_int _ (nI t) h11 ?_
  refine rx_imul hE dX11_puts_11 ?_
  refine rx_int _ (nI (400 * t)) (pk_mul 400 t) ?_
  refine rx_aload_n hE dX11_puts_12 (i := 0) rfl rfl ?_
  refine rx_getf hE dX11_puts_13 fl_X11_17_10 (kp_o hM) rfl ?_
  refine rx_aload_n hE dX11_puts_16 (i := 0) rfl rfl ?_
  refine rx_getf hE dX11_puts_17 fl_X11_158_10 (kp_o hM) rfl ?_
  refine rx_int _ (nI t) h11 ?_
  refine rx_ialdN (i := t) hE dX11_puts_20 (kp_3 hM) (by omega) (by decide) ?_
  refine rx_int _ (nI k) h3 ?_
  refine rx_iadd hE dX11_puts_21 ?_
  refine rx_int _ (nI (400 * t + k)) (nI_add _ _) ?_
  refine rx_iload_n hE dX11_puts_22 (i := 1) rfl rfl ?_
  refine rx_bipush hE dX11_puts_23 (v := 16) (by decide) ?_
  refine rx_iload_n hE dX11_puts_25 (i := 2) rfl rfl ?_
  refine rx_imul hE dX11_puts_26 ?_
  refine rx_iadd hE dX11_puts_27 ?_
  refine rx_iastN (i := 400 * t + k) hE dX11_puts_28 (kp_2 hM) (by omega) (by decide) ?_
  refine rx_mem (M' := kp M (k_s S 2 (upd (S 2) (400 * t + k) (s + 16 * w))) L) kw_2 ?_
  refine rx_aload_n hE dX11_puts_29 (i := 0) rfl rfl ?_
  refine rx_getf hE dX11_puts_30 fl_X11_17_10 (kp_o hM) rfl ?_
  refine rx_aload_n hE dX11_puts_33 (i := 0) rfl rfl ?_
  refine rx_getf hE dX11_puts_34 fl_X11_158_10 (kp_o hM) rfl ?_
  refine rx_int _ (nI t) h11 ?_
  refine rx_dup2 hE dX11_puts_37 rfl rfl ?_
  refine rx_ialdN (i := t) hE dX11_puts_38 (kp_3 hM) (by omega) (by decide) ?_
  refine rx_int _ (nI k) h3 ?_
  refine rx_iconst hE dX11_puts_39 (v := 1) (by decide) ?_
  refine rx_iadd hE dX11_puts_40 ?_
  refine rx_int _ (nI (k + 1)) (nI_1 k) ?_
  refine rx_iastN (i := t) hE dX11_puts_41 (kp_3 hM) (by omega) (by decide) ?_
  refine rx_mem (M' := kp M (k_s (k_s S 2 (upd (S 2) (400 * t + k) (s + 16 * w))) 3 (upd (S 3) t (nI (k + 1)))) L) kw_3 ?_
  exact rx_vret hE hQ rfl dX11_puts_42 ⟨rfl, rfl⟩
