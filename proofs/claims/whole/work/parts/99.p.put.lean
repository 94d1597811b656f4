set_option maxRecDepth 100000 in
set_option maxHeartbeats 1000000 in
theorem c_X7_startOver {n : Nat} {X : gX} {O : gO} {Q : gU} {G : gK} {S : gS} {L : gLg} (hM : 408 ≤ n) : SX 0 0 0 mX7_startOver [.ref 50] (xm n X O Q G S L) (fun v M' => v = none ∧ M' = xm n (x_r X 6 (j_f (j_f (X 6) 2 0) 3 0)) O Q G S L) := by
  refine SX.intro [some (.ref 50)] (by decide +kernel) (Nat.le_of_ble_eq_true rfl) rfl (fun E hE hQ => ?_)
  refine rx_aload_n hE dX7_startOver_0 (i := 0) rfl rfl ?_
  refine rx_iconst hE dX7_startOver_1 (v := 0) (by decide) ?_
  refine rx_put hE dX7_startOver_2 fl_X7_15_7 fw_7_2 (xa_6 hM) (fun _ => rfl) (fun _ => rfl) (Nat.le_of_ble_eq_true rfl) ?_
  refine rx_mem (M' := xm n (x_r X 6 (j_f (X 6) 2 0)) O Q G S L) xw_6_f2 ?_
  refine rx_aload_n hE dX7_startOver_5 (i := 0) rfl rfl ?_
  refine rx_iconst hE dX7_startOver_6 (v := 0) (by decide) ?_
  refine rx_put hE dX7_startOver_7 fl_X7_19_7 fw_7_3 (xa_6 hM) (fun _ => rfl) (fun _ => rfl) (Nat.le_of_ble_eq_true rfl) ?_
  refine rx_mem (M' := xm n (x_r X 6 (j_f (j_f (X 6) 2 0) 3 0)) O Q G S L) (xw_6_f3.trans (by rw [x_rr, x_r_eq])) ?_
  exact rx_vret hE hQ rfl dX7_startOver_10 ⟨rfl, rfl⟩
set_option maxRecDepth 100000 in
set_option maxHeartbeats 1000000 in
theorem c_X7_put {n : Nat} {X : gX} {O : gO} {Q : gU} {G : gK} {S : gS} {L : gLg} (hM : 408 ≤ n) {k : Nat} (hk : k ≤ 400) (h2 : X 6 0 2 = nI k) (s : Int32) : SX 0 0 0 mX7_put [.ref 50, .int s] (xm n X O Q G S L) (fun v M' => v = none ∧ M' = xm n (if X 1 0 6 = 0 ∧ k < 400 then x_r X 6 (j_f (j_s (X 6) 1 (upd (X 6 1) k s)) 2 (nI (k + 1))) else X) O Q G S L) := by
  refine SX.intro [some (.ref 50), some (.int s)] (by decide +kernel) (Nat.le_of_ble_eq_true rfl) rfl (fun E hE hQ => ?_)
  refine rx_aload_n hE dX7_put_0 (i := 0) rfl rfl ?_
  refine rx_getf hE dX7_put_1 fl_X7_39_7 (xa_6 hM) rfl ?_
  refine rx_getfN hE dX7_put_4 fl_X7_62_8 (xa_1 hM) rfl ?_
  refine rx_if_ne (tgt := 42) hE dX7_put_7 (by decide) (fun c7 => ?_) (fun c7 => ?_)
  · exact rx_vret hE hQ rfl dX7_put_42 ⟨rfl, by rw [if_neg (fun z => c7 z.1)]⟩
  · refine rx_aload_n hE dX7_put_10 (i := 0) rfl rfl ?_
    refine rx_getf hE dX7_put_11 fl_X7_15_7 (xa_6 hM) rfl ?_
    refine rx_int _ (nI k) h2 ?_
    refine rx_aload_n hE dX7_put_14 (i := 0) rfl rfl ?_
    refine rx_getf hE dX7_put_15 fl_X7_9_7 (xa_6 hM) rfl ?_
    refine rx_alenI hE dX7_put_18 (xa_6_1 hM) ?_
    refine rx_icmp_ge (tgt := 42) hE dX7_put_19 (by decide) (fun c19 => ?_) (fun c19 => ?_)
    · have hk4 : ¬ k < 400 := fun z => absurd c19 (nI_ge (a := k) (b := 400) z (by decide))
      exact rx_vret hE hQ rfl dX7_put_42 ⟨rfl, by rw [if_neg (fun z => hk4 z.2)]⟩
    · have hk4 : k < 400 := Classical.byContradiction (fun z => c19 (nI_le (a := 400) (b := k) (by omega) (by omega)))
      refine rx_aload_n hE dX7_put_22 (i := 0) rfl rfl ?_
      refine rx_getf hE dX7_put_23 fl_X7_9_7 (xa_6 hM) rfl ?_
      refine rx_aload_n hE dX7_put_26 (i := 0) rfl rfl ?_
      refine rx_getf hE dX7_put_27 fl_X7_15_7 (xa_6 hM) rfl ?_
      refine rx_int _ (nI k) h2 ?_
      refine rx_iload_n hE dX7_put_30 (i := 1) rfl rfl ?_
      refine rx_iastN hE dX7_put_31 (xa_6_1 hM) (by omega) (by decide) ?_
      refine rx_mem (M' := xm n (x_r X 6 (j_s (X 6) 1 (upd (X 6 1) k s))) O Q G S L) xw_6_1 ?_
      refine rx_aload_n hE dX7_put_32 (i := 0) rfl rfl ?_
      refine rx_dup hE dX7_put_33 rfl ?_
      refine rx_getf hE dX7_put_34 fl_X7_15_7 (xa_6 hM) rfl ?_
      refine rx_int _ (nI k) h2 ?_
      refine rx_iconst hE dX7_put_37 (v := 1) (by decide) ?_
      refine rx_iadd hE dX7_put_38 ?_
      refine rx_int _ (nI (k + 1)) (nI_1 k) ?_
      refine rx_put hE dX7_put_39 fl_X7_15_7 fw_7_2 (xa_6 hM) (fun _ => rfl) (fun _ => rfl) (Nat.le_of_ble_eq_true rfl) ?_
      refine rx_mem (M' := xm n (x_r X 6 (j_f (j_s (X 6) 1 (upd (X 6 1) k s)) 2 (nI (k + 1)))) O Q G S L) (xw_6_f2.trans (by rw [x_rr, x_r_eq])) ?_
      exact rx_vret hE hQ rfl dX7_put_42 ⟨rfl, by rw [if_pos ⟨c7, hk4⟩]⟩
