def qinF (f : Nat → Int32) : Nat → Nat → Int32
  | 0, _ => 0
  | m + 1, k => if f k = 91 then 1 else qinF f m (k + 1)
set_option maxRecDepth 100000 in
set_option maxHeartbeats 1000000 in
theorem c_X11_isInside {M : gM} {S : gS} {L : gLg} (hM : 408 ≤ M.1) {h : Nat} (hh : h ≤ 400) (h16 : S 0 16 = nI h) : SX 0 0 0 mX11_isInside [.ref 384] (kp M S L) (fun v M' => v = some (.int (qinF (S 7) h 0)) ∧ M' = kp M S L) := by
  refine SX.intro [some (.ref 384), none] (by decide +kernel) (Nat.le_of_ble_eq_true rfl) rfl (fun E hE hQ => ?_)
  have l1 : ∀ (m1 k : Nat), k + m1 = h → qinF (S 7) m1 k = qinF (S 7) h 0 → RX E mX11_isInside.2.2.1 0 0 2 [some (.ref 384), some (.int (nI k))] [] (kp M S L) := by
    intro m1
    induction m1 with
    | zero =>
      intro k hkn hF
      refine rx_iload_n hE dX11_isInside_2 (i := 1) rfl rfl ?_
      refine rx_aload_n hE dX11_isInside_3 (i := 0) rfl rfl ?_
      refine rx_getf hE dX11_isInside_4 fl_X11_167_10 (kp_o hM) rfl ?_
      refine rx_int _ (nI h) h16 ?_
      refine rx_icmp_ge (tgt := 29) hE dX11_isInside_7 (by decide) (fun c7 => ?_) (fun c7 => absurd (nI_le (a := h) (b := k) (by omega) (by omega)) c7)
      refine rx_iconst hE dX11_isInside_29 (v := 0) (by decide) ?_
      exact rx_tret hE hQ rfl rfl dX11_isInside_30 ⟨by rw [← hF]; rfl, rfl⟩
    | succ m1 ihm1 =>
      intro k hkn hF
      refine rx_iload_n hE dX11_isInside_2 (i := 1) rfl rfl ?_
      refine rx_aload_n hE dX11_isInside_3 (i := 0) rfl rfl ?_
      refine rx_getf hE dX11_isInside_4 fl_X11_167_10 (kp_o hM) rfl ?_
      refine rx_int _ (nI h) h16 ?_
      refine rx_icmp_ge (tgt := 29) hE dX11_isInside_7 (by decide) (fun c7 => absurd c7 (nI_ge (a := k) (b := h) (by omega) (by omega))) (fun c7 => ?_)
      refine rx_aload_n hE dX11_isInside_10 (i := 0) rfl rfl ?_
      refine rx_getf hE dX11_isInside_11 fl_X11_29_10 (kp_o hM) rfl ?_
      refine rx_iload_n hE dX11_isInside_14 (i := 1) rfl rfl ?_
      refine rx_ialdN (i := k) hE dX11_isInside_15 (kp_7 hM) (by omega) (by decide) ?_
      refine rx_bipush hE dX11_isInside_16 (v := 91) (by decide) ?_
      refine rx_icmp_ne (tgt := 23) hE dX11_isInside_18 (by decide) (fun c18 => ?_) (fun c18 => ?_)
      · refine rx_iinc_1 hE dX11_isInside_23 (v := 1) (by decide) (by decide) rfl ?_
        rw [nI_1]
        refine rx_goto (tgt := 2) hE dX11_isInside_26 (by decide) ?_
        exact ihm1 (k + 1) (by omega) (by rw [← hF]; exact (if_neg c18).symm)
      · refine rx_iconst hE dX11_isInside_21 (v := 1) (by decide) ?_
        exact rx_tret hE hQ rfl rfl dX11_isInside_22 ⟨by rw [← hF]; exact congrArg (fun x => some (Value.int x)) (if_pos c18).symm, rfl⟩
  refine rx_iconst hE dX11_isInside_0 (v := 0) (by decide) ?_
  refine rx_istore_n_1 hE dX11_isInside_1 (by decide) rfl ?_
  exact l1 h 0 (by omega) rfl
