set_option maxRecDepth 100000 in
set_option maxHeartbeats 1000000 in
theorem c_X11_cellHere {M : gM} {S : gS} {L : gLg} (hM : 408 ≤ M.1) {T : Nat → Int32} {N : Nat} (hN : N ≤ 400) (h1 : S 0 1 = nI N) (hb : S 1 = T) {q : Nat} (hq : q ≤ N) (h8 : S 0 8 = nI q) {i : Nat} (hi9 : i < 90) (lo hi : Int32) : SX 2 0 0 mX11_cellHere [.ref 384, .int (nI i), .int lo, .int hi] (kp M S L) (fun v M' => ∃ S', kno S S' ∧ krd S S' T N (sk T N q) lo hi v ∧ M' = kp M (if tno T N (sk T N q) lo hi then k_s S' 6 (upd (S 6) i (tv T N (sk T N q))) else S') L) := by
  refine SX.intro [some (.ref 384), some (.int (nI i)), some (.int lo), some (.int hi)] (by decide +kernel) (Nat.le_of_ble_eq_true rfl) rfl (fun E hE hQ => ?_)
  refine rx_aload_n hE dX11_cellHere_0 (i := 0) rfl rfl ?_
  refine rx_iload_n hE dX11_cellHere_1 (i := 2) rfl rfl ?_
  refine rx_iload_n hE dX11_cellHere_2 (i := 3) rfl rfl ?_
  refine rx_call0 (rx_callV (av := [.int lo, .int hi]) hE dX11_cellHere_3 lk_X11_179 (c_X11_numberHere hM hN h1 hb hq h8 lo hi) (kp_o hM) np_X11_numberHere rfl rfl (by decide) (Nat.le_of_ble_eq_true rfl) rfl ?_)
  rintro v M' ⟨S', rfl, hno, hk⟩
  rcases hk with ⟨hg, rfl, e8, e9, e10⟩ | ⟨hg, rfl, e9⟩
  · skip
    refine rx_if_ne (tgt := 11) hE dX11_cellHere_6 (by decide) (fun c6 => ?_) (fun c6 => absurd c6 (by decide))
    refine rx_aload_n hE dX11_cellHere_11 (i := 0) rfl rfl ?_
    refine rx_getf hE dX11_cellHere_12 fl_X11_26_10 (kp_o hM) rfl ?_
    refine rx_iload_n hE dX11_cellHere_15 (i := 1) rfl rfl ?_
    refine rx_aload_n hE dX11_cellHere_16 (i := 0) rfl rfl ?_
    refine rx_getf hE dX11_cellHere_17 fl_X11_127_10 (kp_o hM) rfl ?_
    refine rx_int _ (tv T N (sk T N q)) e10 ?_
    refine rx_iastN (i := i) hE dX11_cellHere_20 (kp_6 hM) (by omega) (by decide) ?_
    refine rx_mem (M' := kp M (k_s S' 6 (upd (S 6) i (tv T N (sk T N q)))) L) (by rw [kw_6, hno.1 6 (by decide)]) ?_
    refine rx_iconst hE dX11_cellHere_21 (v := 1) (by decide) ?_
    exact rx_tret hE hQ rfl rfl dX11_cellHere_22 ⟨S', hno, Or.inl ⟨hg, rfl, e8, e9, e10⟩, by rw [if_pos hg]⟩
  · skip
    refine rx_if_ne (tgt := 11) hE dX11_cellHere_6 (by decide) (fun c6 => absurd rfl c6) (fun c6 => ?_)
    refine rx_iconst hE dX11_cellHere_9 (v := 0) (by decide) ?_
    exact rx_tret hE hQ rfl rfl dX11_cellHere_10 ⟨S', hno, Or.inr ⟨hg, rfl, e9⟩, by rw [if_neg hg]⟩
