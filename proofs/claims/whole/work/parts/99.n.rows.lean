def qst (s : Int32) : Int32 := if s = 13 then 1 else if s = 12 then 2 else if s = 11 then 3 else 0
set_option maxRecDepth 100000 in
set_option maxHeartbeats 1000000 in
theorem c_X11_strength {M : gM} (s : Int32) : SX 0 0 0 mX11_strength [.int s] (M) (fun v M' => v = some (.int (qst s)) ∧ M' = M) := by
  refine SX.intro [some (.int s)] (by decide +kernel) (Nat.le_of_ble_eq_true rfl) rfl (fun E hE hQ => ?_)
  refine rx_iload_n hE dX11_strength_0 (i := 0) rfl rfl ?_
  refine rx_bipush hE dX11_strength_1 (v := 13) (by decide) ?_
  refine rx_icmp_ne (tgt := 10) hE dX11_strength_3 (by decide) (fun c3 => ?_) (fun c3 => ?_)
  · refine rx_iload_n hE dX11_strength_10 (i := 0) rfl rfl ?_
    refine rx_bipush hE dX11_strength_11 (v := 12) (by decide) ?_
    refine rx_icmp_ne (tgt := 20) hE dX11_strength_13 (by decide) (fun c13 => ?_) (fun c13 => ?_)
    · refine rx_iload_n hE dX11_strength_20 (i := 0) rfl rfl ?_
      refine rx_bipush hE dX11_strength_21 (v := 11) (by decide) ?_
      refine rx_icmp_ne (tgt := 30) hE dX11_strength_23 (by decide) (fun c23 => ?_) (fun c23 => ?_)
      · refine rx_iconst hE dX11_strength_30 (v := 0) (by decide) ?_
        exact rx_iret hE hQ rfl dX11_strength_31 ⟨by simp [qst, *], rfl⟩
      · refine rx_iconst hE dX11_strength_26 (v := 3) (by decide) ?_
        refine rx_goto (tgt := 31) hE dX11_strength_27 (by decide) ?_
        exact rx_iret hE hQ rfl dX11_strength_31 ⟨by simp [qst, *], rfl⟩
    · refine rx_iconst hE dX11_strength_16 (v := 2) (by decide) ?_
      refine rx_goto (tgt := 31) hE dX11_strength_17 (by decide) ?_
      exact rx_iret hE hQ rfl dX11_strength_31 ⟨by simp [qst, *], rfl⟩
  · refine rx_iconst hE dX11_strength_6 (v := 1) (by decide) ?_
    refine rx_goto (tgt := 31) hE dX11_strength_7 (by decide) ?_
    exact rx_iret hE hQ rfl dX11_strength_31 ⟨by simp [qst, *], rfl⟩
def qjw (T : Nat → Int32) (N p : Nat) : Int32 := (if qwd T N p 366619534830 = 0 then (if qwd T N p 605220 = 0 then (if qwd T N p 3540584 = 0 then (if qwd T N p 20037189 = 0 then 0 else 1) else 1) else 1) else 1)
set_option maxRecDepth 100000 in
set_option maxHeartbeats 1000000 in
theorem c_X11_isJunctionWord {M : gM} {S : gS} {L : gLg} (hM : 408 ≤ M.1) {T : Nat → Int32} {N : Nat} (hN : N ≤ 400) (h1 : S 0 1 = nI N) (hb : S 1 = T) {q : Nat} (hq : q ≤ N) (h8 : S 0 8 = nI q) : SX 2 0 0 mX11_isJunctionWord [.ref 384] (kp M S L) (fun v M' => v = some (.int (qjw T N (sk T N q))) ∧ M' = kp M (k_f S 8 (nI (sk T N q))) L) := by
  refine SX.intro [some (.ref 384)] (by decide +kernel) (Nat.le_of_ble_eq_true rfl) rfl (fun E hE hQ => ?_)
  refine rx_aload_n hE dX11_isJunctionWord_0 (i := 0) rfl rfl ?_
  refine rx_ldc2 hE dX11_isJunctionWord_1 kl_X11_234 ?_
  refine rx_call0 (rx_callV (av := [.long 366619534830]) hE dX11_isJunctionWord_4 lk_X11_113 (c_X11_isWord hM hN h1 hb hq h8 366619534830) (kp_o hM) np_X11_isWord rfl rfl (by decide) (Nat.le_of_ble_eq_true rfl) rfl ?_)
  rintro v M' ⟨rfl, rfl⟩
  refine rx_if_ne (tgt := 40) hE dX11_isJunctionWord_7 (by decide) (fun c7 => ?_) (fun c7 => ?_)
  · refine rx_iconst hE dX11_isJunctionWord_40 (v := 1) (by decide) ?_
    refine rx_goto (tgt := 45) hE dX11_isJunctionWord_41 (by decide) ?_
    exact rx_tret hE hQ rfl rfl dX11_isJunctionWord_45 ⟨by unfold qjw; rw [if_neg c7], rfl⟩
  · refine rx_aload_n hE dX11_isJunctionWord_10 (i := 0) rfl rfl ?_
    refine rx_ldc2 hE dX11_isJunctionWord_11 kl_X11_134 ?_
    refine rx_call0 (rx_callV (av := [.long 605220]) hE dX11_isJunctionWord_14 lk_X11_113 (c_X11_isWord (S := k_f S 8 (nI (sk T N q))) hM hN h1 hb (q := sk T N q) (sk_le hq).2 rfl 605220) (kp_o hM) np_X11_isWord rfl rfl (by decide) (Nat.le_of_ble_eq_true rfl) rfl ?_)
    rintro v M' ⟨rfl, rfl⟩
    rw [sk_sk hq, k_ff2]
    refine rx_if_ne (tgt := 40) hE dX11_isJunctionWord_17 (by decide) (fun c17 => ?_) (fun c17 => ?_)
    · refine rx_iconst hE dX11_isJunctionWord_40 (v := 1) (by decide) ?_
      refine rx_goto (tgt := 45) hE dX11_isJunctionWord_41 (by decide) ?_
      exact rx_tret hE hQ rfl rfl dX11_isJunctionWord_45 ⟨by unfold qjw; rw [if_pos c7, if_neg c17], rfl⟩
    · refine rx_aload_n hE dX11_isJunctionWord_20 (i := 0) rfl rfl ?_
      refine rx_ldc2 hE dX11_isJunctionWord_21 kl_X11_242 ?_
      refine rx_call0 (rx_callV (av := [.long 3540584]) hE dX11_isJunctionWord_24 lk_X11_113 (c_X11_isWord (S := k_f S 8 (nI (sk T N q))) hM hN h1 hb (q := sk T N q) (sk_le hq).2 rfl 3540584) (kp_o hM) np_X11_isWord rfl rfl (by decide) (Nat.le_of_ble_eq_true rfl) rfl ?_)
      rintro v M' ⟨rfl, rfl⟩
      rw [sk_sk hq, k_ff2]
      refine rx_if_ne (tgt := 40) hE dX11_isJunctionWord_27 (by decide) (fun c27 => ?_) (fun c27 => ?_)
      · refine rx_iconst hE dX11_isJunctionWord_40 (v := 1) (by decide) ?_
        refine rx_goto (tgt := 45) hE dX11_isJunctionWord_41 (by decide) ?_
        exact rx_tret hE hQ rfl rfl dX11_isJunctionWord_45 ⟨by unfold qjw; rw [if_pos c7, if_pos c17, if_neg c27], rfl⟩
      · refine rx_aload_n hE dX11_isJunctionWord_30 (i := 0) rfl rfl ?_
        refine rx_ldc2 hE dX11_isJunctionWord_31 kl_X11_250 ?_
        refine rx_call0 (rx_callV (av := [.long 20037189]) hE dX11_isJunctionWord_34 lk_X11_113 (c_X11_isWord (S := k_f S 8 (nI (sk T N q))) hM hN h1 hb (q := sk T N q) (sk_le hq).2 rfl 20037189) (kp_o hM) np_X11_isWord rfl rfl (by decide) (Nat.le_of_ble_eq_true rfl) rfl ?_)
        rintro v M' ⟨rfl, rfl⟩
        rw [sk_sk hq, k_ff2]
        refine rx_if_eq (tgt := 44) hE dX11_isJunctionWord_37 (by decide) (fun c37 => ?_) (fun c37 => ?_)
        · refine rx_iconst hE dX11_isJunctionWord_44 (v := 0) (by decide) ?_
          exact rx_tret hE hQ rfl rfl dX11_isJunctionWord_45 ⟨by unfold qjw; rw [if_pos c7, if_pos c17, if_pos c27, if_pos c37], rfl⟩
        · refine rx_iconst hE dX11_isJunctionWord_40 (v := 1) (by decide) ?_
          refine rx_goto (tgt := 45) hE dX11_isJunctionWord_41 (by decide) ?_
          exact rx_tret hE hQ rfl rfl dX11_isJunctionWord_45 ⟨by unfold qjw; rw [if_pos c7, if_pos c17, if_pos c27, if_neg c37], rfl⟩
