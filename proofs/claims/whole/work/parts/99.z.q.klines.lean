set_option maxRecDepth 100000 in
set_option maxHeartbeats 1000000 in
theorem c_X11_isJunctionHereF {M : gM} {S : gS} {L : gLg} (hM : 408 ≤ M.1) {T : Nat → Int32} {N p k : Nat} {J : gJn} (hN : N ≤ 400) (hq : kb1 S T N p) (hz : sk T N p = p) (hte : te T N p = tru ltB T N p) (hj : kjr (S 6) J k) (hk : ¬ k = 0) : SX 1 0 0 mX11_isJunctionHere [.ref 384, .int (nI p)] (kp M S L) (fun v M' => ∃ S', M' = kp M S' L ∧ kfj S S' ∧ v = some (.int 0) ∧ S' 0 9 = fE p 4) := by
  refine SX.intro [some (.ref 384), some (.int (nI p))] (by decide +kernel) (Nat.le_of_ble_eq_true rfl) rfl (fun E hE hQ => ?_)
  refine rx_aload_n hE dX11_isJunctionHere_0 (i := 0) rfl rfl ?_
  refine rx_getf hE dX11_isJunctionHere_1 fl_X11_26_10 (kp_o hM) rfl ?_
  refine rx_iconst hE dX11_isJunctionHere_4 (v := 0) (by decide) ?_
  refine rx_ialdN (i := 0) hE dX11_isJunctionHere_5 (kp_6 hM) (by omega) (by decide) ?_
  refine rx_int _ 1 (hj.1.trans (if_neg hk)) ?_
  refine rx_if_le (tgt := 16) hE dX11_isJunctionHere_6 (by decide) (fun c6 => absurd c6 (by decide)) (fun c6 => ?_)
  refine rx_aload_n hE dX11_isJunctionHere_9 (i := 0) rfl rfl ?_
  refine rx_iconst hE dX11_isJunctionHere_10 (v := 4) (by decide) ?_
  refine rx_iload_n hE dX11_isJunctionHere_11 (i := 1) rfl rfl ?_
  refine rx_call0 (rx_callV (av := [.int (nI 4), .int (nI p)]) hE dX11_isJunctionHere_12 lk_X11_123 (c_X11_failsB hM hq.2.2.2 p 4) (kp_o hM) np_X11_fails rfl rfl (by decide) (Nat.le_of_ble_eq_true rfl) rfl ?_)
  rintro v M' ⟨rfl, S3, rfl, f3, e9⟩
  exact rx_tret hE hQ rfl rfl dX11_isJunctionHere_15 ⟨S3, rfl, f3, rfl, e9⟩
set_option maxRecDepth 100000 in
set_option maxHeartbeats 1000000 in
theorem c_X11_isJunctionHere {M : gM} {S : gS} {L : gLg} (hM : 408 ≤ M.1) {T : Nat → Int32} {N p k : Nat} {J : gJn} (hN : N ≤ 400) (hq : kb1 S T N p) (hz : sk T N p = p) (hte : te T N p = tru ltB T N p) (hj : kjr (S 6) J k) (hk : k = 0) : SX 3 0 0 mX11_isJunctionHere [.ref 384, .int (nI p)] (kp M S L) (fun v M' => ∃ S', M' = kp M S' L ∧ kfj S S' ∧ ((∃ g, jcF T N 0 (nx T N p) J = .error g ∧ v = some (.int 0) ∧ S' 0 9 = g) ∨ ∃ q1 J1, jcF T N 0 (nx T N p) J = .ok (sk T N q1, J1) ∧ v = some (.int 1) ∧ kb1 S' T N q1 ∧ kjr (S' 6) J1 (k + 1))) := by
  refine SX.intro [some (.ref 384), some (.int (nI p))] (by decide +kernel) (Nat.le_of_ble_eq_true rfl) rfl (fun E hE hQ => ?_)
  refine rx_aload_n hE dX11_isJunctionHere_0 (i := 0) rfl rfl ?_
  refine rx_getf hE dX11_isJunctionHere_1 fl_X11_26_10 (kp_o hM) rfl ?_
  refine rx_iconst hE dX11_isJunctionHere_4 (v := 0) (by decide) ?_
  refine rx_ialdN (i := 0) hE dX11_isJunctionHere_5 (kp_6 hM) (by omega) (by decide) ?_
  refine rx_int _ 0 (hj.1.trans (if_pos hk)) ?_
  refine rx_if_le (tgt := 16) hE dX11_isJunctionHere_6 (by decide) (fun c6 => ?_) (fun c6 => absurd (show (0 : Int32) ≤ 0 by decide) c6)
  refine rx_aload_n hE dX11_isJunctionHere_16 (i := 0) rfl rfl ?_
  refine rx_call0 (rx_callV (av := []) hE dX11_isJunctionHere_17 lk_X11_117 (c_X11_passWordB hM hN hq) (kp_o hM) np_X11_passWord rfl rfl (by decide) (Nat.le_of_ble_eq_true rfl) rfl ?_)
  rintro v M' ⟨rfl, S1, rfl, f1, e61, q1⟩
  rw [← hte] at q1
  refine rx_aload_n hE dX11_isJunctionHere_20 (i := 0) rfl rfl ?_
  refine rx_iconst hE dX11_isJunctionHere_21 (v := 1) (by decide) ?_
  refine rx_iconst hE dX11_isJunctionHere_22 (v := 1) (by decide) ?_
  refine rx_bipush hE dX11_isJunctionHere_23 (v := 12) (by decide) ?_
  refine rx_call0 (rx_callV (av := [.int (nI (1)), .int 1, .int 12]) hE dX11_isJunctionHere_25 lk_X11_230 (c_X11_cellB (S := S1) hM hN q1 (i := 1) (by omega) 1 12) (kp_o hM) np_X11_cellHere rfl rfl (by decide) (Nat.le_of_ble_eq_true rfl) rfl ?_)
  rw [show sk T N (te T N p) = nx T N p from rfl]
  rintro v M' ⟨S2, rfl, f2, hv⟩
  rcases hv with ⟨hg0, rfl, q2, e62⟩ | ⟨hg0, rfl, e9⟩
  · skip
    refine rx_if_eq (tgt := 42) hE dX11_isJunctionHere_28 (by decide) (fun c28 => absurd c28 (by decide)) (fun c28 => ?_)
    refine rx_aload_n hE dX11_isJunctionHere_31 (i := 0) rfl rfl ?_
    refine rx_iconst hE dX11_isJunctionHere_32 (v := 2) (by decide) ?_
    refine rx_iconst hE dX11_isJunctionHere_33 (v := 1) (by decide) ?_
    refine rx_bipush hE dX11_isJunctionHere_34 (v := 9) (by decide) ?_
    refine rx_call0 (rx_callV (av := [.int (nI (2)), .int 1, .int 9]) hE dX11_isJunctionHere_36 lk_X11_230 (c_X11_cellB (S := S2) hM hN q2 (i := 2) (by omega) 1 9) (kp_o hM) np_X11_cellHere rfl rfl (by decide) (Nat.le_of_ble_eq_true rfl) rfl ?_)
    rw [show sk T N (te T N (nx T N p)) = (nx T N (nx T N p)) from rfl]
    rintro v M' ⟨S3, rfl, f3, hv⟩
    rcases hv with ⟨hg1, rfl, q3, e63⟩ | ⟨hg1, rfl, e9⟩
    · skip
      refine rx_if_ne (tgt := 44) hE dX11_isJunctionHere_39 (by decide) (fun c39 => ?_) (fun c39 => absurd c39 (by decide))
      refine rx_aload_n hE dX11_isJunctionHere_44 (i := 0) rfl rfl ?_
      refine rx_getf hE dX11_isJunctionHere_45 fl_X11_26_10 (kp_o hM) rfl ?_
      refine rx_iconst hE dX11_isJunctionHere_48 (v := 0) (by decide) ?_
      refine rx_iconst hE dX11_isJunctionHere_49 (v := 1) (by decide) ?_
      refine rx_iastN (i := 0) hE dX11_isJunctionHere_50 (kp_6 hM) (by omega) (by decide) ?_
      refine rx_mem (M' := kp M (k_s S3 6 (upd (S3 6) 0 1)) L) kw_6 ?_
      refine rx_iconst hE dX11_isJunctionHere_51 (v := 1) (by decide) ?_
      exact rx_tret hE hQ rfl rfl dX11_isJunctionHere_52 ⟨(k_s S3 6 (upd (S3 6) 0 1)), rfl, f1.trans (f2.trans (f3.trans (kfj.s6 S3 _))), Or.inr ⟨_, _, (by unfold jcF; rw [if_pos rfl, if_pos hg0, if_pos hg1]; rfl), rfl, q3, (by subst hk; show kjr (upd (S3 6) 0 1) _ _; rw [e63, e62, e61]; exact kjr_0 hj _ _)⟩⟩
    · skip
      refine rx_if_ne (tgt := 44) hE dX11_isJunctionHere_39 (by decide) (fun c39 => absurd rfl c39) (fun c39 => ?_)
      refine rx_iconst hE dX11_isJunctionHere_42 (v := 0) (by decide) ?_
      exact rx_tret hE hQ rfl rfl dX11_isJunctionHere_43 ⟨S3, rfl, f1.trans (f2.trans (f3)), Or.inl ⟨_, (by unfold jcF; rw [if_pos rfl, if_pos hg0, if_neg hg1]), rfl, e9⟩⟩
  · skip
    refine rx_if_eq (tgt := 42) hE dX11_isJunctionHere_28 (by decide) (fun c28 => ?_) (fun c28 => absurd rfl c28)
    refine rx_iconst hE dX11_isJunctionHere_42 (v := 0) (by decide) ?_
    exact rx_tret hE hQ rfl rfl dX11_isJunctionHere_43 ⟨S2, rfl, f1.trans (f2), Or.inl ⟨_, (by unfold jcF; rw [if_pos rfl, if_neg hg0]), rfl, e9⟩⟩
set_option maxRecDepth 100000 in
set_option maxHeartbeats 1000000 in
theorem c_X11_isRoadHereF {M : gM} {S : gS} {L : gLg} (hM : 408 ≤ M.1) {T : Nat → Int32} {N p k : Nat} {J : gJn} (hN : N ≤ 400) (hq : kb1 S T N p) (hz : sk T N p = p) (hte : te T N p = tru ltB T N p) (hj : kjr (S 6) J k) {R : Nat} (hR : J 9 2 = nI R) (hR6 : R = 6) : SX 1 0 0 mX11_isRoadHere [.ref 384, .int (nI p)] (kp M S L) (fun v M' => ∃ S', M' = kp M S' L ∧ kfj S S' ∧ v = some (.int 0) ∧ S' 0 9 = fE p 4) := by
  refine SX.intro [some (.ref 384), some (.int (nI p)), none] (by decide +kernel) (Nat.le_of_ble_eq_true rfl) rfl (fun E hE hQ => ?_)
  refine rx_aload_n hE dX11_isRoadHere_0 (i := 0) rfl rfl ?_
  refine rx_getf hE dX11_isRoadHere_1 fl_X11_26_10 (kp_o hM) rfl ?_
  refine rx_iconst hE dX11_isRoadHere_4 (v := 3) (by decide) ?_
  refine rx_ialdN (i := 3) hE dX11_isRoadHere_5 (kp_6 hM) (by omega) (by decide) ?_
  refine rx_int _ 6 (hj.2.2.2.1.trans (hR.trans (by rw [hR6]; rfl))) ?_
  refine rx_bipush hE dX11_isRoadHere_6 (v := 6) (by decide) ?_
  refine rx_icmp_ne (tgt := 18) hE dX11_isRoadHere_8 (by decide) (fun c8 => absurd rfl c8) (fun c8 => ?_)
  refine rx_aload_n hE dX11_isRoadHere_11 (i := 0) rfl rfl ?_
  refine rx_iconst hE dX11_isRoadHere_12 (v := 4) (by decide) ?_
  refine rx_iload_n hE dX11_isRoadHere_13 (i := 1) rfl rfl ?_
  refine rx_call0 (rx_callV (av := [.int (nI 4), .int (nI p)]) hE dX11_isRoadHere_14 lk_X11_123 (c_X11_failsB hM hq.2.2.2 p 4) (kp_o hM) np_X11_fails rfl rfl (by decide) (Nat.le_of_ble_eq_true rfl) rfl ?_)
  rintro v M' ⟨rfl, S3, rfl, f3, e9⟩
  exact rx_tret hE hQ rfl rfl dX11_isRoadHere_17 ⟨S3, rfl, f3, rfl, e9⟩
set_option maxRecDepth 100000 in
set_option maxHeartbeats 1000000 in
theorem c_X11_isRoadHere {M : gM} {S : gS} {L : gLg} (hM : 408 ≤ M.1) {T : Nat → Int32} {N p k : Nat} {J : gJn} (hN : N ≤ 400) (hq : kb1 S T N p) (hz : sk T N p = p) (hte : te T N p = tru ltB T N p) (hj : kjr (S 6) J k) {R : Nat} (hR : J 9 2 = nI R) (hR6 : R < 6) (hk : ¬ k = 0) : SX 3 0 0 mX11_isRoadHere [.ref 384, .int (nI p)] (kp M S L) (fun v M' => ∃ S', M' = kp M S' L ∧ kfj S S' ∧ ((∃ g, jcF T N 1 (nx T N p) J = .error g ∧ v = some (.int 0) ∧ S' 0 9 = g) ∨ ∃ q1 J1, jcF T N 1 (nx T N p) J = .ok (sk T N q1, J1) ∧ v = some (.int 1) ∧ kb1 S' T N q1 ∧ kjr (S' 6) J1 (k + 1))) := by
  refine SX.intro [some (.ref 384), some (.int (nI p)), none] (by decide +kernel) (Nat.le_of_ble_eq_true rfl) rfl (fun E hE hQ => ?_)
  refine rx_aload_n hE dX11_isRoadHere_0 (i := 0) rfl rfl ?_
  refine rx_getf hE dX11_isRoadHere_1 fl_X11_26_10 (kp_o hM) rfl ?_
  refine rx_iconst hE dX11_isRoadHere_4 (v := 3) (by decide) ?_
  refine rx_ialdN (i := 3) hE dX11_isRoadHere_5 (kp_6 hM) (by omega) (by decide) ?_
  refine rx_int _ (nI R) (hj.2.2.2.1.trans hR) ?_
  refine rx_bipush hE dX11_isRoadHere_6 (v := 6) (by decide) ?_
  refine rx_icmp_ne (tgt := 18) hE dX11_isRoadHere_8 (by decide) (fun c8 => ?_) (fun c8 => absurd (nI_inj (a := R) (b := 6) (by omega) (by decide) c8) (by omega))
  refine rx_aload_n hE dX11_isRoadHere_18 (i := 0) rfl rfl ?_
  refine rx_call0 (rx_callV (av := []) hE dX11_isRoadHere_19 lk_X11_117 (c_X11_passWordB hM hN hq) (kp_o hM) np_X11_passWord rfl rfl (by decide) (Nat.le_of_ble_eq_true rfl) rfl ?_)
  rintro v M' ⟨rfl, S1, rfl, f1, e61, q1⟩
  rw [← hte] at q1
  refine rx_aload_n hE dX11_isRoadHere_22 (i := 0) rfl rfl ?_
  refine rx_getf hE dX11_isRoadHere_23 fl_X11_26_10 (kp_o hM) rfl ?_
  refine rx_iconst hE dX11_isRoadHere_26 (v := 3) (by decide) ?_
  refine rx_ialdN (i := 3) hE dX11_isRoadHere_27 (kp_6 hM) (by omega) (by decide) ?_
  refine rx_int _ (nI R) (by rw [e61]; exact hj.2.2.2.1.trans hR) ?_
  refine rx_istore_n_2 hE dX11_isRoadHere_28 (by decide) rfl ?_
  refine rx_aload_n hE dX11_isRoadHere_29 (i := 0) rfl rfl ?_
  refine rx_bipush hE dX11_isRoadHere_30 (v := 60) (by decide) ?_
  refine rx_iload_n hE dX11_isRoadHere_32 (i := 2) rfl rfl ?_
  refine rx_iadd hE dX11_isRoadHere_33 ?_
  refine rx_int _ (nI (60 + R)) (nI_add 60 R) ?_
  refine rx_iconst hE dX11_isRoadHere_34 (v := 0) (by decide) ?_
  refine rx_bipush hE dX11_isRoadHere_35 (v := 30) (by decide) ?_
  refine rx_call0 (rx_callV (av := [.int (nI (60 + R)), .int 0, .int 30]) hE dX11_isRoadHere_37 lk_X11_230 (c_X11_cellB (S := S1) hM hN q1 (i := 60 + R) (by omega) 0 30) (kp_o hM) np_X11_cellHere rfl rfl (by decide) (Nat.le_of_ble_eq_true rfl) rfl ?_)
  rw [show sk T N (te T N p) = nx T N p from rfl]
  rintro v M' ⟨S2, rfl, f2, hv⟩
  rcases hv with ⟨hg0, rfl, q2, e62⟩ | ⟨hg0, rfl, e9⟩
  · skip
    refine rx_if_eq (tgt := 71) hE dX11_isRoadHere_40 (by decide) (fun c40 => absurd c40 (by decide)) (fun c40 => ?_)
    refine rx_aload_n hE dX11_isRoadHere_43 (i := 0) rfl rfl ?_
    refine rx_bipush hE dX11_isRoadHere_44 (v := 54) (by decide) ?_
    refine rx_iload_n hE dX11_isRoadHere_46 (i := 2) rfl rfl ?_
    refine rx_iadd hE dX11_isRoadHere_47 ?_
    refine rx_int _ (nI (54 + R)) (nI_add _ _) ?_
    refine rx_iconst hE dX11_isRoadHere_48 (v := 1) (by decide) ?_
    refine rx_bipush hE dX11_isRoadHere_49 (v := 12) (by decide) ?_
    refine rx_call0 (rx_callV (av := [.int (nI (54 + R)), .int 1, .int 12]) hE dX11_isRoadHere_51 lk_X11_230 (c_X11_cellB (S := S2) hM hN q2 (i := 54 + R) (by omega) 1 12) (kp_o hM) np_X11_cellHere rfl rfl (by decide) (Nat.le_of_ble_eq_true rfl) rfl ?_)
    rw [show sk T N (te T N (nx T N p)) = (nx T N (nx T N p)) from rfl]
    rintro v M' ⟨S3, rfl, f3, hv⟩
    rcases hv with ⟨hg1, rfl, q3, e63⟩ | ⟨hg1, rfl, e9⟩
    · skip
      refine rx_if_eq (tgt := 71) hE dX11_isRoadHere_54 (by decide) (fun c54 => absurd c54 (by decide)) (fun c54 => ?_)
      refine rx_aload_n hE dX11_isRoadHere_57 (i := 0) rfl rfl ?_
      refine rx_bipush hE dX11_isRoadHere_58 (v := 66) (by decide) ?_
      refine rx_iload_n hE dX11_isRoadHere_60 (i := 2) rfl rfl ?_
      refine rx_iadd hE dX11_isRoadHere_61 ?_
      refine rx_int _ (nI (66 + R)) (nI_add _ _) ?_
      refine rx_iconst hE dX11_isRoadHere_62 (v := 0) (by decide) ?_
      refine rx_bipush hE dX11_isRoadHere_63 (v := 11) (by decide) ?_
      refine rx_call0 (rx_callV (av := [.int (nI (66 + R)), .int 0, .int 11]) hE dX11_isRoadHere_65 lk_X11_230 (c_X11_cellB (S := S3) hM hN q3 (i := 66 + R) (by omega) 0 11) (kp_o hM) np_X11_cellHere rfl rfl (by decide) (Nat.le_of_ble_eq_true rfl) rfl ?_)
      rw [show sk T N (te T N (nx T N (nx T N p))) = (nx T N (nx T N (nx T N p))) from rfl]
      rintro v M' ⟨S4, rfl, f4, hv⟩
      rcases hv with ⟨hg2, rfl, q4, e64⟩ | ⟨hg2, rfl, e9⟩
      · skip
        refine rx_if_ne (tgt := 73) hE dX11_isRoadHere_68 (by decide) (fun c68 => ?_) (fun c68 => absurd c68 (by decide))
        refine rx_aload_n hE dX11_isRoadHere_73 (i := 0) rfl rfl ?_
        refine rx_getf hE dX11_isRoadHere_74 fl_X11_26_10 (kp_o hM) rfl ?_
        refine rx_iconst hE dX11_isRoadHere_77 (v := 3) (by decide) ?_
        refine rx_dup2 hE dX11_isRoadHere_78 rfl rfl ?_
        refine rx_ialdN (i := 3) hE dX11_isRoadHere_79 (kp_6 hM) (by omega) (by decide) ?_
        refine rx_int _ (nI R) (by rw [e64, upd_n0 _ _ (by omega), e63, upd_n0 _ _ (by omega), e62, upd_n0 _ _ (by omega), e61]; exact hj.2.2.2.1.trans hR) ?_
        refine rx_iconst hE dX11_isRoadHere_80 (v := 1) (by decide) ?_
        refine rx_iadd hE dX11_isRoadHere_81 ?_
        refine rx_int _ (nI (R + 1)) (nI_1 R) ?_
        refine rx_iastN (i := 3) hE dX11_isRoadHere_82 (kp_6 hM) (by omega) (by decide) ?_
        refine rx_mem (M' := kp M (k_s S4 6 (upd (S4 6) 3 (nI (R + 1)))) L) kw_6 ?_
        refine rx_iconst hE dX11_isRoadHere_83 (v := 1) (by decide) ?_
        exact rx_tret hE hQ rfl rfl dX11_isRoadHere_84 ⟨(k_s S4 6 (upd (S4 6) 3 (nI (R + 1)))), rfl, f1.trans (f2.trans (f3.trans (f4.trans (kfj.s6 S4 _)))), Or.inr ⟨_, _, (by unfold jcF; rw [if_neg (by decide), if_pos rfl, if_pos hg0, if_pos hg1, if_pos hg2]; rfl), rfl, q4, (by show kjr (upd (S4 6) 3 (nI (R + 1))) _ _; rw [e64, e63, e62, e61]; exact kjr_1 hj hk hR hR6 _ _ _)⟩⟩
      · skip
        refine rx_if_ne (tgt := 73) hE dX11_isRoadHere_68 (by decide) (fun c68 => absurd rfl c68) (fun c68 => ?_)
        refine rx_iconst hE dX11_isRoadHere_71 (v := 0) (by decide) ?_
        exact rx_tret hE hQ rfl rfl dX11_isRoadHere_72 ⟨S4, rfl, f1.trans (f2.trans (f3.trans (f4))), Or.inl ⟨_, (by unfold jcF; rw [if_neg (by decide), if_pos rfl, if_pos hg0, if_pos hg1, if_neg hg2]), rfl, e9⟩⟩
    · skip
      refine rx_if_eq (tgt := 71) hE dX11_isRoadHere_54 (by decide) (fun c54 => ?_) (fun c54 => absurd rfl c54)
      refine rx_iconst hE dX11_isRoadHere_71 (v := 0) (by decide) ?_
      exact rx_tret hE hQ rfl rfl dX11_isRoadHere_72 ⟨S3, rfl, f1.trans (f2.trans (f3)), Or.inl ⟨_, (by unfold jcF; rw [if_neg (by decide), if_pos rfl, if_pos hg0, if_neg hg1]), rfl, e9⟩⟩
  · skip
    refine rx_if_eq (tgt := 71) hE dX11_isRoadHere_40 (by decide) (fun c40 => ?_) (fun c40 => absurd rfl c40)
    refine rx_iconst hE dX11_isRoadHere_71 (v := 0) (by decide) ?_
    exact rx_tret hE hQ rfl rfl dX11_isRoadHere_72 ⟨S2, rfl, f1.trans (f2), Or.inl ⟨_, (by unfold jcF; rw [if_neg (by decide), if_pos rfl, if_neg hg0]), rfl, e9⟩⟩
set_option maxRecDepth 100000 in
set_option maxHeartbeats 1000000 in
theorem c_X11_isClashHere {M : gM} {S : gS} {L : gLg} (hM : 408 ≤ M.1) {T : Nat → Int32} {N p k : Nat} {J : gJn} (hN : N ≤ 400) (hq : kb1 S T N p) (hz : sk T N p = p) (hte : te T N p = tru ltB T N p) (hj : kjr (S 6) J k) {R : Nat} (hR : J 9 2 = nI R) (hR6 : R ≤ 6) (hk : ¬ k = 0) : SX 3 0 0 mX11_isClashHere [.ref 384] (kp M S L) (fun v M' => ∃ S', M' = kp M S' L ∧ kfj S S' ∧ ((∃ g, jcF T N 2 (nx T N p) J = .error g ∧ v = some (.int 0) ∧ S' 0 9 = g) ∨ ∃ q1 J1, jcF T N 2 (nx T N p) J = .ok (sk T N q1, J1) ∧ v = some (.int 1) ∧ kb1 S' T N q1 ∧ kjr (S' 6) J1 (k + 1))) := by
  refine SX.intro [some (.ref 384), none, none] (by decide +kernel) (Nat.le_of_ble_eq_true rfl) rfl (fun E hE hQ => ?_)
  refine rx_aload_n hE dX11_isClashHere_0 (i := 0) rfl rfl ?_
  refine rx_call0 (rx_callV (av := []) hE dX11_isClashHere_1 lk_X11_117 (c_X11_passWordB hM hN hq) (kp_o hM) np_X11_passWord rfl rfl (by decide) (Nat.le_of_ble_eq_true rfl) rfl ?_)
  rintro v M' ⟨rfl, S1, rfl, f1, e61, q1⟩
  rw [← hte] at q1
  refine rx_aload_n hE dX11_isClashHere_4 (i := 0) rfl rfl ?_
  refine rx_iconst hE dX11_isClashHere_5 (v := 0) (by decide) ?_
  refine rx_aload_n hE dX11_isClashHere_6 (i := 0) rfl rfl ?_
  refine rx_getf hE dX11_isClashHere_7 fl_X11_26_10 (kp_o hM) rfl ?_
  refine rx_iconst hE dX11_isClashHere_10 (v := 3) (by decide) ?_
  refine rx_ialdN (i := 3) hE dX11_isClashHere_11 (kp_6 hM) (by omega) (by decide) ?_
  refine rx_int _ (J 9 2) (by rw [e61]; exact hj.2.2.2.1) ?_
  refine rx_iconst hE dX11_isClashHere_12 (v := 1) (by decide) ?_
  refine rx_isub hE dX11_isClashHere_13 ?_
  refine rx_call0 (rx_callV (av := [.int 0, .int (J 9 2 - 1)]) hE dX11_isClashHere_14 lk_X11_179 (c_X11_numB (S := S1) hM hN q1 0 (J 9 2 - 1)) (kp_o hM) np_X11_numberHere rfl rfl (by decide) (Nat.le_of_ble_eq_true rfl) rfl ?_)
  rw [show sk T N (te T N p) = nx T N p from rfl]
  rintro v M' ⟨S2, rfl, f2, e62, hv⟩
  rcases hv with ⟨hg0, rfl, q2, e102⟩ | ⟨hg0, rfl, e9⟩
  · skip
    obtain ⟨x1, hx1l, hx1⟩ := tno_nI (h := R) (by omega) (by rw [← hR]; exact hg0)
    refine rx_if_ne (tgt := 22) hE dX11_isClashHere_17 (by decide) (fun c17 => ?_) (fun c17 => absurd c17 (by decide))
    refine rx_aload_n hE dX11_isClashHere_22 (i := 0) rfl rfl ?_
    refine rx_getf hE dX11_isClashHere_23 fl_X11_127_10 (kp_o hM) rfl ?_
    refine rx_int _ (nI x1) (e102.trans hx1) ?_
    refine rx_istore_n_1 hE dX11_isClashHere_26 (by decide) rfl ?_
    refine rx_aload_n hE dX11_isClashHere_27 (i := 0) rfl rfl ?_
    refine rx_call0 (rx_callV (av := []) hE dX11_isClashHere_28 lk_X11_105 (c_X11_seeB (S := S2) hM hN q2) (kp_o hM) np_X11_see rfl rfl (by decide) (Nat.le_of_ble_eq_true rfl) rfl ?_)
    rw [show sk T N (te T N (nx T N p)) = (nx T N (nx T N p)) from rfl]
    rintro v M' ⟨rfl, rfl⟩
    have q3 := q2.mv (q' := (nx T N (nx T N p))) (nx_le (nx_le hq.2.1).2).2
    refine rx_pop hE dX11_isClashHere_31 rfl ?_
    refine rx_aload_n hE dX11_isClashHere_32 (i := 0) rfl rfl ?_
    refine rx_getf hE dX11_isClashHere_33 fl_X11_102_10 (kp_o hM) rfl ?_
    refine rx_int _ (nI (nx T N (nx T N p))) rfl ?_
    refine rx_istore_n_2 hE dX11_isClashHere_36 (by decide) rfl ?_
    refine rx_aload_n hE dX11_isClashHere_37 (i := 0) rfl rfl ?_
    refine rx_iconst hE dX11_isClashHere_38 (v := 0) (by decide) ?_
    refine rx_aload_n hE dX11_isClashHere_39 (i := 0) rfl rfl ?_
    refine rx_getf hE dX11_isClashHere_40 fl_X11_26_10 (kp_o hM) rfl ?_
    refine rx_iconst hE dX11_isClashHere_43 (v := 3) (by decide) ?_
    refine rx_ialdN (i := 3) hE dX11_isClashHere_44 (kp_6 hM) (by omega) (by decide) ?_
    refine rx_int _ (J 9 2) (by show S2 6 3 = _; rw [e62, e61]; exact hj.2.2.2.1) ?_
    refine rx_iconst hE dX11_isClashHere_45 (v := 1) (by decide) ?_
    refine rx_isub hE dX11_isClashHere_46 ?_
    refine rx_call0 (rx_callV (av := [.int 0, .int (J 9 2 - 1)]) hE dX11_isClashHere_47 lk_X11_179 (c_X11_numB (S := (k_f S2 8 (nI (nx T N (nx T N p))))) hM hN q3 0 (J 9 2 - 1)) (kp_o hM) np_X11_numberHere rfl rfl (by decide) (Nat.le_of_ble_eq_true rfl) rfl ?_)
    rw [show sk T N (nx T N (nx T N p)) = (nx T N (nx T N p)) from sk_sk (te_le (nx_le hq.2.1).2).2.1]
    rintro v M' ⟨S4, rfl, f4, e64, hv⟩
    rcases hv with ⟨hg1, rfl, q4, e104⟩ | ⟨hg1, rfl, e9⟩
    · skip
      obtain ⟨x2, hx2l, hx2⟩ := tno_nI (h := R) (by omega) (by rw [← hR]; exact hg1)
      refine rx_if_ne (tgt := 55) hE dX11_isClashHere_50 (by decide) (fun c50 => ?_) (fun c50 => absurd c50 (by decide))
      refine rx_iload_n hE dX11_isClashHere_55 (i := 1) rfl rfl ?_
      refine rx_aload_n hE dX11_isClashHere_56 (i := 0) rfl rfl ?_
      refine rx_getf hE dX11_isClashHere_57 fl_X11_127_10 (kp_o hM) rfl ?_
      refine rx_int _ (nI x2) (e104.trans hx2) ?_
      refine rx_icmp_ne (tgt := 70) hE dX11_isClashHere_60 (by decide) (fun c60 => ?_) (fun c60 => ?_)
      · refine rx_aload_n hE dX11_isClashHere_70 (i := 0) rfl rfl ?_
        refine rx_getf hE dX11_isClashHere_71 fl_X11_26_10 (kp_o hM) rfl ?_
        refine rx_bipush hE dX11_isClashHere_74 (v := 72) (by decide) ?_
        refine rx_iload_n hE dX11_isClashHere_76 (i := 1) rfl rfl ?_
        refine rx_iadd hE dX11_isClashHere_77 ?_
        refine rx_int _ (nI (72 + x1)) (nI_add _ _) ?_
        refine rx_dup2 hE dX11_isClashHere_78 rfl rfl ?_
        refine rx_ialdN (i := 72 + x1) hE dX11_isClashHere_79 (kp_6 hM) (by omega) (by decide) ?_
        refine rx_int _ (S 6 (72 + x1)) (by rw [(e64.trans (e62.trans e61))]) ?_
        refine rx_iconst hE dX11_isClashHere_80 (v := 1) (by decide) ?_
        refine rx_aload_n hE dX11_isClashHere_81 (i := 0) rfl rfl ?_
        refine rx_getf hE dX11_isClashHere_82 fl_X11_127_10 (kp_o hM) rfl ?_
        refine rx_int _ (nI x2) (e104.trans hx2) ?_
        refine rx_ishl hE dX11_isClashHere_85 ?_
        refine rx_ior hE dX11_isClashHere_86 ?_
        refine rx_iastN (i := 72 + x1) hE dX11_isClashHere_87 (kp_6 hM) (by omega) (by decide) ?_
        refine rx_mem (M' := kp M (k_s S4 6 (jor (S 6) (72 + x1) (nI x2))) L) (by rw [kw_6, (e64.trans (e62.trans e61))]; rfl) ?_
        refine rx_aload_n hE dX11_isClashHere_88 (i := 0) rfl rfl ?_
        refine rx_getf hE dX11_isClashHere_89 fl_X11_26_10 (kp_o hM) rfl ?_
        refine rx_bipush hE dX11_isClashHere_92 (v := 72) (by decide) ?_
        refine rx_aload_n hE dX11_isClashHere_94 (i := 0) rfl rfl ?_
        refine rx_getf hE dX11_isClashHere_95 fl_X11_127_10 (kp_o hM) rfl ?_
        refine rx_int _ (nI x2) (e104.trans hx2) ?_
        refine rx_iadd hE dX11_isClashHere_98 ?_
        refine rx_int _ (nI (72 + x2)) (nI_add 72 x2) ?_
        refine rx_dup2 hE dX11_isClashHere_99 rfl rfl ?_
        refine rx_ialdN (i := 72 + x2) hE dX11_isClashHere_100 (kp_6 hM) (by omega) (by decide) ?_
        refine rx_int _ (jor (S 6) (72 + x1) (nI x2) (72 + x2)) rfl ?_
        refine rx_iconst hE dX11_isClashHere_101 (v := 1) (by decide) ?_
        refine rx_iload_n hE dX11_isClashHere_102 (i := 1) rfl rfl ?_
        refine rx_ishl hE dX11_isClashHere_103 ?_
        refine rx_ior hE dX11_isClashHere_104 ?_
        refine rx_iastN (i := 72 + x2) hE dX11_isClashHere_105 (kp_6 hM) (by omega) (by decide) ?_
        refine rx_mem (M' := kp M (k_s (k_s S4 6 (jor (S 6) (72 + x1) (nI x2))) 6 (jor (jor (S 6) (72 + x1) (nI x2)) (72 + x2) (nI x1))) L) (by rw [kw_6]; rfl) ?_
        refine rx_iconst hE dX11_isClashHere_106 (v := 1) (by decide) ?_
        exact rx_tret hE hQ rfl rfl dX11_isClashHere_107 ⟨(k_s (k_s S4 6 (jor (S 6) (72 + x1) (nI x2))) 6 (jor (jor (S 6) (72 + x1) (nI x2)) (72 + x2) (nI x1))), rfl, f1.trans (f2.trans ((kfj.f S2 (i := 8) (by omega) _).trans (f4.trans ((kfj.s6 S4 _).trans (kfj.s6 _ _))))), Or.inr ⟨_, _, (by unfold jcF; rw [if_neg (by decide), if_neg (by decide), if_pos rfl, if_pos hg0, if_pos ⟨hg1, fun z => c60 ((hx1.symm.trans z.symm).trans hx2)⟩]; rfl), rfl, q4, (by rw [hx1, hx2]; exact kjr_2 hj hk (by omega) (by omega))⟩⟩
      · refine rx_aload_n hE dX11_isClashHere_63 (i := 0) rfl rfl ?_
        refine rx_iconst hE dX11_isClashHere_64 (v := 1) (by decide) ?_
        refine rx_iload_n hE dX11_isClashHere_65 (i := 2) rfl rfl ?_
        refine rx_call0 (rx_callV (av := [.int (nI 1), .int (nI (nx T N (nx T N p)))]) hE dX11_isClashHere_66 lk_X11_123 (c_X11_failsB (S := S4) hM q4.2.2.2 (nx T N (nx T N p)) 1) (kp_o hM) np_X11_fails rfl rfl (by decide) (Nat.le_of_ble_eq_true rfl) rfl ?_)
        rintro v M' ⟨rfl, S5, rfl, f5, e9⟩
        exact rx_tret hE hQ rfl rfl dX11_isClashHere_69 ⟨S5, rfl, f1.trans (f2.trans ((kfj.f S2 (i := 8) (by omega) _).trans (f4.trans f5))), Or.inl ⟨_, (by unfold jcF; rw [if_neg (by decide), if_neg (by decide), if_pos rfl, if_pos hg0, if_neg (fun z => z.2 (hx2.trans (c60.symm.trans hx1.symm)))]; unfold jnE; rw [if_pos hg1.1]; rfl), rfl, e9⟩⟩
    · skip
      refine rx_if_ne (tgt := 55) hE dX11_isClashHere_50 (by decide) (fun c50 => absurd rfl c50) (fun c50 => ?_)
      refine rx_iconst hE dX11_isClashHere_53 (v := 0) (by decide) ?_
      exact rx_tret hE hQ rfl rfl dX11_isClashHere_54 ⟨S4, rfl, f1.trans (f2.trans ((kfj.f S2 (i := 8) (by omega) _).trans f4)), Or.inl ⟨_, (by unfold jcF; rw [if_neg (by decide), if_neg (by decide), if_pos rfl, if_pos hg0, if_neg (fun z => hg1 z.1)]), rfl, e9⟩⟩
  · skip
    refine rx_if_ne (tgt := 22) hE dX11_isClashHere_17 (by decide) (fun c17 => absurd rfl c17) (fun c17 => ?_)
    refine rx_iconst hE dX11_isClashHere_20 (v := 0) (by decide) ?_
    exact rx_tret hE hQ rfl rfl dX11_isClashHere_21 ⟨S2, rfl, f1.trans (f2), Or.inl ⟨_, (by unfold jcF; rw [if_neg (by decide), if_neg (by decide), if_pos rfl, if_neg hg0]), rfl, e9⟩⟩
set_option maxRecDepth 100000 in
set_option maxHeartbeats 1000000 in
theorem c_X11_isScoreHere {M : gM} {S : gS} {L : gLg} (hM : 408 ≤ M.1) {T : Nat → Int32} {N p k : Nat} {J : gJn} (hN : N ≤ 400) (hq : kb1 S T N p) (hz : sk T N p = p) (hte : te T N p = tru ltB T N p) (hj : kjr (S 6) J k) {R B : Nat} (hR : J 9 2 = nI R) (hR6 : R ≤ 6) (hB : J 9 0 = nI B) (hB12 : B ≤ 12) (hk : ¬ k = 0) : SX 3 0 0 mX11_isScoreHere [.ref 384] (kp M S L) (fun v M' => ∃ S', M' = kp M S' L ∧ kfj S S' ∧ ((∃ g, jcF T N 3 (nx T N p) J = .error g ∧ v = some (.int 0) ∧ S' 0 9 = g) ∨ ∃ q1 J1, jcF T N 3 (nx T N p) J = .ok (sk T N q1, J1) ∧ v = some (.int 1) ∧ kb1 S' T N q1 ∧ kjr (S' 6) J1 (k + 1))) := by
  refine SX.intro [some (.ref 384), none] (by decide +kernel) (Nat.le_of_ble_eq_true rfl) rfl (fun E hE hQ => ?_)
  refine rx_aload_n hE dX11_isScoreHere_0 (i := 0) rfl rfl ?_
  refine rx_call0 (rx_callV (av := []) hE dX11_isScoreHere_1 lk_X11_117 (c_X11_passWordB hM hN hq) (kp_o hM) np_X11_passWord rfl rfl (by decide) (Nat.le_of_ble_eq_true rfl) rfl ?_)
  rintro v M' ⟨rfl, S1, rfl, f1, e61, q1⟩
  rw [← hte] at q1
  refine rx_aload_n hE dX11_isScoreHere_4 (i := 0) rfl rfl ?_
  refine rx_iconst hE dX11_isScoreHere_5 (v := 0) (by decide) ?_
  refine rx_aload_n hE dX11_isScoreHere_6 (i := 0) rfl rfl ?_
  refine rx_getf hE dX11_isScoreHere_7 fl_X11_26_10 (kp_o hM) rfl ?_
  refine rx_iconst hE dX11_isScoreHere_10 (v := 1) (by decide) ?_
  refine rx_ialdN (i := 1) hE dX11_isScoreHere_11 (kp_6 hM) (by omega) (by decide) ?_
  refine rx_int _ (J 9 0) (by rw [e61]; exact hj.2.1) ?_
  refine rx_iconst hE dX11_isScoreHere_12 (v := 1) (by decide) ?_
  refine rx_isub hE dX11_isScoreHere_13 ?_
  refine rx_call0 (rx_callV (av := [.int 0, .int (J 9 0 - 1)]) hE dX11_isScoreHere_14 lk_X11_179 (c_X11_numB (S := S1) hM hN q1 0 (J 9 0 - 1)) (kp_o hM) np_X11_numberHere rfl rfl (by decide) (Nat.le_of_ble_eq_true rfl) rfl ?_)
  rw [show sk T N (te T N p) = nx T N p from rfl]
  rintro v M' ⟨S2, rfl, f2, e62, hv⟩
  rcases hv with ⟨hg0, rfl, q2, e102⟩ | ⟨hg0, rfl, e9⟩
  · skip
    obtain ⟨b1, hb1l, hb1⟩ := tno_nI (h := B) (by omega) (by rw [← hB]; exact hg0)
    refine rx_if_ne (tgt := 22) hE dX11_isScoreHere_17 (by decide) (fun c17 => ?_) (fun c17 => absurd c17 (by decide))
    refine rx_aload_n hE dX11_isScoreHere_22 (i := 0) rfl rfl ?_
    refine rx_getf hE dX11_isScoreHere_23 fl_X11_127_10 (kp_o hM) rfl ?_
    refine rx_int _ (nI b1) (e102.trans hb1) ?_
    refine rx_istore_n_1 hE dX11_isScoreHere_26 (by decide) rfl ?_
    refine rx_aload_n hE dX11_isScoreHere_27 (i := 0) rfl rfl ?_
    refine rx_iconst hE dX11_isScoreHere_28 (v := 0) (by decide) ?_
    refine rx_aload_n hE dX11_isScoreHere_29 (i := 0) rfl rfl ?_
    refine rx_getf hE dX11_isScoreHere_30 fl_X11_26_10 (kp_o hM) rfl ?_
    refine rx_iconst hE dX11_isScoreHere_33 (v := 3) (by decide) ?_
    refine rx_ialdN (i := 3) hE dX11_isScoreHere_34 (kp_6 hM) (by omega) (by decide) ?_
    refine rx_int _ (J 9 2) (by rw [e62, e61]; exact hj.2.2.2.1) ?_
    refine rx_iconst hE dX11_isScoreHere_35 (v := 1) (by decide) ?_
    refine rx_isub hE dX11_isScoreHere_36 ?_
    refine rx_call0 (rx_callV (av := [.int 0, .int (J 9 2 - 1)]) hE dX11_isScoreHere_37 lk_X11_179 (c_X11_numB (S := S2) hM hN q2 0 (J 9 2 - 1)) (kp_o hM) np_X11_numberHere rfl rfl (by decide) (Nat.le_of_ble_eq_true rfl) rfl ?_)
    rw [show sk T N (te T N (nx T N p)) = nx T N (nx T N p) from rfl]
    rintro v M' ⟨S3, rfl, f3, e63, hv⟩
    rcases hv with ⟨hg1, rfl, q3, e103⟩ | ⟨hg1, rfl, e9⟩
    · skip
      obtain ⟨r1, hr1l, hr1⟩ := tno_nI (h := R) (by omega) (by rw [← hR]; exact hg1)
      refine rx_if_ne (tgt := 45) hE dX11_isScoreHere_40 (by decide) (fun c40 => ?_) (fun c40 => absurd c40 (by decide))
      refine rx_aload_n hE dX11_isScoreHere_45 (i := 0) rfl rfl ?_
      refine rx_getf hE dX11_isScoreHere_46 fl_X11_26_10 (kp_o hM) rfl ?_
      refine rx_bipush hE dX11_isScoreHere_49 (v := 78) (by decide) ?_
      refine rx_iload_n hE dX11_isScoreHere_51 (i := 1) rfl rfl ?_
      refine rx_iadd hE dX11_isScoreHere_52 ?_
      refine rx_int _ (nI (78 + b1)) (nI_add _ _) ?_
      refine rx_dup2 hE dX11_isScoreHere_53 rfl rfl ?_
      refine rx_ialdN (i := 78 + b1) hE dX11_isScoreHere_54 (kp_6 hM) (by omega) (by decide) ?_
      refine rx_int _ (S 6 (78 + b1)) (by rw [e63, e62, e61]) ?_
      refine rx_iconst hE dX11_isScoreHere_55 (v := 1) (by decide) ?_
      refine rx_aload_n hE dX11_isScoreHere_56 (i := 0) rfl rfl ?_
      refine rx_getf hE dX11_isScoreHere_57 fl_X11_127_10 (kp_o hM) rfl ?_
      refine rx_int _ (nI r1) (e103.trans hr1) ?_
      refine rx_ishl hE dX11_isScoreHere_60 ?_
      refine rx_ior hE dX11_isScoreHere_61 ?_
      refine rx_iastN (i := 78 + b1) hE dX11_isScoreHere_62 (kp_6 hM) (by omega) (by decide) ?_
      refine rx_mem (M' := kp M (k_s S3 6 (jor (S 6) (78 + b1) (nI r1))) L) (by rw [kw_6, e63, e62, e61]; rfl) ?_
      refine rx_iconst hE dX11_isScoreHere_63 (v := 1) (by decide) ?_
      exact rx_tret hE hQ rfl rfl dX11_isScoreHere_64 ⟨(k_s S3 6 (jor (S 6) (78 + b1) (nI r1))), rfl, f1.trans (f2.trans (f3.trans (kfj.s6 S3 _))), Or.inr ⟨_, _, (by unfold jcF; rw [if_neg (by decide), if_neg (by decide), if_neg (by decide), if_pos hg0, if_pos hg1]; rfl), rfl, q3, (by rw [hb1, hr1]; exact kjr_3 hj hk (by omega))⟩⟩
    · skip
      refine rx_if_ne (tgt := 45) hE dX11_isScoreHere_40 (by decide) (fun c40 => absurd rfl c40) (fun c40 => ?_)
      refine rx_iconst hE dX11_isScoreHere_43 (v := 0) (by decide) ?_
      exact rx_tret hE hQ rfl rfl dX11_isScoreHere_44 ⟨S3, rfl, f1.trans (f2.trans (f3)), Or.inl ⟨_, (by unfold jcF; rw [if_neg (by decide), if_neg (by decide), if_neg (by decide), if_pos hg0, if_neg hg1]), rfl, e9⟩⟩
  · skip
    refine rx_if_ne (tgt := 22) hE dX11_isScoreHere_17 (by decide) (fun c17 => absurd rfl c17) (fun c17 => ?_)
    refine rx_iconst hE dX11_isScoreHere_20 (v := 0) (by decide) ?_
    exact rx_tret hE hQ rfl rfl dX11_isScoreHere_21 ⟨S2, rfl, f1.trans (f2), Or.inl ⟨_, (by unfold jcF; rw [if_neg (by decide), if_neg (by decide), if_neg (by decide), if_neg hg0]), rfl, e9⟩⟩
