/-! ===== the reference's methods ===== -/
def k_in (v lo hi : Int64) : Int32 := if v < lo then 0 else if hi < v then 0 else 1
def k_isOf (set : Int32) (k : Nat) : Int32 := if jbit set k = 1 then 1 else 0
def k_isJ (S : gS) : Int32 := if S 10 0 = 1 then 1 else 0
def k_isBeat (S : gS) (J : gJn) (b : Int32) : Int32 := if S 10 0 = 1 then (if b < 0 then 0 else if J 9 0 ≤ b then 0 else 1) else 0
def k_isRule (S : gS) (r : Int32) : Int32 := if r < 0 then 0 else if S 0 2 ≤ r then 0 else 1
def k_since (J : gJn) (r : Nat) : Int32 := if J 6 r < 0 then 99 else if J 9 3 - J 6 r ≤ 99 then J 9 3 - J 6 r else 99
def k_bob (S : gS) (J : gJn) : Int32 := if S 10 0 = 1 then J 9 3 - J 9 3 / J 9 0 * J 9 0 else 0
theorem kput_00 {S : gS} {J : gJn} : kput S J 10 0 = S 10 0 := rfl
theorem kr_c0 {S : gS} {J : gJn} : kput S J 10 1 = J 9 0 := rfl
theorem kr_c1 {S : gS} {J : gJn} : kput S J 10 2 = J 9 1 := rfl
theorem kr_c2 {S : gS} {J : gJn} : kput S J 10 3 = J 9 2 := rfl
theorem kr_c3 {S : gS} {J : gJn} : kput S J 10 10 = J 9 3 := rfl
theorem kr_c4 {S : gS} {J : gJn} : kput S J 10 53 = J 9 4 := rfl
set_option maxRecDepth 100000 in
set_option maxHeartbeats 4000000 in
theorem c_X11_in {M : gM} (v lo hi : Int64) : SX 0 0 0 mX11_in [.long v, .long lo, .long hi] (M) (fun w M' => w = some (.int (k_in v lo hi)) ∧ M' = M) := by
  refine SX.intro [some (.long v), none, some (.long lo), none, some (.long hi), none] (by decide +kernel) (Nat.le_of_ble_eq_true rfl) rfl (fun E hE hQ => ?_)
  refine rx_lload_n hE dX11_in_0 (i := 0) rfl rfl ?_
  refine rx_lload_n hE dX11_in_1 (i := 2) rfl rfl ?_
  refine rx_lcmp hE dX11_in_2 ?_
  refine rx_if_lt (tgt := 17) hE dX11_in_3 (by decide) (fun c3 => ?_) (fun c3 => ?_)
  · rw [lg_cmp_lt] at c3
    refine rx_iconst hE dX11_in_17 (v := 0) (by decide) ?_
    exact rx_tret hE hQ rfl rfl dX11_in_18 ⟨by simp [k_in, *], rfl⟩
  · rw [lg_cmp_lt] at c3
    refine rx_lload_n hE dX11_in_6 (i := 0) rfl rfl ?_
    refine rx_lload hE dX11_in_7 rfl ?_
    refine rx_lcmp hE dX11_in_9 ?_
    refine rx_if_gt (tgt := 17) hE dX11_in_10 (by decide) (fun c10 => ?_) (fun c10 => ?_)
    · rw [lg_cmp_gt] at c10
      refine rx_iconst hE dX11_in_17 (v := 0) (by decide) ?_
      exact rx_tret hE hQ rfl rfl dX11_in_18 ⟨by simp [k_in, *], rfl⟩
    · rw [lg_cmp_gt] at c10
      refine rx_iconst hE dX11_in_13 (v := 1) (by decide) ?_
      refine rx_goto (tgt := 18) hE dX11_in_14 (by decide) ?_
      exact rx_tret hE hQ rfl rfl dX11_in_18 ⟨by simp [k_in, *], rfl⟩
set_option maxRecDepth 100000 in
set_option maxHeartbeats 4000000 in
theorem c_X11_isOf {M : gM} {k : Nat} (set : Int32) : SX 0 0 0 mX11_isOf [.int set, .int (nI k)] (M) (fun v M' => v = some (.int (k_isOf set k)) ∧ M' = M) := by
  refine SX.intro [some (.int set), some (.int (nI k))] (by decide +kernel) (Nat.le_of_ble_eq_true rfl) rfl (fun E hE hQ => ?_)
  refine rx_iload_n hE dX11_isOf_0 (i := 0) rfl rfl ?_
  refine rx_iload_n hE dX11_isOf_1 (i := 1) rfl rfl ?_
  refine rx_ishr hE dX11_isOf_2 ?_
  refine rx_iconst hE dX11_isOf_3 (v := 1) (by decide) ?_
  refine rx_iand hE dX11_isOf_4 ?_
  refine rx_iconst hE dX11_isOf_5 (v := 1) (by decide) ?_
  refine rx_icmp_ne (tgt := 13) hE dX11_isOf_6 (by decide) (fun c6 => ?_) (fun c6 => ?_)
  · have c6 : ¬ jbit set k = 1 := c6
    refine rx_iconst hE dX11_isOf_13 (v := 0) (by decide) ?_
    exact rx_tret hE hQ rfl rfl dX11_isOf_14 ⟨by simp [k_isOf, *], rfl⟩
  · have c6 : jbit set k = 1 := c6
    refine rx_iconst hE dX11_isOf_9 (v := 1) (by decide) ?_
    refine rx_goto (tgt := 14) hE dX11_isOf_10 (by decide) ?_
    exact rx_tret hE hQ rfl rfl dX11_isOf_14 ⟨by simp [k_isOf, *], rfl⟩
set_option maxRecDepth 100000 in
set_option maxHeartbeats 4000000 in
theorem c_X11_isJunction {M : gM} {S : gS} {L : gLg} {J : gJn} (hM : 408 ≤ M.1) : SX 0 0 0 mX11_isJunction [.ref 384] (kp M (kput S J) L) (fun v M' => v = some (.int (k_isJ S)) ∧ M' = kp M (kput S J) L) := by
  refine SX.intro [some (.ref 384)] (by decide +kernel) (Nat.le_of_ble_eq_true rfl) rfl (fun E hE hQ => ?_)
  refine rx_aload_n hE dX11_isJunction_0 (i := 0) rfl rfl ?_
  refine rx_getf hE dX11_isJunction_1 fl_X11_39_10 (kp_o hM) rfl ?_
  refine rx_iconst hE dX11_isJunction_4 (v := 0) (by decide) ?_
  refine rx_ialdN (i := 0) hE dX11_isJunction_5 (kp_10 hM) (by omega) (by decide) ?_
  refine rx_iconst hE dX11_isJunction_6 (v := 1) (by decide) ?_
  refine rx_icmp_ne (tgt := 14) hE dX11_isJunction_7 (by decide) (fun c7 => ?_) (fun c7 => ?_)
  · have c7 : ¬ S 10 0 = 1 := c7
    refine rx_iconst hE dX11_isJunction_14 (v := 0) (by decide) ?_
    exact rx_tret hE hQ rfl rfl dX11_isJunction_15 ⟨by simp [k_isJ, *], rfl⟩
  · have c7 : S 10 0 = 1 := c7
    refine rx_iconst hE dX11_isJunction_10 (v := 1) (by decide) ?_
    refine rx_goto (tgt := 15) hE dX11_isJunction_11 (by decide) ?_
    exact rx_tret hE hQ rfl rfl dX11_isJunction_15 ⟨by simp [k_isJ, *], rfl⟩
set_option maxRecDepth 100000 in
set_option maxHeartbeats 4000000 in
theorem c_X11_isRoad {M : gM} {S : gS} {L : gLg} {J : gJn} (hM : 408 ≤ M.1) (r : Int32) : SX 0 0 0 mX11_isRoad [.ref 384, .int r] (kp M (kput S J) L) (fun v M' => v = some (.int (j_hasRoad J r)) ∧ M' = kp M (kput S J) L) := by
  refine SX.intro [some (.ref 384), some (.int r)] (by decide +kernel) (Nat.le_of_ble_eq_true rfl) rfl (fun E hE hQ => ?_)
  refine rx_iload_n hE dX11_isRoad_0 (i := 1) rfl rfl ?_
  refine rx_if_lt (tgt := 18) hE dX11_isRoad_1 (by decide) (fun c1 => ?_) (fun c1 => ?_)
  · refine rx_iconst hE dX11_isRoad_18 (v := 0) (by decide) ?_
    exact rx_tret hE hQ rfl rfl dX11_isRoad_19 ⟨by simp [j_hasRoad, *], rfl⟩
  · refine rx_iload_n hE dX11_isRoad_4 (i := 1) rfl rfl ?_
    refine rx_aload_n hE dX11_isRoad_5 (i := 0) rfl rfl ?_
    refine rx_getf hE dX11_isRoad_6 fl_X11_39_10 (kp_o hM) rfl ?_
    refine rx_iconst hE dX11_isRoad_9 (v := 3) (by decide) ?_
    refine rx_ialdN (i := 3) hE dX11_isRoad_10 (kp_10 hM) (by omega) (by decide) ?_
    refine rx_int _ _ kr_c2 ?_
    refine rx_icmp_ge (tgt := 18) hE dX11_isRoad_11 (by decide) (fun c11 => ?_) (fun c11 => ?_)
    · refine rx_iconst hE dX11_isRoad_18 (v := 0) (by decide) ?_
      exact rx_tret hE hQ rfl rfl dX11_isRoad_19 ⟨by simp [j_hasRoad, *], rfl⟩
    · refine rx_iconst hE dX11_isRoad_14 (v := 1) (by decide) ?_
      refine rx_goto (tgt := 19) hE dX11_isRoad_15 (by decide) ?_
      exact rx_tret hE hQ rfl rfl dX11_isRoad_19 ⟨by simp [j_hasRoad, *], rfl⟩
set_option maxRecDepth 100000 in
set_option maxHeartbeats 4000000 in
theorem c_X11_isBeat {M : gM} {S : gS} {L : gLg} {J : gJn} (hM : 408 ≤ M.1) (b : Int32) : SX 1 0 0 mX11_isBeat [.ref 384, .int b] (kp M (kput S J) L) (fun v M' => v = some (.int (k_isBeat S J b)) ∧ M' = kp M (kput S J) L) := by
  refine SX.intro [some (.ref 384), some (.int b)] (by decide +kernel) (Nat.le_of_ble_eq_true rfl) rfl (fun E hE hQ => ?_)
  refine rx_aload_n hE dX11_isBeat_0 (i := 0) rfl rfl ?_
  refine rx_call0 (rx_callV (av := []) hE dX11_isBeat_1 lk_X11_294 (c_X11_isJunction hM) (kp_o hM) np_X11_isJunction rfl rfl (by decide) (Nat.le_of_ble_eq_true rfl) rfl ?_)
  rintro v M' ⟨rfl, rfl⟩
  refine rx_if_eq (tgt := 25) hE dX11_isBeat_4 (by decide) (fun c4 => ?_) (fun c4 => ?_)
  · have c4 : ¬ S 10 0 = 1 := fun q => by simp [k_isJ, q] at c4
    refine rx_iconst hE dX11_isBeat_25 (v := 0) (by decide) ?_
    exact rx_tret hE hQ rfl rfl dX11_isBeat_26 ⟨by simp [k_isBeat, *], rfl⟩
  · have c4 : S 10 0 = 1 := by unfold k_isJ at c4; split at c4 <;> simp_all
    refine rx_iload_n hE dX11_isBeat_7 (i := 1) rfl rfl ?_
    refine rx_if_lt (tgt := 25) hE dX11_isBeat_8 (by decide) (fun c8 => ?_) (fun c8 => ?_)
    · refine rx_iconst hE dX11_isBeat_25 (v := 0) (by decide) ?_
      exact rx_tret hE hQ rfl rfl dX11_isBeat_26 ⟨by simp [k_isBeat, *], rfl⟩
    · refine rx_iload_n hE dX11_isBeat_11 (i := 1) rfl rfl ?_
      refine rx_aload_n hE dX11_isBeat_12 (i := 0) rfl rfl ?_
      refine rx_getf hE dX11_isBeat_13 fl_X11_39_10 (kp_o hM) rfl ?_
      refine rx_iconst hE dX11_isBeat_16 (v := 1) (by decide) ?_
      refine rx_ialdN (i := 1) hE dX11_isBeat_17 (kp_10 hM) (by omega) (by decide) ?_
      refine rx_int _ _ kr_c0 ?_
      refine rx_icmp_ge (tgt := 25) hE dX11_isBeat_18 (by decide) (fun c18 => ?_) (fun c18 => ?_)
      · refine rx_iconst hE dX11_isBeat_25 (v := 0) (by decide) ?_
        exact rx_tret hE hQ rfl rfl dX11_isBeat_26 ⟨by simp [k_isBeat, *], rfl⟩
      · refine rx_iconst hE dX11_isBeat_21 (v := 1) (by decide) ?_
        refine rx_goto (tgt := 26) hE dX11_isBeat_22 (by decide) ?_
        exact rx_tret hE hQ rfl rfl dX11_isBeat_26 ⟨by simp [k_isBeat, *], rfl⟩
set_option maxRecDepth 100000 in
set_option maxHeartbeats 4000000 in
theorem c_X11_isRule {M : gM} {S : gS} {L : gLg} {J : gJn} (hM : 408 ≤ M.1) (r : Int32) : SX 0 0 0 mX11_isRule [.ref 384, .int r] (kp M (kput S J) L) (fun v M' => v = some (.int (k_isRule S r)) ∧ M' = kp M (kput S J) L) := by
  refine SX.intro [some (.ref 384), some (.int r)] (by decide +kernel) (Nat.le_of_ble_eq_true rfl) rfl (fun E hE hQ => ?_)
  refine rx_iload_n hE dX11_isRule_0 (i := 1) rfl rfl ?_
  refine rx_if_lt (tgt := 16) hE dX11_isRule_1 (by decide) (fun c1 => ?_) (fun c1 => ?_)
  · refine rx_iconst hE dX11_isRule_16 (v := 0) (by decide) ?_
    exact rx_tret hE hQ rfl rfl dX11_isRule_17 ⟨by simp [k_isRule, *], rfl⟩
  · refine rx_iload_n hE dX11_isRule_4 (i := 1) rfl rfl ?_
    refine rx_aload_n hE dX11_isRule_5 (i := 0) rfl rfl ?_
    refine rx_getf hE dX11_isRule_6 fl_X11_267_10 (kp_o hM) rfl ?_
    refine rx_int _ (S 0 2) rfl ?_
    refine rx_icmp_ge (tgt := 16) hE dX11_isRule_9 (by decide) (fun c9 => ?_) (fun c9 => ?_)
    · refine rx_iconst hE dX11_isRule_16 (v := 0) (by decide) ?_
      exact rx_tret hE hQ rfl rfl dX11_isRule_17 ⟨by simp [k_isRule, *], rfl⟩
    · refine rx_iconst hE dX11_isRule_12 (v := 1) (by decide) ?_
      refine rx_goto (tgt := 17) hE dX11_isRule_13 (by decide) ?_
      exact rx_tret hE hQ rfl rfl dX11_isRule_17 ⟨by simp [k_isRule, *], rfl⟩
set_option maxRecDepth 100000 in
set_option maxHeartbeats 4000000 in
theorem c_X11_waitOn {M : gM} {S : gS} {L : gLg} {J : gJn} (hM : 408 ≤ M.1) {r : Nat} (hr : r < 6) : SX 0 0 0 mX11_waitOn [.ref 384, .int (nI r)] (kp M (kput S J) L) (fun v M' => v = some (.int (J 0 r)) ∧ M' = kp M (kput S J) L) := by
  refine SX.intro [some (.ref 384), some (.int (nI r))] (by decide +kernel) (Nat.le_of_ble_eq_true rfl) rfl (fun E hE hQ => ?_)
  refine rx_aload_n hE dX11_waitOn_0 (i := 0) rfl rfl ?_
  refine rx_getf hE dX11_waitOn_1 fl_X11_39_10 (kp_o hM) rfl ?_
  refine rx_bipush hE dX11_waitOn_4 (v := 11) (by decide) ?_
  refine rx_iconst hE dX11_waitOn_6 (v := 5) (by decide) ?_
  refine rx_iload_n hE dX11_waitOn_7 (i := 1) rfl rfl ?_
  refine rx_imul hE dX11_waitOn_8 ?_
  refine rx_int _ (nI (5 * r)) (pk_mul _ _) ?_
  refine rx_iadd hE dX11_waitOn_9 ?_
  refine rx_int _ (nI (11 + 5 * r)) (nI_add _ _) ?_
  refine rx_ialdN (i := 11 + 5 * r) hE dX11_waitOn_10 (kp_10 hM) (by omega) (by decide) ?_
  refine rx_int _ _ (kr_0 (by omega)) ?_
  exact rx_iret hE hQ rfl dX11_waitOn_11 ⟨rfl, rfl⟩
set_option maxRecDepth 100000 in
set_option maxHeartbeats 4000000 in
theorem c_X11_partOf {M : gM} {S : gS} {L : gLg} {J : gJn} (hM : 408 ≤ M.1) {r : Nat} (hr : r < 6) : SX 0 0 0 mX11_partOf [.ref 384, .int (nI r)] (kp M (kput S J) L) (fun v M' => v = some (.int (J 2 r)) ∧ M' = kp M (kput S J) L) := by
  refine SX.intro [some (.ref 384), some (.int (nI r))] (by decide +kernel) (Nat.le_of_ble_eq_true rfl) rfl (fun E hE hQ => ?_)
  refine rx_aload_n hE dX11_partOf_0 (i := 0) rfl rfl ?_
  refine rx_getf hE dX11_partOf_1 fl_X11_39_10 (kp_o hM) rfl ?_
  refine rx_bipush hE dX11_partOf_4 (v := 11) (by decide) ?_
  refine rx_iconst hE dX11_partOf_6 (v := 5) (by decide) ?_
  refine rx_iload_n hE dX11_partOf_7 (i := 1) rfl rfl ?_
  refine rx_imul hE dX11_partOf_8 ?_
  refine rx_int _ (nI (5 * r)) (pk_mul _ _) ?_
  refine rx_iadd hE dX11_partOf_9 ?_
  refine rx_int _ (nI (11 + 5 * r)) (nI_add _ _) ?_
  refine rx_iconst hE dX11_partOf_10 (v := 1) (by decide) ?_
  refine rx_iadd hE dX11_partOf_11 ?_
  refine rx_int _ (nI (11 + 5 * r + 1)) (nI_add _ _) ?_
  refine rx_ialdN (i := 11 + 5 * r + 1) hE dX11_partOf_12 (kp_10 hM) (by omega) (by decide) ?_
  refine rx_int _ _ (kr_2 (by omega)) ?_
  exact rx_iret hE hQ rfl dX11_partOf_13 ⟨rfl, rfl⟩
set_option maxRecDepth 100000 in
set_option maxHeartbeats 4000000 in
theorem c_X11_wentFrom {M : gM} {S : gS} {L : gLg} {J : gJn} (hM : 408 ≤ M.1) {r : Nat} (hr : r < 6) : SX 0 0 0 mX11_wentFrom [.ref 384, .int (nI r)] (kp M (kput S J) L) (fun v M' => v = some (.int (J 4 r)) ∧ M' = kp M (kput S J) L) := by
  refine SX.intro [some (.ref 384), some (.int (nI r))] (by decide +kernel) (Nat.le_of_ble_eq_true rfl) rfl (fun E hE hQ => ?_)
  refine rx_aload_n hE dX11_wentFrom_0 (i := 0) rfl rfl ?_
  refine rx_getf hE dX11_wentFrom_1 fl_X11_39_10 (kp_o hM) rfl ?_
  refine rx_bipush hE dX11_wentFrom_4 (v := 11) (by decide) ?_
  refine rx_iconst hE dX11_wentFrom_6 (v := 5) (by decide) ?_
  refine rx_iload_n hE dX11_wentFrom_7 (i := 1) rfl rfl ?_
  refine rx_imul hE dX11_wentFrom_8 ?_
  refine rx_int _ (nI (5 * r)) (pk_mul _ _) ?_
  refine rx_iadd hE dX11_wentFrom_9 ?_
  refine rx_int _ (nI (11 + 5 * r)) (nI_add _ _) ?_
  refine rx_iconst hE dX11_wentFrom_10 (v := 2) (by decide) ?_
  refine rx_iadd hE dX11_wentFrom_11 ?_
  refine rx_int _ (nI (11 + 5 * r + 2)) (nI_add _ _) ?_
  refine rx_ialdN (i := 11 + 5 * r + 2) hE dX11_wentFrom_12 (kp_10 hM) (by omega) (by decide) ?_
  refine rx_int _ _ (kr_4 (by omega)) ?_
  exact rx_iret hE hQ rfl dX11_wentFrom_13 ⟨rfl, rfl⟩
set_option maxRecDepth 100000 in
set_option maxHeartbeats 4000000 in
theorem c_X11_waitedOn {M : gM} {S : gS} {L : gLg} {J : gJn} (hM : 408 ≤ M.1) {r : Nat} (hr : r < 6) : SX 0 0 0 mX11_waitedOn [.ref 384, .int (nI r)] (kp M (kput S J) L) (fun v M' => v = some (.int (J 5 r)) ∧ M' = kp M (kput S J) L) := by
  refine SX.intro [some (.ref 384), some (.int (nI r))] (by decide +kernel) (Nat.le_of_ble_eq_true rfl) rfl (fun E hE hQ => ?_)
  refine rx_aload_n hE dX11_waitedOn_0 (i := 0) rfl rfl ?_
  refine rx_getf hE dX11_waitedOn_1 fl_X11_39_10 (kp_o hM) rfl ?_
  refine rx_bipush hE dX11_waitedOn_4 (v := 11) (by decide) ?_
  refine rx_iconst hE dX11_waitedOn_6 (v := 5) (by decide) ?_
  refine rx_iload_n hE dX11_waitedOn_7 (i := 1) rfl rfl ?_
  refine rx_imul hE dX11_waitedOn_8 ?_
  refine rx_int _ (nI (5 * r)) (pk_mul _ _) ?_
  refine rx_iadd hE dX11_waitedOn_9 ?_
  refine rx_int _ (nI (11 + 5 * r)) (nI_add _ _) ?_
  refine rx_iconst hE dX11_waitedOn_10 (v := 3) (by decide) ?_
  refine rx_iadd hE dX11_waitedOn_11 ?_
  refine rx_int _ (nI (11 + 5 * r + 3)) (nI_add _ _) ?_
  refine rx_ialdN (i := 11 + 5 * r + 3) hE dX11_waitedOn_12 (kp_10 hM) (by omega) (by decide) ?_
  refine rx_int _ _ (kr_5 (by omega)) ?_
  exact rx_iret hE hQ rfl dX11_waitedOn_13 ⟨rfl, rfl⟩
set_option maxRecDepth 100000 in
set_option maxHeartbeats 4000000 in
theorem c_X11_sinceOf {M : gM} {S : gS} {L : gLg} {J : gJn} (hM : 408 ≤ M.1) {r : Nat} (hr : r < 6) : SX 0 0 0 mX11_sinceOf [.ref 384, .int (nI r)] (kp M (kput S J) L) (fun v M' => v = some (.int (k_since J r)) ∧ M' = kp M (kput S J) L) := by
  refine SX.intro [some (.ref 384), some (.int (nI r)), none, none] (by decide +kernel) (Nat.le_of_ble_eq_true rfl) rfl (fun E hE hQ => ?_)
  refine rx_aload_n hE dX11_sinceOf_0 (i := 0) rfl rfl ?_
  refine rx_getf hE dX11_sinceOf_1 fl_X11_39_10 (kp_o hM) rfl ?_
  refine rx_bipush hE dX11_sinceOf_4 (v := 11) (by decide) ?_
  refine rx_iconst hE dX11_sinceOf_6 (v := 5) (by decide) ?_
  refine rx_iload_n hE dX11_sinceOf_7 (i := 1) rfl rfl ?_
  refine rx_imul hE dX11_sinceOf_8 ?_
  refine rx_int _ (nI (5 * r)) (pk_mul _ _) ?_
  refine rx_iadd hE dX11_sinceOf_9 ?_
  refine rx_int _ (nI (11 + 5 * r)) (nI_add _ _) ?_
  refine rx_iconst hE dX11_sinceOf_10 (v := 4) (by decide) ?_
  refine rx_iadd hE dX11_sinceOf_11 ?_
  refine rx_int _ (nI (11 + 5 * r + 4)) (nI_add _ _) ?_
  refine rx_ialdN (i := 11 + 5 * r + 4) hE dX11_sinceOf_12 (kp_10 hM) (by omega) (by decide) ?_
  refine rx_int _ _ (kr_6 (by omega)) ?_
  refine rx_istore_n_2 hE dX11_sinceOf_13 (by decide) rfl ?_
  refine rx_aload_n hE dX11_sinceOf_14 (i := 0) rfl rfl ?_
  refine rx_getf hE dX11_sinceOf_15 fl_X11_39_10 (kp_o hM) rfl ?_
  refine rx_bipush hE dX11_sinceOf_18 (v := 10) (by decide) ?_
  refine rx_ialdN (i := 10) hE dX11_sinceOf_20 (kp_10 hM) (by omega) (by decide) ?_
  refine rx_int _ _ kr_c3 ?_
  refine rx_iload_n hE dX11_sinceOf_21 (i := 2) rfl rfl ?_
  refine rx_isub hE dX11_sinceOf_22 ?_
  refine rx_istore_n_3 hE dX11_sinceOf_23 (by decide) rfl ?_
  refine rx_iload_n hE dX11_sinceOf_24 (i := 2) rfl rfl ?_
  refine rx_if_lt (tgt := 34) hE dX11_sinceOf_25 (by decide) (fun c25 => ?_) (fun c25 => ?_)
  · refine rx_bipush hE dX11_sinceOf_34 (v := 99) (by decide) ?_
    refine rx_goto (tgt := 40) hE dX11_sinceOf_36 (by decide) ?_
    exact rx_iret hE hQ rfl dX11_sinceOf_40 ⟨by simp [k_since, *], rfl⟩
  · refine rx_iload_n hE dX11_sinceOf_28 (i := 3) rfl rfl ?_
    refine rx_bipush hE dX11_sinceOf_29 (v := 99) (by decide) ?_
    refine rx_icmp_le (tgt := 39) hE dX11_sinceOf_31 (by decide) (fun c31 => ?_) (fun c31 => ?_)
    · refine rx_iload_n hE dX11_sinceOf_39 (i := 3) rfl rfl ?_
      exact rx_iret hE hQ rfl dX11_sinceOf_40 ⟨by simp [k_since, *], rfl⟩
    · refine rx_bipush hE dX11_sinceOf_34 (v := 99) (by decide) ?_
      refine rx_goto (tgt := 40) hE dX11_sinceOf_36 (by decide) ?_
      exact rx_iret hE hQ rfl dX11_sinceOf_40 ⟨by simp [k_since, *], rfl⟩
set_option maxRecDepth 100000 in
set_option maxHeartbeats 4000000 in
theorem c_X11_beatOfBar {M : gM} {S : gS} {L : gLg} {J : gJn} (hM : 408 ≤ M.1) (hB : ¬ J 9 0 = 0) : SX 1 0 0 mX11_beatOfBar [.ref 384] (kp M (kput S J) L) (fun v M' => v = some (.int (k_bob S J)) ∧ M' = kp M (kput S J) L) := by
  refine SX.intro [some (.ref 384)] (by decide +kernel) (Nat.le_of_ble_eq_true rfl) rfl (fun E hE hQ => ?_)
  refine rx_aload_n hE dX11_beatOfBar_0 (i := 0) rfl rfl ?_
  refine rx_call0 (rx_callV (av := []) hE dX11_beatOfBar_1 lk_X11_294 (c_X11_isJunction hM) (kp_o hM) np_X11_isJunction rfl rfl (by decide) (Nat.le_of_ble_eq_true rfl) rfl ?_)
  rintro v M' ⟨rfl, rfl⟩
  refine rx_if_eq (tgt := 24) hE dX11_beatOfBar_4 (by decide) (fun c4 => ?_) (fun c4 => ?_)
  · have c4 : ¬ S 10 0 = 1 := fun q => by simp [k_isJ, q] at c4
    refine rx_iconst hE dX11_beatOfBar_24 (v := 0) (by decide) ?_
    exact rx_iret hE hQ rfl dX11_beatOfBar_25 ⟨by simp [k_bob, *], rfl⟩
  · have c4 : S 10 0 = 1 := by unfold k_isJ at c4; split at c4 <;> simp_all
    refine rx_aload_n hE dX11_beatOfBar_7 (i := 0) rfl rfl ?_
    refine rx_getf hE dX11_beatOfBar_8 fl_X11_39_10 (kp_o hM) rfl ?_
    refine rx_bipush hE dX11_beatOfBar_11 (v := 10) (by decide) ?_
    refine rx_ialdN (i := 10) hE dX11_beatOfBar_13 (kp_10 hM) (by omega) (by decide) ?_
    refine rx_int _ _ kr_c3 ?_
    refine rx_aload_n hE dX11_beatOfBar_14 (i := 0) rfl rfl ?_
    refine rx_getf hE dX11_beatOfBar_15 fl_X11_39_10 (kp_o hM) rfl ?_
    refine rx_iconst hE dX11_beatOfBar_18 (v := 1) (by decide) ?_
    refine rx_ialdN (i := 1) hE dX11_beatOfBar_19 (kp_10 hM) (by omega) (by decide) ?_
    refine rx_int _ _ kr_c0 ?_
    refine rx_irem hE dX11_beatOfBar_20 hB ?_
    refine rx_goto (tgt := 25) hE dX11_beatOfBar_21 (by decide) ?_
    exact rx_iret hE hQ rfl dX11_beatOfBar_25 ⟨by simp [k_bob, *], rfl⟩
def k_over (J : gJn) (m n : Nat) : Int32 := jsum (J (ktab m)) n
theorem kr_m {S : gS} {J : gJn} {r m : Nat} (hr : r < 6) (hm : m < 5) : kput S J 10 (11 + 5 * r + m) = J (ktab m) r := ksaid_r (S 10) J m hr hm
set_option maxRecDepth 100000 in
set_option maxHeartbeats 4000000 in
theorem c_X11_sumOver {M : gM} {S : gS} {L : gLg} {J : gJn} (hM : 408 ≤ M.1) {R m : Nat} (hR : J 9 2 = nI R) (hR6 : R ≤ 6) (hm : m < 5) : SX 0 0 0 mX11_sumOver [.ref 384, .int (nI m)] (kp M (kput S J) L) (fun v M' => v = some (.int (jsum (J (ktab m)) R)) ∧ M' = kp M (kput S J) L) := by
  refine SX.intro [some (.ref 384), some (.int (nI m)), none, none] (by decide +kernel) (Nat.le_of_ble_eq_true rfl) rfl (fun E hE hQ => ?_)
  have loop : ∀ (n k : Nat) , k + n = R → RX E mX11_sumOver.2.2.1 0 0 4 [some (.ref 384), some (.int (nI m)), some (.int (jsum (J (ktab m)) k)), some (.int (nI k))] [] (kp M (kput S J) L) := by
    intro n
    induction n with
    | zero =>
      intro k hk
      refine rx_iload_n hE dX11_sumOver_4 (i := 3) rfl rfl ?_
      refine rx_aload_n hE dX11_sumOver_5 (i := 0) rfl rfl ?_
      refine rx_getf hE dX11_sumOver_6 fl_X11_39_10 (kp_o hM) rfl ?_
      refine rx_iconst hE dX11_sumOver_9 (v := 3) (by decide) ?_
      refine rx_ialdN (i := 3) hE dX11_sumOver_10 (kp_10 hM) (by omega) (by decide) ?_
      refine rx_int _ _ kr_c2 ?_
      refine rx_icmp_ge (tgt := 36) hE dX11_sumOver_11 (by decide) (fun c11 => ?_) (fun c11 => absurd (by rw [hR]; exact nI_le (by omega) (by omega)) c11)
      refine rx_iload_n hE dX11_sumOver_36 (i := 2) rfl rfl ?_
      exact rx_iret hE hQ rfl dX11_sumOver_37 ⟨by rw [show k = R by omega], rfl⟩
    | succ n ih =>
      intro k hk
      refine rx_iload_n hE dX11_sumOver_4 (i := 3) rfl rfl ?_
      refine rx_aload_n hE dX11_sumOver_5 (i := 0) rfl rfl ?_
      refine rx_getf hE dX11_sumOver_6 fl_X11_39_10 (kp_o hM) rfl ?_
      refine rx_iconst hE dX11_sumOver_9 (v := 3) (by decide) ?_
      refine rx_ialdN (i := 3) hE dX11_sumOver_10 (kp_10 hM) (by omega) (by decide) ?_
      refine rx_int _ _ kr_c2 ?_
      refine rx_icmp_ge (tgt := 36) hE dX11_sumOver_11 (by decide) (fun c11 => absurd (by rw [hR] at c11; exact c11) (nI_ge (by omega) (by omega))) (fun c11 => ?_)
      refine rx_iload_n hE dX11_sumOver_14 (i := 2) rfl rfl ?_
      refine rx_aload_n hE dX11_sumOver_15 (i := 0) rfl rfl ?_
      refine rx_getf hE dX11_sumOver_16 fl_X11_39_10 (kp_o hM) rfl ?_
      refine rx_bipush hE dX11_sumOver_19 (v := 11) (by decide) ?_
      refine rx_iconst hE dX11_sumOver_21 (v := 5) (by decide) ?_
      refine rx_iload_n hE dX11_sumOver_22 (i := 3) rfl rfl ?_
      refine rx_imul hE dX11_sumOver_23 ?_
      refine rx_int _ (nI (5 * k)) (pk_mul _ _) ?_
      refine rx_iadd hE dX11_sumOver_24 ?_
      refine rx_int _ (nI (11 + 5 * k)) (nI_add _ _) ?_
      refine rx_iload_n hE dX11_sumOver_25 (i := 1) rfl rfl ?_
      refine rx_iadd hE dX11_sumOver_26 ?_
      refine rx_int _ (nI (11 + 5 * k + m)) (nI_add _ _) ?_
      refine rx_ialdN (i := 11 + 5 * k + m) hE dX11_sumOver_27 (kp_10 hM) (by omega) (by decide) ?_
      refine rx_int _ _ (kr_m (by omega) hm) ?_
      refine rx_iadd hE dX11_sumOver_28 ?_
      refine rx_istore_n_2 hE dX11_sumOver_29 (by decide) rfl ?_
      refine rx_iinc_3 hE dX11_sumOver_30 (v := 1) (by decide) (by decide) rfl ?_
      rw [nI_1]
      refine rx_goto (tgt := 4) hE dX11_sumOver_33 (by decide) ?_
      exact ih (k + 1) (by omega)
  refine rx_iconst hE dX11_sumOver_0 (v := 0) (by decide) ?_
  refine rx_istore_n_2 hE dX11_sumOver_1 (by decide) rfl ?_
  refine rx_iconst hE dX11_sumOver_2 (v := 0) (by decide) ?_
  refine rx_istore_n_3 hE dX11_sumOver_3 (by decide) rfl ?_
  exact loop R 0 (by omega)
