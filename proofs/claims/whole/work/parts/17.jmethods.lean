def jbit (set : Int32) (k : Nat) : Int32 := set >>> (nI k &&& 31) &&& 1
def j_since (J : gJn) (r : Nat) : Int32 := if J 6 r = -1 then 99 else jmin 99 (J 9 3 - J 6 r)
def jpcF (J : gJn) (set : Int32) : Nat → Nat → Int32
  | _, 0 => 1
  | k, n + 1 => if jbit set k = 1 ∧ ¬ J 3 k &&& set = 0 then 0 else jpcF J set (k + 1) n
def j_heard (h s : Int32) : Int32 := jmax (-9999) (jmin 9999 (h + s))
def j_addw (J : gJn) (r : Nat) (m : Int32) : gJn := j_s J 0 (upd (J 0) r (jmin 999 (J 0 r + m)))
def j_many (J : gJn) (r : Nat) : Int32 := jmin (J 9 1) (J 0 r)
def j_leave (J : gJn) (r : Nat) : gJn := j_s (j_s J 0 (upd (J 0) r (J 0 r - j_many J r))) 4 (upd (J 4) r (J 4 r + j_many J r))
def jarS (k : Nat) (J : gJn) : gJn := if nI k = J 9 5 then J else if J 1 k ≤ 0 then J else if J 9 3 - J 9 3 / J 1 k * J 1 k = 0 then j_addw J k 1 else J
def jarF : Nat → Nat → gJn → gJn
  | _, 0, J => J
  | k, n + 1, J => jarF (k + 1) n (jarS k J)
def jfull (f : Nat → Int32) : Nat → Nat
  | 0 => 0
  | n + 1 => if f n ≤ f (jfull f n) then jfull f n else n
theorem jfull_lt (f : Nat → Int32) : ∀ n, 0 < n → jfull f n < n
  | 0, h => absurd h (Nat.lt_irrefl 0)
  | 1, _ => by
    show (if f 0 ≤ f (jfull f 0) then jfull f 0 else 0) < 1
    split
    · exact Nat.one_pos
    · exact Nat.one_pos
  | n + 2, _ => by
    have ih := jfull_lt f (n + 1) (Nat.succ_pos n)
    show (if f (n + 1) ≤ f (jfull f (n + 1)) then jfull f (n + 1) else n + 1) < n + 2
    split
    · omega
    · omega
theorem jfull_1 (f : Nat → Int32) : jfull f 1 = 0 := by
  have := jfull_lt f 1 Nat.one_pos
  omega
set_option maxRecDepth 100000 in
set_option maxHeartbeats 4000000 in
theorem c_X2_sinceLetIn {M : gM} {a : Nat} {J : gJn} {r : Nat} (hb : jb M a) (hr : r < 6) : SX 1 0 0 mX2_sinceLetIn [.ref a, .int (nI r)] (jp M a J) (fun v M' => v = some (.int (j_since J r)) ∧ M' = jp M a J) := by
  refine SX.intro [some (.ref a), some (.int (nI r))] (by decide +kernel) (Nat.le_of_ble_eq_true rfl) rfl (fun E hE hQ => ?_)
  refine rx_aload_n hE dX2_sinceLetIn_0 (i := 0) rfl rfl ?_
  refine rx_getf hE dX2_sinceLetIn_1 fl_X2_30_2 (jp_o hb) rfl ?_
  refine rx_iload_n hE dX2_sinceLetIn_4 (i := 1) rfl rfl ?_
  refine rx_ialdN hE dX2_sinceLetIn_5 (jp_7 hb) (by omega) (by decide) ?_
  refine rx_iconst hE dX2_sinceLetIn_6 (v := -1) (by decide) ?_
  refine rx_icmp_ne (tgt := 15) hE dX2_sinceLetIn_7 (by decide) (fun c7 => ?_) (fun c7 => ?_)
  · refine rx_bipush hE dX2_sinceLetIn_15 (v := 99) (by decide) ?_
    refine rx_aload_n hE dX2_sinceLetIn_17 (i := 0) rfl rfl ?_
    refine rx_getf hE dX2_sinceLetIn_18 fl_X2_49_2 (jp_o hb) rfl ?_
    refine rx_aload_n hE dX2_sinceLetIn_21 (i := 0) rfl rfl ?_
    refine rx_getf hE dX2_sinceLetIn_22 fl_X2_30_2 (jp_o hb) rfl ?_
    refine rx_iload_n hE dX2_sinceLetIn_25 (i := 1) rfl rfl ?_
    refine rx_ialdN hE dX2_sinceLetIn_26 (jp_7 hb) (by omega) (by decide) ?_
    refine rx_isub hE dX2_sinceLetIn_27 ?_
    refine rx_mmin hE dX2_sinceLetIn_28 mm_X2_70 rfl (by decide) (Nat.le_of_ble_eq_true rfl) ?_
    exact rx_iret hE hQ rfl dX2_sinceLetIn_31 ⟨by simp [j_since, jmin, *], rfl⟩
  · refine rx_bipush hE dX2_sinceLetIn_10 (v := 99) (by decide) ?_
    refine rx_goto (tgt := 31) hE dX2_sinceLetIn_12 (by decide) ?_
    exact rx_iret hE hQ rfl dX2_sinceLetIn_31 ⟨by simp [j_since, jmin, *], rfl⟩
set_option maxRecDepth 100000 in
set_option maxHeartbeats 4000000 in
theorem c_X2_isPeaceful {M : gM} {a : Nat} {J : gJn} {R : Nat} (set : Int32) (hb : jb M a) (hR : J 9 2 = nI R) (hR6 : R ≤ 6) : SX 0 0 0 mX2_isPeaceful [.ref a, .int set] (jp M a J) (fun v M' => v = some (.int (jpcF J set 0 R)) ∧ M' = jp M a J) := by
  refine SX.intro [some (.ref a), some (.int set), none] (by decide +kernel) (Nat.le_of_ble_eq_true rfl) rfl (fun E hE hQ => ?_)
  have loop : ∀ (n k : Nat) , k + n = R → jpcF J set k n = jpcF J set 0 R → RX E mX2_isPeaceful.2.2.1 0 0 2 [some (.ref a), some (.int set), some (.int (nI k))] [] (jp M a J) := by
    intro n
    induction n with
    | zero =>
      intro k hk hF
      refine rx_iload_n hE dX2_isPeaceful_2 (i := 2) rfl rfl ?_
      refine rx_aload_n hE dX2_isPeaceful_3 (i := 0) rfl rfl ?_
      refine rx_getf hE dX2_isPeaceful_4 fl_X2_46_2 (jp_o hb) rfl ?_
      refine rx_icmp_ge (tgt := 38) hE dX2_isPeaceful_7 (by decide) (fun c7 => ?_) (fun c7 => absurd (by rw [hR]; exact nI_le (by omega) (by omega)) c7)
      refine rx_iconst hE dX2_isPeaceful_38 (v := 1) (by decide) ?_
      exact rx_tret hE hQ rfl rfl dX2_isPeaceful_39 ⟨by rw [← hF]; rfl, rfl⟩
    | succ n ih =>
      intro k hk hF
      refine rx_iload_n hE dX2_isPeaceful_2 (i := 2) rfl rfl ?_
      refine rx_aload_n hE dX2_isPeaceful_3 (i := 0) rfl rfl ?_
      refine rx_getf hE dX2_isPeaceful_4 fl_X2_46_2 (jp_o hb) rfl ?_
      refine rx_icmp_ge (tgt := 38) hE dX2_isPeaceful_7 (by decide) (fun c7 => absurd (by rw [hR] at c7; exact c7) (nI_ge (by omega) (by omega))) (fun c7 => ?_)
      refine rx_iload_n hE dX2_isPeaceful_10 (i := 1) rfl rfl ?_
      refine rx_iload_n hE dX2_isPeaceful_11 (i := 2) rfl rfl ?_
      refine rx_ishr hE dX2_isPeaceful_12 ?_
      refine rx_iconst hE dX2_isPeaceful_13 (v := 1) (by decide) ?_
      refine rx_iand hE dX2_isPeaceful_14 ?_
      refine rx_iconst hE dX2_isPeaceful_15 (v := 1) (by decide) ?_
      refine rx_icmp_ne (tgt := 32) hE dX2_isPeaceful_16 (by decide) (fun c16 => ?_) (fun c16 => ?_)
      · refine rx_iinc_2 hE dX2_isPeaceful_32 (v := 1) (by decide) (by decide) rfl ?_
        rw [nI_1]
        refine rx_goto (tgt := 2) hE dX2_isPeaceful_35 (by decide) ?_
        exact ih (k + 1) (by omega) (by rw [← hF]; show _ = (if _ then _ else _); rw [if_neg (fun q => by first | exact c16 q.1 | exact q.2 c27)])
      · refine rx_aload_n hE dX2_isPeaceful_19 (i := 0) rfl rfl ?_
        refine rx_getf hE dX2_isPeaceful_20 fl_X2_21_2 (jp_o hb) rfl ?_
        refine rx_iload_n hE dX2_isPeaceful_23 (i := 2) rfl rfl ?_
        refine rx_ialdN hE dX2_isPeaceful_24 (jp_4 hb) (by omega) (by decide) ?_
        refine rx_iload_n hE dX2_isPeaceful_25 (i := 1) rfl rfl ?_
        refine rx_iand hE dX2_isPeaceful_26 ?_
        refine rx_if_eq (tgt := 32) hE dX2_isPeaceful_27 (by decide) (fun c27 => ?_) (fun c27 => ?_)
        · refine rx_iinc_2 hE dX2_isPeaceful_32 (v := 1) (by decide) (by decide) rfl ?_
          rw [nI_1]
          refine rx_goto (tgt := 2) hE dX2_isPeaceful_35 (by decide) ?_
          exact ih (k + 1) (by omega) (by rw [← hF]; show _ = (if _ then _ else _); rw [if_neg (fun q => by first | exact c16 q.1 | exact q.2 c27)])
        · refine rx_iconst hE dX2_isPeaceful_30 (v := 0) (by decide) ?_
          exact rx_tret hE hQ rfl rfl dX2_isPeaceful_31 ⟨by rw [← hF]; show _ = some (Value.int (if _ then _ else _)); rw [if_pos ⟨c16, c27⟩], rfl⟩
  refine rx_iconst hE dX2_isPeaceful_0 (v := 0) (by decide) ?_
  refine rx_istore_n_2 hE dX2_isPeaceful_1 (by decide) rfl ?_
  exact loop R 0 (by omega) rfl
set_option maxRecDepth 100000 in
set_option maxHeartbeats 4000000 in
theorem c_X2_heardBehind {M : gM} (h s : Int32) : SX 1 0 0 mX2_heardBehind [.int h, .int s] M (fun v M' => v = some (.int (j_heard h s)) ∧ M' = M) := by
  refine SX.intro [some (.int h), some (.int s)] (by decide +kernel) (Nat.le_of_ble_eq_true rfl) rfl (fun E hE hQ => ?_)
  refine rx_sipush hE dX2_heardBehind_0 (v := -9999) (by decide) ?_
  refine rx_sipush hE dX2_heardBehind_3 (v := 9999) (by decide) ?_
  refine rx_iload_n hE dX2_heardBehind_6 (i := 0) rfl rfl ?_
  refine rx_iload_n hE dX2_heardBehind_7 (i := 1) rfl rfl ?_
  refine rx_iadd hE dX2_heardBehind_8 ?_
  refine rx_mmin hE dX2_heardBehind_9 mm_X2_70 rfl (by decide) (Nat.le_of_ble_eq_true rfl) ?_
  refine rx_mmax hE dX2_heardBehind_12 mm_X2_133 rfl (by decide) (Nat.le_of_ble_eq_true rfl) ?_
  exact rx_iret hE hQ rfl dX2_heardBehind_15 ⟨rfl, rfl⟩
set_option maxRecDepth 100000 in
set_option maxHeartbeats 4000000 in
theorem c_X2_addWaiting {M : gM} {a : Nat} {J : gJn} {r : Nat} (m : Int32) (hb : jb M a) (hr : r < 6) : SX 1 0 0 mX2_addWaiting [.ref a, .int (nI r), .int m] (jp M a J) (fun v M' => v = none ∧ M' = jp M a (j_addw J r m)) := by
  refine SX.intro [some (.ref a), some (.int (nI r)), some (.int m)] (by decide +kernel) (Nat.le_of_ble_eq_true rfl) rfl (fun E hE hQ => ?_)
  refine rx_aload_n hE dX2_addWaiting_0 (i := 0) rfl rfl ?_
  refine rx_getf hE dX2_addWaiting_1 fl_X2_9_2 (jp_o hb) rfl ?_
  refine rx_iload_n hE dX2_addWaiting_4 (i := 1) rfl rfl ?_
  refine rx_sipush hE dX2_addWaiting_5 (v := 999) (by decide) ?_
  refine rx_aload_n hE dX2_addWaiting_8 (i := 0) rfl rfl ?_
  refine rx_getf hE dX2_addWaiting_9 fl_X2_9_2 (jp_o hb) rfl ?_
  refine rx_iload_n hE dX2_addWaiting_12 (i := 1) rfl rfl ?_
  refine rx_ialdN hE dX2_addWaiting_13 (jp_1 hb) (by omega) (by decide) ?_
  refine rx_iload_n hE dX2_addWaiting_14 (i := 2) rfl rfl ?_
  refine rx_iadd hE dX2_addWaiting_15 ?_
  refine rx_mmin hE dX2_addWaiting_16 mm_X2_70 rfl (by decide) (Nat.le_of_ble_eq_true rfl) ?_
  refine rx_iastN hE dX2_addWaiting_19 (jp_1 hb) (by omega) (by decide) ?_
  refine rx_mem jw_1 ?_
  exact rx_vret hE hQ rfl dX2_addWaiting_20 ⟨rfl, rfl⟩
set_option maxRecDepth 100000 in
set_option maxHeartbeats 4000000 in
theorem c_X2_leave {M : gM} {a : Nat} {J : gJn} {r : Nat} (hb : jb M a) (hr : r < 6) : SX 1 0 0 mX2_leave [.ref a, .int (nI r)] (jp M a J) (fun v M' => v = some (.int (j_many J r)) ∧ M' = jp M a (j_leave J r)) := by
  refine SX.intro [some (.ref a), some (.int (nI r)), none] (by decide +kernel) (Nat.le_of_ble_eq_true rfl) rfl (fun E hE hQ => ?_)
  refine rx_aload_n hE dX2_leave_0 (i := 0) rfl rfl ?_
  refine rx_getf hE dX2_leave_1 fl_X2_43_2 (jp_o hb) rfl ?_
  refine rx_aload_n hE dX2_leave_4 (i := 0) rfl rfl ?_
  refine rx_getf hE dX2_leave_5 fl_X2_9_2 (jp_o hb) rfl ?_
  refine rx_iload_n hE dX2_leave_8 (i := 1) rfl rfl ?_
  refine rx_ialdN hE dX2_leave_9 (jp_1 hb) (by omega) (by decide) ?_
  refine rx_mmin hE dX2_leave_10 mm_X2_70 rfl (by decide) (Nat.le_of_ble_eq_true rfl) ?_
  refine rx_istore_n_2 hE dX2_leave_13 (by decide) rfl ?_
  refine rx_aload_n hE dX2_leave_14 (i := 0) rfl rfl ?_
  refine rx_getf hE dX2_leave_15 fl_X2_9_2 (jp_o hb) rfl ?_
  refine rx_iload_n hE dX2_leave_18 (i := 1) rfl rfl ?_
  refine rx_dup2 hE dX2_leave_19 rfl rfl ?_
  refine rx_ialdN hE dX2_leave_20 (jp_1 hb) (by omega) (by decide) ?_
  refine rx_iload_n hE dX2_leave_21 (i := 2) rfl rfl ?_
  refine rx_isub hE dX2_leave_22 ?_
  refine rx_iastN hE dX2_leave_23 (jp_1 hb) (by omega) (by decide) ?_
  refine rx_mem jw_1 ?_
  refine rx_aload_n hE dX2_leave_24 (i := 0) rfl rfl ?_
  refine rx_getf hE dX2_leave_25 fl_X2_24_2 (jp_o hb) rfl ?_
  refine rx_iload_n hE dX2_leave_28 (i := 1) rfl rfl ?_
  refine rx_dup2 hE dX2_leave_29 rfl rfl ?_
  refine rx_ialdN hE dX2_leave_30 (jp_5 hb) (by omega) (by decide) ?_
  refine rx_iload_n hE dX2_leave_31 (i := 2) rfl rfl ?_
  refine rx_iadd hE dX2_leave_32 ?_
  refine rx_iastN hE dX2_leave_33 (jp_5 hb) (by omega) (by decide) ?_
  refine rx_mem jw_5 ?_
  refine rx_iload_n hE dX2_leave_34 (i := 2) rfl rfl ?_
  exact rx_iret hE hQ rfl dX2_leave_35 ⟨rfl, rfl⟩
set_option maxRecDepth 100000 in
set_option maxHeartbeats 4000000 in
theorem c_X2_arrive {M : gM} {a : Nat} {J : gJn} {R : Nat} (hb : jb M a) (hR : J 9 2 = nI R) (hR6 : R ≤ 6) : SX 2 0 0 mX2_arrive [.ref a] (jp M a J) (fun v M' => v = none ∧ M' = jp M a (jarF 0 R J)) := by
  refine SX.intro [some (.ref a), none] (by decide +kernel) (Nat.le_of_ble_eq_true rfl) rfl (fun E hE hQ => ?_)
  have loop : ∀ (n k : Nat) (J' : gJn), k + n = R → J' 9 2 = nI R → jarF k n J' = jarF 0 R J → RX E mX2_arrive.2.2.1 0 0 2 [some (.ref a), some (.int (nI k))] [] (jp M a J') := by
    intro n
    induction n with
    | zero =>
      intro k J' hk hR' hF
      refine rx_iload_n hE dX2_arrive_2 (i := 1) rfl rfl ?_
      refine rx_aload_n hE dX2_arrive_3 (i := 0) rfl rfl ?_
      refine rx_getf hE dX2_arrive_4 fl_X2_46_2 (jp_o hb) rfl ?_
      refine rx_icmp_ge (tgt := 53) hE dX2_arrive_7 (by decide) (fun c7 => ?_) (fun c7 => absurd (by rw [hR']; exact nI_le (by omega) (by omega)) c7)
      exact rx_vret hE hQ rfl dX2_arrive_53 ⟨rfl, by rw [← hF]; rfl⟩
    | succ n ih =>
      intro k J' hk hR' hF
      refine rx_iload_n hE dX2_arrive_2 (i := 1) rfl rfl ?_
      refine rx_aload_n hE dX2_arrive_3 (i := 0) rfl rfl ?_
      refine rx_getf hE dX2_arrive_4 fl_X2_46_2 (jp_o hb) rfl ?_
      refine rx_icmp_ge (tgt := 53) hE dX2_arrive_7 (by decide) (fun c7 => absurd (by rw [hR'] at c7; exact c7) (nI_ge (by omega) (by omega))) (fun c7 => ?_)
      refine rx_iload_n hE dX2_arrive_10 (i := 1) rfl rfl ?_
      refine rx_aload_n hE dX2_arrive_11 (i := 0) rfl rfl ?_
      refine rx_getf hE dX2_arrive_12 fl_X2_55_2 (jp_o hb) rfl ?_
      refine rx_icmp_eq (tgt := 47) hE dX2_arrive_15 (by decide) (fun c15 => ?_) (fun c15 => ?_)
      · refine rx_iinc_1 hE dX2_arrive_47 (v := 1) (by decide) (by decide) rfl ?_
        rw [nI_1]
        refine rx_goto (tgt := 2) hE dX2_arrive_50 (by decide) ?_
        exact ih (k + 1) _ (by omega) (by first | exact hR' | (rw [← hR']; rfl)) (by rw [← hF]; show _ = jarF (k + 1) n (jarS k J'); rw [show jarS k J' = _ by first | exact if_pos c15 | exact (if_neg c15).trans (if_pos c24) | exact ((if_neg c15).trans (if_neg c24)).trans (if_neg c38) | exact ((if_neg c15).trans (if_neg c24)).trans (if_pos c38)])
      · refine rx_aload_n hE dX2_arrive_18 (i := 0) rfl rfl ?_
        refine rx_getf hE dX2_arrive_19 fl_X2_15_2 (jp_o hb) rfl ?_
        refine rx_iload_n hE dX2_arrive_22 (i := 1) rfl rfl ?_
        refine rx_ialdN hE dX2_arrive_23 (jp_2 hb) (by omega) (by decide) ?_
        refine rx_if_le (tgt := 47) hE dX2_arrive_24 (by decide) (fun c24 => ?_) (fun c24 => ?_)
        · refine rx_iinc_1 hE dX2_arrive_47 (v := 1) (by decide) (by decide) rfl ?_
          rw [nI_1]
          refine rx_goto (tgt := 2) hE dX2_arrive_50 (by decide) ?_
          exact ih (k + 1) _ (by omega) (by first | exact hR' | (rw [← hR']; rfl)) (by rw [← hF]; show _ = jarF (k + 1) n (jarS k J'); rw [show jarS k J' = _ by first | exact if_pos c15 | exact (if_neg c15).trans (if_pos c24) | exact ((if_neg c15).trans (if_neg c24)).trans (if_neg c38) | exact ((if_neg c15).trans (if_neg c24)).trans (if_pos c38)])
        · refine rx_aload_n hE dX2_arrive_27 (i := 0) rfl rfl ?_
          refine rx_getf hE dX2_arrive_28 fl_X2_49_2 (jp_o hb) rfl ?_
          refine rx_aload_n hE dX2_arrive_31 (i := 0) rfl rfl ?_
          refine rx_getf hE dX2_arrive_32 fl_X2_15_2 (jp_o hb) rfl ?_
          refine rx_iload_n hE dX2_arrive_35 (i := 1) rfl rfl ?_
          refine rx_ialdN hE dX2_arrive_36 (jp_2 hb) (by omega) (by decide) ?_
          refine rx_irem hE dX2_arrive_37 (fun h => c24 (by rw [h]; decide)) ?_
          refine rx_if_ne (tgt := 47) hE dX2_arrive_38 (by decide) (fun c38 => ?_) (fun c38 => ?_)
          · refine rx_iinc_1 hE dX2_arrive_47 (v := 1) (by decide) (by decide) rfl ?_
            rw [nI_1]
            refine rx_goto (tgt := 2) hE dX2_arrive_50 (by decide) ?_
            exact ih (k + 1) _ (by omega) (by first | exact hR' | (rw [← hR']; rfl)) (by rw [← hF]; show _ = jarF (k + 1) n (jarS k J'); rw [show jarS k J' = _ by first | exact if_pos c15 | exact (if_neg c15).trans (if_pos c24) | exact ((if_neg c15).trans (if_neg c24)).trans (if_neg c38) | exact ((if_neg c15).trans (if_neg c24)).trans (if_pos c38)])
          · refine rx_aload_n hE dX2_arrive_41 (i := 0) rfl rfl ?_
            refine rx_iload_n hE dX2_arrive_42 (i := 1) rfl rfl ?_
            refine rx_iconst hE dX2_arrive_43 (v := 1) (by decide) ?_
            refine rx_call0 (rx_callV (av := [.int (nI k), .int 1]) hE dX2_arrive_44 lk_X2_119 (c_X2_addWaiting 1 hb (r := k) (by omega)) (jp_o hb) np_X2_addWaiting rfl rfl (by decide) (Nat.le_of_ble_eq_true rfl) rfl ?_)
            rintro v M' ⟨rfl, rfl⟩
            refine rx_iinc_1 hE dX2_arrive_47 (v := 1) (by decide) (by decide) rfl ?_
            rw [nI_1]
            refine rx_goto (tgt := 2) hE dX2_arrive_50 (by decide) ?_
            exact ih (k + 1) _ (by omega) (by first | exact hR' | (rw [← hR']; rfl)) (by rw [← hF]; show _ = jarF (k + 1) n (jarS k J'); rw [show jarS k J' = _ by first | exact if_pos c15 | exact (if_neg c15).trans (if_pos c24) | exact ((if_neg c15).trans (if_neg c24)).trans (if_neg c38) | exact ((if_neg c15).trans (if_neg c24)).trans (if_pos c38)])
  refine rx_iconst hE dX2_arrive_0 (v := 0) (by decide) ?_
  refine rx_istore_n_1 hE dX2_arrive_1 (by decide) rfl ?_
  exact loop R 0 J (by omega) hR rfl
set_option maxRecDepth 100000 in
set_option maxHeartbeats 4000000 in
theorem c_X2_fullest {M : gM} {a : Nat} {J : gJn} {R : Nat} (hb : jb M a) (hR : J 9 2 = nI R) (hR6 : R ≤ 6) (hR1 : 0 < R) : SX 0 0 0 mX2_fullest [.ref a] (jp M a J) (fun v M' => v = some (.int (nI (jfull (J 0) R))) ∧ M' = jp M a J) := by
  refine SX.intro [some (.ref a), none, none] (by decide +kernel) (Nat.le_of_ble_eq_true rfl) rfl (fun E hE hQ => ?_)
  have loop : ∀ (n k : Nat) (q : Nat), k + n = R → q < k → 0 < k → q = jfull (J 0) k → jfull (J 0) R = jfull (J 0) R → RX E mX2_fullest.2.2.1 0 0 4 [some (.ref a), some (.int (nI q)), some (.int (nI k))] [] (jp M a J) := by
    intro n
    induction n with
    | zero =>
      intro k q hk hqk hk0 hq hF
      refine rx_iload_n hE dX2_fullest_4 (i := 2) rfl rfl ?_
      refine rx_aload_n hE dX2_fullest_5 (i := 0) rfl rfl ?_
      refine rx_getf hE dX2_fullest_6 fl_X2_46_2 (jp_o hb) rfl ?_
      refine rx_icmp_ge (tgt := 35) hE dX2_fullest_9 (by decide) (fun c9 => ?_) (fun c9 => absurd (by rw [hR]; exact nI_le (by omega) (by omega)) c9)
      refine rx_iload_n hE dX2_fullest_35 (i := 1) rfl rfl ?_
      exact rx_iret hE hQ rfl dX2_fullest_36 ⟨by rw [hq, show k = R by omega], rfl⟩
    | succ n ih =>
      intro k q hk hqk hk0 hq hF
      refine rx_iload_n hE dX2_fullest_4 (i := 2) rfl rfl ?_
      refine rx_aload_n hE dX2_fullest_5 (i := 0) rfl rfl ?_
      refine rx_getf hE dX2_fullest_6 fl_X2_46_2 (jp_o hb) rfl ?_
      refine rx_icmp_ge (tgt := 35) hE dX2_fullest_9 (by decide) (fun c9 => absurd (by rw [hR] at c9; exact c9) (nI_ge (by omega) (by omega))) (fun c9 => ?_)
      refine rx_aload_n hE dX2_fullest_12 (i := 0) rfl rfl ?_
      refine rx_getf hE dX2_fullest_13 fl_X2_9_2 (jp_o hb) rfl ?_
      refine rx_iload_n hE dX2_fullest_16 (i := 2) rfl rfl ?_
      refine rx_ialdN hE dX2_fullest_17 (jp_1 hb) (by omega) (by decide) ?_
      refine rx_aload_n hE dX2_fullest_18 (i := 0) rfl rfl ?_
      refine rx_getf hE dX2_fullest_19 fl_X2_9_2 (jp_o hb) rfl ?_
      refine rx_iload_n hE dX2_fullest_22 (i := 1) rfl rfl ?_
      refine rx_ialdN hE dX2_fullest_23 (jp_1 hb) (by omega) (by decide) ?_
      refine rx_icmp_le (tgt := 29) hE dX2_fullest_24 (by decide) (fun c24 => ?_) (fun c24 => ?_)
      · have hq2 : q = jfull (J 0) (k + 1) := by rw [show jfull (J 0) (k + 1) = _ from if_pos (by rw [← hq]; exact c24), hq]
        refine rx_iinc_2 hE dX2_fullest_29 (v := 1) (by decide) (by decide) rfl ?_
        rw [nI_1]
        refine rx_goto (tgt := 4) hE dX2_fullest_32 (by decide) ?_
        exact ih (k + 1) _ (by omega) (by omega) (by omega) hq2 hF
      · have hq2 : k = jfull (J 0) (k + 1) := (if_neg (by rw [← hq]; exact c24)).symm
        refine rx_iload_n hE dX2_fullest_27 (i := 2) rfl rfl ?_
        refine rx_istore_n_1 hE dX2_fullest_28 (by decide) rfl ?_
        refine rx_iinc_2 hE dX2_fullest_29 (v := 1) (by decide) (by decide) rfl ?_
        rw [nI_1]
        refine rx_goto (tgt := 4) hE dX2_fullest_32 (by decide) ?_
        exact ih (k + 1) _ (by omega) (by omega) (by omega) hq2 hF
  refine rx_iconst hE dX2_fullest_0 (v := 0) (by decide) ?_
  refine rx_istore_n_1 hE dX2_fullest_1 (by decide) rfl ?_
  refine rx_iconst hE dX2_fullest_2 (v := 1) (by decide) ?_
  refine rx_istore_n_2 hE dX2_fullest_3 (by decide) rfl ?_
  exact loop (R - 1) 1 0 (by omega) (by omega) (by omega) (jfull_1 _).symm rfl
