/-! ===== the Junction's methods ===== -/
def jmin (x y : Int32) : Int32 := if y < x then y else x
def jmax (x y : Int32) : Int32 := if x < y then y else x
def j_hasRoad (J : gJn) (r : Int32) : Int32 := if r < 0 then 0 else if J 9 2 ≤ r then 0 else 1
def j_hasBeat (J : gJn) (r : Int32) : Int32 := if r < 0 then 0 else if J 9 0 ≤ r then 0 else 1
def j_isTold (J : gJn) : Int32 := if J 9 0 ≤ 0 then 0 else 1
def j_bob (J : gJn) : Int32 := if J 9 0 ≤ 0 then 0 else J 9 3 - J 9 3 / J 9 0 * J 9 0
def jsum (f : Nat → Int32) : Nat → Int32
  | 0 => 0
  | n + 1 => jsum f n + f n
set_option maxRecDepth 100000 in
set_option maxHeartbeats 4000000 in
theorem c_X2_isTold {M : gM} {a : Nat} {J : gJn} (hb : jb M a) : SX 0 0 0 mX2_isTold [.ref a] (jp M a J) (fun v M' => v = some (.int (j_isTold J)) ∧ M' = jp M a J) := by
  refine SX.intro [some (.ref a)] (by decide +kernel) (Nat.le_of_ble_eq_true rfl) rfl (fun E hE hQ => ?_)
  refine rx_aload_n hE dX2_isTold_0 (i := 0) rfl rfl ?_
  refine rx_getf hE dX2_isTold_1 fl_X2_39_2 (jp_o hb) rfl ?_
  refine rx_if_le (tgt := 11) hE dX2_isTold_4 (by decide) (fun c4 => ?_) (fun c4 => ?_)
  · refine rx_iconst hE dX2_isTold_11 (v := 0) (by decide) ?_
    exact rx_tret hE hQ rfl rfl dX2_isTold_12 ⟨by simp [j_isTold, *], rfl⟩
  · refine rx_iconst hE dX2_isTold_7 (v := 1) (by decide) ?_
    refine rx_goto (tgt := 12) hE dX2_isTold_8 (by decide) ?_
    exact rx_tret hE hQ rfl rfl dX2_isTold_12 ⟨by simp [j_isTold, *], rfl⟩
set_option maxRecDepth 100000 in
set_option maxHeartbeats 4000000 in
theorem c_X2_hasRoad {M : gM} {a : Nat} {J : gJn} (r : Int32) (hb : jb M a) : SX 0 0 0 mX2_hasRoad [.ref a, .int r] (jp M a J) (fun v M' => v = some (.int (j_hasRoad J r)) ∧ M' = jp M a J) := by
  refine SX.intro [some (.ref a), some (.int r)] (by decide +kernel) (Nat.le_of_ble_eq_true rfl) rfl (fun E hE hQ => ?_)
  refine rx_iload_n hE dX2_hasRoad_0 (i := 1) rfl rfl ?_
  refine rx_if_lt (tgt := 16) hE dX2_hasRoad_1 (by decide) (fun c1 => ?_) (fun c1 => ?_)
  · refine rx_iconst hE dX2_hasRoad_16 (v := 0) (by decide) ?_
    exact rx_tret hE hQ rfl rfl dX2_hasRoad_17 ⟨by simp [j_hasRoad, *], rfl⟩
  · refine rx_iload_n hE dX2_hasRoad_4 (i := 1) rfl rfl ?_
    refine rx_aload_n hE dX2_hasRoad_5 (i := 0) rfl rfl ?_
    refine rx_getf hE dX2_hasRoad_6 fl_X2_46_2 (jp_o hb) rfl ?_
    refine rx_icmp_ge (tgt := 16) hE dX2_hasRoad_9 (by decide) (fun c9 => ?_) (fun c9 => ?_)
    · refine rx_iconst hE dX2_hasRoad_16 (v := 0) (by decide) ?_
      exact rx_tret hE hQ rfl rfl dX2_hasRoad_17 ⟨by simp [j_hasRoad, *], rfl⟩
    · refine rx_iconst hE dX2_hasRoad_12 (v := 1) (by decide) ?_
      refine rx_goto (tgt := 17) hE dX2_hasRoad_13 (by decide) ?_
      exact rx_tret hE hQ rfl rfl dX2_hasRoad_17 ⟨by simp [j_hasRoad, *], rfl⟩
set_option maxRecDepth 100000 in
set_option maxHeartbeats 4000000 in
theorem c_X2_hasBeat {M : gM} {a : Nat} {J : gJn} (r : Int32) (hb : jb M a) : SX 0 0 0 mX2_hasBeat [.ref a, .int r] (jp M a J) (fun v M' => v = some (.int (j_hasBeat J r)) ∧ M' = jp M a J) := by
  refine SX.intro [some (.ref a), some (.int r)] (by decide +kernel) (Nat.le_of_ble_eq_true rfl) rfl (fun E hE hQ => ?_)
  refine rx_iload_n hE dX2_hasBeat_0 (i := 1) rfl rfl ?_
  refine rx_if_lt (tgt := 16) hE dX2_hasBeat_1 (by decide) (fun c1 => ?_) (fun c1 => ?_)
  · refine rx_iconst hE dX2_hasBeat_16 (v := 0) (by decide) ?_
    exact rx_tret hE hQ rfl rfl dX2_hasBeat_17 ⟨by simp [j_hasBeat, *], rfl⟩
  · refine rx_iload_n hE dX2_hasBeat_4 (i := 1) rfl rfl ?_
    refine rx_aload_n hE dX2_hasBeat_5 (i := 0) rfl rfl ?_
    refine rx_getf hE dX2_hasBeat_6 fl_X2_39_2 (jp_o hb) rfl ?_
    refine rx_icmp_ge (tgt := 16) hE dX2_hasBeat_9 (by decide) (fun c9 => ?_) (fun c9 => ?_)
    · refine rx_iconst hE dX2_hasBeat_16 (v := 0) (by decide) ?_
      exact rx_tret hE hQ rfl rfl dX2_hasBeat_17 ⟨by simp [j_hasBeat, *], rfl⟩
    · refine rx_iconst hE dX2_hasBeat_12 (v := 1) (by decide) ?_
      refine rx_goto (tgt := 17) hE dX2_hasBeat_13 (by decide) ?_
      exact rx_tret hE hQ rfl rfl dX2_hasBeat_17 ⟨by simp [j_hasBeat, *], rfl⟩
set_option maxRecDepth 100000 in
set_option maxHeartbeats 4000000 in
theorem c_X2_beatOfBar {M : gM} {a : Nat} {J : gJn} (hb : jb M a) : SX 0 0 0 mX2_beatOfBar [.ref a] (jp M a J) (fun v M' => v = some (.int (j_bob J)) ∧ M' = jp M a J) := by
  refine SX.intro [some (.ref a)] (by decide +kernel) (Nat.le_of_ble_eq_true rfl) rfl (fun E hE hQ => ?_)
  refine rx_aload_n hE dX2_beatOfBar_0 (i := 0) rfl rfl ?_
  refine rx_getf hE dX2_beatOfBar_1 fl_X2_39_2 (jp_o hb) rfl ?_
  refine rx_if_le (tgt := 19) hE dX2_beatOfBar_4 (by decide) (fun c4 => ?_) (fun c4 => ?_)
  · refine rx_iconst hE dX2_beatOfBar_19 (v := 0) (by decide) ?_
    exact rx_iret hE hQ rfl dX2_beatOfBar_20 ⟨by simp [j_bob, *], rfl⟩
  · refine rx_aload_n hE dX2_beatOfBar_7 (i := 0) rfl rfl ?_
    refine rx_getf hE dX2_beatOfBar_8 fl_X2_49_2 (jp_o hb) rfl ?_
    refine rx_aload_n hE dX2_beatOfBar_11 (i := 0) rfl rfl ?_
    refine rx_getf hE dX2_beatOfBar_12 fl_X2_39_2 (jp_o hb) rfl ?_
    refine rx_irem hE dX2_beatOfBar_15 (fun h => c4 (by rw [h]; decide)) ?_
    refine rx_goto (tgt := 20) hE dX2_beatOfBar_16 (by decide) ?_
    exact rx_iret hE hQ rfl dX2_beatOfBar_20 ⟨by simp [j_bob, *], rfl⟩
set_option maxRecDepth 100000 in
set_option maxHeartbeats 4000000 in
theorem c_X2_sumOf {M : gM} {a : Nat} {J : gJn} {R x : Nat} {f : Nat → Int32} (hb : jb M a) (hR : J 9 2 = nI R) (hR6 : R ≤ 6) (hx : g_at (jp M a J) x (gI 6 f)) : SX 0 0 0 mX2_sumOf [.ref a, .ref x] (jp M a J) (fun v M' => v = some (.int (jsum f R)) ∧ M' = jp M a J) := by
  refine SX.intro [some (.ref a), some (.ref x), none, none] (by decide +kernel) (Nat.le_of_ble_eq_true rfl) rfl (fun E hE hQ => ?_)
  have loop : ∀ (n k : Nat), k + n = R → RX E mX2_sumOf.2.2.1 0 0 4 [some (.ref a), some (.ref x), some (.int (jsum f k)), some (.int (nI k))] [] (jp M a J) := by
    intro n
    induction n with
    | zero =>
      intro k hk
      refine rx_iload_n hE dX2_sumOf_4 (i := 3) rfl rfl ?_
      refine rx_aload_n hE dX2_sumOf_5 (i := 0) rfl rfl ?_
      refine rx_getf hE dX2_sumOf_6 fl_X2_46_2 (jp_o hb) rfl ?_
      refine rx_icmp_ge (tgt := 24) hE dX2_sumOf_9 (by decide) (fun c9 => ?_) (fun c9 => absurd (by rw [hR]; exact nI_le (by omega) (by omega)) c9)
      refine rx_iload_n hE dX2_sumOf_24 (i := 2) rfl rfl ?_
      exact rx_iret hE hQ rfl dX2_sumOf_25 ⟨by rw [show k = R by omega], rfl⟩
    | succ n ih =>
      intro k hk
      refine rx_iload_n hE dX2_sumOf_4 (i := 3) rfl rfl ?_
      refine rx_aload_n hE dX2_sumOf_5 (i := 0) rfl rfl ?_
      refine rx_getf hE dX2_sumOf_6 fl_X2_46_2 (jp_o hb) rfl ?_
      refine rx_icmp_ge (tgt := 24) hE dX2_sumOf_9 (by decide) (fun c9 => absurd (by rw [hR] at c9; exact c9) (nI_ge (by omega) (by omega))) (fun c9 => ?_)
      refine rx_iload_n hE dX2_sumOf_12 (i := 2) rfl rfl ?_
      refine rx_aload_n hE dX2_sumOf_13 (i := 1) rfl rfl ?_
      refine rx_iload_n hE dX2_sumOf_14 (i := 3) rfl rfl ?_
      refine rx_ialdN hE dX2_sumOf_15 hx (by omega) (by decide) ?_
      refine rx_iadd hE dX2_sumOf_16 ?_
      refine rx_istore_n_2 hE dX2_sumOf_17 (by decide) rfl ?_
      refine rx_iinc_3 hE dX2_sumOf_18 (v := 1) (by decide) (by decide) rfl ?_
      rw [nI_1]
      refine rx_goto (tgt := 4) hE dX2_sumOf_21 (by decide) ?_
      exact ih (k + 1) (by omega)
  refine rx_iconst hE dX2_sumOf_0 (v := 0) (by decide) ?_
  refine rx_istore_n_2 hE dX2_sumOf_1 (by decide) rfl ?_
  refine rx_iconst hE dX2_sumOf_2 (v := 0) (by decide) ?_
  refine rx_istore_n_3 hE dX2_sumOf_3 (by decide) rfl ?_
  exact loop R 0 (by omega)
