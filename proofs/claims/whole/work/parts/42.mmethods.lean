/-! ===== what is kept and laid back ===== -/
def kfl (d e : Nat → Int32) (k : Nat) : Nat → Int32 := fun i => if i < k then e i else d i
theorem kfl_0 (d e : Nat → Int32) : kfl d e 0 = d := funext fun i => if_neg (Nat.not_lt_zero i)
theorem kfl_s (d e : Nat → Int32) (k : Nat) : upd (kfl d e k) k (e k) = kfl d e (k + 1) := by
  funext i
  unfold upd kfl
  by_cases h : i = k
  · rw [if_pos h, if_pos (by omega), h]
  · rw [if_neg h]
    by_cases h2 : i < k
    · rw [if_pos h2, if_pos (by omega)]
    · rw [if_neg h2, if_neg (by omega)]
def klay (d e : Nat → Int32) (b k : Nat) : Nat → Int32 := fun q => if b ≤ q ∧ q < b + k then e (q - b) else d q
theorem klay_0 (d e : Nat → Int32) (b : Nat) : klay d e b 0 = d := funext fun q => if_neg (by omega)
theorem klay_s (d e : Nat → Int32) (b k : Nat) : upd (klay d e b k) (b + k) (e k) = klay d e b (k + 1) := by
  funext q
  unfold upd klay
  by_cases h : q = b + k
  · rw [if_pos h, if_pos ⟨by omega, by omega⟩, h, Nat.add_sub_cancel_left]
  · rw [if_neg h]
    by_cases h2 : b ≤ q ∧ q < b + k
    · rw [if_pos h2, if_pos ⟨h2.1, by omega⟩]
    · rw [if_neg h2, if_neg (by omega)]
def krow (J : gJn) (k : Nat) : Int32 := ksaid (fun _ => 0) J (10 + k)
theorem krow_eq (d : Nat → Int32) (J : gJn) {k : Nat} (h : k < 44) : ksaid d J (10 + k) = krow J k := by
  unfold krow ksaid
  rw [if_neg (show ¬ 10 + k = 1 by omega), if_neg (show ¬ 10 + k = 2 by omega), if_neg (show ¬ 10 + k = 3 by omega), if_neg (show ¬ 10 + k = 1 by omega), if_neg (show ¬ 10 + k = 2 by omega), if_neg (show ¬ 10 + k = 3 by omega)]
  by_cases h1 : 10 + k = 10
  · rw [if_pos h1, if_pos h1]
  · rw [if_neg h1, if_neg h1]
    by_cases h2 : 11 ≤ 10 + k ∧ 10 + k < 41
    · rw [if_pos h2, if_pos h2]
    · rw [if_neg h2, if_neg h2]
      by_cases h3 : 41 ≤ 10 + k ∧ 10 + k < 53
      · rw [if_pos h3, if_pos h3]
      · rw [if_neg h3, if_neg h3, if_pos (show 10 + k = 53 by omega), if_pos (show 10 + k = 53 by omega)]
theorem krow_val (J : gJn) {k : Nat} (h : k < 44) : krow J k = if k = 0 then J 9 3 else if k < 31 then J (ktab ((k - 1) % 5)) ((k - 1) / 5) else if k < 43 then J 8 (k - 31) else J 9 4 := by
  unfold krow ksaid
  rw [if_neg (show ¬ 10 + k = 1 by omega), if_neg (show ¬ 10 + k = 2 by omega), if_neg (show ¬ 10 + k = 3 by omega)]
  by_cases h1 : k = 0
  · rw [if_pos h1, if_pos (show 10 + k = 10 by omega)]
  · rw [if_neg h1, if_neg (show ¬ 10 + k = 10 by omega)]
    by_cases h2 : k < 31
    · rw [if_pos h2, if_pos (show 11 ≤ 10 + k ∧ 10 + k < 41 by omega), show 10 + k - 11 = k - 1 by omega]
    · rw [if_neg h2, if_neg (show ¬ (11 ≤ 10 + k ∧ 10 + k < 41) by omega)]
      by_cases h3 : k < 43
      · rw [if_pos h3, if_pos (show 41 ≤ 10 + k ∧ 10 + k < 53 by omega), show 10 + k - 41 = k - 31 by omega]
      · rw [if_neg h3, if_neg (show ¬ (41 ≤ 10 + k ∧ 10 + k < 53) by omega), if_pos (show 10 + k = 53 by omega)]
theorem kput_s {S : gS} {J : gJn} {c : Nat} {v : Nat → Int32} (h10 : c ≠ 10) (h11 : c ≠ 11) (h0 : c ≠ 0) : k_s (kput S J) c v = kput (k_s S c v) J := by
  have e : ∀ j, j ≠ c → (k_s S c v) j = S j := fun j hj => if_neg hj
  funext k
  by_cases hk : k = c
  · subst hk
    unfold kput
    rw [if_neg h10, if_neg h11, if_neg h0]
    show (if k = k then v else _) = (if k = k then v else S k)
    rw [if_pos rfl, if_pos rfl]
  · unfold kput
    rw [e 10 (Ne.symm h10), e 11 (Ne.symm h11), e 0 (Ne.symm h0), e k hk]
    exact if_neg hk
theorem k_ss (S : gS) (c : Nat) (v v' : Nat → Int32) : k_s (k_s S c v) c v' = k_s S c v' := by
  funext k
  unfold k_s
  split <;> rfl
theorem k_s_id (S : gS) (c : Nat) : k_s S c (S c) = S := by
  funext k
  unfold k_s
  split
  · next h => rw [h]
  · rfl
/-- what is laid back: J's state as J0's -/
def jback (J J0 : gJn) : gJn := fun f => if f = 9 then (fun i => if i = 3 ∨ i = 4 then J0 9 i else J 9 i) else if f = 1 ∨ f = 3 ∨ f = 7 then J f else J0 f
theorem jback_tab (J J0 : gJn) (m : Nat) : jback J J0 (ktab m) = J0 (ktab m) := by
  unfold jback
  rcases ktab_lt m with h | h | h | h | h <;> rw [h] <;> rfl
theorem klay_back {S : gS} {J J0 : gJn} {e : Nat → Int32} (he : ∀ i, i < 44 → e i = krow J0 i) : k_s (kput S J) 10 (klay (kput S J 10) e 10 44) = kput S (jback J J0) := by
  refine kput_ext (fun q => ?_) (fun j hj => kput_o hj rfl rfl)
  show ksaid (S 10) (jback J J0) q = (if 10 ≤ q ∧ q < 10 + 44 then e (q - 10) else ksaid (S 10) J q)
  by_cases h : 10 ≤ q ∧ q < 10 + 44
  · rw [if_pos h, he _ (by omega)]
    obtain ⟨k, rfl⟩ : ∃ k, q = 10 + k := ⟨q - 10, by omega⟩
    rw [Nat.add_sub_cancel_left, krow_eq _ _ (by omega), krow_val _ (by omega), krow_val _ (by omega), jback_tab]
    rfl
  · rw [if_neg h]
    unfold ksaid
    rw [jback_tab]
    by_cases h1 : q = 1
    · rw [if_pos h1, if_pos h1]; rfl
    · rw [if_neg h1, if_neg h1]
      by_cases h2 : q = 2
      · rw [if_pos h2, if_pos h2]; rfl
      · rw [if_neg h2, if_neg h2]
        by_cases h3 : q = 3
        · rw [if_pos h3, if_pos h3]; rfl
        · rw [if_neg h3, if_neg h3, if_neg (show ¬ q = 10 by omega), if_neg (show ¬ q = 10 by omega), if_neg (show ¬ (11 ≤ q ∧ q < 41) by omega), if_neg (show ¬ (11 ≤ q ∧ q < 41) by omega), if_neg (show ¬ (41 ≤ q ∧ q < 53) by omega), if_neg (show ¬ (41 ≤ q ∧ q < 53) by omega), if_neg (show ¬ q = 53 by omega), if_neg (show ¬ q = 53 by omega)]
          rfl
theorem jback_one {J J0 : gJn} (h1 : J 1 = J0 1) (h3 : J 3 = J0 3) (h9 : ∀ i, i ≠ 3 → i ≠ 4 → J 9 i = J0 9 i) : jback J J0 = j_s J0 7 (J 7) := by
  funext f
  unfold jback j_s
  by_cases a9 : f = 9
  · subst a9
    rw [if_pos rfl, if_neg (by decide)]
    funext i
    by_cases hi : i = 3 ∨ i = 4
    · rw [if_pos hi]
    · rw [if_neg hi, h9 i (by omega) (by omega)]
  · rw [if_neg a9]
    by_cases a7 : f = 7
    · subst a7
      rw [if_pos (by decide), if_pos rfl]
    · rw [if_neg a7]
      by_cases a1 : f = 1 ∨ f = 3 ∨ f = 7
      · rw [if_pos a1]
        rcases a1 with rfl | rfl | rfl
        · exact h1
        · exact h3
        · exact absurd rfl a7
      · rw [if_neg a1]
def kfull (e : Nat → Int32) (J : gJn) : Prop := ∀ i, i < 44 → e i = krow J i
set_option maxRecDepth 100000 in
set_option maxHeartbeats 4000000 in
theorem c_X11_keeps {M : gM} {S : gS} {L : gLg} {J : gJn} (hM : 408 ≤ M.1) : SX 0 0 0 mX11_keeps [.ref 384] (kp M (kput S J) L) (fun v M' => v = none ∧ M' = kp M (kput (k_s S 13 (kfl (S 13) (krow J) 44)) J) L) := by
  refine SX.intro [some (.ref 384), none] (by decide +kernel) (Nat.le_of_ble_eq_true rfl) rfl (fun E hE hQ => ?_)
  have loop : ∀ (n k : Nat) , k + n = 44 → RX E mX11_keeps.2.2.1 0 0 2 [some (.ref 384), some (.int (nI k))] [] (kp M (kput (k_s S 13 (kfl (S 13) (krow J) k)) J) L) := by
    intro n
    induction n with
    | zero =>
      intro k hk
      refine rx_iload_n hE dX11_keeps_2 (i := 1) rfl rfl ?_
      refine rx_bipush hE dX11_keeps_3 (v := 44) (by decide) ?_
      refine rx_icmp_ge (tgt := 29) hE dX11_keeps_5 (by decide) (fun c5 => ?_) (fun c5 => absurd (show nI 44 ≤ nI k from nI_le (by omega) (by omega)) c5)
      exact rx_vret hE hQ rfl dX11_keeps_29 ⟨rfl, by rw [show k = 44 by omega]⟩
    | succ n ih =>
      intro k hk
      refine rx_iload_n hE dX11_keeps_2 (i := 1) rfl rfl ?_
      refine rx_bipush hE dX11_keeps_3 (v := 44) (by decide) ?_
      refine rx_icmp_ge (tgt := 29) hE dX11_keeps_5 (by decide) (fun c5 => absurd c5 (nI_ge (a := k) (b := 44) (by omega) (by omega))) (fun c5 => ?_)
      refine rx_aload_n hE dX11_keeps_8 (i := 0) rfl rfl ?_
      refine rx_getf hE dX11_keeps_9 fl_X11_58_10 (kp_o hM) rfl ?_
      refine rx_iload_n hE dX11_keeps_12 (i := 1) rfl rfl ?_
      refine rx_aload_n hE dX11_keeps_13 (i := 0) rfl rfl ?_
      refine rx_getf hE dX11_keeps_14 fl_X11_39_10 (kp_o hM) rfl ?_
      refine rx_bipush hE dX11_keeps_17 (v := 10) (by decide) ?_
      refine rx_iload_n hE dX11_keeps_19 (i := 1) rfl rfl ?_
      refine rx_iadd hE dX11_keeps_20 ?_
      refine rx_int _ (nI (10 + k)) (nI_add _ _) ?_
      refine rx_ialdN (i := 10 + k) hE dX11_keeps_21 (kp_10 hM) (by omega) (by decide) ?_
      refine rx_int _ (krow J k) (krow_eq _ J (by omega)) ?_
      refine rx_iastN (i := k) hE dX11_keeps_22 (kp_13 hM) (by omega) (by decide) ?_
      refine rx_mem (M' := kp M (kput (k_s S 13 (kfl (S 13) (krow J) (k + 1))) J) L) (by rw [kw_13, kput_s (by decide) (by decide) (by decide)]; show kp M (kput (k_s (k_s S 13 _) 13 (upd (kfl (S 13) (krow J) k) k _)) J) L = _; rw [k_ss, kfl_s]) ?_
      refine rx_iinc_1 hE dX11_keeps_23 (v := 1) (by decide) (by decide) rfl ?_
      rw [nI_1]
      refine rx_goto (tgt := 2) hE dX11_keeps_26 (by decide) ?_
      exact ih (k + 1) (by omega)
  refine rx_iconst hE dX11_keeps_0 (v := 0) (by decide) ?_
  refine rx_istore_n_1 hE dX11_keeps_1 (by decide) rfl ?_
  refine rx_mem (M' := kp M (kput (k_s S 13 (kfl (S 13) (krow J) 0)) J) L) (by rw [kfl_0, k_s_id]) ?_
  exact loop 44 0 (by omega)
set_option maxRecDepth 100000 in
set_option maxHeartbeats 4000000 in
theorem c_X11_laysBack {M : gM} {S : gS} {L : gLg} {J : gJn} (hM : 408 ≤ M.1) {J0 : gJn} (hK : kfull (S 13) J0) : SX 0 0 0 mX11_laysBack [.ref 384] (kp M (kput S J) L) (fun v M' => v = none ∧ M' = kp M (kput S (jback J J0)) L) := by
  refine SX.intro [some (.ref 384), none] (by decide +kernel) (Nat.le_of_ble_eq_true rfl) rfl (fun E hE hQ => ?_)
  have loop : ∀ (n k : Nat) , k + n = 44 → RX E mX11_laysBack.2.2.1 0 0 2 [some (.ref 384), some (.int (nI k))] [] (kp M (k_s (kput S J) 10 (klay (kput S J 10) (S 13) 10 k)) L) := by
    intro n
    induction n with
    | zero =>
      intro k hk
      refine rx_iload_n hE dX11_laysBack_2 (i := 1) rfl rfl ?_
      refine rx_bipush hE dX11_laysBack_3 (v := 44) (by decide) ?_
      refine rx_icmp_ge (tgt := 29) hE dX11_laysBack_5 (by decide) (fun c5 => ?_) (fun c5 => absurd (show nI 44 ≤ nI k from nI_le (by omega) (by omega)) c5)
      exact rx_vret hE hQ rfl dX11_laysBack_29 ⟨rfl, by rw [show k = 44 by omega, klay_back hK]⟩
    | succ n ih =>
      intro k hk
      refine rx_iload_n hE dX11_laysBack_2 (i := 1) rfl rfl ?_
      refine rx_bipush hE dX11_laysBack_3 (v := 44) (by decide) ?_
      refine rx_icmp_ge (tgt := 29) hE dX11_laysBack_5 (by decide) (fun c5 => absurd c5 (nI_ge (a := k) (b := 44) (by omega) (by omega))) (fun c5 => ?_)
      refine rx_aload_n hE dX11_laysBack_8 (i := 0) rfl rfl ?_
      refine rx_getf hE dX11_laysBack_9 fl_X11_39_10 (kp_o hM) rfl ?_
      refine rx_bipush hE dX11_laysBack_12 (v := 10) (by decide) ?_
      refine rx_iload_n hE dX11_laysBack_14 (i := 1) rfl rfl ?_
      refine rx_iadd hE dX11_laysBack_15 ?_
      refine rx_int _ (nI (10 + k)) (nI_add _ _) ?_
      refine rx_aload_n hE dX11_laysBack_16 (i := 0) rfl rfl ?_
      refine rx_getf hE dX11_laysBack_17 fl_X11_58_10 (kp_o hM) rfl ?_
      refine rx_iload_n hE dX11_laysBack_20 (i := 1) rfl rfl ?_
      refine rx_ialdN (i := k) hE dX11_laysBack_21 (kp_13 hM) (by omega) (by decide) ?_
      refine rx_iastN (i := 10 + k) hE dX11_laysBack_22 (kp_10 hM) (by omega) (by decide) ?_
      refine rx_mem (M' := kp M (k_s (kput S J) 10 (klay (kput S J 10) (S 13) 10 (k + 1))) L) (by rw [kw_10, k_ss]; show kp M (k_s (kput S J) 10 (upd (klay (kput S J 10) (S 13) 10 k) (10 + k) (S 13 k))) L = _; rw [klay_s]) ?_
      refine rx_iinc_1 hE dX11_laysBack_23 (v := 1) (by decide) (by decide) rfl ?_
      rw [nI_1]
      refine rx_goto (tgt := 2) hE dX11_laysBack_26 (by decide) ?_
      exact ih (k + 1) (by omega)
  refine rx_iconst hE dX11_laysBack_0 (v := 0) (by decide) ?_
  refine rx_istore_n_1 hE dX11_laysBack_1 (by decide) rfl ?_
  refine rx_mem (M' := kp M (k_s (kput S J) 10 (klay (kput S J 10) (S 13) 10 0)) L) (by rw [klay_0, k_s_id]) ?_
  exact loop 44 0 (by omega)
set_option maxRecDepth 100000 in
set_option maxHeartbeats 4000000 in
theorem c_X11_passesAll {M : gM} {S : gS} {L : gLg} {J : gJn} {g : Nat → Int32} (hM : 408 ≤ M.1) {N : Nat} {t : gJn → Nat → Int32 → Bool} (h1 : S 10 0 = 1) (hpl : S 0 24 < 0) (hT : kT S t) (hj : jfit J) (hN : jT J + N < 1000000) : SX 7 0 0 mX11_passesAll [.ref 384, .int (nI N)] (kp M (kput S (j_s J 7 g)) L) (fun v M' => v = none ∧ ∃ (S' : gS) (L' : gLg) (g' : Nat → Int32), M' = kp M (kput S' (j_s (jmanyF t N J) 7 g')) L' ∧ kIp S L S' L') := by
  refine SX.intro [some (.ref 384), some (.int (nI N)), none] (by decide +kernel) (Nat.le_of_ble_eq_true rfl) rfl (fun E hE hQ => ?_)
  have loop : ∀ (n k : Nat) (S' : gS) (L' : gLg) (g' : Nat → Int32), k + n = N → kIp S L S' L' → RX E mX11_passesAll.2.2.1 0 0 2 [some (.ref 384), some (.int (nI N)), some (.int (nI k))] [] (kp M (kput S' (j_s (jmanyF t k J) 7 g')) L') := by
    intro n
    induction n with
    | zero =>
      intro k S' L' g' hk hI
      refine rx_iload_n hE dX11_passesAll_2 (i := 2) rfl rfl ?_
      refine rx_iload_n hE dX11_passesAll_3 (i := 1) rfl rfl ?_
      refine rx_icmp_ge (tgt := 18) hE dX11_passesAll_4 (by decide) (fun c4 => ?_) (fun c4 => absurd (show nI N ≤ nI k from nI_le (by omega) (by omega)) c4)
      exact rx_vret hE hQ rfl dX11_passesAll_18 ⟨rfl, S', L', g', by rw [show k = N by omega], hI⟩
    | succ n ih =>
      intro k S' L' g' hk hI
      refine rx_iload_n hE dX11_passesAll_2 (i := 2) rfl rfl ?_
      refine rx_iload_n hE dX11_passesAll_3 (i := 1) rfl rfl ?_
      refine rx_icmp_ge (tgt := 18) hE dX11_passesAll_4 (by decide) (fun c4 => absurd c4 (nI_ge (a := k) (b := N) (by omega) (by omega))) (fun c4 => ?_)
      refine rx_aload_n hE dX11_passesAll_7 (i := 0) rfl rfl ?_
      obtain ⟨tp, rfl, hL⟩ := hI
      refine rx_call0 (rx_callV (av := []) hE dX11_passesAll_8 lk_X11_362 (c_X11_passg hM h1 hpl (kT_eq rfl rfl rfl rfl hT) (hj.many t k (by omega))) (kp_o hM) np_X11_passes rfl rfl (by decide) (Nat.le_of_ble_eq_true rfl) rfl ?_)
      rintro v M' ⟨rfl, S'', L'', g'', rfl, hI', hg'⟩
      refine rx_pop hE dX11_passesAll_11 rfl ?_
      refine rx_iinc_2 hE dX11_passesAll_12 (v := 1) (by decide) (by decide) rfl ?_
      rw [nI_1]
      refine rx_goto (tgt := 2) hE dX11_passesAll_15 (by decide) ?_
      rw [← jmany_s]
      exact ih (k + 1) S'' L'' g'' (by omega) (kIp.trans ⟨tp, rfl, hL⟩ hI')
  refine rx_iconst hE dX11_passesAll_0 (v := 0) (by decide) ?_
  refine rx_istore_n_2 hE dX11_passesAll_1 (by decide) rfl ?_
  exact loop N 0 S L g (by omega) (kIp.refl S L)
