theorem k_ap1 : ∀ p, p < 12 → ∀ q, q < 12 → 0 ≤ nI p - nI q → nI p - nI q = nI (j_ap p q) := by decide +kernel
theorem k_ap2 : ∀ p, p < 12 → ∀ q, q < 12 → ¬ 0 ≤ nI p - nI q → -(nI p - nI q) = nI (j_ap p q) := by decide +kernel
def ksoI (pn : Nat → Nat) (set : Int32) (a : Nat) : Nat → Nat → Int32 → Int32
  | _, 0, acc => acc
  | b, n + 1, acc => ksoI pn set a (b + 1) n (if jbit set a = 1 ∧ jbit set b = 1 then acc + g_sounds (j_ap (pn a) (pn b)) else acc)
def ksoO (pn : Nat → Nat) (set : Int32) (R : Nat) : Nat → Nat → Int32 → Int32
  | _, 0, acc => acc
  | a, n + 1, acc => ksoO pn set R (a + 1) n (ksoI pn set a (a + 1) n acc)
def kso (pn : Nat → Nat) (set : Int32) (R : Nat) : Int32 := ksoO pn set R 0 R 0
theorem k_of1 {set : Int32} {k : Nat} (h : ¬ k_isOf set k = 0) : jbit set k = 1 := by
  unfold k_isOf at h
  split at h
  · assumption
  · exact absurd rfl h
theorem k_of0 {set : Int32} {k : Nat} (h : k_isOf set k = 0) : ¬ jbit set k = 1 := by
  intro q
  unfold k_isOf at h
  rw [if_pos q] at h
  exact absurd h (by decide)
theorem k_min {x m : Int32} : (if x ≤ m then x else m) = jmin m x := by
  unfold jmin
  by_cases h : x < m
  · rw [if_pos h, if_pos (Int32.le_of_lt h)]
  · rw [if_neg h]
    by_cases h2 : x ≤ m
    · rw [if_pos h2]
      exact Int32.le_antisymm h2 (Int32.not_lt.mp h)
    · rw [if_neg h2]
set_option maxRecDepth 100000 in
set_option maxHeartbeats 4000000 in
theorem c_X11_soundOfTwo {M : gM} {p : Nat} (hp : p < 12) : SX 0 0 0 mX11_soundOfTwo [.int (nI p)] (M) (fun v M' => v = some (.int (g_sounds p)) ∧ M' = M) := by
  refine SX.intro [some (.int (nI p))] (by decide +kernel) (Nat.le_of_ble_eq_true rfl) rfl (fun E hE hQ => ?_)
  rcases (show p = 0 ∨ p = 1 ∨ p = 2 ∨ p = 3 ∨ p = 4 ∨ p = 5 ∨ p = 6 ∨ p = 7 ∨ p = 8 ∨ p = 9 ∨ p = 10 ∨ p = 11 by omega) with rfl | rfl | rfl | rfl | rfl | rfl | rfl | rfl | rfl | rfl | rfl | rfl
  · refine rx_iload_n hE dX11_soundOfTwo_0 (i := 0) rfl rfl ?_
    refine rx_tableIn (off := 63) (tgt := 64) hE dX11_soundOfTwo_1 (by decide) (by decide) rfl (by decide) ?_
    refine rx_iconst hE dX11_soundOfTwo_64 (v := 0) (by decide) ?_
    exact rx_iret hE hQ rfl dX11_soundOfTwo_65 ⟨rfl, rfl⟩
  · refine rx_iload_n hE dX11_soundOfTwo_0 (i := 0) rfl rfl ?_
    refine rx_tableIn (off := 65) (tgt := 66) hE dX11_soundOfTwo_1 (by decide) (by decide) rfl (by decide) ?_
    refine rx_bipush hE dX11_soundOfTwo_66 (v := -3) (by decide) ?_
    exact rx_iret hE hQ rfl dX11_soundOfTwo_68 ⟨rfl, rfl⟩
  · refine rx_iload_n hE dX11_soundOfTwo_0 (i := 0) rfl rfl ?_
    refine rx_tableIn (off := 68) (tgt := 69) hE dX11_soundOfTwo_1 (by decide) (by decide) rfl (by decide) ?_
    refine rx_iconst hE dX11_soundOfTwo_69 (v := -1) (by decide) ?_
    exact rx_iret hE hQ rfl dX11_soundOfTwo_70 ⟨rfl, rfl⟩
  · refine rx_iload_n hE dX11_soundOfTwo_0 (i := 0) rfl rfl ?_
    refine rx_tableIn (off := 70) (tgt := 71) hE dX11_soundOfTwo_1 (by decide) (by decide) rfl (by decide) ?_
    refine rx_iconst hE dX11_soundOfTwo_71 (v := 2) (by decide) ?_
    exact rx_iret hE hQ rfl dX11_soundOfTwo_72 ⟨rfl, rfl⟩
  · refine rx_iload_n hE dX11_soundOfTwo_0 (i := 0) rfl rfl ?_
    refine rx_tableIn (off := 72) (tgt := 73) hE dX11_soundOfTwo_1 (by decide) (by decide) rfl (by decide) ?_
    refine rx_iconst hE dX11_soundOfTwo_73 (v := 3) (by decide) ?_
    exact rx_iret hE hQ rfl dX11_soundOfTwo_74 ⟨rfl, rfl⟩
  · refine rx_iload_n hE dX11_soundOfTwo_0 (i := 0) rfl rfl ?_
    refine rx_tableIn (off := 70) (tgt := 71) hE dX11_soundOfTwo_1 (by decide) (by decide) rfl (by decide) ?_
    refine rx_iconst hE dX11_soundOfTwo_71 (v := 2) (by decide) ?_
    exact rx_iret hE hQ rfl dX11_soundOfTwo_72 ⟨rfl, rfl⟩
  · refine rx_iload_n hE dX11_soundOfTwo_0 (i := 0) rfl rfl ?_
    refine rx_tableIn (off := 74) (tgt := 75) hE dX11_soundOfTwo_1 (by decide) (by decide) rfl (by decide) ?_
    refine rx_bipush hE dX11_soundOfTwo_75 (v := -2) (by decide) ?_
    exact rx_iret hE hQ rfl dX11_soundOfTwo_77 ⟨rfl, rfl⟩
  · refine rx_iload_n hE dX11_soundOfTwo_0 (i := 0) rfl rfl ?_
    refine rx_tableIn (off := 72) (tgt := 73) hE dX11_soundOfTwo_1 (by decide) (by decide) rfl (by decide) ?_
    refine rx_iconst hE dX11_soundOfTwo_73 (v := 3) (by decide) ?_
    exact rx_iret hE hQ rfl dX11_soundOfTwo_74 ⟨rfl, rfl⟩
  · refine rx_iload_n hE dX11_soundOfTwo_0 (i := 0) rfl rfl ?_
    refine rx_tableIn (off := 77) (tgt := 78) hE dX11_soundOfTwo_1 (by decide) (by decide) rfl (by decide) ?_
    refine rx_iconst hE dX11_soundOfTwo_78 (v := 1) (by decide) ?_
    exact rx_iret hE hQ rfl dX11_soundOfTwo_79 ⟨rfl, rfl⟩
  · refine rx_iload_n hE dX11_soundOfTwo_0 (i := 0) rfl rfl ?_
    refine rx_tableIn (off := 77) (tgt := 78) hE dX11_soundOfTwo_1 (by decide) (by decide) rfl (by decide) ?_
    refine rx_iconst hE dX11_soundOfTwo_78 (v := 1) (by decide) ?_
    exact rx_iret hE hQ rfl dX11_soundOfTwo_79 ⟨rfl, rfl⟩
  · refine rx_iload_n hE dX11_soundOfTwo_0 (i := 0) rfl rfl ?_
    refine rx_tableIn (off := 68) (tgt := 69) hE dX11_soundOfTwo_1 (by decide) (by decide) rfl (by decide) ?_
    refine rx_iconst hE dX11_soundOfTwo_69 (v := -1) (by decide) ?_
    exact rx_iret hE hQ rfl dX11_soundOfTwo_70 ⟨rfl, rfl⟩
  · refine rx_iload_n hE dX11_soundOfTwo_0 (i := 0) rfl rfl ?_
    refine rx_tableIn (off := 65) (tgt := 66) hE dX11_soundOfTwo_1 (by decide) (by decide) rfl (by decide) ?_
    refine rx_bipush hE dX11_soundOfTwo_66 (v := -3) (by decide) ?_
    exact rx_iret hE hQ rfl dX11_soundOfTwo_68 ⟨rfl, rfl⟩

set_option maxRecDepth 100000 in
set_option maxHeartbeats 4000000 in
theorem c_X11_soundOf {M : gM} {S : gS} {L : gLg} {J : gJn} (hM : 408 ≤ M.1) {R : Nat} {pn : Nat → Nat} (set : Int32) (hR : J 9 2 = nI R) (hR6 : R ≤ 6) (hp : jpt J pn) : SX 1 0 0 mX11_soundOf [.ref 384, .int set] (kp M (kput S J) L) (fun v M' => v = some (.int (kso pn set R)) ∧ M' = kp M (kput S J) L) := by
  refine SX.intro [some (.ref 384), some (.int set), none, none, none, none] (by decide +kernel) (Nat.le_of_ble_eq_true rfl) rfl (fun E hE hQ => ?_)
  have loop : ∀ (n a : Nat) (acc : Int32) (l4 l5 : Option Value), a + n = R → ksoO pn set R a n acc = kso pn set R → RX E mX11_soundOf.2.2.1 0 0 4 [some (.ref 384), some (.int set), some (.int acc), some (.int (nI a)), l4, l5] [] (kp M (kput S J) L) := by
    intro n
    induction n with
    | zero =>
      intro a acc l4 l5 hk hF
      refine rx_iload_n hE dX11_soundOf_4 (i := 3) rfl rfl ?_
      refine rx_aload_n hE dX11_soundOf_5 (i := 0) rfl rfl ?_
      refine rx_getf hE dX11_soundOf_6 fl_X11_39_10 (kp_o hM) rfl ?_
      refine rx_iconst hE dX11_soundOf_9 (v := 3) (by decide) ?_
      refine rx_ialdN (i := 3) hE dX11_soundOf_10 (kp_10 hM) (by omega) (by decide) ?_
      refine rx_int _ _ kr_c2 ?_
      refine rx_icmp_ge (tgt := 95) hE dX11_soundOf_11 (by decide) (fun c11 => ?_) (fun c11 => absurd (by rw [hR]; exact nI_le (by omega) (by omega)) c11)
      refine rx_iload_n hE dX11_soundOf_95 (i := 2) rfl rfl ?_
      exact rx_iret hE hQ rfl dX11_soundOf_96 ⟨by rw [← hF]; rfl, rfl⟩
    | succ n ih =>
      intro a acc l4 l5 hk hF
      have inner : ∀ (m k : Nat) (ac : Int32) (l5 : Option Value), k + m = R → a < k → ksoI pn set a k m ac = ksoI pn set a (a + 1) n acc → RX E mX11_soundOf.2.2.1 0 0 19 [some (.ref 384), some (.int set), some (.int ac), some (.int (nI a)), some (.int (nI k)), l5] [] (kp M (kput S J) L) := by
        intro m
        induction m with
        | zero =>
          intro k ac l5 hk hak hG
          refine rx_iload hE dX11_soundOf_19 rfl ?_
          refine rx_aload_n hE dX11_soundOf_21 (i := 0) rfl rfl ?_
          refine rx_getf hE dX11_soundOf_22 fl_X11_39_10 (kp_o hM) rfl ?_
          refine rx_iconst hE dX11_soundOf_25 (v := 3) (by decide) ?_
          refine rx_ialdN (i := 3) hE dX11_soundOf_26 (kp_10 hM) (by omega) (by decide) ?_
          refine rx_int _ _ kr_c2 ?_
          refine rx_icmp_ge (tgt := 89) hE dX11_soundOf_27 (by decide) (fun c27 => ?_) (fun c27 => absurd (by rw [hR]; exact nI_le (by omega) (by omega)) c27)
          refine rx_iinc_3 hE dX11_soundOf_89 (v := 1) (by decide) (by decide) rfl ?_
          rw [nI_1]
          refine rx_goto (tgt := 4) hE dX11_soundOf_92 (by decide) ?_
          exact ih (a + 1) _ _ _ (by omega) (by rw [← hF]; show _ = ksoO pn set R (a + 1) n (ksoI pn set a (a + 1) n acc); rw [← hG]; rfl)
        | succ m ihm =>
          intro k ac l5 hk hak hG
          refine rx_iload hE dX11_soundOf_19 rfl ?_
          refine rx_aload_n hE dX11_soundOf_21 (i := 0) rfl rfl ?_
          refine rx_getf hE dX11_soundOf_22 fl_X11_39_10 (kp_o hM) rfl ?_
          refine rx_iconst hE dX11_soundOf_25 (v := 3) (by decide) ?_
          refine rx_ialdN (i := 3) hE dX11_soundOf_26 (kp_10 hM) (by omega) (by decide) ?_
          refine rx_int _ _ kr_c2 ?_
          refine rx_icmp_ge (tgt := 89) hE dX11_soundOf_27 (by decide) (fun c27 => absurd (by rw [hR] at c27; exact c27) (nI_ge (by omega) (by omega))) (fun c27 => ?_)
          refine rx_iload_n hE dX11_soundOf_30 (i := 1) rfl rfl ?_
          refine rx_iload_n hE dX11_soundOf_31 (i := 3) rfl rfl ?_
          refine rx_call0 (rx_callS (av := [.int _, .int (nI (a))]) hE dX11_soundOf_32 lk_X11_297 (c_X11_isOf _) np_X11_isOf rfl rfl (by decide) (Nat.le_of_ble_eq_true rfl) rfl ?_)
          rintro v M' ⟨rfl, rfl⟩
          refine rx_if_eq (tgt := 83) hE dX11_soundOf_35 (by decide) (fun c35 => ?_) (fun c35 => ?_)
          · have hc : ¬ (jbit set a = 1 ∧ jbit set k = 1) := fun q => k_of0 c35 q.1
            refine rx_iinc_4 hE dX11_soundOf_83 (v := 1) (by decide) (by decide) rfl ?_
            rw [nI_1]
            refine rx_goto (tgt := 19) hE dX11_soundOf_86 (by decide) ?_
            exact ihm (k + 1) _ _ (by omega) (by omega) (by rw [← hG]; show _ = ksoI pn set a (k + 1) m (if _ then _ else _); first | rw [if_pos hc] | rw [if_neg hc])
          · refine rx_iload_n hE dX11_soundOf_38 (i := 1) rfl rfl ?_
            refine rx_iload hE dX11_soundOf_39 rfl ?_
            refine rx_call0 (rx_callS (av := [.int _, .int (nI (k))]) hE dX11_soundOf_41 lk_X11_297 (c_X11_isOf _) np_X11_isOf rfl rfl (by decide) (Nat.le_of_ble_eq_true rfl) rfl ?_)
            rintro v M' ⟨rfl, rfl⟩
            refine rx_if_ne (tgt := 50) hE dX11_soundOf_44 (by decide) (fun c44 => ?_) (fun c44 => ?_)
            · have hc : jbit set a = 1 ∧ jbit set k = 1 := ⟨k_of1 c35, k_of1 c44⟩
              refine rx_aload_n hE dX11_soundOf_50 (i := 0) rfl rfl ?_
              refine rx_iload_n hE dX11_soundOf_51 (i := 3) rfl rfl ?_
              refine rx_call0 (rx_callV (av := [.int (nI a)]) hE dX11_soundOf_52 lk_X11_300 (c_X11_partOf hM (r := a) (by omega)) (kp_o hM) np_X11_partOf rfl rfl (by decide) (Nat.le_of_ble_eq_true rfl) rfl ?_)
              rintro v M' ⟨rfl, rfl⟩
              refine rx_aload_n hE dX11_soundOf_55 (i := 0) rfl rfl ?_
              refine rx_iload hE dX11_soundOf_56 rfl ?_
              refine rx_call0 (rx_callV (av := [.int (nI k)]) hE dX11_soundOf_58 lk_X11_300 (c_X11_partOf hM (r := k) (by omega)) (kp_o hM) np_X11_partOf rfl rfl (by decide) (Nat.le_of_ble_eq_true rfl) rfl ?_)
              rintro v M' ⟨rfl, rfl⟩
              refine rx_isub hE dX11_soundOf_61 ?_
              refine rx_istore_5 hE dX11_soundOf_62 (by decide) rfl ?_
              refine rx_iload_n hE dX11_soundOf_64 (i := 2) rfl rfl ?_
              refine rx_iload hE dX11_soundOf_65 rfl ?_
              refine rx_if_ge (tgt := 76) hE dX11_soundOf_67 (by decide) (fun c67 => ?_) (fun c67 => ?_)
              · have e67 := k_ap1 _ (hp a (by omega)).2 _ (hp k (by omega)).2 (by rw [← (hp a (by omega)).1, ← (hp k (by omega)).1]; exact c67)
                refine rx_iload hE dX11_soundOf_76 rfl ?_
                refine rx_int _ (nI (j_ap (pn a) (pn k))) (by rw [(hp a (by omega)).1, (hp k (by omega)).1]; exact e67) ?_
                refine rx_call0 (rx_callS (av := [.int (nI (j_ap (pn a) (pn k)))]) hE dX11_soundOf_78 lk_X11_303 (c_X11_soundOfTwo (j_ap_tab _ (hp a (by omega)).2 _ (hp k (by omega)).2).2) np_X11_soundOfTwo rfl rfl (by decide) (Nat.le_of_ble_eq_true rfl) rfl ?_)
                rintro v M' ⟨rfl, rfl⟩
                refine rx_iadd hE dX11_soundOf_81 ?_
                refine rx_istore_n_2 hE dX11_soundOf_82 (by decide) rfl ?_
                refine rx_iinc_4 hE dX11_soundOf_83 (v := 1) (by decide) (by decide) rfl ?_
                rw [nI_1]
                refine rx_goto (tgt := 19) hE dX11_soundOf_86 (by decide) ?_
                exact ihm (k + 1) _ _ (by omega) (by omega) (by rw [← hG]; show _ = ksoI pn set a (k + 1) m (if _ then _ else _); first | rw [if_pos hc] | rw [if_neg hc])
              · have e67 := k_ap2 _ (hp a (by omega)).2 _ (hp k (by omega)).2 (by rw [← (hp a (by omega)).1, ← (hp k (by omega)).1]; exact c67)
                refine rx_iload hE dX11_soundOf_70 rfl ?_
                refine rx_ineg hE dX11_soundOf_72 ?_
                refine rx_goto (tgt := 78) hE dX11_soundOf_73 (by decide) ?_
                refine rx_int _ (nI (j_ap (pn a) (pn k))) (by rw [(hp a (by omega)).1, (hp k (by omega)).1]; exact e67) ?_
                refine rx_call0 (rx_callS (av := [.int (nI (j_ap (pn a) (pn k)))]) hE dX11_soundOf_78 lk_X11_303 (c_X11_soundOfTwo (j_ap_tab _ (hp a (by omega)).2 _ (hp k (by omega)).2).2) np_X11_soundOfTwo rfl rfl (by decide) (Nat.le_of_ble_eq_true rfl) rfl ?_)
                rintro v M' ⟨rfl, rfl⟩
                refine rx_iadd hE dX11_soundOf_81 ?_
                refine rx_istore_n_2 hE dX11_soundOf_82 (by decide) rfl ?_
                refine rx_iinc_4 hE dX11_soundOf_83 (v := 1) (by decide) (by decide) rfl ?_
                rw [nI_1]
                refine rx_goto (tgt := 19) hE dX11_soundOf_86 (by decide) ?_
                exact ihm (k + 1) _ _ (by omega) (by omega) (by rw [← hG]; show _ = ksoI pn set a (k + 1) m (if _ then _ else _); first | rw [if_pos hc] | rw [if_neg hc])
            · have hc : ¬ (jbit set a = 1 ∧ jbit set k = 1) := fun q => k_of0 c44 q.2
              refine rx_goto (tgt := 83) hE dX11_soundOf_47 (by decide) ?_
              refine rx_iinc_4 hE dX11_soundOf_83 (v := 1) (by decide) (by decide) rfl ?_
              rw [nI_1]
              refine rx_goto (tgt := 19) hE dX11_soundOf_86 (by decide) ?_
              exact ihm (k + 1) _ _ (by omega) (by omega) (by rw [← hG]; show _ = ksoI pn set a (k + 1) m (if _ then _ else _); first | rw [if_pos hc] | rw [if_neg hc])
      refine rx_iload_n hE dX11_soundOf_4 (i := 3) rfl rfl ?_
      refine rx_aload_n hE dX11_soundOf_5 (i := 0) rfl rfl ?_
      refine rx_getf hE dX11_soundOf_6 fl_X11_39_10 (kp_o hM) rfl ?_
      refine rx_iconst hE dX11_soundOf_9 (v := 3) (by decide) ?_
      refine rx_ialdN (i := 3) hE dX11_soundOf_10 (kp_10 hM) (by omega) (by decide) ?_
      refine rx_int _ _ kr_c2 ?_
      refine rx_icmp_ge (tgt := 95) hE dX11_soundOf_11 (by decide) (fun c11 => absurd (by rw [hR] at c11; exact c11) (nI_ge (by omega) (by omega))) (fun c11 => ?_)
      refine rx_iload_n hE dX11_soundOf_14 (i := 3) rfl rfl ?_
      refine rx_iconst hE dX11_soundOf_15 (v := 1) (by decide) ?_
      refine rx_iadd hE dX11_soundOf_16 ?_
      refine rx_int _ (nI (a + 1)) (nI_add _ _) ?_
      refine rx_istore_4 hE dX11_soundOf_17 (by decide) rfl ?_
      have hG0 : ksoI pn set a (a + 1) n acc = ksoI pn set a (a + 1) n acc := rfl
      exact inner n (a + 1) acc _ (by omega) (by omega) rfl
  refine rx_iconst hE dX11_soundOf_0 (v := 0) (by decide) ?_
  refine rx_istore_n_2 hE dX11_soundOf_1 (by decide) rfl ?_
  refine rx_iconst hE dX11_soundOf_2 (v := 0) (by decide) ?_
  refine rx_istore_n_3 hE dX11_soundOf_3 (by decide) rfl ?_
  exact loop R 0 0 none none (by omega) rfl
set_option maxRecDepth 100000 in
set_option maxHeartbeats 4000000 in
theorem c_X11_isPeace {M : gM} {S : gS} {L : gLg} {J : gJn} (hM : 408 ≤ M.1) {R : Nat} (set : Int32) (hR : J 9 2 = nI R) (hR6 : R ≤ 6) : SX 1 0 0 mX11_isPeace [.ref 384, .int set] (kp M (kput S J) L) (fun v M' => v = some (.int (jpcF J set 0 R)) ∧ M' = kp M (kput S J) L) := by
  refine SX.intro [some (.ref 384), some (.int set), none] (by decide +kernel) (Nat.le_of_ble_eq_true rfl) rfl (fun E hE hQ => ?_)
  have loop : ∀ (n k : Nat) , k + n = R → jpcF J set k n = jpcF J set 0 R → RX E mX11_isPeace.2.2.1 0 0 2 [some (.ref 384), some (.int set), some (.int (nI k))] [] (kp M (kput S J) L) := by
    intro n
    induction n with
    | zero =>
      intro k hk hF
      refine rx_iload_n hE dX11_isPeace_2 (i := 2) rfl rfl ?_
      refine rx_aload_n hE dX11_isPeace_3 (i := 0) rfl rfl ?_
      refine rx_getf hE dX11_isPeace_4 fl_X11_39_10 (kp_o hM) rfl ?_
      refine rx_iconst hE dX11_isPeace_7 (v := 3) (by decide) ?_
      refine rx_ialdN (i := 3) hE dX11_isPeace_8 (kp_10 hM) (by omega) (by decide) ?_
      refine rx_int _ _ kr_c2 ?_
      refine rx_icmp_ge (tgt := 42) hE dX11_isPeace_9 (by decide) (fun c9 => ?_) (fun c9 => absurd (by rw [hR]; exact nI_le (by omega) (by omega)) c9)
      refine rx_iconst hE dX11_isPeace_42 (v := 1) (by decide) ?_
      exact rx_tret hE hQ rfl rfl dX11_isPeace_43 ⟨by rw [← hF]; rfl, rfl⟩
    | succ n ih =>
      intro k hk hF
      refine rx_iload_n hE dX11_isPeace_2 (i := 2) rfl rfl ?_
      refine rx_aload_n hE dX11_isPeace_3 (i := 0) rfl rfl ?_
      refine rx_getf hE dX11_isPeace_4 fl_X11_39_10 (kp_o hM) rfl ?_
      refine rx_iconst hE dX11_isPeace_7 (v := 3) (by decide) ?_
      refine rx_ialdN (i := 3) hE dX11_isPeace_8 (kp_10 hM) (by omega) (by decide) ?_
      refine rx_int _ _ kr_c2 ?_
      refine rx_icmp_ge (tgt := 42) hE dX11_isPeace_9 (by decide) (fun c9 => absurd (by rw [hR] at c9; exact c9) (nI_ge (by omega) (by omega))) (fun c9 => ?_)
      refine rx_iload_n hE dX11_isPeace_12 (i := 1) rfl rfl ?_
      refine rx_iload_n hE dX11_isPeace_13 (i := 2) rfl rfl ?_
      refine rx_call0 (rx_callS (av := [.int _, .int (nI (k))]) hE dX11_isPeace_14 lk_X11_297 (c_X11_isOf _) np_X11_isOf rfl rfl (by decide) (Nat.le_of_ble_eq_true rfl) rfl ?_)
      rintro v M' ⟨rfl, rfl⟩
      refine rx_if_eq (tgt := 36) hE dX11_isPeace_17 (by decide) (fun c17 => ?_) (fun c17 => ?_)
      · have hc : ¬ (jbit set k = 1 ∧ ¬ J 3 k &&& set = 0) := fun q => k_of0 c17 q.1
        refine rx_iinc_2 hE dX11_isPeace_36 (v := 1) (by decide) (by decide) rfl ?_
        rw [nI_1]
        refine rx_goto (tgt := 2) hE dX11_isPeace_39 (by decide) ?_
        exact ih (k + 1) (by omega) (by rw [← hF]; show _ = (if _ then _ else _); rw [if_neg hc])
      · refine rx_aload_n hE dX11_isPeace_20 (i := 0) rfl rfl ?_
        refine rx_getf hE dX11_isPeace_21 fl_X11_39_10 (kp_o hM) rfl ?_
        refine rx_bipush hE dX11_isPeace_24 (v := 72) (by decide) ?_
        refine rx_iload_n hE dX11_isPeace_26 (i := 2) rfl rfl ?_
        refine rx_iadd hE dX11_isPeace_27 ?_
        refine rx_int _ (nI (72 + k)) (nI_add _ _) ?_
        refine rx_ialdN (i := 72 + k) hE dX11_isPeace_28 (kp_10 hM) (by omega) (by decide) ?_
        refine rx_int _ _ (kr_3 (by omega)) ?_
        refine rx_iload_n hE dX11_isPeace_29 (i := 1) rfl rfl ?_
        refine rx_iand hE dX11_isPeace_30 ?_
        refine rx_if_eq (tgt := 36) hE dX11_isPeace_31 (by decide) (fun c31 => ?_) (fun c31 => ?_)
        · have hc : ¬ (jbit set k = 1 ∧ ¬ J 3 k &&& set = 0) := fun q => q.2 c31
          refine rx_iinc_2 hE dX11_isPeace_36 (v := 1) (by decide) (by decide) rfl ?_
          rw [nI_1]
          refine rx_goto (tgt := 2) hE dX11_isPeace_39 (by decide) ?_
          exact ih (k + 1) (by omega) (by rw [← hF]; show _ = (if _ then _ else _); rw [if_neg hc])
        · have hc : jbit set k = 1 ∧ ¬ J 3 k &&& set = 0 := ⟨k_of1 c17, c31⟩
          refine rx_iconst hE dX11_isPeace_34 (v := 0) (by decide) ?_
          exact rx_tret hE hQ rfl rfl dX11_isPeace_35 ⟨by rw [← hF]; show _ = some (Value.int (if _ then _ else _)); rw [if_pos hc], rfl⟩
  refine rx_iconst hE dX11_isPeace_0 (v := 0) (by decide) ?_
  refine rx_istore_n_2 hE dX11_isPeace_1 (by decide) rfl ?_
  exact loop R 0 (by omega) rfl
set_option maxRecDepth 100000 in
set_option maxHeartbeats 4000000 in
theorem c_X11_comes {M : gM} {S : gS} {L : gLg} {J : gJn} (hM : 408 ≤ M.1) {r : Nat} (m : Int32) (hr : r < 6) : SX 1 0 0 mX11_comes [.ref 384, .int (nI r), .int m] (kp M (kput S J) L) (fun v M' => v = none ∧ M' = kp M (kput S (j_addw J r m)) L) := by
  refine SX.intro [some (.ref 384), some (.int (nI r)), some (.int m), none] (by decide +kernel) (Nat.le_of_ble_eq_true rfl) rfl (fun E hE hQ => ?_)
  refine rx_aload_n hE dX11_comes_0 (i := 0) rfl rfl ?_
  refine rx_iload_n hE dX11_comes_1 (i := 1) rfl rfl ?_
  refine rx_call0 (rx_callV (av := [.int (nI (r))]) hE dX11_comes_2 lk_X11_312 (c_X11_waitOn hM (r := r) (by omega)) (kp_o hM) np_X11_waitOn rfl rfl (by decide) (Nat.le_of_ble_eq_true rfl) rfl ?_)
  rintro v M' ⟨rfl, rfl⟩
  refine rx_iload_n hE dX11_comes_5 (i := 2) rfl rfl ?_
  refine rx_iadd hE dX11_comes_6 ?_
  refine rx_istore_n_3 hE dX11_comes_7 (by decide) rfl ?_
  refine rx_aload_n hE dX11_comes_8 (i := 0) rfl rfl ?_
  refine rx_getf hE dX11_comes_9 fl_X11_39_10 (kp_o hM) rfl ?_
  refine rx_bipush hE dX11_comes_12 (v := 11) (by decide) ?_
  refine rx_iconst hE dX11_comes_14 (v := 5) (by decide) ?_
  refine rx_iload_n hE dX11_comes_15 (i := 1) rfl rfl ?_
  refine rx_imul hE dX11_comes_16 ?_
  refine rx_int _ (nI (5 * r)) (pk_mul _ _) ?_
  refine rx_iadd hE dX11_comes_17 ?_
  refine rx_int _ (nI (11 + 5 * r)) (nI_add _ _) ?_
  refine rx_iload_n hE dX11_comes_18 (i := 3) rfl rfl ?_
  refine rx_sipush hE dX11_comes_19 (v := 999) (by decide) ?_
  refine rx_icmp_le (tgt := 31) hE dX11_comes_22 (by decide) (fun c22 => ?_) (fun c22 => ?_)
  · refine rx_iload_n hE dX11_comes_31 (i := 3) rfl rfl ?_
    refine rx_int _ (jmin 999 (J 0 r + m)) (by rw [← k_min]; first | rw [if_pos c22] | rw [if_neg c22]) ?_
    refine rx_iastN (i := 11 + 5 * r) hE dX11_comes_32 (kp_10 hM) (by omega) (by decide) ?_
    refine rx_mem (kx_0 (by omega)) ?_
    exact rx_vret hE hQ rfl dX11_comes_33 ⟨rfl, rfl⟩
  · refine rx_sipush hE dX11_comes_25 (v := 999) (by decide) ?_
    refine rx_goto (tgt := 32) hE dX11_comes_28 (by decide) ?_
    refine rx_int _ (jmin 999 (J 0 r + m)) (by rw [← k_min]; first | rw [if_pos c22] | rw [if_neg c22]) ?_
    refine rx_iastN (i := 11 + 5 * r) hE dX11_comes_32 (kp_10 hM) (by omega) (by decide) ?_
    refine rx_mem (kx_0 (by omega)) ?_
    exact rx_vret hE hQ rfl dX11_comes_33 ⟨rfl, rfl⟩
set_option maxRecDepth 100000 in
set_option maxHeartbeats 4000000 in
theorem c_X11_goes {M : gM} {S : gS} {L : gLg} {J : gJn} (hM : 408 ≤ M.1) {r : Nat} (hr : r < 6) : SX 1 0 0 mX11_goes [.ref 384, .int (nI r)] (kp M (kput S J) L) (fun v M' => v = some (.int (j_many J r)) ∧ M' = kp M (kput S (j_leave J r)) L) := by
  refine SX.intro [some (.ref 384), some (.int (nI r)), none] (by decide +kernel) (Nat.le_of_ble_eq_true rfl) rfl (fun E hE hQ => ?_)
  refine rx_aload_n hE dX11_goes_0 (i := 0) rfl rfl ?_
  refine rx_iload_n hE dX11_goes_1 (i := 1) rfl rfl ?_
  refine rx_call0 (rx_callV (av := [.int (nI (r))]) hE dX11_goes_2 lk_X11_312 (c_X11_waitOn hM (r := r) (by omega)) (kp_o hM) np_X11_waitOn rfl rfl (by decide) (Nat.le_of_ble_eq_true rfl) rfl ?_)
  rintro v M' ⟨rfl, rfl⟩
  refine rx_aload_n hE dX11_goes_5 (i := 0) rfl rfl ?_
  refine rx_getf hE dX11_goes_6 fl_X11_39_10 (kp_o hM) rfl ?_
  refine rx_iconst hE dX11_goes_9 (v := 2) (by decide) ?_
  refine rx_ialdN (i := 2) hE dX11_goes_10 (kp_10 hM) (by omega) (by decide) ?_
  refine rx_int _ _ kr_c1 ?_
  refine rx_icmp_ge (tgt := 22) hE dX11_goes_11 (by decide) (fun c11 => ?_) (fun c11 => ?_)
  · refine rx_aload_n hE dX11_goes_22 (i := 0) rfl rfl ?_
    refine rx_getf hE dX11_goes_23 fl_X11_39_10 (kp_o hM) rfl ?_
    refine rx_iconst hE dX11_goes_26 (v := 2) (by decide) ?_
    refine rx_ialdN (i := 2) hE dX11_goes_27 (kp_10 hM) (by omega) (by decide) ?_
    refine rx_int _ _ kr_c1 ?_
    refine rx_int _ (j_many J r) (by unfold j_many jmin; first | rw [if_neg (Int32.not_lt.mpr c11)] | rw [if_pos (Int32.not_le.mp c11)]) ?_
    refine rx_istore_n_2 hE dX11_goes_28 (by decide) rfl ?_
    refine rx_aload_n hE dX11_goes_29 (i := 0) rfl rfl ?_
    refine rx_getf hE dX11_goes_30 fl_X11_39_10 (kp_o hM) rfl ?_
    refine rx_bipush hE dX11_goes_33 (v := 11) (by decide) ?_
    refine rx_iconst hE dX11_goes_35 (v := 5) (by decide) ?_
    refine rx_iload_n hE dX11_goes_36 (i := 1) rfl rfl ?_
    refine rx_imul hE dX11_goes_37 ?_
    refine rx_int _ (nI (5 * r)) (pk_mul _ _) ?_
    refine rx_iadd hE dX11_goes_38 ?_
    refine rx_int _ (nI (11 + 5 * r)) (nI_add _ _) ?_
    refine rx_dup2 hE dX11_goes_39 rfl rfl ?_
    refine rx_ialdN (i := 11 + 5 * r) hE dX11_goes_40 (kp_10 hM) (by omega) (by decide) ?_
    refine rx_int _ _ (kr_0 (by omega)) ?_
    refine rx_iload_n hE dX11_goes_41 (i := 2) rfl rfl ?_
    refine rx_isub hE dX11_goes_42 ?_
    refine rx_iastN (i := 11 + 5 * r) hE dX11_goes_43 (kp_10 hM) (by omega) (by decide) ?_
    refine rx_mem (kx_0 (by omega)) ?_
    refine rx_aload_n hE dX11_goes_44 (i := 0) rfl rfl ?_
    refine rx_getf hE dX11_goes_45 fl_X11_39_10 (kp_o hM) rfl ?_
    refine rx_bipush hE dX11_goes_48 (v := 11) (by decide) ?_
    refine rx_iconst hE dX11_goes_50 (v := 5) (by decide) ?_
    refine rx_iload_n hE dX11_goes_51 (i := 1) rfl rfl ?_
    refine rx_imul hE dX11_goes_52 ?_
    refine rx_int _ (nI (5 * r)) (pk_mul _ _) ?_
    refine rx_iadd hE dX11_goes_53 ?_
    refine rx_int _ (nI (11 + 5 * r)) (nI_add _ _) ?_
    refine rx_iconst hE dX11_goes_54 (v := 2) (by decide) ?_
    refine rx_iadd hE dX11_goes_55 ?_
    refine rx_int _ (nI (11 + 5 * r + 2)) (nI_add _ _) ?_
    refine rx_dup2 hE dX11_goes_56 rfl rfl ?_
    refine rx_ialdN (i := 11 + 5 * r + 2) hE dX11_goes_57 (kp_10 hM) (by omega) (by decide) ?_
    refine rx_int _ _ (kr_4 (by omega)) ?_
    refine rx_iload_n hE dX11_goes_58 (i := 2) rfl rfl ?_
    refine rx_iadd hE dX11_goes_59 ?_
    refine rx_iastN (i := 11 + 5 * r + 2) hE dX11_goes_60 (kp_10 hM) (by omega) (by decide) ?_
    refine rx_mem (kx_4 (by omega)) ?_
    refine rx_iload_n hE dX11_goes_61 (i := 2) rfl rfl ?_
    exact rx_iret hE hQ rfl dX11_goes_62 ⟨rfl, rfl⟩
  · refine rx_aload_n hE dX11_goes_14 (i := 0) rfl rfl ?_
    refine rx_iload_n hE dX11_goes_15 (i := 1) rfl rfl ?_
    refine rx_call0 (rx_callV (av := [.int (nI (r))]) hE dX11_goes_16 lk_X11_312 (c_X11_waitOn hM (r := r) (by omega)) (kp_o hM) np_X11_waitOn rfl rfl (by decide) (Nat.le_of_ble_eq_true rfl) rfl ?_)
    rintro v M' ⟨rfl, rfl⟩
    refine rx_goto (tgt := 28) hE dX11_goes_19 (by decide) ?_
    refine rx_int _ (j_many J r) (by unfold j_many jmin; first | rw [if_neg (Int32.not_lt.mpr c11)] | rw [if_pos (Int32.not_le.mp c11)]) ?_
    refine rx_istore_n_2 hE dX11_goes_28 (by decide) rfl ?_
    refine rx_aload_n hE dX11_goes_29 (i := 0) rfl rfl ?_
    refine rx_getf hE dX11_goes_30 fl_X11_39_10 (kp_o hM) rfl ?_
    refine rx_bipush hE dX11_goes_33 (v := 11) (by decide) ?_
    refine rx_iconst hE dX11_goes_35 (v := 5) (by decide) ?_
    refine rx_iload_n hE dX11_goes_36 (i := 1) rfl rfl ?_
    refine rx_imul hE dX11_goes_37 ?_
    refine rx_int _ (nI (5 * r)) (pk_mul _ _) ?_
    refine rx_iadd hE dX11_goes_38 ?_
    refine rx_int _ (nI (11 + 5 * r)) (nI_add _ _) ?_
    refine rx_dup2 hE dX11_goes_39 rfl rfl ?_
    refine rx_ialdN (i := 11 + 5 * r) hE dX11_goes_40 (kp_10 hM) (by omega) (by decide) ?_
    refine rx_int _ _ (kr_0 (by omega)) ?_
    refine rx_iload_n hE dX11_goes_41 (i := 2) rfl rfl ?_
    refine rx_isub hE dX11_goes_42 ?_
    refine rx_iastN (i := 11 + 5 * r) hE dX11_goes_43 (kp_10 hM) (by omega) (by decide) ?_
    refine rx_mem (kx_0 (by omega)) ?_
    refine rx_aload_n hE dX11_goes_44 (i := 0) rfl rfl ?_
    refine rx_getf hE dX11_goes_45 fl_X11_39_10 (kp_o hM) rfl ?_
    refine rx_bipush hE dX11_goes_48 (v := 11) (by decide) ?_
    refine rx_iconst hE dX11_goes_50 (v := 5) (by decide) ?_
    refine rx_iload_n hE dX11_goes_51 (i := 1) rfl rfl ?_
    refine rx_imul hE dX11_goes_52 ?_
    refine rx_int _ (nI (5 * r)) (pk_mul _ _) ?_
    refine rx_iadd hE dX11_goes_53 ?_
    refine rx_int _ (nI (11 + 5 * r)) (nI_add _ _) ?_
    refine rx_iconst hE dX11_goes_54 (v := 2) (by decide) ?_
    refine rx_iadd hE dX11_goes_55 ?_
    refine rx_int _ (nI (11 + 5 * r + 2)) (nI_add _ _) ?_
    refine rx_dup2 hE dX11_goes_56 rfl rfl ?_
    refine rx_ialdN (i := 11 + 5 * r + 2) hE dX11_goes_57 (kp_10 hM) (by omega) (by decide) ?_
    refine rx_int _ _ (kr_4 (by omega)) ?_
    refine rx_iload_n hE dX11_goes_58 (i := 2) rfl rfl ?_
    refine rx_iadd hE dX11_goes_59 ?_
    refine rx_iastN (i := 11 + 5 * r + 2) hE dX11_goes_60 (kp_10 hM) (by omega) (by decide) ?_
    refine rx_mem (kx_4 (by omega)) ?_
    refine rx_iload_n hE dX11_goes_61 (i := 2) rfl rfl ?_
    exact rx_iret hE hQ rfl dX11_goes_62 ⟨rfl, rfl⟩
