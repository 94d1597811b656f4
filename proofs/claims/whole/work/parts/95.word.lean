/-! ===== the reference's words ===== -/
/-- the code of a run of letters: m places from k on behind p -/
def kcF (T : Nat → Int32) (p : Nat) : Nat → Nat → Int64 → Int64
  | 0, _, v => v
  | m + 1, k, v => kcF T p m (k + 1) (if k < 12 then v <<< ((5 : Int32).toInt64 &&& 63) ||| (T (p + k) &&& 31).toInt64 else v)
def trl (T : Nat → Int32) (N p : Nat) : Nat := tru ltB T N p - p
def qwd (T : Nat → Int32) (N p : Nat) (c : Int64) : Int32 := if 0 < trl T N p ∧ trl T N p < 13 ∧ kcF T p (trl T N p) 0 0 = c then 1 else 0
set_option maxRecDepth 100000 in
set_option maxHeartbeats 1000000 in
theorem c_X11_isWord {M : gM} {S : gS} {L : gLg} (hM : 408 ≤ M.1) {T : Nat → Int32} {N : Nat} (hN : N ≤ 400) (h1 : S 0 1 = nI N) (hb : S 1 = T) {q : Nat} (hq : q ≤ N) (h8 : S 0 8 = nI q) (c : Int64) : SX 1 0 0 mX11_isWord [.ref 384, .long c] (kp M S L) (fun v M' => v = some (.int (qwd T N (sk T N q) c)) ∧ M' = kp M (k_f S 8 (nI (sk T N q))) L) := by
  refine SX.intro [some (.ref 384), some (.long c), none, none, none, none] (by decide +kernel) (Nat.le_of_ble_eq_true rfl) rfl (fun E hE hQ => ?_)
  refine rx_aload_n hE dX11_isWord_0 (i := 0) rfl rfl ?_
  refine rx_call0 (rx_callV (av := []) hE dX11_isWord_1 lk_X11_105 (c_X11_see hM hN h1 hb hq h8) (kp_o hM) np_X11_see rfl rfl (by decide) (Nat.le_of_ble_eq_true rfl) rfl ?_)
  rintro v M' ⟨rfl, rfl⟩
  generalize hsk : sk T N q = P0
  rw [hsk] at hQ
  have hP0 : P0 ≤ N := hsk ▸ (sk_le (T := T) hq).2
  have htr := tru_le (P := ltB) (T := T) hP0
  have tail : ∀ (k : Nat) (u : Int64), P0 + k ≤ N → k = trl T N P0 → kcF T P0 (trl T N P0) 0 0 = u → RX E mX11_isWord.2.2.1 0 0 58 [some (.ref 384), some (.long c), none, some (.long u), none, some (.int (nI k))] [] (kp M (k_f S 8 (nI P0)) L) := by
    intro k u hkN hk0 hcd
    have lc0 : lg_cmp u c = 0 ↔ u = c := lg_cmp_eq u c
    refine rx_iload hE dX11_isWord_58 rfl ?_
    refine rx_if_le (tgt := 80) hE dX11_isWord_60 (by decide) (fun c60 => ?_) (fun c60 => ?_)
    · refine rx_iconst hE dX11_isWord_80 (v := 0) (by decide) ?_
      exact rx_tret hE hQ rfl rfl dX11_isWord_81 ⟨by unfold qwd; rw [hcd, ← hk0, if_neg (fun z => absurd (show nI 0 < nI k from nI_lt (by have := z.1; omega) (by omega)) (Int32.not_lt.mpr c60))], rfl⟩
    · refine rx_iload hE dX11_isWord_63 rfl ?_
      refine rx_bipush hE dX11_isWord_65 (v := 13) (by decide) ?_
      refine rx_icmp_ge (tgt := 80) hE dX11_isWord_67 (by decide) (fun c67 => ?_) (fun c67 => ?_)
      · refine rx_iconst hE dX11_isWord_80 (v := 0) (by decide) ?_
        exact rx_tret hE hQ rfl rfl dX11_isWord_81 ⟨by unfold qwd; rw [hcd, ← hk0, if_neg (fun z => absurd c67 (nI_ge (a := k) (b := 13) (by have := z.2.1; omega) (by omega)))], rfl⟩
      · refine rx_lload_n hE dX11_isWord_70 (i := 3) rfl rfl ?_
        refine rx_lload_n hE dX11_isWord_71 (i := 1) rfl rfl ?_
        refine rx_lcmp hE dX11_isWord_72 ?_
        refine rx_if_ne (tgt := 80) hE dX11_isWord_73 (by decide) (fun c73 => ?_) (fun c73 => ?_)
        · refine rx_iconst hE dX11_isWord_80 (v := 0) (by decide) ?_
          exact rx_tret hE hQ rfl rfl dX11_isWord_81 ⟨by unfold qwd; rw [hcd, ← hk0, if_neg (fun z => c73 (lc0.mpr z.2.2))], rfl⟩
        · refine rx_iconst hE dX11_isWord_76 (v := 1) (by decide) ?_
          refine rx_goto (tgt := 81) hE dX11_isWord_77 (by decide) ?_
          exact rx_tret hE hQ rfl rfl dX11_isWord_81 ⟨by unfold qwd; rw [hcd, ← hk0, if_pos ⟨Classical.byContradiction (fun z => c60 (nI_le (a := k) (b := 0) (by omega) (by decide))), Classical.byContradiction (fun z => c67 (nI_le (a := 13) (b := k) (by omega) (by omega))), lc0.mp c73⟩], rfl⟩
  have l1 : ∀ (m1 k : Nat) (u : Int64), k + m1 = N - P0 → tru ltB T N (P0 + k) = tru ltB T N P0 → kcF T P0 (trl T N P0 - k) k u = kcF T P0 (trl T N P0) 0 0 → RX E mX11_isWord.2.2.1 0 0 10 [some (.ref 384), some (.long c), none, some (.long u), none, some (.int (nI k))] [] (kp M (k_f S 8 (nI P0)) L) := by
    intro m1
    induction m1 with
    | zero =>
      intro k u hkn hE1 hcd
      refine rx_aload_n hE dX11_isWord_10 (i := 0) rfl rfl ?_
      refine rx_aload_n hE dX11_isWord_11 (i := 0) rfl rfl ?_
      refine rx_getf hE dX11_isWord_12 fl_X11_102_10 (kp_o hM) rfl ?_
      refine rx_int _ (nI P0) rfl ?_
      refine rx_iload hE dX11_isWord_15 rfl ?_
      refine rx_iadd hE dX11_isWord_17 ?_
      refine rx_int _ (nI (P0 + k)) (nI_add P0 k) ?_
      refine rx_call0 (rx_callV (av := [.int (nI (P0 + k))]) hE dX11_isWord_18 lk_X11_109 (c_X11_isLetter (S := k_f S 8 (nI P0)) hM hN h1 hb (i := P0 + k) (by omega)) (kp_o hM) np_X11_isLetter rfl rfl (by decide) (Nat.le_of_ble_eq_true rfl) rfl ?_)
      rintro v M' ⟨rfl, rfl⟩
      refine rx_if_eq (tgt := 58) hE dX11_isWord_21 (by decide) (fun c21 => ?_) (fun c21 => absurd (if_neg (fun z => absurd z.1 (by omega))) c21)
      have hno : ¬ (P0 + k < N ∧ ltB (T (P0 + k)) = true) := fun z => absurd z.1 (by omega)
      have hk0 : k = trl T N P0 := by unfold trl; rw [← hE1, tru_z hno]; omega
      exact tail k u (by omega) hk0 (by rw [← hcd, ← hk0, Nat.sub_self]; rfl)
    | succ m1 ihm1 =>
      intro k u hkn hE1 hcd
      refine rx_aload_n hE dX11_isWord_10 (i := 0) rfl rfl ?_
      refine rx_aload_n hE dX11_isWord_11 (i := 0) rfl rfl ?_
      refine rx_getf hE dX11_isWord_12 fl_X11_102_10 (kp_o hM) rfl ?_
      refine rx_int _ (nI P0) rfl ?_
      refine rx_iload hE dX11_isWord_15 rfl ?_
      refine rx_iadd hE dX11_isWord_17 ?_
      refine rx_int _ (nI (P0 + k)) (nI_add P0 k) ?_
      refine rx_call0 (rx_callV (av := [.int (nI (P0 + k))]) hE dX11_isWord_18 lk_X11_109 (c_X11_isLetter (S := k_f S 8 (nI P0)) hM hN h1 hb (i := P0 + k) (by omega)) (kp_o hM) np_X11_isLetter rfl rfl (by decide) (Nat.le_of_ble_eq_true rfl) rfl ?_)
      rintro v M' ⟨rfl, rfl⟩
      refine rx_if_eq (tgt := 58) hE dX11_isWord_21 (by decide) (fun c21 => ?_) (fun c21 => ?_)
      · have hno : ¬ (P0 + k < N ∧ ltB (T (P0 + k)) = true) := fun z => absurd c21 (by rw [if_pos ⟨z.1, of_decide_eq_true z.2⟩]; decide)
        have hk0 : k = trl T N P0 := by unfold trl; rw [← hE1, tru_z hno]; omega
        exact tail k u (by omega) hk0 (by rw [← hcd, ← hk0, Nat.sub_self]; rfl)
      · have hy : P0 + k < N ∧ tlt (T (P0 + k)) := Classical.byContradiction (fun z => c21 (if_neg z))
        have hp1 := tru_le (P := ltB) (T := T) (N := N) (p := P0 + k + 1) (by omega)
        have hs1 := tru_s (P := ltB) hy.1 (decide_eq_true hy.2)
        have hl : k < trl T N P0 := by unfold trl; rw [← hE1]; omega
        refine rx_iload hE dX11_isWord_24 rfl ?_
        refine rx_bipush hE dX11_isWord_26 (v := 12) (by decide) ?_
        refine rx_icmp_ge (tgt := 52) hE dX11_isWord_28 (by decide) (fun c28 => ?_) (fun c28 => ?_)
        · refine rx_iinc_5 hE dX11_isWord_52 (v := 1) (by decide) (by decide) rfl ?_
          rw [nI_1]
          refine rx_goto (tgt := 10) hE dX11_isWord_55 (by decide) ?_
          exact ihm1 (k + 1) _ (by omega) (by rw [← hE1]; exact hs1.symm) (by rw [← hcd, show trl T N P0 - k = trl T N P0 - (k + 1) + 1 by omega]; show _ = kcF T P0 _ (k + 1) (if k < 12 then _ else u); rw [if_neg (by have := (nI_leI (a := 12) (b := k) (by decide) (by omega)).mp c28; omega)])
        · refine rx_lload_n hE dX11_isWord_31 (i := 3) rfl rfl ?_
          refine rx_iconst hE dX11_isWord_32 (v := 5) (by decide) ?_
          refine rx_lshl hE dX11_isWord_33 ?_
          refine rx_aload_n hE dX11_isWord_34 (i := 0) rfl rfl ?_
          refine rx_getf hE dX11_isWord_35 fl_X11_7_10 (kp_o hM) rfl ?_
          refine rx_aload_n hE dX11_isWord_38 (i := 0) rfl rfl ?_
          refine rx_getf hE dX11_isWord_39 fl_X11_102_10 (kp_o hM) rfl ?_
          refine rx_int _ (nI P0) rfl ?_
          refine rx_iload hE dX11_isWord_42 rfl ?_
          refine rx_iadd hE dX11_isWord_44 ?_
          refine rx_int _ (nI (P0 + k)) (nI_add P0 k) ?_
          refine rx_baldN hE dX11_isWord_45 (kp_1 hM) (by omega) (by decide) ?_
          refine rx_int _ (T (P0 + k)) (congrFun hb (P0 + k)) ?_
          refine rx_bipush hE dX11_isWord_46 (v := 31) (by decide) ?_
          refine rx_iand hE dX11_isWord_48 ?_
          refine rx_i2l hE dX11_isWord_49 ?_
          refine rx_lor hE dX11_isWord_50 ?_
          refine rx_lstore_n_3 hE dX11_isWord_51 (by decide) rfl ?_
          refine rx_iinc_5 hE dX11_isWord_52 (v := 1) (by decide) (by decide) rfl ?_
          rw [nI_1]
          refine rx_goto (tgt := 10) hE dX11_isWord_55 (by decide) ?_
          exact ihm1 (k + 1) _ (by omega) (by rw [← hE1]; exact hs1.symm) (by rw [← hcd, show trl T N P0 - k = trl T N P0 - (k + 1) + 1 by omega]; show _ = kcF T P0 _ (k + 1) (if k < 12 then _ else u); rw [if_pos (Classical.byContradiction (fun z => c28 (nI_le (a := 12) (b := k) (by omega) (by omega))))])
  refine rx_pop hE dX11_isWord_4 rfl ?_
  refine rx_lconst hE dX11_isWord_5 (v := 0) (by decide) ?_
  refine rx_lstore_n_3 hE dX11_isWord_6 (by decide) rfl ?_
  refine rx_iconst hE dX11_isWord_7 (v := 0) (by decide) ?_
  refine rx_istore_5 hE dX11_isWord_8 (by decide) rfl ?_
  exact l1 (N - P0) 0 0 (by omega) rfl rfl
set_option maxRecDepth 100000 in
set_option maxHeartbeats 1000000 in
theorem c_X11_takesWord {M : gM} {S : gS} {L : gLg} (hM : 408 ≤ M.1) {T : Nat → Int32} {N : Nat} (hN : N ≤ 400) (h1 : S 0 1 = nI N) (hb : S 1 = T) {q : Nat} (hq : q ≤ N) (h8 : S 0 8 = nI q) (c : Int64) : SX 2 0 0 mX11_takesWord [.ref 384, .long c] (kp M S L) (fun v M' => v = some (.int (if qwd T N (sk T N q) c = 0 then 0 else 1)) ∧ M' = kp M (k_f S 8 (nI (if qwd T N (sk T N q) c = 0 then sk T N q else tru ltB T N (sk T N q)))) L) := by
  refine SX.intro [some (.ref 384), some (.long c), none] (by decide +kernel) (Nat.le_of_ble_eq_true rfl) rfl (fun E hE hQ => ?_)
  refine rx_aload_n hE dX11_takesWord_0 (i := 0) rfl rfl ?_
  refine rx_lload_n hE dX11_takesWord_1 (i := 1) rfl rfl ?_
  refine rx_call0 (rx_callV (av := [.long c]) hE dX11_takesWord_2 lk_X11_113 (c_X11_isWord hM hN h1 hb hq h8 c) (kp_o hM) np_X11_isWord rfl rfl (by decide) (Nat.le_of_ble_eq_true rfl) rfl ?_)
  rintro v M' ⟨rfl, rfl⟩
  refine rx_if_ne (tgt := 10) hE dX11_takesWord_5 (by decide) (fun c5 => ?_) (fun c5 => ?_)
  · refine rx_aload_n hE dX11_takesWord_10 (i := 0) rfl rfl ?_
    refine rx_call0 (rx_callV (av := []) hE dX11_takesWord_11 lk_X11_117 (c_X11_passWord (S := k_f S 8 (nI (sk T N q))) hM hN h1 hb (q := sk T N q) (sk_le hq).2 rfl) (kp_o hM) np_X11_passWord rfl rfl (by decide) (Nat.le_of_ble_eq_true rfl) rfl ?_)
    rintro v M' ⟨rfl, rfl⟩
    refine rx_mem (M' := kp M (k_f S 8 (nI (tru ltB T N (sk T N q)))) L) (by rw [k_ff2]) ?_
    refine rx_iconst hE dX11_takesWord_14 (v := 1) (by decide) ?_
    exact rx_tret hE hQ rfl rfl dX11_takesWord_15 ⟨by rw [if_neg c5], by rw [if_neg c5]⟩
  · refine rx_iconst hE dX11_takesWord_8 (v := 0) (by decide) ?_
    exact rx_tret hE hQ rfl rfl dX11_takesWord_9 ⟨by rw [if_pos c5], by rw [if_pos c5]⟩
