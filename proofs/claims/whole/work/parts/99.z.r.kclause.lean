/-! ===== junctionLineHere ===== -/
def jm2 (k w : Nat) (J : gJn) : Prop := (w = 1 ∧ ¬ J 9 2 < 6) ∨ ¬ (k = 0 ↔ w = 0)
theorem wj_d {T : Nat → Int32} {N p w : Nat} (hw : w < 4) (h : wjN T N p = nI w) : (w = 0 ∧ ¬ qwd T N p 366619534830 = 0) ∨ (w = 1 ∧ qwd T N p 366619534830 = 0 ∧ ¬ qwd T N p 605220 = 0) ∨ (w = 2 ∧ qwd T N p 366619534830 = 0 ∧ qwd T N p 605220 = 0 ∧ ¬ qwd T N p 3540584 = 0) ∨ (w = 3 ∧ qwd T N p 366619534830 = 0 ∧ qwd T N p 605220 = 0 ∧ qwd T N p 3540584 = 0) := by
  unfold wjN at h
  by_cases h0 : qwd T N p 366619534830 = 0
  rotate_left 1
  · rw [if_neg h0] at h; exact Or.inl ⟨(nI_inj (a := 0) (b := w) (by decide) (by omega) h).symm, h0⟩
  rw [if_pos h0] at h
  by_cases h1 : qwd T N p 605220 = 0
  rotate_left 1
  · rw [if_neg h1] at h; exact Or.inr (Or.inl ⟨(nI_inj (a := 1) (b := w) (by decide) (by omega) h).symm, h0, h1⟩)
  rw [if_pos h1] at h
  by_cases h2 : qwd T N p 3540584 = 0
  rotate_left 1
  · rw [if_neg h2] at h; exact Or.inr (Or.inr (Or.inl ⟨(nI_inj (a := 2) (b := w) (by decide) (by omega) h).symm, h0, h1, h2⟩))
  rw [if_pos h2] at h
  by_cases h3 : qwd T N p 20037189 = 0
  rotate_left 1
  · rw [if_neg h3] at h; exact Or.inr (Or.inr (Or.inr ⟨(nI_inj (a := 3) (b := w) (by decide) (by omega) h).symm, h0, h1, h2⟩))
  rw [if_pos h3] at h
  exact absurd h.symm (nI_m1 (by omega))
theorem qjw_wj (T : Nat → Int32) (N p : Nat) : qjw T N p = if wjN T N p = -1 then 0 else 1 := by
  unfold qjw wjN
  by_cases h0 : qwd T N p 366619534830 = 0
  rotate_left 1
  · rw [if_neg h0, if_neg h0, if_neg (by decide)]
  rw [if_pos h0, if_pos h0]
  by_cases h1 : qwd T N p 605220 = 0
  rotate_left 1
  · rw [if_neg h1, if_neg h1, if_neg (by decide)]
  rw [if_pos h1, if_pos h1]
  by_cases h2 : qwd T N p 3540584 = 0
  rotate_left 1
  · rw [if_neg h2, if_neg h2, if_neg (by decide)]
  rw [if_pos h2, if_pos h2]
  by_cases h3 : qwd T N p 20037189 = 0
  rotate_left 1
  · rw [if_neg h3, if_neg h3, if_neg (by decide)]
  rw [if_pos h3, if_pos h3, if_pos rfl]
set_option maxRecDepth 100000 in
set_option maxHeartbeats 1000000 in
theorem c_X11_junctionLineHere {M : gM} {S : gS} {L : gLg} (hM : 408 ≤ M.1) {T : Nat → Int32} {N p k : Nat} {J : gJn} (hN : N ≤ 400) (hq : kb1 S T N p) (hz : sk T N p = p) (hte : te T N p = tru ltB T N p) (hj : kjr (S 6) J k) {w R : Nat} (hw4 : w < 4) (hw : wjN T N p = nI w) (hR : J 9 2 = nI R) (hR60 : R ≤ 6) (hB : ¬ k = 0 → ∃ B, B ≤ 12 ∧ J 9 0 = nI B) : SX 4 0 0 mX11_junctionLineHere [.ref 384, .int (nI p)] (kp M S L) (fun v M' => ∃ S', M' = kp M S' L ∧ kfj S S' ∧ ((jm2 k w J ∧ v = some (.int 0) ∧ S' 0 9 = fE p 4) ∨ (¬ jm2 k w J ∧ ((∃ g, jcF T N w (nx T N p) J = .error g ∧ v = some (.int 0) ∧ S' 0 9 = g) ∨ ∃ q1 J1, jcF T N w (nx T N p) J = .ok (sk T N q1, J1) ∧ v = some (.int 1) ∧ kb1 S' T N q1 ∧ kjr (S' 6) J1 (k + 1))))) := by
  refine SX.intro [some (.ref 384), some (.int (nI p))] (by decide +kernel) (Nat.le_of_ble_eq_true rfl) rfl (fun E hE hQ => ?_)
  rcases wj_d hw4 hw with ⟨rfl, hq0⟩ | ⟨rfl, hq0, hq1⟩ | ⟨rfl, hq0, hq1, hq2⟩ | ⟨rfl, hq0, hq1, hq2⟩
  · skip
    refine rx_aload_n hE dX11_junctionLineHere_0 (i := 0) rfl rfl ?_
    refine rx_ldc2 hE dX11_junctionLineHere_1 kl_X11_234 ?_
    refine rx_call0 (rx_callV (av := [.long 366619534830]) hE dX11_junctionLineHere_4 lk_X11_113 (c_X11_isWordBZ hM hN hq hz 366619534830) (kp_o hM) np_X11_isWord rfl rfl (by decide) (Nat.le_of_ble_eq_true rfl) rfl ?_)
    rintro v M' ⟨rfl, rfl⟩
    refine rx_if_eq (tgt := 16) hE dX11_junctionLineHere_7 (by decide) (fun c7 => absurd c7 hq0) (fun c7 => ?_)
    refine rx_aload_n hE dX11_junctionLineHere_10 (i := 0) rfl rfl ?_
    refine rx_iload_n hE dX11_junctionLineHere_11 (i := 1) rfl rfl ?_
    by_cases hk : k = 0
    · refine rx_call0 (rx_callV (av := [.int (nI p)]) hE dX11_junctionLineHere_12 lk_X11_236 (c_X11_isJunctionHere (J := J) (k := k) hM hN hq hz hte hj hk) (kp_o hM) np_X11_isJunctionHere rfl rfl (by decide) (Nat.le_of_ble_eq_true rfl) rfl ?_)
      rintro v M' ⟨S3, rfl, f3, hv⟩
      obtain ⟨vv, rfl, hn⟩ : ∃ vv : Int32, v = some (.int vv) ∧ narrow .boolean (.int vv) = .int vv := by
        rcases hv with ⟨_, _, e, _⟩ | ⟨_, _, _, e, _⟩
        · exact ⟨0, e, rfl⟩
        · exact ⟨1, e, rfl⟩
      exact rx_tret hE hQ hn rfl dX11_junctionLineHere_15 ⟨S3, rfl, f3, Or.inr ⟨(fun z => z.elim (fun z => absurd z.1 (by decide)) (fun z => z ⟨fun _ => rfl, fun _ => hk⟩)), hv⟩⟩
    · refine rx_call0 (rx_callV (av := [.int (nI p)]) hE dX11_junctionLineHere_12 lk_X11_236 (c_X11_isJunctionHereF (J := J) (k := k) hM hN hq hz hte hj hk) (kp_o hM) np_X11_isJunctionHere rfl rfl (by decide) (Nat.le_of_ble_eq_true rfl) rfl ?_)
      rintro v M' ⟨S3, rfl, f3, rfl, e9⟩
      exact rx_tret hE hQ rfl rfl dX11_junctionLineHere_15 ⟨S3, rfl, f3, Or.inl ⟨Or.inr (fun z => hk (z.mpr rfl)), rfl, e9⟩⟩
  · skip
    refine rx_aload_n hE dX11_junctionLineHere_0 (i := 0) rfl rfl ?_
    refine rx_ldc2 hE dX11_junctionLineHere_1 kl_X11_234 ?_
    refine rx_call0 (rx_callV (av := [.long 366619534830]) hE dX11_junctionLineHere_4 lk_X11_113 (c_X11_isWordBZ hM hN hq hz 366619534830) (kp_o hM) np_X11_isWord rfl rfl (by decide) (Nat.le_of_ble_eq_true rfl) rfl ?_)
    rintro v M' ⟨rfl, rfl⟩
    refine rx_if_eq (tgt := 16) hE dX11_junctionLineHere_7 (by decide) (fun c7 => ?_) (fun c7 => absurd hq0 c7)
    refine rx_aload_n hE dX11_junctionLineHere_16 (i := 0) rfl rfl ?_
    refine rx_getf hE dX11_junctionLineHere_17 fl_X11_26_10 (kp_o hM) rfl ?_
    refine rx_iconst hE dX11_junctionLineHere_20 (v := 0) (by decide) ?_
    refine rx_ialdN (i := 0) hE dX11_junctionLineHere_21 (kp_6 hM) (by omega) (by decide) ?_
    refine rx_int _ (if k = 0 then 0 else 1) hj.1 ?_
    refine rx_if_ne (tgt := 32) hE dX11_junctionLineHere_22 (by decide) (fun c22 => ?_) (fun c22 => ?_)
    · have hk : ¬ k = 0 := fun z => c22 (if_pos z)
      refine rx_aload_n hE dX11_junctionLineHere_32 (i := 0) rfl rfl ?_
      refine rx_ldc2 hE dX11_junctionLineHere_33 kl_X11_134 ?_
      refine rx_call0 (rx_callV (av := [.long 605220]) hE dX11_junctionLineHere_36 lk_X11_113 (c_X11_isWordBZ hM hN hq hz 605220) (kp_o hM) np_X11_isWord rfl rfl (by decide) (Nat.le_of_ble_eq_true rfl) rfl ?_)
      rintro v M' ⟨rfl, rfl⟩
      refine rx_if_eq (tgt := 48) hE dX11_junctionLineHere_39 (by decide) (fun c39 => absurd c39 hq1) (fun c39 => ?_)
      refine rx_aload_n hE dX11_junctionLineHere_42 (i := 0) rfl rfl ?_
      refine rx_iload_n hE dX11_junctionLineHere_43 (i := 1) rfl rfl ?_
      by_cases hR6 : R < 6
      · refine rx_call0 (rx_callV (av := [.int (nI p)]) hE dX11_junctionLineHere_44 lk_X11_239 (c_X11_isRoadHere (J := J) (k := k) hM hN hq hz hte hj hR hR6 hk) (kp_o hM) np_X11_isRoadHere rfl rfl (by decide) (Nat.le_of_ble_eq_true rfl) rfl ?_)
        rintro v M' ⟨S3, rfl, f3, hv⟩
        obtain ⟨vv, rfl, hn⟩ : ∃ vv : Int32, v = some (.int vv) ∧ narrow .boolean (.int vv) = .int vv := by
          rcases hv with ⟨_, _, e, _⟩ | ⟨_, _, _, e, _⟩
          · exact ⟨0, e, rfl⟩
          · exact ⟨1, e, rfl⟩
        exact rx_tret hE hQ hn rfl dX11_junctionLineHere_47 ⟨S3, rfl, f3, Or.inr ⟨(fun z => z.elim (fun z => z.2 (by rw [hR]; exact nI_lt (a := R) (b := 6) hR6 (by decide))) (fun z => z ⟨fun y => absurd y hk, fun y => absurd y (by decide)⟩)), hv⟩⟩
      · refine rx_call0 (rx_callV (av := [.int (nI p)]) hE dX11_junctionLineHere_44 lk_X11_239 (c_X11_isRoadHereF (J := J) (k := k) hM hN hq hz hte hj hR (by omega)) (kp_o hM) np_X11_isRoadHere rfl rfl (by decide) (Nat.le_of_ble_eq_true rfl) rfl ?_)
        rintro v M' ⟨S3, rfl, f3, rfl, e9⟩
        exact rx_tret hE hQ rfl rfl dX11_junctionLineHere_47 ⟨S3, rfl, f3, Or.inl ⟨Or.inl ⟨rfl, by rw [hR]; exact fun t => absurd t (Int32.not_lt.mpr (nI_le (a := 6) (b := R) (by omega) (by omega)))⟩, rfl, e9⟩⟩
    · have hk : k = 0 := Classical.byContradiction (fun z => absurd c22 (by rw [if_neg z]; decide))
      refine rx_aload_n hE dX11_junctionLineHere_25 (i := 0) rfl rfl ?_
      refine rx_iconst hE dX11_junctionLineHere_26 (v := 4) (by decide) ?_
      refine rx_iload_n hE dX11_junctionLineHere_27 (i := 1) rfl rfl ?_
      refine rx_call0 (rx_callV (av := [.int (nI 4), .int (nI p)]) hE dX11_junctionLineHere_28 lk_X11_123 (c_X11_failsB hM hq.2.2.2 p 4) (kp_o hM) np_X11_fails rfl rfl (by decide) (Nat.le_of_ble_eq_true rfl) rfl ?_)
      rintro v M' ⟨rfl, S3, rfl, f3, e9⟩
      exact rx_tret hE hQ rfl rfl dX11_junctionLineHere_31 ⟨S3, rfl, f3, Or.inl ⟨Or.inr (fun z => absurd (z.mp hk) (by decide)), rfl, e9⟩⟩
  · skip
    refine rx_aload_n hE dX11_junctionLineHere_0 (i := 0) rfl rfl ?_
    refine rx_ldc2 hE dX11_junctionLineHere_1 kl_X11_234 ?_
    refine rx_call0 (rx_callV (av := [.long 366619534830]) hE dX11_junctionLineHere_4 lk_X11_113 (c_X11_isWordBZ hM hN hq hz 366619534830) (kp_o hM) np_X11_isWord rfl rfl (by decide) (Nat.le_of_ble_eq_true rfl) rfl ?_)
    rintro v M' ⟨rfl, rfl⟩
    refine rx_if_eq (tgt := 16) hE dX11_junctionLineHere_7 (by decide) (fun c7 => ?_) (fun c7 => absurd hq0 c7)
    refine rx_aload_n hE dX11_junctionLineHere_16 (i := 0) rfl rfl ?_
    refine rx_getf hE dX11_junctionLineHere_17 fl_X11_26_10 (kp_o hM) rfl ?_
    refine rx_iconst hE dX11_junctionLineHere_20 (v := 0) (by decide) ?_
    refine rx_ialdN (i := 0) hE dX11_junctionLineHere_21 (kp_6 hM) (by omega) (by decide) ?_
    refine rx_int _ (if k = 0 then 0 else 1) hj.1 ?_
    refine rx_if_ne (tgt := 32) hE dX11_junctionLineHere_22 (by decide) (fun c22 => ?_) (fun c22 => ?_)
    · have hk : ¬ k = 0 := fun z => c22 (if_pos z)
      refine rx_aload_n hE dX11_junctionLineHere_32 (i := 0) rfl rfl ?_
      refine rx_ldc2 hE dX11_junctionLineHere_33 kl_X11_134 ?_
      refine rx_call0 (rx_callV (av := [.long 605220]) hE dX11_junctionLineHere_36 lk_X11_113 (c_X11_isWordBZ hM hN hq hz 605220) (kp_o hM) np_X11_isWord rfl rfl (by decide) (Nat.le_of_ble_eq_true rfl) rfl ?_)
      rintro v M' ⟨rfl, rfl⟩
      refine rx_if_eq (tgt := 48) hE dX11_junctionLineHere_39 (by decide) (fun c39 => ?_) (fun c39 => absurd hq1 c39)
      refine rx_aload_n hE dX11_junctionLineHere_48 (i := 0) rfl rfl ?_
      refine rx_ldc2 hE dX11_junctionLineHere_49 kl_X11_242 ?_
      refine rx_call0 (rx_callV (av := [.long 3540584]) hE dX11_junctionLineHere_52 lk_X11_113 (c_X11_isWordBZ hM hN hq hz 3540584) (kp_o hM) np_X11_isWord rfl rfl (by decide) (Nat.le_of_ble_eq_true rfl) rfl ?_)
      rintro v M' ⟨rfl, rfl⟩
      refine rx_if_eq (tgt := 65) hE dX11_junctionLineHere_55 (by decide) (fun c55 => absurd c55 hq2) (fun c55 => ?_)
      refine rx_aload_n hE dX11_junctionLineHere_58 (i := 0) rfl rfl ?_
      refine rx_call0 (rx_callV (av := []) hE dX11_junctionLineHere_59 lk_X11_244 (c_X11_isClashHere (J := J) (k := k) hM hN hq hz hte hj hR hR60 hk) (kp_o hM) np_X11_isClashHere rfl rfl (by decide) (Nat.le_of_ble_eq_true rfl) rfl ?_)
      rintro v M' ⟨S3, rfl, f3, hv⟩
      obtain ⟨vv, rfl, hn⟩ : ∃ vv : Int32, v = some (.int vv) ∧ narrow .boolean (.int vv) = .int vv := by
        rcases hv with ⟨_, _, e, _⟩ | ⟨_, _, _, e, _⟩
        · exact ⟨0, e, rfl⟩
        · exact ⟨1, e, rfl⟩
      refine rx_goto (tgt := 69) hE dX11_junctionLineHere_62 (by decide) ?_
      exact rx_tret hE hQ hn rfl dX11_junctionLineHere_69 ⟨S3, rfl, f3, Or.inr ⟨(fun z => z.elim (fun z => absurd z.1 (by decide)) (fun z => z ⟨fun y => absurd y hk, fun y => absurd y (by decide)⟩)), hv⟩⟩
    · have hk : k = 0 := Classical.byContradiction (fun z => absurd c22 (by rw [if_neg z]; decide))
      refine rx_aload_n hE dX11_junctionLineHere_25 (i := 0) rfl rfl ?_
      refine rx_iconst hE dX11_junctionLineHere_26 (v := 4) (by decide) ?_
      refine rx_iload_n hE dX11_junctionLineHere_27 (i := 1) rfl rfl ?_
      refine rx_call0 (rx_callV (av := [.int (nI 4), .int (nI p)]) hE dX11_junctionLineHere_28 lk_X11_123 (c_X11_failsB hM hq.2.2.2 p 4) (kp_o hM) np_X11_fails rfl rfl (by decide) (Nat.le_of_ble_eq_true rfl) rfl ?_)
      rintro v M' ⟨rfl, S3, rfl, f3, e9⟩
      exact rx_tret hE hQ rfl rfl dX11_junctionLineHere_31 ⟨S3, rfl, f3, Or.inl ⟨Or.inr (fun z => absurd (z.mp hk) (by decide)), rfl, e9⟩⟩
  · skip
    refine rx_aload_n hE dX11_junctionLineHere_0 (i := 0) rfl rfl ?_
    refine rx_ldc2 hE dX11_junctionLineHere_1 kl_X11_234 ?_
    refine rx_call0 (rx_callV (av := [.long 366619534830]) hE dX11_junctionLineHere_4 lk_X11_113 (c_X11_isWordBZ hM hN hq hz 366619534830) (kp_o hM) np_X11_isWord rfl rfl (by decide) (Nat.le_of_ble_eq_true rfl) rfl ?_)
    rintro v M' ⟨rfl, rfl⟩
    refine rx_if_eq (tgt := 16) hE dX11_junctionLineHere_7 (by decide) (fun c7 => ?_) (fun c7 => absurd hq0 c7)
    refine rx_aload_n hE dX11_junctionLineHere_16 (i := 0) rfl rfl ?_
    refine rx_getf hE dX11_junctionLineHere_17 fl_X11_26_10 (kp_o hM) rfl ?_
    refine rx_iconst hE dX11_junctionLineHere_20 (v := 0) (by decide) ?_
    refine rx_ialdN (i := 0) hE dX11_junctionLineHere_21 (kp_6 hM) (by omega) (by decide) ?_
    refine rx_int _ (if k = 0 then 0 else 1) hj.1 ?_
    refine rx_if_ne (tgt := 32) hE dX11_junctionLineHere_22 (by decide) (fun c22 => ?_) (fun c22 => ?_)
    · have hk : ¬ k = 0 := fun z => c22 (if_pos z)
      refine rx_aload_n hE dX11_junctionLineHere_32 (i := 0) rfl rfl ?_
      refine rx_ldc2 hE dX11_junctionLineHere_33 kl_X11_134 ?_
      refine rx_call0 (rx_callV (av := [.long 605220]) hE dX11_junctionLineHere_36 lk_X11_113 (c_X11_isWordBZ hM hN hq hz 605220) (kp_o hM) np_X11_isWord rfl rfl (by decide) (Nat.le_of_ble_eq_true rfl) rfl ?_)
      rintro v M' ⟨rfl, rfl⟩
      refine rx_if_eq (tgt := 48) hE dX11_junctionLineHere_39 (by decide) (fun c39 => ?_) (fun c39 => absurd hq1 c39)
      refine rx_aload_n hE dX11_junctionLineHere_48 (i := 0) rfl rfl ?_
      refine rx_ldc2 hE dX11_junctionLineHere_49 kl_X11_242 ?_
      refine rx_call0 (rx_callV (av := [.long 3540584]) hE dX11_junctionLineHere_52 lk_X11_113 (c_X11_isWordBZ hM hN hq hz 3540584) (kp_o hM) np_X11_isWord rfl rfl (by decide) (Nat.le_of_ble_eq_true rfl) rfl ?_)
      rintro v M' ⟨rfl, rfl⟩
      refine rx_if_eq (tgt := 65) hE dX11_junctionLineHere_55 (by decide) (fun c55 => ?_) (fun c55 => absurd hq2 c55)
      refine rx_aload_n hE dX11_junctionLineHere_65 (i := 0) rfl rfl ?_
      obtain ⟨B, hB12, hBe⟩ := hB hk
      refine rx_call0 (rx_callV (av := []) hE dX11_junctionLineHere_66 lk_X11_247 (c_X11_isScoreHere (J := J) (k := k) hM hN hq hz hte hj hR hR60 hBe hB12 hk) (kp_o hM) np_X11_isScoreHere rfl rfl (by decide) (Nat.le_of_ble_eq_true rfl) rfl ?_)
      rintro v M' ⟨S3, rfl, f3, hv⟩
      obtain ⟨vv, rfl, hn⟩ : ∃ vv : Int32, v = some (.int vv) ∧ narrow .boolean (.int vv) = .int vv := by
        rcases hv with ⟨_, _, e, _⟩ | ⟨_, _, _, e, _⟩
        · exact ⟨0, e, rfl⟩
        · exact ⟨1, e, rfl⟩
      exact rx_tret hE hQ hn rfl dX11_junctionLineHere_69 ⟨S3, rfl, f3, Or.inr ⟨(fun z => z.elim (fun z => absurd z.1 (by decide)) (fun z => z ⟨fun y => absurd y hk, fun y => absurd y (by decide)⟩)), hv⟩⟩
    · have hk : k = 0 := Classical.byContradiction (fun z => absurd c22 (by rw [if_neg z]; decide))
      refine rx_aload_n hE dX11_junctionLineHere_25 (i := 0) rfl rfl ?_
      refine rx_iconst hE dX11_junctionLineHere_26 (v := 4) (by decide) ?_
      refine rx_iload_n hE dX11_junctionLineHere_27 (i := 1) rfl rfl ?_
      refine rx_call0 (rx_callV (av := [.int (nI 4), .int (nI p)]) hE dX11_junctionLineHere_28 lk_X11_123 (c_X11_failsB hM hq.2.2.2 p 4) (kp_o hM) np_X11_fails rfl rfl (by decide) (Nat.le_of_ble_eq_true rfl) rfl ?_)
      rintro v M' ⟨rfl, S3, rfl, f3, e9⟩
      exact rx_tret hE hQ rfl rfl dX11_junctionLineHere_31 ⟨S3, rfl, f3, Or.inl ⟨Or.inr (fun z => absurd (z.mp hk) (by decide)), rfl, e9⟩⟩
/-! ===== clauseHere of a junction ===== -/
def kfk (S S' : gS) : Prop := (∀ r, r ≠ 0 → r ≠ 6 → S' r = S r) ∧ ∀ i, i ≠ 8 → i ≠ 9 → i ≠ 10 → i ≠ 14 → S' 0 i = S 0 i
theorem kfk.trans {S S' S'' : gS} (h : kfk S S') (h' : kfk S' S'') : kfk S S'' := ⟨fun k a b => (h'.1 k a b).trans (h.1 k a b), fun i a b c d => (h'.2 i a b c d).trans (h.2 i a b c d)⟩
theorem kfj.k {S S' : gS} (h : kfj S S') : kfk S S' := ⟨h.1, fun i a b c _ => h.2 i a b c⟩
theorem kfk.f (S : gS) {i : Nat} (hi : i = 8 ∨ i = 9 ∨ i = 10 ∨ i = 14) (v : Int32) : kfk S (k_f S i v) := ⟨fun k a _ => kf_row v a, fun j a b c d => kf_ne v (by omega)⟩
set_option maxRecDepth 100000 in
set_option maxHeartbeats 1000000 in
theorem c_X11_clauseHereJ {M : gM} {S : gS} {L : gLg} (hM : 408 ≤ M.1) {T : Nat → Int32} {N q k : Nat} {J : gJn} (hN : N ≤ 400) (hq : kb1 S T N q) (hj : kjr (S 6) J k) (h11 : S 0 11 = 6) (h14 : S 0 14 = nI k) (hk40 : k ≤ 40) (hv0 : jv k J) : SX 10 0 0 mX11_clauseHere [.ref 384] (kp M S L) (fun v M' => ∃ S', M' = kp M S' L ∧ kfk S S' ∧ ((wjN T N (sk T N q) = -1 ∧ v = some (.int 0) ∧ S' 0 9 = fE (sk T N q) 0) ∨ ∃ w, w < 4 ∧ wjN T N (sk T N q) = nI w ∧ ((jms k w J ∧ v = some (.int 0) ∧ S' 0 9 = fE (sk T N q) 4) ∨ (¬ jms k w J ∧ ((∃ g, jcF T N w (nx T N (sk T N q)) J = .error g ∧ v = some (.int 0) ∧ S' 0 9 = g) ∨ ∃ q1 J1, jcF T N w (nx T N (sk T N q)) J = .ok (sk T N q1, J1) ∧ v = some (.int 1) ∧ kb1 S' T N q1 ∧ kjr (S' 6) J1 (k + 1) ∧ S' 0 14 = nI (k + 1)))))) := by
  refine SX.intro [some (.ref 384), none, none] (by decide +kernel) (Nat.le_of_ble_eq_true rfl) rfl (fun E hE hQ => ?_)
  refine rx_aload_n hE dX11_clauseHere_0 (i := 0) rfl rfl ?_
  refine rx_call0 (rx_callV (av := []) hE dX11_clauseHere_1 lk_X11_105 (c_X11_seeB hM hN hq) (kp_o hM) np_X11_see rfl rfl (by decide) (Nat.le_of_ble_eq_true rfl) rfl ?_)
  rintro v M' ⟨rfl, rfl⟩
  have q1 := hq.mv (sk_le (T := T) hq.2.1).2
  have hzz := sk_sk (T := T) (N := N) hq.2.1
  refine rx_pop hE dX11_clauseHere_4 rfl ?_
  refine rx_aload_n hE dX11_clauseHere_5 (i := 0) rfl rfl ?_
  refine rx_getf hE dX11_clauseHere_6 fl_X11_102_10 (kp_o hM) rfl ?_
  refine rx_int _ (nI (sk T N q)) rfl ?_
  refine rx_istore_n_1 hE dX11_clauseHere_9 (by decide) rfl ?_
  refine rx_aload_n hE dX11_clauseHere_10 (i := 0) rfl rfl ?_
  refine rx_getf hE dX11_clauseHere_11 fl_X11_158_10 (kp_o hM) rfl ?_
  refine rx_int _ 6 h11 ?_
  refine rx_bipush hE dX11_clauseHere_14 (v := 6) (by decide) ?_
  refine rx_icmp_ne (tgt := 23) hE dX11_clauseHere_16 (by decide) (fun c16 => absurd rfl c16) (fun c16 => ?_)
  refine rx_iconst hE dX11_clauseHere_19 (v := 1) (by decide) ?_
  refine rx_goto (tgt := 24) hE dX11_clauseHere_20 (by decide) ?_
  refine rx_istore_n_2 hE dX11_clauseHere_24 (by decide) rfl ?_
  refine rx_iload_n hE dX11_clauseHere_25 (i := 2) rfl rfl ?_
  refine rx_if_eq (tgt := 39) hE dX11_clauseHere_26 (by decide) (fun c26 => absurd c26 (by decide)) (fun c26 => ?_)
  refine rx_aload_n hE dX11_clauseHere_29 (i := 0) rfl rfl ?_
  refine rx_call0 (rx_callV (av := []) hE dX11_clauseHere_30 lk_X11_252 (c_X11_isJunctionWord (S := (k_f S 8 (nI (sk T N q)))) hM hN q1.1.1 q1.1.2 q1.2.1 q1.2.2.1) (kp_o hM) np_X11_isJunctionWord rfl rfl (by decide) (Nat.le_of_ble_eq_true rfl) rfl ?_)
  rw [hzz, k_ff2, qjw_wj]
  rintro v M' ⟨rfl, rfl⟩
  refine rx_if_ne (tgt := 56) hE dX11_clauseHere_33 (by decide) (fun c33 => ?_) (fun c33 => ?_)
  · have hwn : ¬ wjN T N (sk T N q) = -1 := fun z => c33 (if_pos z)
    obtain ⟨w, hw4, hww⟩ := (wj_is T N (sk T N q)).resolve_left hwn
    have hwt := wj_te q1.2.1 hwn
    obtain ⟨R, hR6, hR, _⟩ := hv0.1
    have hBB : ¬ k = 0 → ∃ B, B ≤ 12 ∧ J 9 0 = nI B := fun z => by
      obtain ⟨b, _, h2, h3⟩ := (hv0.2.2.2.2.2 z).1
      exact ⟨b, h2, h3⟩
    refine rx_aload_n hE dX11_clauseHere_56 (i := 0) rfl rfl ?_
    refine rx_getf hE dX11_clauseHere_57 fl_X11_255_10 (kp_o hM) rfl ?_
    refine rx_int _ (nI k) h14 ?_
    refine rx_iload_n hE dX11_clauseHere_60 (i := 2) rfl rfl ?_
    refine rx_if_eq (tgt := 69) hE dX11_clauseHere_61 (by decide) (fun c61 => absurd c61 (by decide)) (fun c61 => ?_)
    refine rx_bipush hE dX11_clauseHere_64 (v := 40) (by decide) ?_
    refine rx_goto (tgt := 71) hE dX11_clauseHere_66 (by decide) ?_
    refine rx_icmp_ne (tgt := 81) hE dX11_clauseHere_71 (by decide) (fun c71 => ?_) (fun c71 => ?_)
    · have hk4 : ¬ k = 40 := fun z => c71 (by rw [z]; rfl)
      refine rx_aload_n hE dX11_clauseHere_81 (i := 0) rfl rfl ?_
      refine rx_dup hE dX11_clauseHere_82 rfl ?_
      refine rx_getf hE dX11_clauseHere_83 fl_X11_255_10 (kp_o hM) rfl ?_
      refine rx_int _ (nI k) h14 ?_
      refine rx_iconst hE dX11_clauseHere_86 (v := 1) (by decide) ?_
      refine rx_iadd hE dX11_clauseHere_87 ?_
      refine rx_int _ (nI (k + 1)) (nI_1 _) ?_
      refine rx_put hE dX11_clauseHere_88 fl_X11_255_10 fw_10_14 (kp_o hM) (fun _ => rfl) (fun _ => rfl) (Nat.le_of_ble_eq_true rfl) ?_
      refine rx_mem (M' := kp M (k_f (k_f S 8 (nI (sk T N q))) 14 (nI (k + 1))) L) kw_c14 ?_
      have q2 : kb1 (k_f (k_f S 8 (nI (sk T N q))) 14 (nI (k + 1))) T N (sk T N q) := ⟨q1.1, q1.2.1, q1.2.2.1, q1.2.2.2⟩
      refine rx_iload_n hE dX11_clauseHere_91 (i := 2) rfl rfl ?_
      refine rx_if_eq (tgt := 103) hE dX11_clauseHere_92 (by decide) (fun c92 => absurd c92 (by decide)) (fun c92 => ?_)
      refine rx_aload_n hE dX11_clauseHere_95 (i := 0) rfl rfl ?_
      refine rx_iload_n hE dX11_clauseHere_96 (i := 1) rfl rfl ?_
      refine rx_call0 (rx_callV (av := [.int (nI (sk T N q))]) hE dX11_clauseHere_97 lk_X11_258 (c_X11_junctionLineHere (S := (k_f (k_f S 8 (nI (sk T N q))) 14 (nI (k + 1)))) (J := J) (k := k) hM hN q2 hzz hwt.2 hj hw4 hww hR hR6 hBB) (kp_o hM) np_X11_junctionLineHere rfl rfl (by decide) (Nat.le_of_ble_eq_true rfl) rfl ?_)
      rintro v M' ⟨S3, rfl, f3, hv⟩
      obtain ⟨vv, rfl, hn⟩ : ∃ vv : Int32, v = some (.int vv) ∧ narrow .boolean (.int vv) = .int vv := by
        rcases hv with ⟨_, e, _⟩ | ⟨_, ⟨_, _, e, _⟩ | ⟨_, _, _, e, _⟩⟩
        · exact ⟨0, e, rfl⟩
        · exact ⟨0, e, rfl⟩
        · exact ⟨1, e, rfl⟩
      refine rx_goto (tgt := 107) hE dX11_clauseHere_100 (by decide) ?_
      exact rx_tret hE hQ hn rfl dX11_clauseHere_107 ⟨S3, rfl, (kfk.f S (i := 8) (by omega) _).trans ((kfk.f _ (i := 14) (by omega) _).trans f3.k), Or.inr ⟨w, hw4, hww, (by
        rcases hv with ⟨h1, e, e9⟩ | ⟨h1, h2⟩
        · exact Or.inl ⟨Or.inr h1, e, e9⟩
        · refine Or.inr ⟨fun z => z.elim (fun z => absurd z (by omega)) h1, ?_⟩
          rcases h2 with ⟨g, hg, e, e9⟩ | ⟨q3, J3, hJ, e, k3, hj3⟩
          · exact Or.inl ⟨g, hg, e, e9⟩
          · exact Or.inr ⟨q3, J3, hJ, e, k3, hj3, (f3.2 14 (by decide) (by decide) (by decide)).trans rfl⟩)⟩⟩
    · have hk4 : k = 40 := nI_inj (by omega) (by decide) c71
      refine rx_aload_n hE dX11_clauseHere_74 (i := 0) rfl rfl ?_
      refine rx_iconst hE dX11_clauseHere_75 (v := 4) (by decide) ?_
      refine rx_iload_n hE dX11_clauseHere_76 (i := 1) rfl rfl ?_
      refine rx_call0 (rx_callV (av := [.int (nI 4), .int (nI (sk T N q))]) hE dX11_clauseHere_77 lk_X11_123 (c_X11_failsB hM q1.2.2.2 (sk T N q) 4) (kp_o hM) np_X11_fails rfl rfl (by decide) (Nat.le_of_ble_eq_true rfl) rfl ?_)
      rintro v M' ⟨rfl, S3, rfl, f3, e9⟩
      exact rx_tret hE hQ rfl rfl dX11_clauseHere_80 ⟨S3, rfl, (kfk.f S (i := 8) (by omega) _).trans f3.k, Or.inr ⟨w, hw4, hww, Or.inl ⟨Or.inl (by omega), rfl, e9⟩⟩⟩
  · have hwn : wjN T N (sk T N q) = -1 := Classical.byContradiction (fun z => absurd c33 (by rw [if_neg z]; decide))
    refine rx_goto (tgt := 49) hE dX11_clauseHere_36 (by decide) ?_
    refine rx_aload_n hE dX11_clauseHere_49 (i := 0) rfl rfl ?_
    refine rx_iconst hE dX11_clauseHere_50 (v := 0) (by decide) ?_
    refine rx_iload_n hE dX11_clauseHere_51 (i := 1) rfl rfl ?_
    refine rx_call0 (rx_callV (av := [.int (nI 0), .int (nI (sk T N q))]) hE dX11_clauseHere_52 lk_X11_123 (c_X11_failsB hM q1.2.2.2 (sk T N q) 0) (kp_o hM) np_X11_fails rfl rfl (by decide) (Nat.le_of_ble_eq_true rfl) rfl ?_)
    rintro v M' ⟨rfl, S3, rfl, f3, e9⟩
    exact rx_tret hE hQ rfl rfl dX11_clauseHere_55 ⟨S3, rfl, (kfk.f S (i := 8) (by omega) _).trans f3.k, Or.inl ⟨hwn, rfl, e9⟩⟩
