def kqa (S S' : gS) : Prop := (∀ k, k = 1 ∨ k = 2 ∨ k = 4 ∨ k = 5 ∨ k = 10 ∨ k = 20 ∨ k = 21 ∨ k = 22 ∨ k = 23 → S' k = S k) ∧ ∀ i, i = 1 ∨ i = 2 ∨ i = 21 ∨ i = 22 ∨ i = 24 → S' 0 i = S 0 i
def kAct (M : gM) (S : gS) (u : Nat) (H : Nat → gJn) (J J' : gJn) (M' : gM) : Prop := ∃ (S' : gS) (L' : gLg) (g' : Nat → Int32), M' = kp M (kput S' (j_s J' 7 g')) L' ∧ kqa S S' ∧ kha S' (hpu u) (hph u H J)
theorem kpu_qa (S : gS) (u : Nat) (J : gJn) : kqa S (kpu S u J) := ⟨fun k hk => by
  rcases hk with rfl | rfl | rfl | rfl | rfl | rfl | rfl | rfl | rfl <;> rfl, fun i hi => by
  rcases hi with rfl | rfl | rfl | rfl | rfl <;> rfl⟩
theorem kha.push7 {S : gS} {u : Nat} {H : Nat → gJn} (h : kha S u H) (J : gJn) (g : Nat → Int32) : kha (kpu S u (j_s J 7 g)) (hpu u) (hph u H J) := by
  obtain ⟨h1, h2, h3⟩ := h.push (j_s J 7 g)
  refine ⟨h1, h2, fun i hi k hk => ?_⟩
  rw [h3 i hi k hk]
  unfold hph
  split
  · split
    · rfl
    · exact krow_s7 J g hk
  · split
    · rfl
    · exact krow_s7 J g hk
theorem kAct.mk {M : gM} {S : gS} {L : gLg} {u : Nat} {H : Nat → gJn} (h : kha S u H) (J J' : gJn) (g g' : Nat → Int32) : kAct M S u H J J' (kp M (kput (kpu S u (j_s J 7 g)) (j_s J' 7 g')) L) := ⟨_, L, g', rfl, kpu_qa _ _ _, h.push7 J g⟩
theorem kb.pu {S : gS} {t : gJn → Nat → Int32 → Bool} (h : kb S t) (u : Nat) (J : gJn) : kb (kpu S u J) t := ⟨h.1, h.2.1, kT_eq rfl rfl rfl rfl h.2.2⟩
theorem j_leave_s7 (J : gJn) (g : Nat → Int32) (r : Nat) : j_leave (j_s J 7 g) r = j_s (j_leave J r) 7 g := by
  unfold j_leave
  rw [j_s_s7 _ _ (by decide), j_s_s7 _ _ (by decide)]
  rfl
theorem ksaid_s7 (d : Nat → Int32) (J : gJn) (g : Nat → Int32) : ksaid d (j_s J 7 g) = ksaid d J := by
  funext q
  unfold ksaid
  have e : ∀ m, (j_s J 7 g) (ktab m) = J (ktab m) := fun m => if_neg (by rcases ktab_lt m with h | h | h | h | h <;> rw [h] <;> decide)
  rw [e]
  rfl
set_option maxRecDepth 100000 in
set_option maxHeartbeats 4000000 in
theorem c_X11_beat {M : gM} {S : gS} {L : gLg} {J : gJn} {g : Nat → Int32} (hM : 408 ≤ M.1) {t : gJn → Nat → Int32 → Bool} (hk : kok S J t) {u : Nat} {H : Nat → gJn} (hh : kha S u H) : SX 7 0 0 mX11_beat [.ref 384] (kp M (kput S (j_s J 7 g)) L) (fun v M' => if j_isTold J = 0 ∨ J 9 3 = 999 then (v = some (.int (-1)) ∧ M' = kp M (kput S (j_s J 7 g)) L) else (v = some (.int (jset t J)) ∧ kAct M S u H J (jone t J) M')) := by
  refine SX.intro [some (.ref 384)] (by decide +kernel) (Nat.le_of_ble_eq_true rfl) rfl (fun E hE hQ => ?_)
  refine rx_aload_n hE dX11_beat_0 (i := 0) rfl rfl ?_
  refine rx_call0 (rx_callV (av := []) hE dX11_beat_1 lk_X11_294 (c_X11_isJunction hM) (kp_o hM) np_X11_isJunction rfl rfl (by decide) (Nat.le_of_ble_eq_true rfl) rfl ?_)
  rintro v M' ⟨rfl, rfl⟩
  refine rx_int _ (j_isTold J) hk.isJ ?_
  refine rx_if_eq (tgt := 20) hE dX11_beat_4 (by decide) (fun c4 => ?_) (fun c4 => ?_)
  · refine rx_iconst hE dX11_beat_20 (v := -1) (by decide) ?_
    exact rx_iret hE hQ rfl dX11_beat_21 (by rw [if_pos (Or.inl c4)]; exact ⟨rfl, rfl⟩)
  · refine rx_aload_n hE dX11_beat_7 (i := 0) rfl rfl ?_
    refine rx_getf hE dX11_beat_8 fl_X11_39_10 (kp_o hM) rfl ?_
    refine rx_bipush hE dX11_beat_11 (v := 10) (by decide) ?_
    refine rx_ialdN (i := 10) hE dX11_beat_13 (kp_10 hM) (by omega) (by decide) ?_
    refine rx_int _ _ kr_c3 ?_
    refine rx_int _ (J 9 3) rfl ?_
    refine rx_sipush hE dX11_beat_14 (v := 999) (by decide) ?_
    refine rx_icmp_ne (tgt := 22) hE dX11_beat_17 (by decide) (fun c17 => ?_) (fun c17 => ?_)
    · have hg : ¬ (j_isTold J = 0 ∨ J 9 3 = 999) := fun q => q.elim c4 c17
      obtain ⟨hb, hf, hT9⟩ := hk.told c4
      refine rx_aload_n hE dX11_beat_22 (i := 0) rfl rfl ?_
      refine rx_call0 (rx_callV (av := []) hE dX11_beat_23 lk_X11_365 (c_X11_keepsAct hM hh) (kp_o hM) np_X11_keepsAct rfl rfl (by decide) (Nat.le_of_ble_eq_true rfl) rfl ?_)
      rintro v M' ⟨rfl, rfl⟩
      refine rx_aload_n hE dX11_beat_26 (i := 0) rfl rfl ?_
      refine rx_call0 (rx_callV (av := []) hE dX11_beat_27 lk_X11_362 (c_X11_passg hM (hb.pu u _).1 (hb.pu u _).2.1 (hb.pu u _).2.2 hf) (kp_o hM) np_X11_passes rfl rfl (by decide) (Nat.le_of_ble_eq_true rfl) rfl ?_)
      rintro v M' ⟨rfl, S1, L1, g1, rfl, hI, hg1⟩
      exact rx_iret hE hQ rfl dX11_beat_30 (by
        rw [if_neg hg]
        obtain ⟨tp, rfl, _⟩ := hI
        have hp := hh.push7 J g
        exact ⟨rfl, _, L1, g1, rfl, ⟨fun k hk => by rcases hk with rfl | rfl | rfl | rfl | rfl | rfl | rfl | rfl | rfl <;> rfl, fun i hi => by rcases hi with rfl | rfl | rfl | rfl | rfl <;> rfl⟩, hp.1, hp.2.1, hp.2.2⟩)
    · refine rx_iconst hE dX11_beat_20 (v := -1) (by decide) ?_
      exact rx_iret hE hQ rfl dX11_beat_21 (by rw [if_pos (Or.inr c17)]; exact ⟨rfl, rfl⟩)
set_option maxRecDepth 100000 in
set_option maxHeartbeats 4000000 in
theorem c_X11_come {M : gM} {S : gS} {L : gLg} {J : gJn} {g : Nat → Int32} (hM : 408 ≤ M.1) {t : gJn → Nat → Int32 → Bool} (hk : kok S J t) {u : Nat} {H : Nat → gJn} (hh : kha S u H) (road : Int32)  (many : Int32) : SX 2 0 0 mX11_come [.ref 384, .int road, .int many] (kp M (kput S (j_s J 7 g)) L) (fun v M' => if j_hasRoad J road = 0 ∨ q_in many 1 20 = 0 then (v = some (.int (-1)) ∧ M' = kp M (kput S (j_s J 7 g)) L) else (v = some (.int (j_addw J road.toNatClampNeg many 0 road.toNatClampNeg)) ∧ kAct M S u H J (j_addw J road.toNatClampNeg many) M')) := by
  refine SX.intro [some (.ref 384), some (.int road), some (.int many)] (by decide +kernel) (Nat.le_of_ble_eq_true rfl) rfl (fun E hE hQ => ?_)
  refine rx_aload_n hE dX11_come_0 (i := 0) rfl rfl ?_
  refine rx_iload_n hE dX11_come_1 (i := 1) rfl rfl ?_
  refine rx_call0 (rx_callV (av := [.int _]) hE dX11_come_2 lk_X11_309 (c_X11_isRoad hM _) (kp_o hM) np_X11_isRoad rfl rfl (by decide) (Nat.le_of_ble_eq_true rfl) rfl ?_)
  rintro v M' ⟨rfl, rfl⟩
  refine rx_int _ (j_hasRoad J _) rfl ?_
  refine rx_if_eq (tgt := 20) hE dX11_come_5 (by decide) (fun c5 => ?_) (fun c5 => ?_)
  · refine rx_iconst hE dX11_come_20 (v := -1) (by decide) ?_
    exact rx_iret hE hQ rfl dX11_come_21 (by rw [if_pos (Or.inl c5)]; exact ⟨rfl, rfl⟩)
  · refine rx_iload_n hE dX11_come_8 (i := 2) rfl rfl ?_
    refine rx_i2l hE dX11_come_9 ?_
    refine rx_lconst hE dX11_come_10 (v := 1) (by decide) ?_
    refine rx_ldc2 hE dX11_come_11 kl_X11_368 ?_
    refine rx_call0 (rx_callS (av := [.long _, .long _, .long _]) hE dX11_come_14 lk_X11_130 (c_X11_in _ _ _) np_X11_in rfl rfl (by decide) (Nat.le_of_ble_eq_true rfl) rfl ?_)
    rintro v M' ⟨rfl, rfl⟩
    refine rx_int _ (q_in _ (1) (20)) (k_in_eq _ _ _ (by decide) (by decide)) ?_
    refine rx_if_ne (tgt := 22) hE dX11_come_17 (by decide) (fun c17 => ?_) (fun c17 => ?_)
    · have hg : ¬ (j_hasRoad J road = 0 ∨ q_in many 1 20 = 0) := fun q => q.elim c5 c17
      obtain ⟨hb, hf, hT9, r, hr, rfl⟩ := hk.road c5
      have hr6 := hf.1.2.1
      have hrc : (nI r).toNatClampNeg = r := nI_clamp (by omega)
      refine rx_aload_n hE dX11_come_22 (i := 0) rfl rfl ?_
      refine rx_call0 (rx_callV (av := []) hE dX11_come_23 lk_X11_365 (c_X11_keepsAct hM hh) (kp_o hM) np_X11_keepsAct rfl rfl (by decide) (Nat.le_of_ble_eq_true rfl) rfl ?_)
      rintro v M' ⟨rfl, rfl⟩
      refine rx_aload_n hE dX11_come_26 (i := 0) rfl rfl ?_
      refine rx_iload_n hE dX11_come_27 (i := 1) rfl rfl ?_
      refine rx_iload_n hE dX11_come_28 (i := 2) rfl rfl ?_
      refine rx_call0 (rx_callV (av := [.int (nI r), .int many]) hE dX11_come_29 lk_X11_350 (c_X11_comes hM many (r := r) (by omega)) (kp_o hM) np_X11_comes rfl rfl (by decide) (Nat.le_of_ble_eq_true rfl) rfl ?_)
      rintro v M' ⟨rfl, rfl⟩
      rw [j_addw_s7]
      refine rx_aload_n hE dX11_come_32 (i := 0) rfl rfl ?_
      refine rx_iload_n hE dX11_come_33 (i := 1) rfl rfl ?_
      refine rx_call0 (rx_callV (av := [.int (nI r)]) hE dX11_come_34 lk_X11_312 (c_X11_waitOn hM (r := r) (by omega)) (kp_o hM) np_X11_waitOn rfl rfl (by decide) (Nat.le_of_ble_eq_true rfl) rfl ?_)
      rintro v M' ⟨rfl, rfl⟩
      refine rx_int _ (j_addw J r many 0 r) rfl ?_
      exact rx_iret hE hQ rfl dX11_come_37 (by rw [if_neg hg]; exact ⟨by rw [hrc], by rw [hrc]; exact kAct.mk hh J _ g _⟩)
    · refine rx_iconst hE dX11_come_20 (v := -1) (by decide) ?_
      exact rx_iret hE hQ rfl dX11_come_21 (by rw [if_pos (Or.inr c17)]; exact ⟨rfl, rfl⟩)
set_option maxRecDepth 100000 in
set_option maxHeartbeats 4000000 in
theorem c_X11_wave {M : gM} {S : gS} {L : gLg} {J : gJn} {g : Nat → Int32} (hM : 408 ≤ M.1) {t : gJn → Nat → Int32 → Bool} (hk : kok S J t) {u : Nat} {H : Nat → gJn} (hh : kha S u H) (road : Int32) : SX 2 0 0 mX11_wave [.ref 384, .int road] (kp M (kput S (j_s J 7 g)) L) (fun v M' => if j_hasRoad J road = 0 ∨ J 0 road.toNatClampNeg = 0 then (v = some (.int (-1)) ∧ M' = kp M (kput S (j_s J 7 g)) L) else (v = some (.int (j_many J road.toNatClampNeg)) ∧ kAct M S u H J (j_leave J road.toNatClampNeg) M')) := by
  refine SX.intro [some (.ref 384), some (.int road)] (by decide +kernel) (Nat.le_of_ble_eq_true rfl) rfl (fun E hE hQ => ?_)
  refine rx_aload_n hE dX11_wave_0 (i := 0) rfl rfl ?_
  refine rx_iload_n hE dX11_wave_1 (i := 1) rfl rfl ?_
  refine rx_call0 (rx_callV (av := [.int _]) hE dX11_wave_2 lk_X11_309 (c_X11_isRoad hM _) (kp_o hM) np_X11_isRoad rfl rfl (by decide) (Nat.le_of_ble_eq_true rfl) rfl ?_)
  rintro v M' ⟨rfl, rfl⟩
  refine rx_int _ (j_hasRoad J _) rfl ?_
  refine rx_if_eq (tgt := 16) hE dX11_wave_5 (by decide) (fun c5 => ?_) (fun c5 => ?_)
  · refine rx_iconst hE dX11_wave_16 (v := -1) (by decide) ?_
    exact rx_iret hE hQ rfl dX11_wave_17 (by rw [if_pos (Or.inl c5)]; exact ⟨rfl, rfl⟩)
  · obtain ⟨hb, hf, hT9, r, hr, rfl⟩ := hk.road c5
    have hr6 := hf.1.2.1
    have hrc : (nI r).toNatClampNeg = r := nI_clamp (by omega)
    refine rx_aload_n hE dX11_wave_8 (i := 0) rfl rfl ?_
    refine rx_iload_n hE dX11_wave_9 (i := 1) rfl rfl ?_
    refine rx_call0 (rx_callV (av := [.int (nI r)]) hE dX11_wave_10 lk_X11_312 (c_X11_waitOn hM (r := r) (by omega)) (kp_o hM) np_X11_waitOn rfl rfl (by decide) (Nat.le_of_ble_eq_true rfl) rfl ?_)
    rintro v M' ⟨rfl, rfl⟩
    refine rx_int _ (J 0 r) rfl ?_
    refine rx_if_ne (tgt := 18) hE dX11_wave_13 (by decide) (fun c13 => ?_) (fun c13 => ?_)
    · have hg : ¬ (j_hasRoad J (nI r) = 0 ∨ J 0 (nI r).toNatClampNeg = 0) := fun q => q.elim c5 (fun q => c13 (by rw [hrc] at q; exact q))
      refine rx_aload_n hE dX11_wave_18 (i := 0) rfl rfl ?_
      refine rx_call0 (rx_callV (av := []) hE dX11_wave_19 lk_X11_365 (c_X11_keepsAct hM hh) (kp_o hM) np_X11_keepsAct rfl rfl (by decide) (Nat.le_of_ble_eq_true rfl) rfl ?_)
      rintro v M' ⟨rfl, rfl⟩
      refine rx_aload_n hE dX11_wave_22 (i := 0) rfl rfl ?_
      refine rx_iload_n hE dX11_wave_23 (i := 1) rfl rfl ?_
      refine rx_call0 (rx_callV (av := [.int (nI r)]) hE dX11_wave_24 lk_X11_356 (c_X11_goes hM (r := r) (by omega)) (kp_o hM) np_X11_goes rfl rfl (by decide) (Nat.le_of_ble_eq_true rfl) rfl ?_)
      rintro v M' ⟨rfl, rfl⟩
      rw [j_leave_s7]
      exact rx_iret hE hQ rfl dX11_wave_27 (by rw [if_neg hg]; exact ⟨by rw [hrc]; rfl, by rw [hrc]; exact kAct.mk hh J _ g _⟩)
    · refine rx_iconst hE dX11_wave_16 (v := -1) (by decide) ?_
      exact rx_iret hE hQ rfl dX11_wave_17 (by rw [if_pos (Or.inr (by rw [hrc]; exact c13))]; exact ⟨rfl, rfl⟩)
set_option maxRecDepth 100000 in
set_option maxHeartbeats 4000000 in
theorem c_X11_score {M : gM} {S : gS} {L : gLg} {J : gJn} {g : Nat → Int32} (hM : 408 ≤ M.1) {t : gJn → Nat → Int32 → Bool} (hk : kok S J t) {u : Nat} {H : Nat → gJn} (hh : kha S u H) (b : Int32)  (road : Int32) : SX 2 0 0 mX11_score [.ref 384, .int b, .int road] (kp M (kput S (j_s J 7 g)) L) (fun v M' => if j_hasBeat J b = 0 ∨ j_hasRoad J road = 0 then (v = some (.int (-1)) ∧ M' = kp M (kput S (j_s J 7 g)) L) else (v = some (.int (jbit (qbj J b.toNatClampNeg road.toNatClampNeg 8 b.toNatClampNeg) road.toNatClampNeg)) ∧ kAct M S u H J (qbj J b.toNatClampNeg road.toNatClampNeg) M')) := by
  refine SX.intro [some (.ref 384), some (.int b), some (.int road)] (by decide +kernel) (Nat.le_of_ble_eq_true rfl) rfl (fun E hE hQ => ?_)
  refine rx_aload_n hE dX11_score_0 (i := 0) rfl rfl ?_
  refine rx_iload_n hE dX11_score_1 (i := 1) rfl rfl ?_
  refine rx_call0 (rx_callV (av := [.int _]) hE dX11_score_2 lk_X11_324 (c_X11_isBeat hM _) (kp_o hM) np_X11_isBeat rfl rfl (by decide) (Nat.le_of_ble_eq_true rfl) rfl ?_)
  rintro v M' ⟨rfl, rfl⟩
  refine rx_int _ (j_hasBeat J _) (hk.beat _) ?_
  refine rx_if_eq (tgt := 16) hE dX11_score_5 (by decide) (fun c5 => ?_) (fun c5 => ?_)
  · refine rx_iconst hE dX11_score_16 (v := -1) (by decide) ?_
    exact rx_iret hE hQ rfl dX11_score_17 (by rw [if_pos (Or.inl c5)]; exact ⟨rfl, rfl⟩)
  · refine rx_aload_n hE dX11_score_8 (i := 0) rfl rfl ?_
    refine rx_iload_n hE dX11_score_9 (i := 2) rfl rfl ?_
    refine rx_call0 (rx_callV (av := [.int _]) hE dX11_score_10 lk_X11_309 (c_X11_isRoad hM _) (kp_o hM) np_X11_isRoad rfl rfl (by decide) (Nat.le_of_ble_eq_true rfl) rfl ?_)
    rintro v M' ⟨rfl, rfl⟩
    refine rx_int _ (j_hasRoad J _) rfl ?_
    refine rx_if_ne (tgt := 18) hE dX11_score_13 (by decide) (fun c13 => ?_) (fun c13 => ?_)
    · have hg : ¬ (j_hasBeat J b = 0 ∨ j_hasRoad J road = 0) := fun q => q.elim c5 c13
      obtain ⟨hb, hf, hT9, r, hr, rfl⟩ := hk.road c13
      obtain ⟨_, _, _, b, hbb, rfl⟩ := hk.beatN c5
      have hr6 := hf.1.2.1
      have hB12 := hf.1.2.2.2.2.2.1
      have hrc : (nI r).toNatClampNeg = r := nI_clamp (by omega)
      have hbc : (nI b).toNatClampNeg = b := nI_clamp (by omega)
      refine rx_aload_n hE dX11_score_18 (i := 0) rfl rfl ?_
      refine rx_call0 (rx_callV (av := []) hE dX11_score_19 lk_X11_365 (c_X11_keepsAct hM hh) (kp_o hM) np_X11_keepsAct rfl rfl (by decide) (Nat.le_of_ble_eq_true rfl) rfl ?_)
      rintro v M' ⟨rfl, rfl⟩
      refine rx_aload_n hE dX11_score_22 (i := 0) rfl rfl ?_
      refine rx_getf hE dX11_score_23 fl_X11_39_10 (kp_o hM) rfl ?_
      refine rx_bipush hE dX11_score_26 (v := 41) (by decide) ?_
      refine rx_iload_n hE dX11_score_28 (i := 1) rfl rfl ?_
      refine rx_iadd hE dX11_score_29 ?_
      refine rx_int _ (nI (41 + b)) (nI_add 41 b) ?_
      refine rx_dup2 hE dX11_score_30 rfl rfl ?_
      refine rx_ialdN (i := 41 + b) hE dX11_score_31 (kp_10 hM) (by omega) (by decide) ?_
      refine rx_int _ (J 8 b) (kr_8 (by omega)) ?_
      refine rx_iconst hE dX11_score_32 (v := 1) (by decide) ?_
      refine rx_iload_n hE dX11_score_33 (i := 2) rfl rfl ?_
      refine rx_ishl hE dX11_score_34 ?_
      refine rx_ixor hE dX11_score_35 ?_
      refine rx_iastN (i := 41 + b) hE dX11_score_36 (kp_10 hM) (by omega) (by decide) ?_
      refine rx_mem (M' := kp M (kput (kpu S u (j_s J 7 g)) (j_s (qbj J b r) 7 g)) L) (by rw [kx_8 (by omega), j_s_s7 _ _ (by decide)]; rfl) ?_
      refine rx_aload_n hE dX11_score_37 (i := 0) rfl rfl ?_
      refine rx_getf hE dX11_score_38 fl_X11_39_10 (kp_o hM) rfl ?_
      refine rx_bipush hE dX11_score_41 (v := 41) (by decide) ?_
      refine rx_iload_n hE dX11_score_43 (i := 1) rfl rfl ?_
      refine rx_iadd hE dX11_score_44 ?_
      refine rx_int _ (nI (41 + b)) (nI_add 41 b) ?_
      refine rx_ialdN (i := 41 + b) hE dX11_score_45 (kp_10 hM) (by omega) (by decide) ?_
      refine rx_int _ (qbj J b r 8 b) (kr_8 (by omega)) ?_
      refine rx_iload_n hE dX11_score_46 (i := 2) rfl rfl ?_
      refine rx_ishr hE dX11_score_47 ?_
      refine rx_iconst hE dX11_score_48 (v := 1) (by decide) ?_
      refine rx_iand hE dX11_score_49 ?_
      exact rx_iret hE hQ rfl dX11_score_50 (by rw [if_neg hg]; exact ⟨by rw [hrc, hbc]; rfl, by rw [hrc, hbc]; exact kAct.mk hh J _ g _⟩)
    · refine rx_iconst hE dX11_score_16 (v := -1) (by decide) ?_
      exact rx_iret hE hQ rfl dX11_score_17 (by rw [if_pos (Or.inr c13)]; exact ⟨rfl, rfl⟩)
set_option maxRecDepth 100000 in
set_option maxHeartbeats 4000000 in
theorem c_X11_tune {M : gM} {S : gS} {L : gLg} {J : gJn} {g : Nat → Int32} (hM : 408 ≤ M.1) {t : gJn → Nat → Int32 → Bool} (hk : kok S J t) {u : Nat} {H : Nat → gJn} (hh : kha S u H) (road : Int32)  (part : Int32) : SX 2 0 0 mX11_tune [.ref 384, .int road, .int part] (kp M (kput S (j_s J 7 g)) L) (fun v M' => if j_hasRoad J road = 0 ∨ q_in part 0 11 = 0 ∨ J 2 road.toNatClampNeg = part then (v = some (.int (-1)) ∧ M' = kp M (kput S (j_s J 7 g)) L) else (v = some (.int (J 2 road.toNatClampNeg)) ∧ kAct M S u H J (j_s J 2 (upd (J 2) road.toNatClampNeg part)) M')) := by
  refine SX.intro [some (.ref 384), some (.int road), some (.int part), none] (by decide +kernel) (Nat.le_of_ble_eq_true rfl) rfl (fun E hE hQ => ?_)
  refine rx_aload_n hE dX11_tune_0 (i := 0) rfl rfl ?_
  refine rx_iload_n hE dX11_tune_1 (i := 1) rfl rfl ?_
  refine rx_call0 (rx_callV (av := [.int _]) hE dX11_tune_2 lk_X11_309 (c_X11_isRoad hM _) (kp_o hM) np_X11_isRoad rfl rfl (by decide) (Nat.le_of_ble_eq_true rfl) rfl ?_)
  rintro v M' ⟨rfl, rfl⟩
  refine rx_int _ (j_hasRoad J _) rfl ?_
  refine rx_if_eq (tgt := 29) hE dX11_tune_5 (by decide) (fun c5 => ?_) (fun c5 => ?_)
  · refine rx_iconst hE dX11_tune_29 (v := -1) (by decide) ?_
    exact rx_iret hE hQ rfl dX11_tune_30 (by rw [if_pos (Or.inl c5)]; exact ⟨rfl, rfl⟩)
  · obtain ⟨hb, hf, hT9, r, hr, rfl⟩ := hk.road c5
    have hr6 := hf.1.2.1
    have hrc : (nI r).toNatClampNeg = r := nI_clamp (by omega)
    refine rx_iload_n hE dX11_tune_8 (i := 2) rfl rfl ?_
    refine rx_i2l hE dX11_tune_9 ?_
    refine rx_lconst hE dX11_tune_10 (v := 0) (by decide) ?_
    refine rx_ldc2 hE dX11_tune_11 kl_X11_370 ?_
    refine rx_call0 (rx_callS (av := [.long _, .long _, .long _]) hE dX11_tune_14 lk_X11_130 (c_X11_in _ _ _) np_X11_in rfl rfl (by decide) (Nat.le_of_ble_eq_true rfl) rfl ?_)
    rintro v M' ⟨rfl, rfl⟩
    refine rx_int _ (q_in _ (0) (11)) (k_in_eq _ _ _ (by decide) (by decide)) ?_
    refine rx_if_eq (tgt := 29) hE dX11_tune_17 (by decide) (fun c17 => ?_) (fun c17 => ?_)
    · refine rx_iconst hE dX11_tune_29 (v := -1) (by decide) ?_
      exact rx_iret hE hQ rfl dX11_tune_30 (by rw [if_pos (Or.inr (Or.inl c17))]; exact ⟨rfl, rfl⟩)
    · refine rx_aload_n hE dX11_tune_20 (i := 0) rfl rfl ?_
      refine rx_iload_n hE dX11_tune_21 (i := 1) rfl rfl ?_
      refine rx_call0 (rx_callV (av := [.int (nI r)]) hE dX11_tune_22 lk_X11_300 (c_X11_partOf hM (r := r) (by omega)) (kp_o hM) np_X11_partOf rfl rfl (by decide) (Nat.le_of_ble_eq_true rfl) rfl ?_)
      rintro v M' ⟨rfl, rfl⟩
      refine rx_int _ (J 2 r) rfl ?_
      refine rx_iload_n hE dX11_tune_25 (i := 2) rfl rfl ?_
      refine rx_icmp_ne (tgt := 31) hE dX11_tune_26 (by decide) (fun c26 => ?_) (fun c26 => ?_)
      · have hg : ¬ (j_hasRoad J (nI r) = 0 ∨ q_in part 0 11 = 0 ∨ J 2 (nI r).toNatClampNeg = part) := fun q => q.elim c5 (fun q => q.elim c17 (fun q => c26 (by rw [hrc] at q; exact q)))
        refine rx_aload_n hE dX11_tune_31 (i := 0) rfl rfl ?_
        refine rx_call0 (rx_callV (av := []) hE dX11_tune_32 lk_X11_365 (c_X11_keepsAct hM hh) (kp_o hM) np_X11_keepsAct rfl rfl (by decide) (Nat.le_of_ble_eq_true rfl) rfl ?_)
        rintro v M' ⟨rfl, rfl⟩
        refine rx_aload_n hE dX11_tune_35 (i := 0) rfl rfl ?_
        refine rx_iload_n hE dX11_tune_36 (i := 1) rfl rfl ?_
        refine rx_call0 (rx_callV (av := [.int (nI r)]) hE dX11_tune_37 lk_X11_300 (c_X11_partOf hM (r := r) (by omega)) (kp_o hM) np_X11_partOf rfl rfl (by decide) (Nat.le_of_ble_eq_true rfl) rfl ?_)
        rintro v M' ⟨rfl, rfl⟩
        refine rx_int _ (J 2 r) rfl ?_
        refine rx_istore_n_3 hE dX11_tune_40 (by decide) rfl ?_
        refine rx_aload_n hE dX11_tune_41 (i := 0) rfl rfl ?_
        refine rx_getf hE dX11_tune_42 fl_X11_39_10 (kp_o hM) rfl ?_
        refine rx_bipush hE dX11_tune_45 (v := 11) (by decide) ?_
        refine rx_iconst hE dX11_tune_47 (v := 5) (by decide) ?_
        refine rx_iload_n hE dX11_tune_48 (i := 1) rfl rfl ?_
        refine rx_imul hE dX11_tune_49 ?_
        refine rx_int _ (nI (5 * r)) (pk_mul 5 r) ?_
        refine rx_iadd hE dX11_tune_50 ?_
        refine rx_int _ (nI (11 + 5 * r)) (nI_add 11 _) ?_
        refine rx_iconst hE dX11_tune_51 (v := 1) (by decide) ?_
        refine rx_iadd hE dX11_tune_52 ?_
        refine rx_int _ (nI (11 + 5 * r + 1)) (nI_1 _) ?_
        refine rx_iload_n hE dX11_tune_53 (i := 2) rfl rfl ?_
        refine rx_iastN (i := 11 + 5 * r + 1) hE dX11_tune_54 (kp_10 hM) (by omega) (by decide) ?_
        refine rx_mem (M' := kp M (kput (kpu S u (j_s J 7 g)) (j_s (j_s J 2 (upd (J 2) r part)) 7 g)) L) (by rw [kx_2 (by omega), j_s_s7 _ _ (by decide)]; rfl) ?_
        refine rx_iload_n hE dX11_tune_55 (i := 3) rfl rfl ?_
        exact rx_iret hE hQ rfl dX11_tune_56 (by rw [if_neg hg]; exact ⟨by rw [hrc], by rw [hrc]; exact kAct.mk hh J _ g _⟩)
      · refine rx_iconst hE dX11_tune_29 (v := -1) (by decide) ?_
        exact rx_iret hE hQ rfl dX11_tune_30 (by rw [if_pos (Or.inr (Or.inr (by rw [hrc]; exact c26)))]; exact ⟨rfl, rfl⟩)
def kim (S : gS) (J : gJn) (k : Nat) : gS := k_s (k_s (k_s (k_s S 23 (upd (S 23) k 1)) 21 (upd (S 21) k (S 0 21))) 22 (upd (S 22) k (S 0 22))) 20 (klay (S 20) (ksaid (S 10) J) (121 * k) 121)
def q_imageM (M : gM) (S : gS) (L : gLg) (J : gJn) (k : Int32) : gM := if q_in k 0 3 = 0 then kp M (kput S J) L else kp M (kput (kim S J k.toNatClampNeg) J) L
set_option maxRecDepth 100000 in
set_option maxHeartbeats 4000000 in
theorem c_X11_image {M : gM} {S : gS} {L : gLg} {J : gJn} (hM : 408 ≤ M.1) (k : Int32) : SX 1 0 0 mX11_image [.ref 384, .int k] (kp M (kput S J) L) (fun v M' => v = some (.int (if q_in k 0 3 = 0 then -1 else J 9 3)) ∧ M' = q_imageM M S L J k) := by
  refine SX.intro [some (.ref 384), some (.int k), none] (by decide +kernel) (Nat.le_of_ble_eq_true rfl) rfl (fun E hE hQ => ?_)
  refine rx_iload_n hE dX11_image_0 (i := 1) rfl rfl ?_
  refine rx_i2l hE dX11_image_1 ?_
  refine rx_lconst hE dX11_image_2 (v := 0) (by decide) ?_
  refine rx_ldc2 hE dX11_image_3 kl_X11_409 ?_
  refine rx_call0 (rx_callS (av := [.long _, .long _, .long _]) hE dX11_image_6 lk_X11_130 (c_X11_in _ _ _) np_X11_in rfl rfl (by decide) (Nat.le_of_ble_eq_true rfl) rfl ?_)
  rintro v M' ⟨rfl, rfl⟩
  refine rx_int _ (q_in _ (0) (3)) (k_in_eq _ _ _ (by decide) (by decide)) ?_
  refine rx_if_ne (tgt := 14) hE dX11_image_9 (by decide) (fun c9 => ?_) (fun c9 => ?_)
  · obtain ⟨k, hk0, hk, rfl⟩ := q_in_of (a := 0) (b := 3) (by decide) c9
    have loop : ∀ (n i : Nat) , i + n = 121 → RX E mX11_image.2.2.1 0 0 43 [some (.ref 384), some (.int (nI k)), some (.int (nI i))] [] (kp M (kput (k_s (k_s (k_s (k_s S 23 (upd (S 23) k 1)) 21 (upd (S 21) k (S 0 21))) 22 (upd (S 22) k (S 0 22))) 20 (klay (S 20) (ksaid (S 10) J) (121 * k) i)) J) L) := by
      intro n
      induction n with
      | zero =>
        intro i hk2
        refine rx_iload_n hE dX11_image_43 (i := 2) rfl rfl ?_
        refine rx_bipush hE dX11_image_44 (v := 121) (by decide) ?_
        refine rx_icmp_ge (tgt := 72) hE dX11_image_46 (by decide) (fun c46 => ?_) (fun c46 => absurd (show nI 121 ≤ nI i from nI_le (by omega) (by omega)) c46)
        refine rx_aload_n hE dX11_image_72 (i := 0) rfl rfl ?_
        refine rx_getf hE dX11_image_73 fl_X11_39_10 (kp_o hM) rfl ?_
        refine rx_bipush hE dX11_image_76 (v := 10) (by decide) ?_
        refine rx_ialdN (i := 10) hE dX11_image_78 (kp_10 hM) (by omega) (by decide) ?_
        refine rx_int _ _ kr_c3 ?_
        refine rx_int _ (J 9 3) rfl ?_
        exact rx_iret hE hQ rfl dX11_image_79 ⟨by rw [if_neg c9], by unfold q_imageM; rw [if_neg c9, nI_clamp (n := k) (by omega), show i = 121 by omega]; rfl⟩
      | succ n ih =>
        intro i hk2
        refine rx_iload_n hE dX11_image_43 (i := 2) rfl rfl ?_
        refine rx_bipush hE dX11_image_44 (v := 121) (by decide) ?_
        refine rx_icmp_ge (tgt := 72) hE dX11_image_46 (by decide) (fun c46 => absurd c46 (nI_ge (a := i) (b := 121) (by omega) (by omega))) (fun c46 => ?_)
        refine rx_aload_n hE dX11_image_49 (i := 0) rfl rfl ?_
        refine rx_getf hE dX11_image_50 fl_X11_80_10 (kp_o hM) rfl ?_
        refine rx_bipush hE dX11_image_53 (v := 121) (by decide) ?_
        refine rx_iload_n hE dX11_image_55 (i := 1) rfl rfl ?_
        refine rx_imul hE dX11_image_56 ?_
        refine rx_int _ (nI (121 * k)) (pk_mul _ _) ?_
        refine rx_iload_n hE dX11_image_57 (i := 2) rfl rfl ?_
        refine rx_iadd hE dX11_image_58 ?_
        refine rx_int _ (nI (121 * k + i)) (nI_add _ _) ?_
        refine rx_aload_n hE dX11_image_59 (i := 0) rfl rfl ?_
        refine rx_getf hE dX11_image_60 fl_X11_39_10 (kp_o hM) rfl ?_
        refine rx_iload_n hE dX11_image_63 (i := 2) rfl rfl ?_
        refine rx_ialdN (i := i) hE dX11_image_64 (kp_10 hM) (by omega) (by decide) ?_
        refine rx_int _ (ksaid (S 10) J i) rfl ?_
        refine rx_iastN (i := 121 * k + i) hE dX11_image_65 (kp_20 hM) (by omega) (by decide) ?_
        refine rx_mem (M' := kp M (kput (k_s (k_s (k_s (k_s S 23 (upd (S 23) k 1)) 21 (upd (S 21) k (S 0 21))) 22 (upd (S 22) k (S 0 22))) 20 (klay (S 20) (ksaid (S 10) J) (121 * k) (i + 1))) J) L) (by rw [kw_20, kput_s (by decide) (by decide) (by decide), k_ss]; exact congrArg (fun x => kp M (kput (k_s (k_s (k_s (k_s S 23 (upd (S 23) k 1)) 21 (upd (S 21) k (S 0 21))) 22 (upd (S 22) k (S 0 22))) 20 x) J) L) (klay_s _ (ksaid (S 10) J) _ _)) ?_
        refine rx_iinc_2 hE dX11_image_66 (v := 1) (by decide) (by decide) rfl ?_
        rw [nI_1]
        refine rx_goto (tgt := 43) hE dX11_image_69 (by decide) ?_
        exact ih (i + 1) (by omega)
    refine rx_aload_n hE dX11_image_14 (i := 0) rfl rfl ?_
    refine rx_getf hE dX11_image_15 fl_X11_89_10 (kp_o hM) rfl ?_
    refine rx_iload_n hE dX11_image_18 (i := 1) rfl rfl ?_
    refine rx_iconst hE dX11_image_19 (v := 1) (by decide) ?_
    refine rx_zastN (i := k) hE dX11_image_20 (kp_23 hM) (by omega) (by decide) ?_
    refine rx_mem (M' := kp M (kput (k_s S 23 (upd (S 23) k 1)) J) L) (by rw [kw_23, kput_s (by decide) (by decide) (by decide)]; rfl) ?_
    refine rx_aload_n hE dX11_image_21 (i := 0) rfl rfl ?_
    refine rx_getf hE dX11_image_22 fl_X11_83_10 (kp_o hM) rfl ?_
    refine rx_iload_n hE dX11_image_25 (i := 1) rfl rfl ?_
    refine rx_aload_n hE dX11_image_26 (i := 0) rfl rfl ?_
    refine rx_getf hE dX11_image_27 fl_X11_42_10 (kp_o hM) rfl ?_
    refine rx_int _ _ (kr_f (by decide)) ?_
    refine rx_int _ (S 0 21) rfl ?_
    refine rx_iastN (i := k) hE dX11_image_30 (kp_21 hM) (by omega) (by decide) ?_
    refine rx_mem (M' := kp M (kput (k_s (k_s S 23 (upd (S 23) k 1)) 21 (upd (S 21) k (S 0 21))) J) L) (by rw [kw_21, kput_s (by decide) (by decide) (by decide)]; rfl) ?_
    refine rx_aload_n hE dX11_image_31 (i := 0) rfl rfl ?_
    refine rx_getf hE dX11_image_32 fl_X11_86_10 (kp_o hM) rfl ?_
    refine rx_iload_n hE dX11_image_35 (i := 1) rfl rfl ?_
    refine rx_aload_n hE dX11_image_36 (i := 0) rfl rfl ?_
    refine rx_getf hE dX11_image_37 fl_X11_454_10 (kp_o hM) rfl ?_
    refine rx_int _ _ (kr_f (by decide)) ?_
    refine rx_int _ (S 0 22) rfl ?_
    refine rx_iastN (i := k) hE dX11_image_40 (kp_22 hM) (by omega) (by decide) ?_
    refine rx_mem (M' := kp M (kput (k_s (k_s (k_s S 23 (upd (S 23) k 1)) 21 (upd (S 21) k (S 0 21))) 22 (upd (S 22) k (S 0 22))) J) L) (by rw [kw_22, kput_s (by decide) (by decide) (by decide)]; rfl) ?_
    refine rx_iconst hE dX11_image_41 (v := 0) (by decide) ?_
    refine rx_istore_n_2 hE dX11_image_42 (by decide) rfl ?_
    refine rx_mem (M' := kp M (kput (k_s (k_s (k_s (k_s S 23 (upd (S 23) k 1)) 21 (upd (S 21) k (S 0 21))) 22 (upd (S 22) k (S 0 22))) 20 (klay (S 20) (ksaid (S 10) J) (121 * k) 0)) J) L) (by rw [klay_0]; exact congrArg (fun x => kp M (kput x J) L) (k_s_id (k_s (k_s (k_s S 23 (upd (S 23) k 1)) 21 (upd (S 21) k (S 0 21))) 22 (upd (S 22) k (S 0 22))) 20).symm) ?_
    exact loop 121 0 (by omega)
  · refine rx_iconst hE dX11_image_12 (v := -1) (by decide) ?_
    exact rx_iret hE hQ rfl dX11_image_13 ⟨by rw [if_pos c9], by unfold q_imageM; rw [if_pos c9]⟩
