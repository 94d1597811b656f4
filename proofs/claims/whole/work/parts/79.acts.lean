/-! ===== acts of the class ===== -/
def xhs (T : Nat → Nat → Int32) (nx u : Nat) : Nat → Nat → Int32 := j_f (j_f T 1 (nI nx)) 2 (nI u)
def xkp (X : gX) (nx u : Nat) (J : gJn) : gX := x_r (x_r X (9 + nx) J) 8 (xhs (X 8) ((nx + 1) % 20) (hpu u))
theorem xkp_r {X : gX} {nx u r : Nat} {J : gJn} (h8 : r ≠ 8) (hr : r ≠ 9 + nx) : xkp X nx u J r = X r := by
  unfold xkp
  rw [x_r_ne _ _ h8, x_r_ne _ _ hr]
theorem hpu_eq {u : Nat} (h : u ≤ 20) : (if nI (u + 1) < 20 then nI (u + 1) else 20) = nI (hpu u) := by
  unfold hpu
  by_cases c : u = 20
  · subst c
    decide
  · rw [if_neg c]
    by_cases d : u + 1 < 20
    · rw [if_pos (show nI (u + 1) < 20 from nI_lt (b := 20) d (by decide))]
    · rw [if_neg (show ¬ nI (u + 1) < 20 from nI_nlt (b := 20) (by omega) (by omega)), show u + 1 = 20 by omega]
      rfl
set_option maxRecDepth 100000 in
set_option maxHeartbeats 1000000 in
theorem c_X0_keep {n : Nat} {X : gX} {O : gO} {Q : gU} {G : gK} {S : gS} {L : gLg} (hM : 408 ≤ n) {J : gJn} (hJ : X 2 = J) {nx u : Nat} (hnx : X 8 0 1 = nI nx) (hnx20 : nx < 20) (hu : X 8 0 2 = nI u) (hu20 : u ≤ 20) : SX 2 0 0 mX0_keep [.ref 53, .ref 19] (xm n X O Q G S L) (fun v M' => v = none ∧ M' = xm n (xkp X nx u J) O Q G S L) := by
  refine SX.intro [some (.ref 53), some (.ref 19)] (by decide +kernel) (Nat.le_of_ble_eq_true rfl) rfl (fun E hE hQ => ?_)
  refine rx_aload_n hE dX0_keep_0 (i := 0) rfl rfl ?_
  refine rx_getf hE dX0_keep_1 fl_X0_11_0 (xa_8 hM) rfl ?_
  refine rx_aload_n hE dX0_keep_4 (i := 0) rfl rfl ?_
  refine rx_getf hE dX0_keep_5 fl_X0_17_0 (xa_8 hM) rfl ?_
  refine rx_int _ (nI nx) hnx ?_
  refine rx_aaldN hE (by decide) rfl dX0_keep_8 (xa_8_1 hM) (by omega) (by decide) ?_
  rw [if_pos hnx20]
  refine rx_aload_n hE dX0_keep_9 (i := 1) rfl rfl ?_
  refine rx_call0 (rx_callV (av := [.ref _]) hE dX0_keep_10 lk_X0_25 (x_copyFrom (X := X) (xJ_h hnx20) xJ_2 (Or.inr (by omega)) hM (J := J) hJ) (xa_j (xJ_h hnx20) hM) np_X2_copyFrom rfl rfl (by decide) (Nat.le_of_ble_eq_true rfl) rfl ?_)
  rintro v M' ⟨rfl, rfl⟩
  refine rx_aload_n hE dX0_keep_13 (i := 0) rfl rfl ?_
  refine rx_aload_n hE dX0_keep_14 (i := 0) rfl rfl ?_
  refine rx_getf hE dX0_keep_15 fl_X0_17_0 (xa_8 hM) rfl ?_
  refine rx_int _ (nI nx) (by rw [x_r_ne X J (by omega)]; exact hnx) ?_
  refine rx_iconst hE dX0_keep_18 (v := 1) (by decide) ?_
  refine rx_iadd hE dX0_keep_19 ?_
  refine rx_int _ (nI (nx + 1)) (nI_1 _) ?_
  refine rx_bipush hE dX0_keep_20 (v := 20) (by decide) ?_
  refine rx_irem hE dX0_keep_22 (by decide) ?_
  refine rx_int _ (nI ((nx + 1) % 20)) (pk_rem (d := 20) (by omega) (by decide) (by decide)) ?_
  refine rx_put hE dX0_keep_23 fl_X0_17_0 fw_0_1 (xa_8 hM) (fun _ => rfl) (fun _ => rfl) (Nat.le_of_ble_eq_true rfl) ?_
  refine rx_mem (M' := xm n (x_r (x_r X (9 + nx) J) 8 (j_f (X 8) 1 (nI ((nx + 1) % 20)))) O Q G S L) (xw_8_f1.trans (by rw [x_r_ne X J (show 8 ≠ 9 + nx by omega)])) ?_
  refine rx_aload_n hE dX0_keep_26 (i := 0) rfl rfl ?_
  refine rx_bipush hE dX0_keep_27 (v := 20) (by decide) ?_
  refine rx_aload_n hE dX0_keep_29 (i := 0) rfl rfl ?_
  refine rx_getf hE dX0_keep_30 fl_X0_21_0 (xa_8 hM) rfl ?_
  refine rx_int _ (nI u) hu ?_
  refine rx_iconst hE dX0_keep_33 (v := 1) (by decide) ?_
  refine rx_iadd hE dX0_keep_34 ?_
  refine rx_int _ (nI (u + 1)) (nI_1 _) ?_
  refine rx_mmin hE dX0_keep_35 mm_X0_29 rfl (by decide) (Nat.le_of_ble_eq_true rfl) ?_
  refine rx_int _ (nI (hpu u)) (hpu_eq hu20) ?_
  refine rx_put hE dX0_keep_38 fl_X0_21_0 fw_0_2 (xa_8 hM) (fun _ => rfl) (fun _ => rfl) (Nat.le_of_ble_eq_true rfl) ?_
  refine rx_mem (M' := xm n (xkp X nx u J) O Q G S L) (xw_8_f2.trans (by rw [x_rr, x_r_eq]; rfl)) ?_
  exact rx_vret hE hQ rfl dX0_keep_41 ⟨rfl, rfl⟩
set_option maxRecDepth 100000 in
set_option maxHeartbeats 1000000 in
theorem c_X0_takeBack {n : Nat} {X : gX} {O : gO} {Q : gU} {G : gK} {S : gS} {L : gLg} (hM : 408 ≤ n) {nx u : Nat} (hnx : X 8 0 1 = nI nx) (hnx20 : nx < 20) (hu : X 8 0 2 = nI u) (hu20 : u ≤ 20) (hu0 : 0 < u) : SX 2 0 0 mX0_takeBack [.ref 53, .ref 19] (xm n X O Q G S L) (fun v M' => v = none ∧ M' = xm n (x_r (x_r X 8 (xhs (X 8) ((nx + 19) % 20) (u - 1))) 2 (X (9 + ((nx + 19) % 20)))) O Q G S L) := by
  refine SX.intro [some (.ref 53), some (.ref 19)] (by decide +kernel) (Nat.le_of_ble_eq_true rfl) rfl (fun E hE hQ => ?_)
  have hn1 : ((nx + 19) % 20) < 20 := Nat.mod_lt _ (by decide)
  refine rx_aload_n hE dX0_takeBack_0 (i := 0) rfl rfl ?_
  refine rx_getf hE dX0_takeBack_1 fl_X0_21_0 (xa_8 hM) rfl ?_
  refine rx_int _ (nI u) hu ?_
  refine rx_if_le (tgt := 46) hE dX0_takeBack_4 (by decide) (fun c4 => absurd c4 (nI_nle hu0 (by omega))) (fun c4 => ?_)
  refine rx_aload_n hE dX0_takeBack_7 (i := 0) rfl rfl ?_
  refine rx_aload_n hE dX0_takeBack_8 (i := 0) rfl rfl ?_
  refine rx_getf hE dX0_takeBack_9 fl_X0_17_0 (xa_8 hM) rfl ?_
  refine rx_int _ (nI nx) hnx ?_
  refine rx_bipush hE dX0_takeBack_12 (v := 20) (by decide) ?_
  refine rx_iadd hE dX0_takeBack_14 ?_
  refine rx_int _ (nI (nx + 20)) (nI_add nx 20) ?_
  refine rx_iconst hE dX0_takeBack_15 (v := 1) (by decide) ?_
  refine rx_isub hE dX0_takeBack_16 ?_
  refine rx_int _ (nI (nx + 19)) (nI_pred (nx + 19)) ?_
  refine rx_bipush hE dX0_takeBack_17 (v := 20) (by decide) ?_
  refine rx_irem hE dX0_takeBack_19 (by decide) ?_
  refine rx_int _ (nI ((nx + 19) % 20)) (pk_rem (d := 20) (by omega) (by decide) (by decide)) ?_
  refine rx_put hE dX0_takeBack_20 fl_X0_17_0 fw_0_1 (xa_8 hM) (fun _ => rfl) (fun _ => rfl) (Nat.le_of_ble_eq_true rfl) ?_
  refine rx_mem xw_8_f1 ?_
  refine rx_aload_n hE dX0_takeBack_23 (i := 0) rfl rfl ?_
  refine rx_dup hE dX0_takeBack_24 rfl ?_
  refine rx_getf hE dX0_takeBack_25 fl_X0_21_0 (xa_8 hM) rfl ?_
  refine rx_int _ (nI u) hu ?_
  refine rx_iconst hE dX0_takeBack_28 (v := 1) (by decide) ?_
  refine rx_isub hE dX0_takeBack_29 ?_
  refine rx_int _ (nI (u - 1)) (nI_p1 hu0) ?_
  refine rx_put hE dX0_takeBack_30 fl_X0_21_0 fw_0_2 (xa_8 hM) (fun _ => rfl) (fun _ => rfl) (Nat.le_of_ble_eq_true rfl) ?_
  refine rx_mem (M' := xm n (x_r X 8 (xhs (X 8) ((nx + 19) % 20) (u - 1))) O Q G S L) (xw_8_f2.trans (by rw [x_rr, x_r_eq]; rfl)) ?_
  refine rx_aload_n hE dX0_takeBack_33 (i := 1) rfl rfl ?_
  refine rx_aload_n hE dX0_takeBack_34 (i := 0) rfl rfl ?_
  refine rx_getf hE dX0_takeBack_35 fl_X0_11_0 (xa_8 hM) rfl ?_
  refine rx_aload_n hE dX0_takeBack_38 (i := 0) rfl rfl ?_
  refine rx_getf hE dX0_takeBack_39 fl_X0_17_0 (xa_8 hM) rfl ?_
  refine rx_int _ (nI ((nx + 19) % 20)) rfl ?_
  refine rx_aaldN hE (by decide) rfl dX0_takeBack_42 (xa_8_1 hM) (by omega) (by decide) ?_
  rw [if_pos hn1]
  refine rx_call0 (rx_callV (av := [.ref _]) hE dX0_takeBack_43 lk_X0_25 (x_copyFrom (X := (x_r X 8 (xhs (X 8) ((nx + 19) % 20) (u - 1)))) xJ_2 (xJ_h hn1) (Or.inl (by omega)) hM (J := X (9 + ((nx + 19) % 20))) (x_r_ne X _ (by omega))) (xa_j xJ_2 hM) np_X2_copyFrom rfl rfl (by decide) (Nat.le_of_ble_eq_true rfl) rfl ?_)
  rintro v M' ⟨rfl, rfl⟩
  exact rx_vret hE hQ rfl dX0_takeBack_46 ⟨rfl, rfl⟩
set_option maxRecDepth 100000 in
set_option maxHeartbeats 1000000 in
theorem c_X10_undo {n : Nat} {X : gX} {O : gO} {Q : gU} {G : gK} {S : gS} {L : gLg} (hM : 408 ≤ n) {nx u : Nat} (hnx : X 8 0 1 = nI nx) (hnx20 : nx < 20) (hu : X 8 0 2 = nI u) (hu20 : u ≤ 20) : SX 3 0 0 mX10_undo [.ref 16] (xm n X O Q G S L) (fun v M' => v = some (.int (q_undo u)) ∧ M' = xm n (if u = 0 then X else x_r (x_r X 8 (xhs (X 8) ((nx + 19) % 20) (u - 1))) 2 (X (9 + ((nx + 19) % 20)))) O Q G S L) := by
  refine SX.intro [some (.ref 16)] (by decide +kernel) (Nat.le_of_ble_eq_true rfl) rfl (fun E hE hQ => ?_)
  refine rx_aload_n hE dX10_undo_0 (i := 0) rfl rfl ?_
  refine rx_getf hE dX10_undo_1 fl_X10_56_9 (xa_0 hM) rfl ?_
  refine rx_getfN hE dX10_undo_4 fl_X10_131_0 (xa_8 hM) rfl ?_
  refine rx_int _ (nI u) hu ?_
  refine rx_if_ne (tgt := 12) hE dX10_undo_7 (by decide) (fun c7 => ?_) (fun c7 => ?_)
  · have hu0 : ¬ u = 0 := fun q => c7 (by rw [q]; rfl)
    refine rx_aload_n hE dX10_undo_12 (i := 0) rfl rfl ?_
    refine rx_getf hE dX10_undo_13 fl_X10_56_9 (xa_0 hM) rfl ?_
    refine rx_aload_n hE dX10_undo_16 (i := 0) rfl rfl ?_
    refine rx_getf hE dX10_undo_17 fl_X10_19_9 (xa_0 hM) rfl ?_
    refine rx_call0 (rx_callV (av := [.ref _]) hE dX10_undo_20 lk_X10_220 (c_X0_takeBack (X := X) hM hnx hnx20 hu hu20 (by omega)) (xa_8 hM) np_X0_takeBack rfl rfl (by decide) (Nat.le_of_ble_eq_true rfl) rfl ?_)
    rintro v M' ⟨rfl, rfl⟩
    refine rx_aload_n hE dX10_undo_23 (i := 0) rfl rfl ?_
    refine rx_getf hE dX10_undo_24 fl_X10_56_9 (xa_0 hM) rfl ?_
    refine rx_getfN hE dX10_undo_27 fl_X10_131_0 (xa_8 hM) rfl ?_
    refine rx_int _ (nI (u - 1)) rfl ?_
    exact rx_iret hE hQ rfl dX10_undo_30 ⟨by unfold q_undo; rw [if_neg hu0], by rw [if_neg hu0]⟩
  · have hu0 : u = 0 := nI_inj (by omega) (by decide) c7
    refine rx_iconst hE dX10_undo_10 (v := -1) (by decide) ?_
    exact rx_iret hE hQ rfl dX10_undo_11 ⟨by unfold q_undo; rw [if_pos hu0], by rw [if_pos hu0]⟩
def xAct (n : Nat) (X : gX) (O : gO) (Q : gU) (S : gS) (L : gLg) (nx u : Nat) (J J' : gJn) (M' : gM) : Prop := ∃ G' : gK, M' = xm n (x_r (xkp X nx u J) 2 J') O Q G' S L
set_option maxRecDepth 100000 in
set_option maxHeartbeats 1000000 in
theorem c_X10_beat {n : Nat} {X : gX} {O : gO} {Q : gU} {G : gK} {S : gS} {L : gLg} (hR : xR n X O Q) {J : gJn} (hJ : X 2 = J) (hk : xk J) {t : gJn → Nat → Int32 → Bool} (ht : xtf X Q (X 0 0 17) = t) {nx u : Nat} (hnx : X 8 0 1 = nI nx) (hnx20 : nx < 20) (hu : X 8 0 2 = nI u) (hu20 : u ≤ 20) : SX 8 0 0 mX10_beat [.ref 16] (xm n X O Q G S L) (fun v M' => if j_isTold J = 0 ∨ J 9 3 = 999 then (v = some (.int (-1)) ∧ M' = xm n X O Q G S L) else (v = some (.int (jset t J)) ∧ xAct n X O Q S L nx u J (jone t J) M')) := by
  refine SX.intro [some (.ref 16)] (by decide +kernel) (Nat.le_of_ble_eq_true rfl) rfl (fun E hE hQ => ?_)
  have hM := hR.M
  refine rx_aload_n hE dX10_beat_0 (i := 0) rfl rfl ?_
  refine rx_getf hE dX10_beat_1 fl_X10_19_9 (xa_0 hM) rfl ?_
  refine rx_call0 (rx_callV (av := []) hE dX10_beat_4 lk_X10_198 (x_isTold (X := X) xJ_2 hM (J := J) hJ) (xa_j xJ_2 hM) np_X2_isTold rfl rfl (by decide) (Nat.le_of_ble_eq_true rfl) rfl ?_)
  rintro v M' ⟨rfl, rfl⟩
  refine rx_if_eq (tgt := 23) hE dX10_beat_7 (by decide) (fun c7 => ?_) (fun c7 => ?_)
  · refine rx_iconst hE dX10_beat_23 (v := -1) (by decide) ?_
    exact rx_iret hE hQ rfl dX10_beat_24 (by rw [if_pos (Or.inl c7)]; exact ⟨rfl, rfl⟩)
  · refine rx_aload_n hE dX10_beat_10 (i := 0) rfl rfl ?_
    refine rx_getf hE dX10_beat_11 fl_X10_19_9 (xa_0 hM) rfl ?_
    refine rx_getfN hE dX10_beat_14 fl_X10_185_2 (xa_j xJ_2 hM) rfl ?_
    refine rx_int _ (J 9 3) (congrFun (congrFun hJ 9) 3) ?_
    refine rx_sipush hE dX10_beat_17 (v := 999) (by decide) ?_
    refine rx_icmp_lt (tgt := 25) hE dX10_beat_20 (by decide) (fun c20 => ?_) (fun c20 => ?_)
    · obtain ⟨hf, hT9⟩ := hk.told c7
      have hc : ¬ (j_isTold J = 0 ∨ J 9 3 = 999) := fun q => q.elim c7 (fun z => absurd c20 (by rw [z]; decide))
      refine rx_aload_n hE dX10_beat_25 (i := 0) rfl rfl ?_
      refine rx_getf hE dX10_beat_26 fl_X10_56_9 (xa_0 hM) rfl ?_
      refine rx_aload_n hE dX10_beat_29 (i := 0) rfl rfl ?_
      refine rx_getf hE dX10_beat_30 fl_X10_19_9 (xa_0 hM) rfl ?_
      refine rx_call0 (rx_callV (av := [.ref _]) hE dX10_beat_33 lk_X10_202 (c_X0_keep (X := X) hM hJ hnx hnx20 hu hu20) (xa_8 hM) np_X0_keep rfl rfl (by decide) (Nat.le_of_ble_eq_true rfl) rfl ?_)
      rintro v M' ⟨rfl, rfl⟩
      obtain ⟨Y, hY⟩ : ∃ Y, Y = xkp X nx u J := ⟨_, rfl⟩
      rw [← hY]
      have hX := hJ
      have hJ : Y 2 = J := by rw [hY, xkp_r (by decide) (by omega)]; exact hX
      have h0 : Y 0 = X 0 := by rw [hY, xkp_r (by decide) (by omega)]
      have hR : xR n Y O Q := hR.eq (by rw [h0])
      have ht : xtf Y Q (Y 0 0 17) = t := by rw [xtf_eq (X := X) (by rw [h0]), h0]; exact ht
      refine rx_aload_n hE dX10_beat_36 (i := 0) rfl rfl ?_
      refine rx_getf hE dX10_beat_37 fl_X10_19_9 (xa_0 hM) rfl ?_
      refine rx_aload_n hE dX10_beat_40 (i := 0) rfl rfl ?_
      refine rx_aload_n hE dX10_beat_41 (i := 0) rfl rfl ?_
      refine rx_getf hE dX10_beat_42 fl_X10_103_9 (xa_0 hM) rfl ?_
      refine rx_call0 (rx_callV (av := [.int _]) hE dX10_beat_45 lk_X10_205 (c_X10_ruleOf (X := Y) hM (hR.eq rfl) _) (xa_0 hM) np_X10_ruleOf rfl rfl (by decide) (Nat.le_of_ble_eq_true rfl) rfl ?_)
      rintro v M' ⟨u, rfl, hu, rfl⟩
      have hu : xT Q n u t := by rw [← ht]; exact hu
      refine rx_call0 (rx_callV (av := [u]) hE dX10_beat_48 lk_X10_209 (x_oneBeat (X := Y) xJ_2 hM (J := J) hJ hf.1 hu) (xa_j xJ_2 hM) np_X2_oneBeat rfl rfl (by decide) (Nat.le_of_ble_eq_true rfl) rfl ?_)
      rintro v M' ⟨rfl, G1, rfl⟩
      exact rx_iret hE hQ rfl dX10_beat_51 (by rw [if_neg hc]; exact ⟨rfl, G1, by rw [hY]⟩)
    · obtain ⟨hf, hT9⟩ := hk.told c7
      have hc : J 9 3 = 999 := by
        have e := hf.1.2.2.2.2.2.2.1
        rw [e, show (999 : Int32) = nI 999 from rfl, nI_ltI (by omega) (by decide)] at c20
        rw [e, show jT J = 999 by omega]
        rfl
      refine rx_iconst hE dX10_beat_23 (v := -1) (by decide) ?_
      exact rx_iret hE hQ rfl dX10_beat_24 (by rw [if_pos (Or.inr hc)]; exact ⟨rfl, rfl⟩)
set_option maxRecDepth 100000 in
set_option maxHeartbeats 1000000 in
theorem c_X10_come {n : Nat} {X : gX} {O : gO} {Q : gU} {G : gK} {S : gS} {L : gLg} (hR : xR n X O Q) {J : gJn} (hJ : X 2 = J) (hk : xk J) {t : gJn → Nat → Int32 → Bool} (ht : xtf X Q (X 0 0 17) = t) {nx u : Nat} (hnx : X 8 0 1 = nI nx) (hnx20 : nx < 20) (hu : X 8 0 2 = nI u) (hu20 : u ≤ 20) (road many : Int32) : SX 8 0 0 mX10_come [.ref 16, .int road, .int many] (xm n X O Q G S L) (fun v M' => if j_hasRoad J road = 0 ∨ q_in many 1 20 = 0 then (v = some (.int (-1)) ∧ M' = xm n X O Q G S L) else (v = some (.int (j_addw J road.toNatClampNeg many 0 road.toNatClampNeg)) ∧ xAct n X O Q S L nx u J (j_addw J road.toNatClampNeg many) M')) := by
  refine SX.intro [some (.ref 16), some (.int road), some (.int many)] (by decide +kernel) (Nat.le_of_ble_eq_true rfl) rfl (fun E hE hQ => ?_)
  have hM := hR.M
  refine rx_aload_n hE dX10_come_0 (i := 0) rfl rfl ?_
  refine rx_getf hE dX10_come_1 fl_X10_19_9 (xa_0 hM) rfl ?_
  refine rx_iload_n hE dX10_come_4 (i := 1) rfl rfl ?_
  refine rx_call0 (rx_callV (av := [.int _]) hE dX10_come_5 lk_X10_147 (x_hasRoad (X := X) xJ_2 hM (J := J) hJ _) (xa_j xJ_2 hM) np_X2_hasRoad rfl rfl (by decide) (Nat.le_of_ble_eq_true rfl) rfl ?_)
  rintro v M' ⟨rfl, rfl⟩
  refine rx_if_eq (tgt := 21) hE dX10_come_8 (by decide) (fun c8 => ?_) (fun c8 => ?_)
  · refine rx_iconst hE dX10_come_21 (v := -1) (by decide) ?_
    exact rx_iret hE hQ rfl dX10_come_22 (by rw [if_pos (Or.inl c8)]; exact ⟨rfl, rfl⟩)
  · refine rx_iload_n hE dX10_come_11 (i := 2) rfl rfl ?_
    refine rx_iconst hE dX10_come_12 (v := 1) (by decide) ?_
    refine rx_bipush hE dX10_come_13 (v := 20) (by decide) ?_
    refine rx_call0 (rx_callS (av := [.int _, .int _, .int _]) hE dX10_come_15 lk_X10_143 (c_X10_within _ _ _) np_X10_within rfl rfl (by decide) (Nat.le_of_ble_eq_true rfl) rfl ?_)
    rintro v M' ⟨rfl, rfl⟩
    refine rx_if_ne (tgt := 23) hE dX10_come_18 (by decide) (fun c18 => ?_) (fun c18 => ?_)
    · have hc : ¬ (j_hasRoad J road = 0 ∨ q_in many 1 20 = 0) := by simp [*]
      obtain ⟨hf, hT9, r, hr, rfl⟩ := hk.road c8
      have hr6 := hf.1.2.1
      
      refine rx_aload_n hE dX10_come_23 (i := 0) rfl rfl ?_
      refine rx_getf hE dX10_come_24 fl_X10_56_9 (xa_0 hM) rfl ?_
      refine rx_aload_n hE dX10_come_27 (i := 0) rfl rfl ?_
      refine rx_getf hE dX10_come_28 fl_X10_19_9 (xa_0 hM) rfl ?_
      refine rx_call0 (rx_callV (av := [.ref _]) hE dX10_come_31 lk_X10_202 (c_X0_keep (X := X) hM hJ hnx hnx20 hu hu20) (xa_8 hM) np_X0_keep rfl rfl (by decide) (Nat.le_of_ble_eq_true rfl) rfl ?_)
      rintro v M' ⟨rfl, rfl⟩
      obtain ⟨Y, hY⟩ : ∃ Y, Y = xkp X nx u J := ⟨_, rfl⟩
      rw [← hY]
      have hX := hJ
      have hJ : Y 2 = J := by rw [hY, xkp_r (by decide) (by omega)]; exact hX
      have h0 : Y 0 = X 0 := by rw [hY, xkp_r (by decide) (by omega)]
      have hR : xR n Y O Q := hR.eq (by rw [h0])
      have ht : xtf Y Q (Y 0 0 17) = t := by rw [xtf_eq (X := X) (by rw [h0]), h0]; exact ht
      refine rx_aload_n hE dX10_come_34 (i := 0) rfl rfl ?_
      refine rx_getf hE dX10_come_35 fl_X10_19_9 (xa_0 hM) rfl ?_
      refine rx_iload_n hE dX10_come_38 (i := 1) rfl rfl ?_
      refine rx_iload_n hE dX10_come_39 (i := 2) rfl rfl ?_
      refine rx_call0 (rx_callV (av := [.int (nI r), .int many]) hE dX10_come_40 lk_X10_213 (x_addWaiting (X := Y) xJ_2 hM (J := J) hJ (k := r) (by omega) many) (xa_j xJ_2 hM) np_X2_addWaiting rfl rfl (by decide) (Nat.le_of_ble_eq_true rfl) rfl ?_)
      rintro v M' ⟨rfl, rfl⟩
      refine rx_aload_n hE dX10_come_43 (i := 0) rfl rfl ?_
      refine rx_getf hE dX10_come_44 fl_X10_19_9 (xa_0 hM) rfl ?_
      refine rx_getfN hE dX10_come_47 fl_X10_151_2 (xa_j xJ_2 hM) rfl ?_
      refine rx_iload_n hE dX10_come_50 (i := 1) rfl rfl ?_
      refine rx_ialdN (i := r) hE dX10_come_51 (xa_j1 xJ_2 hM) (by omega) (by decide) ?_
      refine rx_int _ (j_addw J r many 0 r) rfl ?_
      exact rx_iret hE hQ rfl dX10_come_52 (by rw [if_neg hc, nI_clamp (n := r) (by omega)]; exact ⟨rfl, G, by rw [hY]⟩)
    · refine rx_iconst hE dX10_come_21 (v := -1) (by decide) ?_
      exact rx_iret hE hQ rfl dX10_come_22 (by rw [if_pos (Or.inr c18)]; exact ⟨rfl, rfl⟩)
set_option maxRecDepth 100000 in
set_option maxHeartbeats 1000000 in
theorem c_X10_wave {n : Nat} {X : gX} {O : gO} {Q : gU} {G : gK} {S : gS} {L : gLg} (hR : xR n X O Q) {J : gJn} (hJ : X 2 = J) (hk : xk J) {t : gJn → Nat → Int32 → Bool} (ht : xtf X Q (X 0 0 17) = t) {nx u : Nat} (hnx : X 8 0 1 = nI nx) (hnx20 : nx < 20) (hu : X 8 0 2 = nI u) (hu20 : u ≤ 20) (road : Int32) : SX 8 0 0 mX10_wave [.ref 16, .int road] (xm n X O Q G S L) (fun v M' => if j_hasRoad J road = 0 ∨ J 0 road.toNatClampNeg = 0 then (v = some (.int (-1)) ∧ M' = xm n X O Q G S L) else (v = some (.int (j_many J road.toNatClampNeg)) ∧ xAct n X O Q S L nx u J (j_leave J road.toNatClampNeg) M')) := by
  refine SX.intro [some (.ref 16), some (.int road)] (by decide +kernel) (Nat.le_of_ble_eq_true rfl) rfl (fun E hE hQ => ?_)
  have hM := hR.M
  refine rx_aload_n hE dX10_wave_0 (i := 0) rfl rfl ?_
  refine rx_getf hE dX10_wave_1 fl_X10_19_9 (xa_0 hM) rfl ?_
  refine rx_iload_n hE dX10_wave_4 (i := 1) rfl rfl ?_
  refine rx_call0 (rx_callV (av := [.int _]) hE dX10_wave_5 lk_X10_147 (x_hasRoad (X := X) xJ_2 hM (J := J) hJ _) (xa_j xJ_2 hM) np_X2_hasRoad rfl rfl (by decide) (Nat.le_of_ble_eq_true rfl) rfl ?_)
  rintro v M' ⟨rfl, rfl⟩
  refine rx_if_eq (tgt := 23) hE dX10_wave_8 (by decide) (fun c8 => ?_) (fun c8 => ?_)
  · refine rx_iconst hE dX10_wave_23 (v := -1) (by decide) ?_
    exact rx_iret hE hQ rfl dX10_wave_24 (by rw [if_pos (Or.inl c8)]; exact ⟨rfl, rfl⟩)
  · obtain ⟨hf, hT9, r, hr, rfl⟩ := hk.road c8
    have hr6 := hf.1.2.1
    
    refine rx_aload_n hE dX10_wave_11 (i := 0) rfl rfl ?_
    refine rx_getf hE dX10_wave_12 fl_X10_19_9 (xa_0 hM) rfl ?_
    refine rx_getfN hE dX10_wave_15 fl_X10_151_2 (xa_j xJ_2 hM) rfl ?_
    refine rx_iload_n hE dX10_wave_18 (i := 1) rfl rfl ?_
    refine rx_ialdN (i := r) hE dX10_wave_19 (xa_j1 xJ_2 hM) (by omega) (by decide) ?_
    refine rx_int _ (J 0 r) (congrFun (congrFun hJ 0) r) ?_
    refine rx_if_gt (tgt := 25) hE dX10_wave_20 (by decide) (fun c20 => ?_) (fun c20 => ?_)
    · have hc : ¬ (j_hasRoad J (nI r) = 0 ∨ J 0 r = 0) := fun q => q.elim c8 (fun z => absurd c20 (by rw [z]; decide))
      refine rx_aload_n hE dX10_wave_25 (i := 0) rfl rfl ?_
      refine rx_getf hE dX10_wave_26 fl_X10_56_9 (xa_0 hM) rfl ?_
      refine rx_aload_n hE dX10_wave_29 (i := 0) rfl rfl ?_
      refine rx_getf hE dX10_wave_30 fl_X10_19_9 (xa_0 hM) rfl ?_
      refine rx_call0 (rx_callV (av := [.ref _]) hE dX10_wave_33 lk_X10_202 (c_X0_keep (X := X) hM hJ hnx hnx20 hu hu20) (xa_8 hM) np_X0_keep rfl rfl (by decide) (Nat.le_of_ble_eq_true rfl) rfl ?_)
      rintro v M' ⟨rfl, rfl⟩
      obtain ⟨Y, hY⟩ : ∃ Y, Y = xkp X nx u J := ⟨_, rfl⟩
      rw [← hY]
      have hX := hJ
      have hJ : Y 2 = J := by rw [hY, xkp_r (by decide) (by omega)]; exact hX
      have h0 : Y 0 = X 0 := by rw [hY, xkp_r (by decide) (by omega)]
      have hR : xR n Y O Q := hR.eq (by rw [h0])
      have ht : xtf Y Q (Y 0 0 17) = t := by rw [xtf_eq (X := X) (by rw [h0]), h0]; exact ht
      refine rx_aload_n hE dX10_wave_36 (i := 0) rfl rfl ?_
      refine rx_getf hE dX10_wave_37 fl_X10_19_9 (xa_0 hM) rfl ?_
      refine rx_iload_n hE dX10_wave_40 (i := 1) rfl rfl ?_
      refine rx_call0 (rx_callV (av := [.int (nI r)]) hE dX10_wave_41 lk_X10_217 (x_leave (X := Y) xJ_2 hM (J := J) hJ (k := r) (by omega)) (xa_j xJ_2 hM) np_X2_leave rfl rfl (by decide) (Nat.le_of_ble_eq_true rfl) rfl ?_)
      rintro v M' ⟨rfl, rfl⟩
      exact rx_iret hE hQ rfl dX10_wave_44 (by rw [nI_clamp (n := r) (by omega), if_neg hc]; exact ⟨rfl, G, by rw [hY]⟩)
    · have hz : J 0 r = 0 := by
        obtain ⟨w, hw, e⟩ := hf.2.2.1 r (by omega)
        rw [e] at c20 ⊢
        rw [show w = 0 from Classical.byContradiction (fun q => c20 (nI_lt (a := 0) (by omega) (by omega)))]
        rfl
      refine rx_iconst hE dX10_wave_23 (v := -1) (by decide) ?_
      exact rx_iret hE hQ rfl dX10_wave_24 (by rw [nI_clamp (n := r) (by omega), if_pos (Or.inr hz)]; exact ⟨rfl, rfl⟩)
set_option maxRecDepth 100000 in
set_option maxHeartbeats 1000000 in
theorem c_X10_score {n : Nat} {X : gX} {O : gO} {Q : gU} {G : gK} {S : gS} {L : gLg} (hR : xR n X O Q) {J : gJn} (hJ : X 2 = J) (hk : xk J) {t : gJn → Nat → Int32 → Bool} (ht : xtf X Q (X 0 0 17) = t) {nx u : Nat} (hnx : X 8 0 1 = nI nx) (hnx20 : nx < 20) (hu : X 8 0 2 = nI u) (hu20 : u ≤ 20) (b0 road : Int32) : SX 8 0 0 mX10_score [.ref 16, .int b0, .int road] (xm n X O Q G S L) (fun v M' => if j_hasBeat J b0 = 0 ∨ j_hasRoad J road = 0 then (v = some (.int (-1)) ∧ M' = xm n X O Q G S L) else (v = some (.int (jbit (qbj J b0.toNatClampNeg road.toNatClampNeg 8 b0.toNatClampNeg) road.toNatClampNeg)) ∧ xAct n X O Q S L nx u J (qbj J b0.toNatClampNeg road.toNatClampNeg) M')) := by
  refine SX.intro [some (.ref 16), some (.int b0), some (.int road)] (by decide +kernel) (Nat.le_of_ble_eq_true rfl) rfl (fun E hE hQ => ?_)
  have hM := hR.M
  refine rx_aload_n hE dX10_score_0 (i := 0) rfl rfl ?_
  refine rx_getf hE dX10_score_1 fl_X10_19_9 (xa_0 hM) rfl ?_
  refine rx_iload_n hE dX10_score_4 (i := 1) rfl rfl ?_
  refine rx_call0 (rx_callV (av := [.int _]) hE dX10_score_5 lk_X10_173 (x_hasBeat (X := X) xJ_2 hM (J := J) hJ _) (xa_j xJ_2 hM) np_X2_hasBeat rfl rfl (by decide) (Nat.le_of_ble_eq_true rfl) rfl ?_)
  rintro v M' ⟨rfl, rfl⟩
  refine rx_if_eq (tgt := 22) hE dX10_score_8 (by decide) (fun c8 => ?_) (fun c8 => ?_)
  · refine rx_iconst hE dX10_score_22 (v := -1) (by decide) ?_
    exact rx_iret hE hQ rfl dX10_score_23 (by rw [if_pos (Or.inl c8)]; exact ⟨rfl, rfl⟩)
  · refine rx_aload_n hE dX10_score_11 (i := 0) rfl rfl ?_
    refine rx_getf hE dX10_score_12 fl_X10_19_9 (xa_0 hM) rfl ?_
    refine rx_iload_n hE dX10_score_15 (i := 2) rfl rfl ?_
    refine rx_call0 (rx_callV (av := [.int _]) hE dX10_score_16 lk_X10_147 (x_hasRoad (X := X) xJ_2 hM (J := J) hJ _) (xa_j xJ_2 hM) np_X2_hasRoad rfl rfl (by decide) (Nat.le_of_ble_eq_true rfl) rfl ?_)
    rintro v M' ⟨rfl, rfl⟩
    refine rx_if_ne (tgt := 24) hE dX10_score_19 (by decide) (fun c19 => ?_) (fun c19 => ?_)
    · have hc : ¬ (j_hasBeat J b0 = 0 ∨ j_hasRoad J road = 0) := by simp [*]
      obtain ⟨hf, hT9, b, hb, rfl⟩ := hk.beat c8
      obtain ⟨_, _, r, hr, rfl⟩ := hk.road c19
      have hB12 := hf.1.2.2.2.2.2.1
      have hr6 := hf.1.2.1
      refine rx_aload_n hE dX10_score_24 (i := 0) rfl rfl ?_
      refine rx_getf hE dX10_score_25 fl_X10_56_9 (xa_0 hM) rfl ?_
      refine rx_aload_n hE dX10_score_28 (i := 0) rfl rfl ?_
      refine rx_getf hE dX10_score_29 fl_X10_19_9 (xa_0 hM) rfl ?_
      refine rx_call0 (rx_callV (av := [.ref _]) hE dX10_score_32 lk_X10_202 (c_X0_keep (X := X) hM hJ hnx hnx20 hu hu20) (xa_8 hM) np_X0_keep rfl rfl (by decide) (Nat.le_of_ble_eq_true rfl) rfl ?_)
      rintro v M' ⟨rfl, rfl⟩
      obtain ⟨Y, hY⟩ : ∃ Y, Y = xkp X nx u J := ⟨_, rfl⟩
      rw [← hY]
      have hX := hJ
      have hJ : Y 2 = J := by rw [hY, xkp_r (by decide) (by omega)]; exact hX
      have h0 : Y 0 = X 0 := by rw [hY, xkp_r (by decide) (by omega)]
      have hR : xR n Y O Q := hR.eq (by rw [h0])
      have ht : xtf Y Q (Y 0 0 17) = t := by rw [xtf_eq (X := X) (by rw [h0]), h0]; exact ht
      refine rx_aload_n hE dX10_score_35 (i := 0) rfl rfl ?_
      refine rx_getf hE dX10_score_36 fl_X10_19_9 (xa_0 hM) rfl ?_
      refine rx_getfN hE dX10_score_39 fl_X10_176_2 (xa_j xJ_2 hM) rfl ?_
      refine rx_iload_n hE dX10_score_42 (i := 1) rfl rfl ?_
      refine rx_dup2 hE dX10_score_43 rfl rfl ?_
      refine rx_ialdN (i := b) hE dX10_score_44 (xa_j9 xJ_2 hM) (by omega) (by decide) ?_
      refine rx_int _ (J 8 b) (congrFun (congrFun hJ 8) b) ?_
      refine rx_iconst hE dX10_score_45 (v := 1) (by decide) ?_
      refine rx_iload_n hE dX10_score_46 (i := 2) rfl rfl ?_
      refine rx_ishl hE dX10_score_47 ?_
      refine rx_ixor hE dX10_score_48 ?_
      refine rx_iastN (i := b) hE dX10_score_49 (xa_j9 xJ_2 hM) (by omega) (by decide) ?_
      refine rx_mem (M' := xm n (x_r Y 2 (qbj J b r)) O Q G S L) ((xw_j9 xJ_2).trans (by rw [hJ]; rfl)) ?_
      refine rx_aload_n hE dX10_score_50 (i := 0) rfl rfl ?_
      refine rx_getf hE dX10_score_51 fl_X10_19_9 (xa_0 hM) rfl ?_
      refine rx_getfN hE dX10_score_54 fl_X10_176_2 (xa_j xJ_2 hM) rfl ?_
      refine rx_iload_n hE dX10_score_57 (i := 1) rfl rfl ?_
      refine rx_ialdN (i := b) hE dX10_score_58 (xa_j9 xJ_2 hM) (by omega) (by decide) ?_
      refine rx_int _ ((qbj J b r) 8 b) rfl ?_
      refine rx_iload_n hE dX10_score_59 (i := 2) rfl rfl ?_
      refine rx_ishr hE dX10_score_60 ?_
      refine rx_iconst hE dX10_score_61 (v := 1) (by decide) ?_
      refine rx_iand hE dX10_score_62 ?_
      refine rx_int _ (jbit ((qbj J b r) 8 b) r) rfl ?_
      exact rx_iret hE hQ rfl dX10_score_63 (by rw [if_neg hc, nI_clamp (n := b) (by omega), nI_clamp (n := r) (by omega)]; exact ⟨rfl, G, by rw [hY]⟩)
    · refine rx_iconst hE dX10_score_22 (v := -1) (by decide) ?_
      exact rx_iret hE hQ rfl dX10_score_23 (by rw [if_pos (Or.inr c19)]; exact ⟨rfl, rfl⟩)
set_option maxRecDepth 100000 in
set_option maxHeartbeats 1000000 in
theorem c_X10_tune {n : Nat} {X : gX} {O : gO} {Q : gU} {G : gK} {S : gS} {L : gLg} (hR : xR n X O Q) {J : gJn} (hJ : X 2 = J) (hk : xk J) {t : gJn → Nat → Int32 → Bool} (ht : xtf X Q (X 0 0 17) = t) {nx u : Nat} (hnx : X 8 0 1 = nI nx) (hnx20 : nx < 20) (hu : X 8 0 2 = nI u) (hu20 : u ≤ 20) (road part : Int32) : SX 8 0 0 mX10_tune [.ref 16, .int road, .int part] (xm n X O Q G S L) (fun v M' => if j_hasRoad J road = 0 ∨ q_in part 0 11 = 0 ∨ J 2 road.toNatClampNeg = part then (v = some (.int (-1)) ∧ M' = xm n X O Q G S L) else (v = some (.int (J 2 road.toNatClampNeg)) ∧ xAct n X O Q S L nx u J (j_s J 2 (upd (J 2) road.toNatClampNeg part)) M')) := by
  refine SX.intro [some (.ref 16), some (.int road), some (.int part), none] (by decide +kernel) (Nat.le_of_ble_eq_true rfl) rfl (fun E hE hQ => ?_)
  have hM := hR.M
  refine rx_aload_n hE dX10_tune_0 (i := 0) rfl rfl ?_
  refine rx_getf hE dX10_tune_1 fl_X10_19_9 (xa_0 hM) rfl ?_
  refine rx_iload_n hE dX10_tune_4 (i := 1) rfl rfl ?_
  refine rx_call0 (rx_callV (av := [.int _]) hE dX10_tune_5 lk_X10_147 (x_hasRoad (X := X) xJ_2 hM (J := J) hJ _) (xa_j xJ_2 hM) np_X2_hasRoad rfl rfl (by decide) (Nat.le_of_ble_eq_true rfl) rfl ?_)
  rintro v M' ⟨rfl, rfl⟩
  refine rx_if_eq (tgt := 34) hE dX10_tune_8 (by decide) (fun c8 => ?_) (fun c8 => ?_)
  · refine rx_iconst hE dX10_tune_34 (v := -1) (by decide) ?_
    exact rx_iret hE hQ rfl dX10_tune_35 (by rw [if_pos (Or.inl c8)]; exact ⟨rfl, rfl⟩)
  · refine rx_iload_n hE dX10_tune_11 (i := 2) rfl rfl ?_
    refine rx_iconst hE dX10_tune_12 (v := 0) (by decide) ?_
    refine rx_bipush hE dX10_tune_13 (v := 11) (by decide) ?_
    refine rx_call0 (rx_callS (av := [.int _, .int _, .int _]) hE dX10_tune_15 lk_X10_143 (c_X10_within _ _ _) np_X10_within rfl rfl (by decide) (Nat.le_of_ble_eq_true rfl) rfl ?_)
    rintro v M' ⟨rfl, rfl⟩
    refine rx_if_eq (tgt := 34) hE dX10_tune_18 (by decide) (fun c18 => ?_) (fun c18 => ?_)
    · refine rx_iconst hE dX10_tune_34 (v := -1) (by decide) ?_
      exact rx_iret hE hQ rfl dX10_tune_35 (by rw [if_pos (Or.inr (Or.inl c18))]; exact ⟨rfl, rfl⟩)
    · obtain ⟨hf, hT9, r, hr, rfl⟩ := hk.road c8
      have hr6 := hf.1.2.1
      
      refine rx_aload_n hE dX10_tune_21 (i := 0) rfl rfl ?_
      refine rx_getf hE dX10_tune_22 fl_X10_19_9 (xa_0 hM) rfl ?_
      refine rx_getfN hE dX10_tune_25 fl_X10_157_2 (xa_j xJ_2 hM) rfl ?_
      refine rx_iload_n hE dX10_tune_28 (i := 1) rfl rfl ?_
      refine rx_ialdN (i := r) hE dX10_tune_29 (xa_j3 xJ_2 hM) (by omega) (by decide) ?_
      refine rx_int _ (J 2 r) (congrFun (congrFun hJ 2) r) ?_
      refine rx_iload_n hE dX10_tune_30 (i := 2) rfl rfl ?_
      refine rx_icmp_ne (tgt := 36) hE dX10_tune_31 (by decide) (fun c31 => ?_) (fun c31 => ?_)
      · have hc : ¬ (j_hasRoad J (nI r) = 0 ∨ q_in part 0 11 = 0 ∨ J 2 r = part) := fun q => q.elim c8 (fun z => z.elim c18 c31)
        refine rx_aload_n hE dX10_tune_36 (i := 0) rfl rfl ?_
        refine rx_getf hE dX10_tune_37 fl_X10_56_9 (xa_0 hM) rfl ?_
        refine rx_aload_n hE dX10_tune_40 (i := 0) rfl rfl ?_
        refine rx_getf hE dX10_tune_41 fl_X10_19_9 (xa_0 hM) rfl ?_
        refine rx_call0 (rx_callV (av := [.ref _]) hE dX10_tune_44 lk_X10_202 (c_X0_keep (X := X) hM hJ hnx hnx20 hu hu20) (xa_8 hM) np_X0_keep rfl rfl (by decide) (Nat.le_of_ble_eq_true rfl) rfl ?_)
        rintro v M' ⟨rfl, rfl⟩
        obtain ⟨Y, hY⟩ : ∃ Y, Y = xkp X nx u J := ⟨_, rfl⟩
        rw [← hY]
        have hX := hJ
        have hJ : Y 2 = J := by rw [hY, xkp_r (by decide) (by omega)]; exact hX
        have h0 : Y 0 = X 0 := by rw [hY, xkp_r (by decide) (by omega)]
        have hR : xR n Y O Q := hR.eq (by rw [h0])
        have ht : xtf Y Q (Y 0 0 17) = t := by rw [xtf_eq (X := X) (by rw [h0]), h0]; exact ht
        refine rx_aload_n hE dX10_tune_47 (i := 0) rfl rfl ?_
        refine rx_getf hE dX10_tune_48 fl_X10_19_9 (xa_0 hM) rfl ?_
        refine rx_getfN hE dX10_tune_51 fl_X10_157_2 (xa_j xJ_2 hM) rfl ?_
        refine rx_iload_n hE dX10_tune_54 (i := 1) rfl rfl ?_
        refine rx_ialdN (i := r) hE dX10_tune_55 (xa_j3 xJ_2 hM) (by omega) (by decide) ?_
        refine rx_int _ (J 2 r) (congrFun (congrFun hJ 2) r) ?_
        refine rx_istore_n_3 hE dX10_tune_56 (by decide) rfl ?_
        refine rx_aload_n hE dX10_tune_57 (i := 0) rfl rfl ?_
        refine rx_getf hE dX10_tune_58 fl_X10_19_9 (xa_0 hM) rfl ?_
        refine rx_getfN hE dX10_tune_61 fl_X10_157_2 (xa_j xJ_2 hM) rfl ?_
        refine rx_iload_n hE dX10_tune_64 (i := 1) rfl rfl ?_
        refine rx_iload_n hE dX10_tune_65 (i := 2) rfl rfl ?_
        refine rx_iastN (i := r) hE dX10_tune_66 (xa_j3 xJ_2 hM) (by omega) (by decide) ?_
        refine rx_mem (M' := xm n (x_r Y 2 (j_s J 2 (upd (J 2) r part))) O Q G S L) ((xw_j3 xJ_2).trans (by rw [hJ])) ?_
        refine rx_iload_n hE dX10_tune_67 (i := 3) rfl rfl ?_
        exact rx_iret hE hQ rfl dX10_tune_68 (by rw [nI_clamp (n := r) (by omega), if_neg hc]; exact ⟨rfl, G, by rw [hY]⟩)
      · refine rx_iconst hE dX10_tune_34 (v := -1) (by decide) ?_
        exact rx_iret hE hQ rfl dX10_tune_35 (by rw [nI_clamp (n := r) (by omega), if_pos (Or.inr (Or.inr c31))]; exact ⟨rfl, rfl⟩)
