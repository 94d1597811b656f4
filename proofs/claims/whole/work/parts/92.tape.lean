/-! ===== the class's Tape ===== -/
theorem tk_le (T : Nat → Int32) (N p : Nat) : tk T N p ≤ 3 := by
  unfold tk
  split
  · decide
  · split
    · decide
    · split <;> decide
theorem tk_eq {T : Nat → Int32} {N p k : Nat} (hk : k ≤ 3) : nI (tk T N p) = nI k ↔ tk T N p = k := by
  have := tk_le T N p
  exact ⟨fun h => nI_inj (by omega) (by omega) h, fun h => by rw [h]⟩
def tfl (f : Int32) (p : Nat) (why : Int32) : Int32 := if f = 0 then 1 + 8 * nI p + why else f
def qsg (T : Nat → Int32) (N p : Nat) (s : Int32) : Int32 := if tk T N p = 3 ∧ tv T N p = s then 1 else 0
def nx (T : Nat → Int32) (N p : Nat) : Nat := sk T N (te T N p)
abbrev tno (T : Nat → Int32) (N p : Nat) (lo hi : Int32) : Prop := tk T N p = 2 ∧ te T N p ≤ p + 5 ∧ ¬ tv T N p < lo ∧ tv T N p ≤ hi
theorem ctk.f {V : Nat → Nat → Int32} {T : Nat → Int32} {N p : Nat} {f : Int32} (h : ctk V T N p f) (g : Int32) : ctk (j_f V 6 g) T N p g := ⟨⟨h.1.1, h.1.2.1, h.1.2.2.1, rfl⟩, h.2.1, h.2.2.1, h.2.2.2⟩
theorem sk_le {T : Nat → Int32} {N p : Nat} (h : p ≤ N) : p ≤ sk T N p ∧ sk T N p ≤ N := ⟨(tru_le h).1, (tru_le h).2.1⟩
theorem nx_le {T : Nat → Int32} {N p : Nat} (h : p ≤ N) : p ≤ nx T N p ∧ nx T N p ≤ N := by
  have h1 := te_le (T := T) h
  have h2 := sk_le (T := T) h1.2.1
  unfold nx
  omega
theorem nI_mn {a b : Nat} (h : b ≤ a) : nI a - nI b = nI (a - b) := by
  have e : nI (a - b) + nI b = nI a := by rw [nI_add, show a - b + b = a by omega]
  rw [← e, Int32.add_sub_cancel]
set_option maxRecDepth 100000 in
set_option maxHeartbeats 1000000 in
theorem c_X8_fail {n : Nat} {X : gX} {O : gO} {Q : gU} {G : gK} {S : gS} {L : gLg} (hM : 408 ≤ n) {T : Nat → Int32} {N p : Nat} {f : Int32} (hN : N ≤ 400) (hpN : p ≤ N) (hc : ctk (X 1) T N p f) (why : Int32) : SX 0 0 0 mX8_fail [.ref 17, .int why] (xm n X O Q G S L) (fun v M' => v = none ∧ ∃ V, M' = xm n (x_r X 1 V) O Q G S L ∧ ctk V T N p (tfl f p why)) := by
  refine SX.intro [some (.ref 17), some (.int why)] (by decide +kernel) (Nat.le_of_ble_eq_true rfl) rfl (fun E hE hQ => ?_)
  refine rx_aload_n hE dX8_fail_0 (i := 0) rfl rfl ?_
  refine rx_getf hE dX8_fail_1 fl_X8_31_8 (xa_1 hM) rfl ?_
  refine rx_int _ f hc.1.2.2.2 ?_
  refine rx_if_ne (tgt := 22) hE dX8_fail_4 (by decide) (fun c4 => ?_) (fun c4 => ?_)
  · exact rx_vret hE hQ rfl dX8_fail_22 ⟨rfl, X 1, by rw [x_r_id], by unfold tfl; rw [if_neg c4]; exact hc⟩
  · refine rx_aload_n hE dX8_fail_7 (i := 0) rfl rfl ?_
    refine rx_iconst hE dX8_fail_8 (v := 1) (by decide) ?_
    refine rx_bipush hE dX8_fail_9 (v := 8) (by decide) ?_
    refine rx_aload_n hE dX8_fail_11 (i := 0) rfl rfl ?_
    refine rx_getf hE dX8_fail_12 fl_X8_25_8 (xa_1 hM) rfl ?_
    refine rx_int _ (nI p) hc.2.2.1 ?_
    refine rx_imul hE dX8_fail_15 ?_
    refine rx_iadd hE dX8_fail_16 ?_
    refine rx_iload_n hE dX8_fail_17 (i := 1) rfl rfl ?_
    refine rx_iadd hE dX8_fail_18 ?_
    refine rx_put hE dX8_fail_19 fl_X8_31_8 fw_8_6 (xa_1 hM) (fun _ => rfl) (fun _ => rfl) (Nat.le_of_ble_eq_true rfl) ?_
    refine rx_mem (M' := xm n (x_r X 1 (j_f (X 1) 6 (1 + 8 * nI p + why))) O Q G S L) xw_1_f6 ?_
    exact rx_vret hE hQ rfl dX8_fail_22 ⟨rfl, _, rfl, by unfold tfl; rw [if_pos c4]; exact hc.f _⟩
set_option maxRecDepth 100000 in
set_option maxHeartbeats 1000000 in
theorem c_X8_isSign {n : Nat} {X : gX} {O : gO} {Q : gU} {G : gK} {S : gS} {L : gLg} (hM : 408 ≤ n) {T : Nat → Int32} {N p : Nat} {f : Int32} (hN : N ≤ 400) (hpN : p ≤ N) (hc : ctk (X 1) T N p f) (s : Int32) : SX 0 0 0 mX8_isSign [.ref 17, .int s] (xm n X O Q G S L) (fun v M' => v = some (.int (qsg T N p s)) ∧ M' = xm n X O Q G S L) := by
  refine SX.intro [some (.ref 17), some (.int s)] (by decide +kernel) (Nat.le_of_ble_eq_true rfl) rfl (fun E hE hQ => ?_)
  refine rx_aload_n hE dX8_isSign_0 (i := 0) rfl rfl ?_
  refine rx_getf hE dX8_isSign_1 fl_X8_22_8 (xa_1 hM) rfl ?_
  refine rx_int _ (nI (tk T N p)) hc.2.1 ?_
  refine rx_iconst hE dX8_isSign_4 (v := 3) (by decide) ?_
  refine rx_icmp_ne (tgt := 20) hE dX8_isSign_5 (by decide) (fun c5 => ?_) (fun c5 => ?_)
  · have h3 : ¬ tk T N p = 3 := fun q => c5 (by rw [q]; rfl)
    refine rx_iconst hE dX8_isSign_20 (v := 0) (by decide) ?_
    exact rx_tret hE hQ rfl rfl dX8_isSign_21 ⟨by unfold qsg; rw [if_neg (fun q => h3 q.1)], rfl⟩
  · have h3 : tk T N p = 3 := (tk_eq (k := 3) (by decide)).mp c5
    refine rx_aload_n hE dX8_isSign_8 (i := 0) rfl rfl ?_
    refine rx_getf hE dX8_isSign_9 fl_X8_28_8 (xa_1 hM) rfl ?_
    refine rx_int _ (tv T N p) (hc.2.2.2 (by omega)) ?_
    refine rx_iload_n hE dX8_isSign_12 (i := 1) rfl rfl ?_
    refine rx_icmp_ne (tgt := 20) hE dX8_isSign_13 (by decide) (fun c13 => ?_) (fun c13 => ?_)
    · refine rx_iconst hE dX8_isSign_20 (v := 0) (by decide) ?_
      exact rx_tret hE hQ rfl rfl dX8_isSign_21 ⟨by unfold qsg; rw [if_neg (fun q => c13 q.2)], rfl⟩
    · refine rx_iconst hE dX8_isSign_16 (v := 1) (by decide) ?_
      refine rx_goto (tgt := 21) hE dX8_isSign_17 (by decide) ?_
      exact rx_tret hE hQ rfl rfl dX8_isSign_21 ⟨by unfold qsg; rw [if_pos ⟨h3, c13⟩], rfl⟩
set_option maxRecDepth 100000 in
set_option maxHeartbeats 1000000 in
theorem c_X8_hasTooManyDigits {n : Nat} {X : gX} {O : gO} {Q : gU} {G : gK} {S : gS} {L : gLg} (hM : 408 ≤ n) {T : Nat → Int32} {N p : Nat} {f : Int32} (hN : N ≤ 400) (hpN : p ≤ N) (hc : ctk (X 1) T N p f) : SX 0 0 0 mX8_hasTooManyDigits [.ref 17] (xm n X O Q G S L) (fun v M' => v = some (.int (if te T N p ≤ p + 5 then 0 else 1)) ∧ M' = xm n X O Q G S L) := by
  refine SX.intro [some (.ref 17)] (by decide +kernel) (Nat.le_of_ble_eq_true rfl) rfl (fun E hE hQ => ?_)
  have hte := te_le (T := T) hpN
  refine rx_aload_n hE dX8_hasTooManyDigits_0 (i := 0) rfl rfl ?_
  refine rx_getf hE dX8_hasTooManyDigits_1 fl_X8_19_8 (xa_1 hM) rfl ?_
  refine rx_int _ (nI (te T N p)) hc.1.2.2.1 ?_
  refine rx_aload_n hE dX8_hasTooManyDigits_4 (i := 0) rfl rfl ?_
  refine rx_getf hE dX8_hasTooManyDigits_5 fl_X8_25_8 (xa_1 hM) rfl ?_
  refine rx_int _ (nI p) hc.2.2.1 ?_
  refine rx_isub hE dX8_hasTooManyDigits_8 ?_
  refine rx_int _ (nI (te T N p - p)) (nI_mn hte.1) ?_
  refine rx_iconst hE dX8_hasTooManyDigits_9 (v := 5) (by decide) ?_
  refine rx_icmp_le (tgt := 17) hE dX8_hasTooManyDigits_10 (by decide) (fun c10 => ?_) (fun c10 => ?_)
  · have h5 : te T N p ≤ p + 5 := Classical.byContradiction (fun q => absurd (nI_lt (a := 5) (b := te T N p - p) (by omega) (by omega)) (Int32.not_lt.mpr c10))
    refine rx_iconst hE dX8_hasTooManyDigits_17 (v := 0) (by decide) ?_
    exact rx_tret hE hQ rfl rfl dX8_hasTooManyDigits_18 ⟨by rw [if_pos h5], rfl⟩
  · have h5 : ¬ te T N p ≤ p + 5 := fun q => c10 (nI_le (a := te T N p - p) (b := 5) (by omega) (by decide))
    refine rx_iconst hE dX8_hasTooManyDigits_13 (v := 1) (by decide) ?_
    refine rx_goto (tgt := 18) hE dX8_hasTooManyDigits_14 (by decide) ?_
    exact rx_tret hE hQ rfl rfl dX8_hasTooManyDigits_18 ⟨by rw [if_neg h5], rfl⟩
set_option maxRecDepth 100000 in
set_option maxHeartbeats 1000000 in
theorem c_X8_takeSign {n : Nat} {X : gX} {O : gO} {Q : gU} {G : gK} {S : gS} {L : gLg} (hM : 408 ≤ n) {T : Nat → Int32} {N p : Nat} {f : Int32} (hN : N ≤ 400) (hpN : p ≤ N) (hc : ctk (X 1) T N p f) (s : Int32) : SX 1 0 0 mX8_takeSign [.ref 17, .int s] (xm n X O Q G S L) (fun v M' => v = none ∧ ∃ V, M' = xm n (x_r X 1 V) O Q G S L ∧ ctk V T N (if qsg T N p s = 0 then p else nx T N p) (if qsg T N p s = 0 then tfl f p 0 else f)) := by
  refine SX.intro [some (.ref 17), some (.int s)] (by decide +kernel) (Nat.le_of_ble_eq_true rfl) rfl (fun E hE hQ => ?_)
  refine rx_aload_n hE dX8_takeSign_0 (i := 0) rfl rfl ?_
  refine rx_iload_n hE dX8_takeSign_1 (i := 1) rfl rfl ?_
  refine rx_call0 (rx_callV (av := [.int s]) hE dX8_takeSign_2 lk_X8_46 (c_X8_isSign (X := X) hM hN hpN hc s) (xa_1 hM) np_X8_isSign rfl rfl (by decide) (Nat.le_of_ble_eq_true rfl) rfl ?_)
  rintro v M' ⟨rfl, rfl⟩
  refine rx_if_eq (tgt := 15) hE dX8_takeSign_5 (by decide) (fun c5 => ?_) (fun c5 => ?_)
  · refine rx_aload_n hE dX8_takeSign_15 (i := 0) rfl rfl ?_
    refine rx_iconst hE dX8_takeSign_16 (v := 0) (by decide) ?_
    refine rx_call0 (rx_callV (av := [.int 0]) hE dX8_takeSign_17 lk_X8_50 (c_X8_fail (X := X) hM hN hpN hc 0) (xa_1 hM) np_X8_fail rfl rfl (by decide) (Nat.le_of_ble_eq_true rfl) rfl ?_)
    rintro v M' ⟨rfl, V, rfl, hV⟩
    exact rx_vret hE hQ rfl dX8_takeSign_20 ⟨rfl, V, rfl, by rw [if_pos c5, if_pos c5]; exact hV⟩
  · refine rx_aload_n hE dX8_takeSign_8 (i := 0) rfl rfl ?_
    refine rx_call0 (rx_callV (av := []) hE dX8_takeSign_9 lk_X8_34 (c_X8_next (X := X) hM hN (te_le hpN).2.1 hc.1) (xa_1 hM) np_X8_next rfl rfl (by decide) (Nat.le_of_ble_eq_true rfl) rfl ?_)
    rintro v M' ⟨rfl, V, rfl, hV⟩
    refine rx_goto (tgt := 20) hE dX8_takeSign_12 (by decide) ?_
    exact rx_vret hE hQ rfl dX8_takeSign_20 ⟨rfl, V, rfl, by rw [if_neg c5, if_neg c5]; exact hV⟩
set_option maxRecDepth 100000 in
set_option maxHeartbeats 1000000 in
theorem c_X8_takeNumber {n : Nat} {X : gX} {O : gO} {Q : gU} {G : gK} {S : gS} {L : gLg} (hM : 408 ≤ n) {T : Nat → Int32} {N p : Nat} {f : Int32} (hN : N ≤ 400) (hpN : p ≤ N) (hc : ctk (X 1) T N p f) (lo hi : Int32) : SX 1 0 0 mX8_takeNumber [.ref 17, .int lo, .int hi] (xm n X O Q G S L) (fun v M' => v = some (.int (if f = 0 ∧ tno T N p lo hi then tv T N p else 0)) ∧ ∃ V, M' = xm n (x_r X 1 V) O Q G S L ∧ ctk V T N (if f = 0 ∧ tno T N p lo hi then nx T N p else p) (if f = 0 ∧ tno T N p lo hi then f else if f = 0 then 1 + 8 * nI p + (if tk T N p = 2 then 1 else 0) else f)) := by
  refine SX.intro [some (.ref 17), some (.int lo), some (.int hi), none] (by decide +kernel) (Nat.le_of_ble_eq_true rfl) rfl (fun E hE hQ => ?_)
  refine rx_aload_n hE dX8_takeNumber_0 (i := 0) rfl rfl ?_
  refine rx_getf hE dX8_takeNumber_1 fl_X8_31_8 (xa_1 hM) rfl ?_
  refine rx_int _ f hc.1.2.2.2 ?_
  refine rx_if_eq (tgt := 9) hE dX8_takeNumber_4 (by decide) (fun c4 => ?_) (fun c4 => ?_)
  · refine rx_aload_n hE dX8_takeNumber_9 (i := 0) rfl rfl ?_
    refine rx_getf hE dX8_takeNumber_10 fl_X8_22_8 (xa_1 hM) rfl ?_
    refine rx_int _ (nI (tk T N p)) hc.2.1 ?_
    refine rx_iconst hE dX8_takeNumber_13 (v := 2) (by decide) ?_
    refine rx_icmp_eq (tgt := 24) hE dX8_takeNumber_14 (by decide) (fun c14 => ?_) (fun c14 => ?_)
    · have h2 : tk T N p = 2 := (tk_eq (k := 2) (by decide)).mp c14
      refine rx_aload_n hE dX8_takeNumber_24 (i := 0) rfl rfl ?_
      refine rx_call0 (rx_callV (av := []) hE dX8_takeNumber_25 lk_X8_54 (c_X8_hasTooManyDigits (X := X) hM hN hpN hc) (xa_1 hM) np_X8_hasTooManyDigits rfl rfl (by decide) (Nat.le_of_ble_eq_true rfl) rfl ?_)
      rintro v M' ⟨rfl, rfl⟩
      have hd0 := hpN
      refine rx_if_ne (tgt := 47) hE dX8_takeNumber_28 (by decide) (fun c28 => ?_) (fun c28 => ?_)
      · refine rx_aload_n hE dX8_takeNumber_47 (i := 0) rfl rfl ?_
        refine rx_iconst hE dX8_takeNumber_48 (v := 1) (by decide) ?_
        refine rx_call0 (rx_callV (av := [.int 1]) hE dX8_takeNumber_49 lk_X8_50 (c_X8_fail (X := X) hM hN hpN hc 1) (xa_1 hM) np_X8_fail rfl rfl (by decide) (Nat.le_of_ble_eq_true rfl) rfl ?_)
        rintro v M' ⟨rfl, V, rfl, hV⟩
        refine rx_iconst hE dX8_takeNumber_52 (v := 0) (by decide) ?_
        exact rx_iret hE hQ rfl dX8_takeNumber_53 ⟨by rw [if_neg (fun q => (fun z => c28 (if_pos z)) q.2.2.1)], V, rfl, by rw [if_neg (fun q => (fun z => c28 (if_pos z)) q.2.2.1), if_neg (fun q => (fun z => c28 (if_pos z)) q.2.2.1), if_pos c4, if_pos h2]; unfold tfl at hV; rw [if_pos c4] at hV; exact hV⟩
      · refine rx_aload_n hE dX8_takeNumber_31 (i := 0) rfl rfl ?_
        refine rx_getf hE dX8_takeNumber_32 fl_X8_28_8 (xa_1 hM) rfl ?_
        refine rx_int _ (tv T N p) (hc.2.2.2 (by omega)) ?_
        refine rx_iload_n hE dX8_takeNumber_35 (i := 1) rfl rfl ?_
        refine rx_icmp_lt (tgt := 47) hE dX8_takeNumber_36 (by decide) (fun c36 => ?_) (fun c36 => ?_)
        · refine rx_aload_n hE dX8_takeNumber_47 (i := 0) rfl rfl ?_
          refine rx_iconst hE dX8_takeNumber_48 (v := 1) (by decide) ?_
          refine rx_call0 (rx_callV (av := [.int 1]) hE dX8_takeNumber_49 lk_X8_50 (c_X8_fail (X := X) hM hN hpN hc 1) (xa_1 hM) np_X8_fail rfl rfl (by decide) (Nat.le_of_ble_eq_true rfl) rfl ?_)
          rintro v M' ⟨rfl, V, rfl, hV⟩
          refine rx_iconst hE dX8_takeNumber_52 (v := 0) (by decide) ?_
          exact rx_iret hE hQ rfl dX8_takeNumber_53 ⟨by rw [if_neg (fun q => q.2.2.2.1 c36)], V, rfl, by rw [if_neg (fun q => q.2.2.2.1 c36), if_neg (fun q => q.2.2.2.1 c36), if_pos c4, if_pos h2]; unfold tfl at hV; rw [if_pos c4] at hV; exact hV⟩
        · refine rx_aload_n hE dX8_takeNumber_39 (i := 0) rfl rfl ?_
          refine rx_getf hE dX8_takeNumber_40 fl_X8_28_8 (xa_1 hM) rfl ?_
          refine rx_int _ (tv T N p) (hc.2.2.2 (by omega)) ?_
          refine rx_iload_n hE dX8_takeNumber_43 (i := 2) rfl rfl ?_
          refine rx_icmp_le (tgt := 54) hE dX8_takeNumber_44 (by decide) (fun c44 => ?_) (fun c44 => ?_)
          · have hg : f = 0 ∧ tno T N p lo hi := ⟨c4, h2, Classical.byContradiction (fun q => absurd c28 (by rw [if_neg q]; decide)), c36, c44⟩
            refine rx_aload_n hE dX8_takeNumber_54 (i := 0) rfl rfl ?_
            refine rx_getf hE dX8_takeNumber_55 fl_X8_28_8 (xa_1 hM) rfl ?_
            refine rx_int _ (tv T N p) (hc.2.2.2 (by omega)) ?_
            refine rx_istore_n_3 hE dX8_takeNumber_58 (by decide) rfl ?_
            refine rx_aload_n hE dX8_takeNumber_59 (i := 0) rfl rfl ?_
            refine rx_call0 (rx_callV (av := []) hE dX8_takeNumber_60 lk_X8_34 (c_X8_next (X := X) hM hN (te_le hpN).2.1 hc.1) (xa_1 hM) np_X8_next rfl rfl (by decide) (Nat.le_of_ble_eq_true rfl) rfl ?_)
            rintro v M' ⟨rfl, V, rfl, hV⟩
            refine rx_iload_n hE dX8_takeNumber_63 (i := 3) rfl rfl ?_
            exact rx_iret hE hQ rfl dX8_takeNumber_64 ⟨by rw [if_pos hg], V, rfl, by rw [if_pos hg, if_pos hg]; exact hV⟩
          · refine rx_aload_n hE dX8_takeNumber_47 (i := 0) rfl rfl ?_
            refine rx_iconst hE dX8_takeNumber_48 (v := 1) (by decide) ?_
            refine rx_call0 (rx_callV (av := [.int 1]) hE dX8_takeNumber_49 lk_X8_50 (c_X8_fail (X := X) hM hN hpN hc 1) (xa_1 hM) np_X8_fail rfl rfl (by decide) (Nat.le_of_ble_eq_true rfl) rfl ?_)
            rintro v M' ⟨rfl, V, rfl, hV⟩
            refine rx_iconst hE dX8_takeNumber_52 (v := 0) (by decide) ?_
            exact rx_iret hE hQ rfl dX8_takeNumber_53 ⟨by rw [if_neg (fun q => absurd q.2.2.2.2 c44)], V, rfl, by rw [if_neg (fun q => absurd q.2.2.2.2 c44), if_neg (fun q => absurd q.2.2.2.2 c44), if_pos c4, if_pos h2]; unfold tfl at hV; rw [if_pos c4] at hV; exact hV⟩
    · have h2 : ¬ tk T N p = 2 := fun q => c14 (by rw [q]; rfl)
      refine rx_aload_n hE dX8_takeNumber_17 (i := 0) rfl rfl ?_
      refine rx_iconst hE dX8_takeNumber_18 (v := 0) (by decide) ?_
      refine rx_call0 (rx_callV (av := [.int 0]) hE dX8_takeNumber_19 lk_X8_50 (c_X8_fail (X := X) hM hN hpN hc 0) (xa_1 hM) np_X8_fail rfl rfl (by decide) (Nat.le_of_ble_eq_true rfl) rfl ?_)
      rintro v M' ⟨rfl, V, rfl, hV⟩
      refine rx_iconst hE dX8_takeNumber_22 (v := 0) (by decide) ?_
      exact rx_iret hE hQ rfl dX8_takeNumber_23 ⟨by rw [if_neg (fun q => h2 q.2.1)], V, rfl, by rw [if_neg (fun q => h2 q.2.1), if_neg (fun q => h2 q.2.1), if_pos c4, if_neg h2]; unfold tfl at hV; rw [if_pos c4] at hV; exact hV⟩
  · refine rx_iconst hE dX8_takeNumber_7 (v := 0) (by decide) ?_
    exact rx_iret hE hQ rfl dX8_takeNumber_8 ⟨by rw [if_neg (fun q => c4 q.1)], X 1, by rw [x_r_id], by rw [if_neg (fun q => c4 q.1), if_neg (fun q => c4 q.1), if_neg c4]; exact hc⟩
set_option maxRecDepth 100000 in
set_option maxHeartbeats 1000000 in
theorem c_X8_begin {n : Nat} {X : gX} {O : gO} {Q : gU} {G : gK} {S : gS} {L : gLg} (hM : 408 ≤ n) {T : Nat → Int32} {N : Nat} (hN : N ≤ 400) (h1 : X 1 0 1 = nI N) (hb : X 1 1 = T) : SX 1 0 0 mX8_begin [.ref 17] (xm n X O Q G S L) (fun v M' => v = none ∧ ∃ V, M' = xm n (x_r X 1 V) O Q G S L ∧ ctk V T N (sk T N 0) 0) := by
  refine SX.intro [some (.ref 17)] (by decide +kernel) (Nat.le_of_ble_eq_true rfl) rfl (fun E hE hQ => ?_)
  refine rx_aload_n hE dX8_begin_0 (i := 0) rfl rfl ?_
  refine rx_iconst hE dX8_begin_1 (v := 0) (by decide) ?_
  refine rx_put hE dX8_begin_2 fl_X8_19_8 fw_8_2 (xa_1 hM) (fun _ => rfl) (fun _ => rfl) (Nat.le_of_ble_eq_true rfl) ?_
  refine rx_mem (M' := xm n (x_r X 1 (j_f (X 1) 2 0)) O Q G S L) xw_1_f2 ?_
  refine rx_aload_n hE dX8_begin_5 (i := 0) rfl rfl ?_
  refine rx_iconst hE dX8_begin_6 (v := 0) (by decide) ?_
  refine rx_put hE dX8_begin_7 fl_X8_31_8 fw_8_6 (xa_1 hM) (fun _ => rfl) (fun _ => rfl) (Nat.le_of_ble_eq_true rfl) ?_
  refine rx_mem (M' := xm n (x_r X 1 (j_f (j_f (X 1) 2 0) 6 0)) O Q G S L) (xw_1_f6.trans (by rw [x_rr, x_r_eq])) ?_
  refine rx_aload_n hE dX8_begin_10 (i := 0) rfl rfl ?_
  refine rx_call0 (rx_callV (av := []) hE dX8_begin_11 lk_X8_34 (c_X8_next (X := (x_r X 1 (j_f (j_f (X 1) 2 0) 6 0))) (T := T) (N := N) (p0 := 0) (f := 0) hM hN (Nat.zero_le _) ⟨h1, hb, rfl, rfl⟩) (xa_1 hM) np_X8_next rfl rfl (by decide) (Nat.le_of_ble_eq_true rfl) rfl ?_)
  rintro v M' ⟨rfl, V, rfl, hV⟩
  exact rx_vret hE hQ rfl dX8_begin_14 ⟨rfl, V, by rw [x_rr], hV⟩
