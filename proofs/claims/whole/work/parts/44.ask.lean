def jalF (h : Nat → Int32) (r : Nat) : Nat → Nat → Int32
  | _, 0 => 1
  | k, n + 1 => if (nI k = nI r ↔ ¬ h k ≤ 0) then jalF h r (k + 1) n else 0
def jcrF (J : gJn) : Nat → Nat → Int32
  | _, 0 => 0
  | k, n + 1 => if J 0 k ≤ 20 then jcrF J (k + 1) n else 1
theorem jalF_congr {h h' : Nat → Int32} (r : Nat) : ∀ (n k : Nat), (∀ i, k ≤ i → i < k + n → h i = h' i) → jalF h r k n = jalF h' r k n
  | 0, _, _ => rfl
  | n + 1, k, e => by
    show (if (nI k = nI r ↔ ¬ h k ≤ 0) then jalF h r (k + 1) n else 0) = (if (nI k = nI r ↔ ¬ h' k ≤ 0) then jalF h' r (k + 1) n else 0)
    rw [e k (Nat.le_refl _) (by omega), jalF_congr r n (k + 1) (fun i a b => e i (by omega) (by omega))]
def qcad (t : gJn → Nat → Int32 → Bool) (r : Nat) : Nat → gJn → Int32
  | 0, _ => -2
  | n + 1, J => if ¬ jalF (jone t J 7) r 0 (jR J) = 0 then J 9 3 else qcad t r n (jone t J)
def q_cadenza (t : gJn → Nat → Int32 → Bool) (J : gJn) (road : Int32) : Int32 := if j_hasRoad J road = 0 then -1 else qcad t road.toNatClampNeg 200 J
set_option maxRecDepth 100000 in
set_option maxHeartbeats 4000000 in
theorem c_X11_isAlone {M : gM} {S : gS} {L : gLg} {J : gJn} (hM : 408 ≤ M.1) {R r : Nat} (hR : J 9 2 = nI R) (hR6 : R ≤ 6) : SX 0 0 0 mX11_isAlone [.ref 384, .int (nI r)] (kp M (kput S J) L) (fun v M' => v = some (.int (jalF (J 7) r 0 R)) ∧ M' = kp M (kput S J) L) := by
  refine SX.intro [some (.ref 384), some (.int (nI r)), none] (by decide +kernel) (Nat.le_of_ble_eq_true rfl) rfl (fun E hE hQ => ?_)
  have loop : ∀ (n k : Nat) , k + n = R → jalF (J 7) r k n = jalF (J 7) r 0 R → RX E mX11_isAlone.2.2.1 0 0 2 [some (.ref 384), some (.int (nI r)), some (.int (nI k))] [] (kp M (kput S J) L) := by
    intro n
    induction n with
    | zero =>
      intro k hk hF
      refine rx_iload_n hE dX11_isAlone_2 (i := 2) rfl rfl ?_
      refine rx_aload_n hE dX11_isAlone_3 (i := 0) rfl rfl ?_
      refine rx_getf hE dX11_isAlone_4 fl_X11_39_10 (kp_o hM) rfl ?_
      refine rx_iconst hE dX11_isAlone_7 (v := 3) (by decide) ?_
      refine rx_ialdN (i := 3) hE dX11_isAlone_8 (kp_10 hM) (by omega) (by decide) ?_
      refine rx_int _ _ kr_c2 ?_
      refine rx_icmp_ge (tgt := 47) hE dX11_isAlone_9 (by decide) (fun c9 => ?_) (fun c9 => absurd (by rw [hR]; exact nI_le (by omega) (by omega)) c9)
      refine rx_iconst hE dX11_isAlone_47 (v := 1) (by decide) ?_
      exact rx_tret hE hQ rfl rfl dX11_isAlone_48 ⟨by rw [← hF]; rfl, rfl⟩
    | succ n ih =>
      intro k hk hF
      refine rx_iload_n hE dX11_isAlone_2 (i := 2) rfl rfl ?_
      refine rx_aload_n hE dX11_isAlone_3 (i := 0) rfl rfl ?_
      refine rx_getf hE dX11_isAlone_4 fl_X11_39_10 (kp_o hM) rfl ?_
      refine rx_iconst hE dX11_isAlone_7 (v := 3) (by decide) ?_
      refine rx_ialdN (i := 3) hE dX11_isAlone_8 (kp_10 hM) (by omega) (by decide) ?_
      refine rx_int _ _ kr_c2 ?_
      refine rx_icmp_ge (tgt := 47) hE dX11_isAlone_9 (by decide) (fun c9 => absurd (by rw [hR] at c9; exact c9) (nI_ge (by omega) (by omega))) (fun c9 => ?_)
      refine rx_iload_n hE dX11_isAlone_12 (i := 2) rfl rfl ?_
      refine rx_iload_n hE dX11_isAlone_13 (i := 1) rfl rfl ?_
      refine rx_icmp_ne (tgt := 21) hE dX11_isAlone_14 (by decide) (fun c14 => ?_) (fun c14 => ?_)
      · refine rx_iconst hE dX11_isAlone_21 (v := 0) (by decide) ?_
        refine rx_aload_n hE dX11_isAlone_22 (i := 0) rfl rfl ?_
        refine rx_getf hE dX11_isAlone_23 fl_X11_52_10 (kp_o hM) rfl ?_
        refine rx_iload_n hE dX11_isAlone_26 (i := 2) rfl rfl ?_
        refine rx_ialdN (i := k) hE dX11_isAlone_27 (kp_11 hM) (by omega) (by decide) ?_
        refine rx_int _ _ (kr_7 (by omega)) ?_
        refine rx_if_le (tgt := 35) hE dX11_isAlone_28 (by decide) (fun c28 => ?_) (fun c28 => ?_)
        · refine rx_iconst hE dX11_isAlone_35 (v := 0) (by decide) ?_
          refine rx_icmp_eq (tgt := 41) hE dX11_isAlone_36 (by decide) (fun c36 => ?_) (fun c36 => ?_)
          · refine rx_iinc_2 hE dX11_isAlone_41 (v := 1) (by decide) (by decide) rfl ?_
            rw [nI_1]
            refine rx_goto (tgt := 2) hE dX11_isAlone_44 (by decide) ?_
            first | exact absurd c36 (by decide) | exact ih (k + 1) (by omega) (by rw [← hF]; show _ = (if (nI k = nI r ↔ ¬ J 7 k ≤ 0) then jalF (J 7) r (k + 1) n else 0); simp [c14, c28])
          · refine rx_iconst hE dX11_isAlone_39 (v := 0) (by decide) ?_
            exact rx_tret hE hQ rfl rfl dX11_isAlone_40 (by first | exact absurd c36 (by decide) | exact ⟨by rw [← hF]; show some (Value.int 0) = some (Value.int (if (nI k = nI r ↔ ¬ J 7 k ≤ 0) then _ else (0 : Int32))); simp [c14, c28], rfl⟩)
        · refine rx_iconst hE dX11_isAlone_31 (v := 1) (by decide) ?_
          refine rx_goto (tgt := 36) hE dX11_isAlone_32 (by decide) ?_
          refine rx_icmp_eq (tgt := 41) hE dX11_isAlone_36 (by decide) (fun c36 => ?_) (fun c36 => ?_)
          · refine rx_iinc_2 hE dX11_isAlone_41 (v := 1) (by decide) (by decide) rfl ?_
            rw [nI_1]
            refine rx_goto (tgt := 2) hE dX11_isAlone_44 (by decide) ?_
            first | exact absurd c36 (by decide) | exact ih (k + 1) (by omega) (by rw [← hF]; show _ = (if (nI k = nI r ↔ ¬ J 7 k ≤ 0) then jalF (J 7) r (k + 1) n else 0); simp [c14, c28])
          · refine rx_iconst hE dX11_isAlone_39 (v := 0) (by decide) ?_
            exact rx_tret hE hQ rfl rfl dX11_isAlone_40 (by first | exact absurd c36 (by decide) | exact ⟨by rw [← hF]; show some (Value.int 0) = some (Value.int (if (nI k = nI r ↔ ¬ J 7 k ≤ 0) then _ else (0 : Int32))); simp [c14, c28], rfl⟩)
      · refine rx_iconst hE dX11_isAlone_17 (v := 1) (by decide) ?_
        refine rx_goto (tgt := 22) hE dX11_isAlone_18 (by decide) ?_
        refine rx_aload_n hE dX11_isAlone_22 (i := 0) rfl rfl ?_
        refine rx_getf hE dX11_isAlone_23 fl_X11_52_10 (kp_o hM) rfl ?_
        refine rx_iload_n hE dX11_isAlone_26 (i := 2) rfl rfl ?_
        refine rx_ialdN (i := k) hE dX11_isAlone_27 (kp_11 hM) (by omega) (by decide) ?_
        refine rx_int _ _ (kr_7 (by omega)) ?_
        refine rx_if_le (tgt := 35) hE dX11_isAlone_28 (by decide) (fun c28 => ?_) (fun c28 => ?_)
        · refine rx_iconst hE dX11_isAlone_35 (v := 0) (by decide) ?_
          refine rx_icmp_eq (tgt := 41) hE dX11_isAlone_36 (by decide) (fun c36 => ?_) (fun c36 => ?_)
          · refine rx_iinc_2 hE dX11_isAlone_41 (v := 1) (by decide) (by decide) rfl ?_
            rw [nI_1]
            refine rx_goto (tgt := 2) hE dX11_isAlone_44 (by decide) ?_
            first | exact absurd c36 (by decide) | exact ih (k + 1) (by omega) (by rw [← hF]; show _ = (if (nI k = nI r ↔ ¬ J 7 k ≤ 0) then jalF (J 7) r (k + 1) n else 0); simp [c14, c28])
          · refine rx_iconst hE dX11_isAlone_39 (v := 0) (by decide) ?_
            exact rx_tret hE hQ rfl rfl dX11_isAlone_40 (by first | exact absurd c36 (by decide) | exact ⟨by rw [← hF]; show some (Value.int 0) = some (Value.int (if (nI k = nI r ↔ ¬ J 7 k ≤ 0) then _ else (0 : Int32))); simp [c14, c28], rfl⟩)
        · refine rx_iconst hE dX11_isAlone_31 (v := 1) (by decide) ?_
          refine rx_goto (tgt := 36) hE dX11_isAlone_32 (by decide) ?_
          refine rx_icmp_eq (tgt := 41) hE dX11_isAlone_36 (by decide) (fun c36 => ?_) (fun c36 => ?_)
          · refine rx_iinc_2 hE dX11_isAlone_41 (v := 1) (by decide) (by decide) rfl ?_
            rw [nI_1]
            refine rx_goto (tgt := 2) hE dX11_isAlone_44 (by decide) ?_
            first | exact absurd c36 (by decide) | exact ih (k + 1) (by omega) (by rw [← hF]; show _ = (if (nI k = nI r ↔ ¬ J 7 k ≤ 0) then jalF (J 7) r (k + 1) n else 0); simp [c14, c28])
          · refine rx_iconst hE dX11_isAlone_39 (v := 0) (by decide) ?_
            exact rx_tret hE hQ rfl rfl dX11_isAlone_40 (by first | exact absurd c36 (by decide) | exact ⟨by rw [← hF]; show some (Value.int 0) = some (Value.int (if (nI k = nI r ↔ ¬ J 7 k ≤ 0) then _ else (0 : Int32))); simp [c14, c28], rfl⟩)
  refine rx_iconst hE dX11_isAlone_0 (v := 0) (by decide) ?_
  refine rx_istore_n_2 hE dX11_isAlone_1 (by decide) rfl ?_
  exact loop R 0 (by omega) rfl
set_option maxRecDepth 100000 in
set_option maxHeartbeats 4000000 in
theorem c_X11_isAnyCrowd {M : gM} {S : gS} {L : gLg} {J : gJn} (hM : 408 ≤ M.1) {R : Nat} (hR : J 9 2 = nI R) (hR6 : R ≤ 6) : SX 1 0 0 mX11_isAnyCrowd [.ref 384] (kp M (kput S J) L) (fun v M' => v = some (.int (jcrF J 0 R)) ∧ M' = kp M (kput S J) L) := by
  refine SX.intro [some (.ref 384), none] (by decide +kernel) (Nat.le_of_ble_eq_true rfl) rfl (fun E hE hQ => ?_)
  have loop : ∀ (n k : Nat) , k + n = R → jcrF J k n = jcrF J 0 R → RX E mX11_isAnyCrowd.2.2.1 0 0 2 [some (.ref 384), some (.int (nI k))] [] (kp M (kput S J) L) := by
    intro n
    induction n with
    | zero =>
      intro k hk hF
      refine rx_iload_n hE dX11_isAnyCrowd_2 (i := 1) rfl rfl ?_
      refine rx_aload_n hE dX11_isAnyCrowd_3 (i := 0) rfl rfl ?_
      refine rx_getf hE dX11_isAnyCrowd_4 fl_X11_39_10 (kp_o hM) rfl ?_
      refine rx_iconst hE dX11_isAnyCrowd_7 (v := 3) (by decide) ?_
      refine rx_ialdN (i := 3) hE dX11_isAnyCrowd_8 (kp_10 hM) (by omega) (by decide) ?_
      refine rx_int _ _ kr_c2 ?_
      refine rx_icmp_ge (tgt := 30) hE dX11_isAnyCrowd_9 (by decide) (fun c9 => ?_) (fun c9 => absurd (by rw [hR]; exact nI_le (by omega) (by omega)) c9)
      refine rx_iconst hE dX11_isAnyCrowd_30 (v := 0) (by decide) ?_
      exact rx_tret hE hQ rfl rfl dX11_isAnyCrowd_31 ⟨by rw [← hF]; rfl, rfl⟩
    | succ n ih =>
      intro k hk hF
      refine rx_iload_n hE dX11_isAnyCrowd_2 (i := 1) rfl rfl ?_
      refine rx_aload_n hE dX11_isAnyCrowd_3 (i := 0) rfl rfl ?_
      refine rx_getf hE dX11_isAnyCrowd_4 fl_X11_39_10 (kp_o hM) rfl ?_
      refine rx_iconst hE dX11_isAnyCrowd_7 (v := 3) (by decide) ?_
      refine rx_ialdN (i := 3) hE dX11_isAnyCrowd_8 (kp_10 hM) (by omega) (by decide) ?_
      refine rx_int _ _ kr_c2 ?_
      refine rx_icmp_ge (tgt := 30) hE dX11_isAnyCrowd_9 (by decide) (fun c9 => absurd (by rw [hR] at c9; exact c9) (nI_ge (by omega) (by omega))) (fun c9 => ?_)
      refine rx_aload_n hE dX11_isAnyCrowd_12 (i := 0) rfl rfl ?_
      refine rx_iload_n hE dX11_isAnyCrowd_13 (i := 1) rfl rfl ?_
      refine rx_call0 (rx_callV (av := [.int (nI (k))]) hE dX11_isAnyCrowd_14 lk_X11_312 (c_X11_waitOn hM (r := k) (by omega)) (kp_o hM) np_X11_waitOn rfl rfl (by decide) (Nat.le_of_ble_eq_true rfl) rfl ?_)
      rintro v M' ⟨rfl, rfl⟩
      refine rx_bipush hE dX11_isAnyCrowd_17 (v := 20) (by decide) ?_
      refine rx_icmp_le (tgt := 24) hE dX11_isAnyCrowd_19 (by decide) (fun c19 => ?_) (fun c19 => ?_)
      · refine rx_iinc_1 hE dX11_isAnyCrowd_24 (v := 1) (by decide) (by decide) rfl ?_
        rw [nI_1]
        refine rx_goto (tgt := 2) hE dX11_isAnyCrowd_27 (by decide) ?_
        exact ih (k + 1) (by omega) (by rw [← hF]; exact (if_pos c19).symm)
      · refine rx_iconst hE dX11_isAnyCrowd_22 (v := 1) (by decide) ?_
        exact rx_tret hE hQ rfl rfl dX11_isAnyCrowd_23 ⟨by rw [← hF]; exact congrArg (fun x => some (Value.int x)) (if_neg c19).symm, rfl⟩
  refine rx_iconst hE dX11_isAnyCrowd_0 (v := 0) (by decide) ?_
  refine rx_istore_n_1 hE dX11_isAnyCrowd_1 (by decide) rfl ?_
  exact loop R 0 (by omega) rfl
theorem jalF_le1 (h : Nat → Int32) (r : Nat) : True := trivial
set_option maxRecDepth 100000 in
set_option maxHeartbeats 4000000 in
theorem c_X11_cadenza {M : gM} {S : gS} {L : gLg} {J : gJn} {g : Nat → Int32} (hM : 408 ≤ M.1) {t : gJn → Nat → Int32 → Bool} (hk : kok S J t) (road : Int32) : SX 7 0 0 mX11_cadenza [.ref 384, .int road] (kp M (kput S (j_s J 7 g)) L) (fun v M' => v = some (.int (q_cadenza t J road)) ∧ kD M S J M') := by
  refine SX.intro [some (.ref 384), some (.int road), none, none] (by decide +kernel) (Nat.le_of_ble_eq_true rfl) rfl (fun E hE hQ => ?_)
  refine rx_aload_n hE dX11_cadenza_0 (i := 0) rfl rfl ?_
  refine rx_iload_n hE dX11_cadenza_1 (i := 1) rfl rfl ?_
  refine rx_call0 (rx_callV (av := [.int _]) hE dX11_cadenza_2 lk_X11_309 (c_X11_isRoad hM _) (kp_o hM) np_X11_isRoad rfl rfl (by decide) (Nat.le_of_ble_eq_true rfl) rfl ?_)
  rintro v M' ⟨rfl, rfl⟩
  refine rx_int _ (j_hasRoad J _) rfl ?_
  refine rx_if_ne (tgt := 10) hE dX11_cadenza_5 (by decide) (fun c5 => ?_) (fun c5 => ?_)
  · obtain ⟨hb, hf, hT9, r, hr, rfl⟩ := hk.road c5
    have hr6 := hf.1.2.1
    have fin : ∀ (S' : gS) (L' : gLg) (g' : Nat → Int32) (J' : gJn) (ans x : Int32), kz S t J S' → jst J' J → some (Value.int ans) = some (Value.int (qcad t r 200 J)) → RX E mX11_cadenza.2.2.1 0 0 59 [some (.ref 384), some (.int (nI r)), some (.int ans), some (.int x)] [] (kp M (kput S' (j_s J' 7 g')) L') := by
      intro S' L' g' J' ans x hz hs hv
      have hv : some (Value.int ans) = some (Value.int (q_cadenza t J (nI r))) := by rw [hv]; unfold q_cadenza; rw [if_neg c5, nI_clamp (n := r) (by omega)]
      refine rx_aload_n hE dX11_cadenza_59 (i := 0) rfl rfl ?_
      refine rx_call0 (rx_callV (av := []) hE dX11_cadenza_60 lk_X11_382 (c_X11_laysBack hM hz.2.1) (kp_o hM) np_X11_laysBack rfl rfl (by decide) (Nat.le_of_ble_eq_true rfl) rfl ?_)
      rintro v M' ⟨rfl, rfl⟩
      refine rx_iload_n hE dX11_cadenza_63 (i := 2) rfl rfl ?_
      exact rx_iret hE hQ rfl dX11_cadenza_64 ⟨hv, S', L', _, by rw [hs.back g'], hz.2.2⟩
    have loop : ∀ (n k : Nat) (S' : gS) (L' : gLg) (g' : Nat → Int32) (J' : gJn), k + n = 200 → jT J' = jT J + k → kz S t J S' → jst J' J → jfit J' → qcad t r n J' = qcad t r 200 J → RX E mX11_cadenza.2.2.1 0 0 19 [some (.ref 384), some (.int (nI r)), some (.int (-2)), some (.int (nI k))] [] (kp M (kput S' (j_s J' 7 g')) L') := by
      intro n
      induction n with
      | zero =>
        intro k S' L' g' J' hk2 hT2 hz hs hf' hF
        refine rx_iload_n hE dX11_cadenza_19 (i := 3) rfl rfl ?_
        refine rx_sipush hE dX11_cadenza_20 (v := 200) (by decide) ?_
        refine rx_icmp_ge (tgt := 59) hE dX11_cadenza_23 (by decide) (fun c23 => ?_) (fun c23 => absurd (show nI 200 ≤ nI k from nI_le (by omega) (by omega)) c23)
        exact fin S' L' g' J' _ _ hz hs (by rw [← hF]; rfl)
      | succ n ih =>
        intro k S' L' g' J' hk2 hT2 hz hs hf' hF
        have hR : jR J' = jR J := hs.R
        refine rx_iload_n hE dX11_cadenza_19 (i := 3) rfl rfl ?_
        refine rx_sipush hE dX11_cadenza_20 (v := 200) (by decide) ?_
        refine rx_icmp_ge (tgt := 59) hE dX11_cadenza_23 (by decide) (fun c23 => absurd c23 (nI_ge (a := k) (b := 200) (by omega) (by omega))) (fun c23 => ?_)
        refine rx_iload_n hE dX11_cadenza_26 (i := 2) rfl rfl ?_
        refine rx_if_ge (tgt := 59) hE dX11_cadenza_27 (by decide) (fun c27 => absurd c27 (by decide)) (fun c27 => ?_)
        refine rx_aload_n hE dX11_cadenza_30 (i := 0) rfl rfl ?_
        refine rx_call0 (rx_callV (av := []) hE dX11_cadenza_31 lk_X11_362 (c_X11_passg hM hz.1.1 hz.1.2.1 hz.1.2.2 hf') (kp_o hM) np_X11_passes rfl rfl (by decide) (Nat.le_of_ble_eq_true rfl) rfl ?_)
        rintro v M' ⟨rfl, S1, L1, g1, rfl, hI, hg1⟩
        have hz1 := hz.ip hI
        clear hI
        refine rx_pop hE dX11_cadenza_34 rfl ?_
        refine rx_aload_n hE dX11_cadenza_35 (i := 0) rfl rfl ?_
        refine rx_iload_n hE dX11_cadenza_36 (i := 1) rfl rfl ?_
        refine rx_call0 (rx_callV (av := [.int (nI r)]) hE dX11_cadenza_37 lk_X11_424 (c_X11_isAlone (J := j_s (jone t J') 7 g1) hM (R := jR J) (by show jone t J' 9 2 = _; rw [jone_9 t J' (by decide) (by decide), ← hs.R]; exact hf'.1.1) hr6) (kp_o hM) np_X11_isAlone rfl rfl (by decide) (Nat.le_of_ble_eq_true rfl) rfl ?_)
        rintro v M' ⟨rfl, rfl⟩
        refine rx_int _ (jalF (jone t J' 7) r 0 (jR J')) (by rw [hs.R]; exact jalF_congr r (jR J) 0 (fun i _ hi => hg1 i (by omega))) ?_
        refine rx_if_eq (tgt := 53) hE dX11_cadenza_40 (by decide) (fun c40 => ?_) (fun c40 => ?_)
        · have hc : ¬ ¬ jalF (jone t J' 7) r 0 (jR J') = 0 := not_not_intro c40
          refine rx_iinc_3 hE dX11_cadenza_53 (v := 1) (by decide) (by decide) rfl ?_
          rw [nI_1]
          refine rx_goto (tgt := 19) hE dX11_cadenza_56 (by decide) ?_
          exact ih (k + 1) S1 L1 g1 (jone t J') (by omega) (by rw [jone_T t hf'.1]; omega) hz1 (hs.trans (jst.one t J')) (hf'.one t (by omega)) (by rw [← hF]; show _ = (if ¬ jalF (jone t J' 7) r 0 (jR J') = 0 then J' 9 3 else _); rw [if_neg hc])
        · have hc : ¬ jalF (jone t J' 7) r 0 (jR J') = 0 := c40
          refine rx_aload_n hE dX11_cadenza_43 (i := 0) rfl rfl ?_
          refine rx_getf hE dX11_cadenza_44 fl_X11_39_10 (kp_o hM) rfl ?_
          refine rx_bipush hE dX11_cadenza_47 (v := 10) (by decide) ?_
          refine rx_ialdN (i := 10) hE dX11_cadenza_49 (kp_10 hM) (by omega) (by decide) ?_
          refine rx_int _ _ kr_c3 ?_
          refine rx_iconst hE dX11_cadenza_50 (v := 1) (by decide) ?_
          refine rx_isub hE dX11_cadenza_51 ?_
          refine rx_int _ (J' 9 3) (jok.m1 t J') ?_
          refine rx_istore_n_2 hE dX11_cadenza_52 (by decide) rfl ?_
          refine rx_iinc_3 hE dX11_cadenza_53 (v := 1) (by decide) (by decide) rfl ?_
          rw [nI_1]
          refine rx_goto (tgt := 19) hE dX11_cadenza_56 (by decide) ?_
          refine rx_iload_n hE dX11_cadenza_19 (i := 3) rfl rfl ?_
          refine rx_sipush hE dX11_cadenza_20 (v := 200) (by decide) ?_
          refine rx_icmp_ge (tgt := 59) hE dX11_cadenza_23 (by decide) (fun c23 => ?_) (fun c23 => ?_)
          · exact fin S1 L1 g1 _ _ _ hz1 (hs.trans (jst.one t J')) (by rw [← hF]; show some (Value.int (J' 9 3)) = some (Value.int (if ¬ jalF (jone t J' 7) r 0 (jR J') = 0 then J' 9 3 else _)); rw [if_pos hc])
          · refine rx_iload_n hE dX11_cadenza_26 (i := 2) rfl rfl ?_
            refine rx_if_ge (tgt := 59) hE dX11_cadenza_27 (by decide) (fun c27 => ?_) (fun c27 => absurd (by rw [hf'.1.2.2.2.2.2.2.1]; exact nI_pos' (by omega)) c27)
            exact fin S1 L1 g1 _ _ _ hz1 (hs.trans (jst.one t J')) (by rw [← hF]; show some (Value.int (J' 9 3)) = some (Value.int (if ¬ jalF (jone t J' 7) r 0 (jR J') = 0 then J' 9 3 else _)); rw [if_pos hc])
    refine rx_bipush hE dX11_cadenza_10 (v := -2) (by decide) ?_
    refine rx_istore_n_2 hE dX11_cadenza_12 (by decide) rfl ?_
    refine rx_aload_n hE dX11_cadenza_13 (i := 0) rfl rfl ?_
    refine rx_call0 (rx_callV (av := []) hE dX11_cadenza_14 lk_X11_376 (c_X11_keeps hM) (kp_o hM) np_X11_keeps rfl rfl (by decide) (Nat.le_of_ble_eq_true rfl) rfl ?_)
    rintro v M' ⟨rfl, rfl⟩
    have hz := kz.keep hb J g
    refine rx_iconst hE dX11_cadenza_17 (v := 0) (by decide) ?_
    refine rx_istore_n_3 hE dX11_cadenza_18 (by decide) rfl ?_
    exact loop 200 0 _ _ g J (by omega) (by omega) hz (jst.refl J) hf rfl
  · refine rx_iconst hE dX11_cadenza_8 (v := -1) (by decide) ?_
    exact rx_iret hE hQ rfl dX11_cadenza_9 ⟨by simp [q_cadenza, *], kD.refl M S L J g⟩
