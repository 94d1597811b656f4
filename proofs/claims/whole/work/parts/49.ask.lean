def qreF (p q : Nat → Int32) (a b : Nat) : Nat → Nat → Int32
  | _, 0 => 1
  | k, n + 1 => if p (5 * a + b) < p (5 * k + b) then 0 else if q (5 * a + k) ≤ q (5 * a + b) then qreF p q a b (k + 1) n else 0
theorem qreF_congr {p q p' q' : Nat → Int32} {a b : Nat} (ha : a < 5) (hb : b < 5) (hp : ∀ c, c < 25 → p c = p' c) (hq : ∀ c, c < 25 → q c = q' c) : ∀ (n k : Nat), k + n ≤ 5 → qreF p q a b k n = qreF p' q' a b k n
  | 0, _, _ => rfl
  | n + 1, k, hk => by
    show (if p (5 * a + b) < p (5 * k + b) then 0 else if q (5 * a + k) ≤ q (5 * a + b) then qreF p q a b (k + 1) n else 0) = (if p' (5 * a + b) < p' (5 * k + b) then 0 else if q' (5 * a + k) ≤ q' (5 * a + b) then qreF p' q' a b (k + 1) n else 0)
    rw [hp _ (by omega), hp (5 * k + b) (by omega), hq (5 * a + k) (by omega), hq (5 * a + b) (by omega), qreF_congr ha hb hp hq n (k + 1) (by omega)]
set_option maxRecDepth 100000 in
set_option maxHeartbeats 4000000 in
theorem c_X11_isRest {M : gM} {S : gS} {L : gLg} {J : gJn} (hM : 408 ≤ M.1) {a b : Nat} (ha : a < 5) (hb : b < 5) : SX 0 0 0 mX11_isRest [.ref 384, .int (nI a), .int (nI b)] (kp M (kput S J) L) (fun v M' => v = some (.int (qreF (fun c => S 16 (2 * c)) (fun c => S 16 (2 * c + 1)) a b 0 5)) ∧ M' = kp M (kput S J) L) := by
  refine SX.intro [some (.ref 384), some (.int (nI a)), some (.int (nI b)), none] (by decide +kernel) (Nat.le_of_ble_eq_true rfl) rfl (fun E hE hQ => ?_)
  have loop : ∀ (n k : Nat) , k + n = 5 → qreF (fun c => S 16 (2 * c)) (fun c => S 16 (2 * c + 1)) a b k n = qreF (fun c => S 16 (2 * c)) (fun c => S 16 (2 * c + 1)) a b 0 5 → RX E mX11_isRest.2.2.1 0 0 2 [some (.ref 384), some (.int (nI a)), some (.int (nI b)), some (.int (nI k))] [] (kp M (kput S J) L) := by
    intro n
    induction n with
    | zero =>
      intro k hk2 hF
      refine rx_iload_n hE dX11_isRest_2 (i := 3) rfl rfl ?_
      refine rx_iconst hE dX11_isRest_3 (v := 5) (by decide) ?_
      refine rx_icmp_ge (tgt := 73) hE dX11_isRest_4 (by decide) (fun c4 => ?_) (fun c4 => absurd (show nI 5 ≤ nI k from nI_le (by omega) (by omega)) c4)
      refine rx_iconst hE dX11_isRest_73 (v := 1) (by decide) ?_
      exact rx_tret hE hQ rfl rfl dX11_isRest_74 ⟨by rw [← hF]; rfl, rfl⟩
    | succ n ih =>
      intro k hk2 hF
      refine rx_iload_n hE dX11_isRest_2 (i := 3) rfl rfl ?_
      refine rx_iconst hE dX11_isRest_3 (v := 5) (by decide) ?_
      refine rx_icmp_ge (tgt := 73) hE dX11_isRest_4 (by decide) (fun c4 => absurd c4 (nI_ge (a := k) (b := 5) (by omega) (by omega))) (fun c4 => ?_)
      refine rx_aload_n hE dX11_isRest_7 (i := 0) rfl rfl ?_
      refine rx_getf hE dX11_isRest_8 fl_X11_67_10 (kp_o hM) rfl ?_
      refine rx_iconst hE dX11_isRest_11 (v := 2) (by decide) ?_
      refine rx_iconst hE dX11_isRest_12 (v := 5) (by decide) ?_
      refine rx_iload_n hE dX11_isRest_13 (i := 3) rfl rfl ?_
      refine rx_imul hE dX11_isRest_14 ?_
      refine rx_int _ (nI (5 * k)) (pk_mul _ _) ?_
      refine rx_iload_n hE dX11_isRest_15 (i := 2) rfl rfl ?_
      refine rx_iadd hE dX11_isRest_16 ?_
      refine rx_int _ (nI (5 * k + b)) (nI_add _ _) ?_
      refine rx_imul hE dX11_isRest_17 ?_
      refine rx_int _ (nI (2 * (5 * k + b))) (pk_mul _ _) ?_
      refine rx_ialdN (i := 2 * (5 * k + b)) hE dX11_isRest_18 (kp_16 hM) (by omega) (by decide) ?_
      refine rx_int _ _ (kr_a (by decide) (by decide) (by decide)) ?_
      refine rx_aload_n hE dX11_isRest_19 (i := 0) rfl rfl ?_
      refine rx_getf hE dX11_isRest_20 fl_X11_67_10 (kp_o hM) rfl ?_
      refine rx_iconst hE dX11_isRest_23 (v := 2) (by decide) ?_
      refine rx_iconst hE dX11_isRest_24 (v := 5) (by decide) ?_
      refine rx_iload_n hE dX11_isRest_25 (i := 1) rfl rfl ?_
      refine rx_imul hE dX11_isRest_26 ?_
      refine rx_int _ (nI (5 * a)) (pk_mul _ _) ?_
      refine rx_iload_n hE dX11_isRest_27 (i := 2) rfl rfl ?_
      refine rx_iadd hE dX11_isRest_28 ?_
      refine rx_int _ (nI (5 * a + b)) (nI_add _ _) ?_
      refine rx_imul hE dX11_isRest_29 ?_
      refine rx_int _ (nI (2 * (5 * a + b))) (pk_mul _ _) ?_
      refine rx_ialdN (i := 2 * (5 * a + b)) hE dX11_isRest_30 (kp_16 hM) (by omega) (by decide) ?_
      refine rx_int _ _ (kr_a (by decide) (by decide) (by decide)) ?_
      refine rx_icmp_gt (tgt := 65) hE dX11_isRest_31 (by decide) (fun c31 => ?_) (fun c31 => ?_)
      · refine rx_iconst hE dX11_isRest_65 (v := 0) (by decide) ?_
        exact rx_tret hE hQ rfl rfl dX11_isRest_66 ⟨by rw [← hF]; exact congrArg (fun x => some (Value.int x)) (if_pos c31).symm, rfl⟩
      · refine rx_aload_n hE dX11_isRest_34 (i := 0) rfl rfl ?_
        refine rx_getf hE dX11_isRest_35 fl_X11_67_10 (kp_o hM) rfl ?_
        refine rx_iconst hE dX11_isRest_38 (v := 2) (by decide) ?_
        refine rx_iconst hE dX11_isRest_39 (v := 5) (by decide) ?_
        refine rx_iload_n hE dX11_isRest_40 (i := 1) rfl rfl ?_
        refine rx_imul hE dX11_isRest_41 ?_
        refine rx_int _ (nI (5 * a)) (pk_mul _ _) ?_
        refine rx_iload_n hE dX11_isRest_42 (i := 3) rfl rfl ?_
        refine rx_iadd hE dX11_isRest_43 ?_
        refine rx_int _ (nI (5 * a + k)) (nI_add _ _) ?_
        refine rx_imul hE dX11_isRest_44 ?_
        refine rx_int _ (nI (2 * (5 * a + k))) (pk_mul _ _) ?_
        refine rx_iconst hE dX11_isRest_45 (v := 1) (by decide) ?_
        refine rx_iadd hE dX11_isRest_46 ?_
        refine rx_int _ (nI (2 * (5 * a + k) + 1)) (nI_add _ _) ?_
        refine rx_ialdN (i := 2 * (5 * a + k) + 1) hE dX11_isRest_47 (kp_16 hM) (by omega) (by decide) ?_
        refine rx_int _ _ (kr_a (by decide) (by decide) (by decide)) ?_
        refine rx_aload_n hE dX11_isRest_48 (i := 0) rfl rfl ?_
        refine rx_getf hE dX11_isRest_49 fl_X11_67_10 (kp_o hM) rfl ?_
        refine rx_iconst hE dX11_isRest_52 (v := 2) (by decide) ?_
        refine rx_iconst hE dX11_isRest_53 (v := 5) (by decide) ?_
        refine rx_iload_n hE dX11_isRest_54 (i := 1) rfl rfl ?_
        refine rx_imul hE dX11_isRest_55 ?_
        refine rx_int _ (nI (5 * a)) (pk_mul _ _) ?_
        refine rx_iload_n hE dX11_isRest_56 (i := 2) rfl rfl ?_
        refine rx_iadd hE dX11_isRest_57 ?_
        refine rx_int _ (nI (5 * a + b)) (nI_add _ _) ?_
        refine rx_imul hE dX11_isRest_58 ?_
        refine rx_int _ (nI (2 * (5 * a + b))) (pk_mul _ _) ?_
        refine rx_iconst hE dX11_isRest_59 (v := 1) (by decide) ?_
        refine rx_iadd hE dX11_isRest_60 ?_
        refine rx_int _ (nI (2 * (5 * a + b) + 1)) (nI_add _ _) ?_
        refine rx_ialdN (i := 2 * (5 * a + b) + 1) hE dX11_isRest_61 (kp_16 hM) (by omega) (by decide) ?_
        refine rx_int _ _ (kr_a (by decide) (by decide) (by decide)) ?_
        refine rx_icmp_le (tgt := 67) hE dX11_isRest_62 (by decide) (fun c62 => ?_) (fun c62 => ?_)
        · refine rx_iinc_3 hE dX11_isRest_67 (v := 1) (by decide) (by decide) rfl ?_
          rw [nI_1]
          refine rx_goto (tgt := 2) hE dX11_isRest_70 (by decide) ?_
          exact ih (k + 1) (by omega) (by rw [← hF]; exact ((if_neg c31).trans (if_pos c62)).symm)
        · refine rx_iconst hE dX11_isRest_65 (v := 0) (by decide) ?_
          exact rx_tret hE hQ rfl rfl dX11_isRest_66 ⟨by rw [← hF]; exact congrArg (fun x => some (Value.int x)) ((if_neg c31).trans (if_neg c62)).symm, rfl⟩
  refine rx_iconst hE dX11_isRest_0 (v := 0) (by decide) ?_
  refine rx_istore_n_3 hE dX11_isRest_1 (by decide) rfl ?_
  exact loop 5 0 (by omega) rfl
def qhas (J : gJn) (r : Nat) (had : Int32) : Int32 := J 4 r - had - J 0 r / 3
set_option maxRecDepth 100000 in
set_option maxHeartbeats 4000000 in
theorem c_X11_hasThen {M : gM} {S : gS} {L : gLg} {J : gJn} (hM : 408 ≤ M.1) {r : Nat} (hr : r < 6) (had : Int32) : SX 1 0 0 mX11_hasThen [.ref 384, .int (nI r), .int had] (kp M (kput S J) L) (fun v M' => v = some (.int (qhas J r had)) ∧ M' = kp M (kput S J) L) := by
  refine SX.intro [some (.ref 384), some (.int (nI r)), some (.int had)] (by decide +kernel) (Nat.le_of_ble_eq_true rfl) rfl (fun E hE hQ => ?_)
  refine rx_aload_n hE dX11_hasThen_0 (i := 0) rfl rfl ?_
  refine rx_iload_n hE dX11_hasThen_1 (i := 1) rfl rfl ?_
  refine rx_call0 (rx_callV (av := [.int (nI (r))]) hE dX11_hasThen_2 lk_X11_315 (c_X11_wentFrom hM (r := r) (by omega)) (kp_o hM) np_X11_wentFrom rfl rfl (by decide) (Nat.le_of_ble_eq_true rfl) rfl ?_)
  rintro v M' ⟨rfl, rfl⟩
  refine rx_iload_n hE dX11_hasThen_5 (i := 2) rfl rfl ?_
  refine rx_isub hE dX11_hasThen_6 ?_
  refine rx_aload_n hE dX11_hasThen_7 (i := 0) rfl rfl ?_
  refine rx_iload_n hE dX11_hasThen_8 (i := 1) rfl rfl ?_
  refine rx_call0 (rx_callV (av := [.int (nI (r))]) hE dX11_hasThen_9 lk_X11_312 (c_X11_waitOn hM (r := r) (by omega)) (kp_o hM) np_X11_waitOn rfl rfl (by decide) (Nat.le_of_ble_eq_true rfl) rfl ?_)
  rintro v M' ⟨rfl, rfl⟩
  refine rx_iconst hE dX11_hasThen_12 (v := 3) (by decide) ?_
  refine rx_idiv hE dX11_hasThen_13 (by decide) ?_
  refine rx_isub hE dX11_hasThen_14 ?_
  exact rx_iret hE hQ rfl dX11_hasThen_15 ⟨rfl, rfl⟩
def qrj (J : gJn) (a b x y : Nat) : gJn := j_s J 1 (upd (upd (J 1) a (nI x)) b (nI y))
def qrc (J : gJn) (a b c : Nat) : gJn := qrj J a b (1 + 2 * (c / 5)) (1 + 2 * (c % 5))
theorem qrj_ev {J : gJn} {a b : Nat} (hab : a ≠ b) (e : Nat → Int32) (he : ∀ i, i ≠ a → i ≠ b → e i = J 1 i) (x y : Nat) : j_s (j_s (j_s J 1 e) 1 (upd e a (nI x))) 1 (upd (upd e a (nI x)) b (nI y)) = qrj J a b x y := by
  rw [j_ss, j_ss]
  unfold qrj
  congr 1
  funext i
  unfold upd
  by_cases hb : i = b
  · rw [if_pos hb, if_pos hb]
  · rw [if_neg hb, if_neg hb]
    by_cases ha : i = a
    · rw [if_pos ha, if_pos ha]
    · rw [if_neg ha, if_neg ha, he i ha hb]
theorem jfit.qrj {J : gJn} (h : jfit J) {a b x y : Nat} (hx : 0 < x ∧ x ≤ 12) (hy : 0 < y ∧ y ≤ 12) : jfit (qrj J a b x y) := ⟨h.1, h.2.1, h.2.2.1, h.2.2.2.1, fun i hi => by
  show ∃ e, 0 < e ∧ e ≤ 12 ∧ upd (upd (J 1) a (nI x)) b (nI y) i = nI e
  unfold upd
  split
  · exact ⟨y, hy.1, hy.2, rfl⟩
  · split
    · exact ⟨x, hx.1, hx.2, rfl⟩
    · exact h.2.2.2.2.1 i hi, h.2.2.2.2.2⟩
def qhb (t : gJn → Nat → Int32 → Bool) (J : gJn) (N a b r c : Nat) : Int32 := qhas (jmanyF t N (qrc J a b c)) r (J 4 r)
theorem qr_back {J : gJn} {a b : Nat} (e : Nat → Int32) (he : ∀ i, i ≠ a → i ≠ b → e i = J 1 i) : j_s J 1 (upd (upd e a (J 1 a)) b (J 1 b)) = J := by
  rw [show upd (upd e a (J 1 a)) b (J 1 b) = J 1 from ?_, j_s_id]
  funext i
  unfold upd
  by_cases hb : i = b
  · rw [if_pos hb, hb]
  · rw [if_neg hb]
    by_cases ha : i = a
    · rw [if_pos ha, ha]
    · rw [if_neg ha, he i ha hb]
set_option maxRecDepth 100000 in
set_option maxHeartbeats 4000000 in
theorem c_X11_fillsRests {M : gM} {S : gS} {L : gLg} {J : gJn} {g : Nat → Int32} (hM : 408 ≤ M.1) {t : gJn → Nat → Int32 → Bool} {N a b : Nat} (hb : kb S t) (hf : jfit J) (hT9 : jT J ≤ 999) (hN : N ≤ 20) (har : a < 6) (hbr : b < 6) (hab : a ≠ b) : SX 8 0 0 mX11_fillsRests [.ref 384, .int (nI a), .int (nI b), .int (nI N)] (kp M (kput S (j_s J 7 g)) L) (fun v M' => v = none ∧ ∃ (S' : gS) (L' : gLg) (g' : Nat → Int32), M' = kp M (kput S' (j_s J 7 g')) L' ∧ kz S t J S' ∧ ∀ c', c' < 25 → S' 16 (2 * c') = qhb t J N a b a c' ∧ S' 16 (2 * c' + 1) = qhb t J N a b b c') := by
  refine SX.intro [some (.ref 384), some (.int (nI a)), some (.int (nI b)), some (.int (nI N)), none, none, none, none, none] (by decide +kernel) (Nat.le_of_ble_eq_true rfl) rfl (fun E hE hQ => ?_)
  have loop : ∀ (n c : Nat) (S' : gS) (L' : gLg) (g' : Nat → Int32) (e : Nat → Int32), c + n = 25 → kz S t J S' → (∀ i, i ≠ a → i ≠ b → e i = J 1 i) → (∀ c', c' < c → S' 16 (2 * c') = qhb t J N a b a c' ∧ S' 16 (2 * c' + 1) = qhb t J N a b b c') → RX E mX11_fillsRests.2.2.1 0 0 43 [some (.ref 384), some (.int (nI a)), some (.int (nI b)), some (.int (nI N)), some (.int (J 1 a)), some (.int (J 1 b)), some (.int (J 4 a)), some (.int (J 4 b)), some (.int (nI c))] [] (kp M (kput S' (j_s (j_s J 1 e) 7 g')) L') := by
    intro n
    induction n with
    | zero =>
      intro c S' L' g' e hk2 hz he hH
      refine rx_iload hE dX11_fillsRests_43 rfl ?_
      refine rx_bipush hE dX11_fillsRests_45 (v := 25) (by decide) ?_
      refine rx_icmp_ge (tgt := 133) hE dX11_fillsRests_47 (by decide) (fun c47 => ?_) (fun c47 => absurd (show nI 25 ≤ nI c from nI_le (by omega) (by omega)) c47)
      refine rx_aload_n hE dX11_fillsRests_133 (i := 0) rfl rfl ?_
      refine rx_getf hE dX11_fillsRests_134 fl_X11_39_10 (kp_o hM) rfl ?_
      refine rx_bipush hE dX11_fillsRests_137 (v := 54) (by decide) ?_
      refine rx_iload_n hE dX11_fillsRests_139 (i := 1) rfl rfl ?_
      refine rx_iadd hE dX11_fillsRests_140 ?_
      refine rx_int _ (nI (54 + a)) (nI_add _ _) ?_
      refine rx_iload hE dX11_fillsRests_141 rfl ?_
      refine rx_iastN (i := 54 + a) hE dX11_fillsRests_143 (kp_10 hM) (by omega) (by decide) ?_
      refine rx_mem (M' := kp M (kput S' (j_s (j_s J 1 (upd e a (J 1 a))) 7 g')) L') (by rw [kx_1 (by omega), j_s_s7 _ _ (by decide), j_ss]; rfl) ?_
      refine rx_aload_n hE dX11_fillsRests_144 (i := 0) rfl rfl ?_
      refine rx_getf hE dX11_fillsRests_145 fl_X11_39_10 (kp_o hM) rfl ?_
      refine rx_bipush hE dX11_fillsRests_148 (v := 54) (by decide) ?_
      refine rx_iload_n hE dX11_fillsRests_150 (i := 2) rfl rfl ?_
      refine rx_iadd hE dX11_fillsRests_151 ?_
      refine rx_int _ (nI (54 + b)) (nI_add _ _) ?_
      refine rx_iload hE dX11_fillsRests_152 rfl ?_
      refine rx_iastN (i := 54 + b) hE dX11_fillsRests_154 (kp_10 hM) (by omega) (by decide) ?_
      refine rx_mem (M' := kp M (kput S' (j_s J 7 g')) L') (by rw [kx_1 (by omega), j_s_s7 _ _ (by decide), j_ss]; exact congrArg (fun x => kp M (kput S' (j_s x 7 g')) L') (qr_back e he)) ?_
      exact rx_vret hE hQ rfl dX11_fillsRests_155 ⟨rfl, S', L', g', rfl, hz, fun c' h => hH c' (by omega)⟩
    | succ n ih =>
      intro c S' L' g' e hk2 hz he hH
      refine rx_iload hE dX11_fillsRests_43 rfl ?_
      refine rx_bipush hE dX11_fillsRests_45 (v := 25) (by decide) ?_
      refine rx_icmp_ge (tgt := 133) hE dX11_fillsRests_47 (by decide) (fun c47 => absurd c47 (nI_ge (a := c) (b := 25) (by omega) (by omega))) (fun c47 => ?_)
      refine rx_aload_n hE dX11_fillsRests_50 (i := 0) rfl rfl ?_
      refine rx_getf hE dX11_fillsRests_51 fl_X11_39_10 (kp_o hM) rfl ?_
      refine rx_bipush hE dX11_fillsRests_54 (v := 54) (by decide) ?_
      refine rx_iload_n hE dX11_fillsRests_56 (i := 1) rfl rfl ?_
      refine rx_iadd hE dX11_fillsRests_57 ?_
      refine rx_int _ (nI (54 + a)) (nI_add _ _) ?_
      refine rx_iconst hE dX11_fillsRests_58 (v := 1) (by decide) ?_
      refine rx_iconst hE dX11_fillsRests_59 (v := 2) (by decide) ?_
      refine rx_iload hE dX11_fillsRests_60 rfl ?_
      refine rx_iconst hE dX11_fillsRests_62 (v := 5) (by decide) ?_
      refine rx_idiv hE dX11_fillsRests_63 (by decide) ?_
      refine rx_int _ (nI (c / 5)) (pk_div (by omega) (by decide) (by decide)) ?_
      refine rx_imul hE dX11_fillsRests_64 ?_
      refine rx_int _ (nI (2 * (c / 5))) (pk_mul 2 _) ?_
      refine rx_iadd hE dX11_fillsRests_65 ?_
      refine rx_int _ (nI (1 + 2 * (c / 5))) (nI_add 1 _) ?_
      refine rx_iastN (i := 54 + a) hE dX11_fillsRests_66 (kp_10 hM) (by omega) (by decide) ?_
      refine rx_mem (M' := kp M (kput S' (j_s (j_s J 1 (upd e a (nI (1 + 2 * (c / 5))))) 7 g')) L') (by rw [kx_1 (by omega), j_s_s7 _ _ (by decide), j_ss]; rfl) ?_
      refine rx_aload_n hE dX11_fillsRests_67 (i := 0) rfl rfl ?_
      refine rx_getf hE dX11_fillsRests_68 fl_X11_39_10 (kp_o hM) rfl ?_
      refine rx_bipush hE dX11_fillsRests_71 (v := 54) (by decide) ?_
      refine rx_iload_n hE dX11_fillsRests_73 (i := 2) rfl rfl ?_
      refine rx_iadd hE dX11_fillsRests_74 ?_
      refine rx_int _ (nI (54 + b)) (nI_add _ _) ?_
      refine rx_iconst hE dX11_fillsRests_75 (v := 1) (by decide) ?_
      refine rx_iconst hE dX11_fillsRests_76 (v := 2) (by decide) ?_
      refine rx_iload hE dX11_fillsRests_77 rfl ?_
      refine rx_iconst hE dX11_fillsRests_79 (v := 5) (by decide) ?_
      refine rx_irem hE dX11_fillsRests_80 (by decide) ?_
      refine rx_int _ (nI (c % 5)) (pk_rem (by omega) (by decide) (by decide)) ?_
      refine rx_imul hE dX11_fillsRests_81 ?_
      refine rx_int _ (nI (2 * (c % 5))) (pk_mul 2 _) ?_
      refine rx_iadd hE dX11_fillsRests_82 ?_
      refine rx_int _ (nI (1 + 2 * (c % 5))) (nI_add 1 _) ?_
      refine rx_iastN (i := 54 + b) hE dX11_fillsRests_83 (kp_10 hM) (by omega) (by decide) ?_
      refine rx_mem (M' := kp M (kput S' (j_s (qrc J a b c) 7 g')) L') (by rw [kx_1 (by omega), j_s_s7 _ _ (by decide)]; show kp M (kput S' (j_s (j_s (j_s J 1 (upd e a (nI (1 + 2 * (c / 5))))) 1 (upd (upd e a (nI (1 + 2 * (c / 5)))) b (nI (1 + 2 * (c % 5))))) 7 g')) L' = _; unfold qrc; rw [← qrj_ev hab e he, j_ss, j_ss, j_ss]) ?_
      refine rx_aload_n hE dX11_fillsRests_84 (i := 0) rfl rfl ?_
      refine rx_iload_n hE dX11_fillsRests_85 (i := 3) rfl rfl ?_
      refine rx_call0 (rx_callV (av := [.int (nI N)]) hE dX11_fillsRests_86 lk_X11_379 (c_X11_passesAll hM hz.1.1 hz.1.2.1 hz.1.2.2 (hf.qrj ⟨by omega, by omega⟩ ⟨by omega, by omega⟩) (by show jT J + N < _; omega)) (kp_o hM) np_X11_passesAll rfl rfl (by decide) (Nat.le_of_ble_eq_true rfl) rfl ?_)
      rintro v M' ⟨rfl, S1, L1, g1, rfl, hI⟩
      have hz0 := hz.ip hI
      have hH1 : ∀ c', c' < c → S1 16 (2 * c') = qhb t J N a b a c' ∧ S1 16 (2 * c' + 1) = qhb t J N a b b c' := by obtain ⟨tp, rfl, _⟩ := hI; exact hH
      clear hI
      refine rx_aload_n hE dX11_fillsRests_89 (i := 0) rfl rfl ?_
      refine rx_getf hE dX11_fillsRests_90 fl_X11_67_10 (kp_o hM) rfl ?_
      refine rx_iconst hE dX11_fillsRests_93 (v := 2) (by decide) ?_
      refine rx_iload hE dX11_fillsRests_94 rfl ?_
      refine rx_imul hE dX11_fillsRests_96 ?_
      refine rx_int _ (nI (2 * c)) (pk_mul _ _) ?_
      refine rx_aload_n hE dX11_fillsRests_97 (i := 0) rfl rfl ?_
      refine rx_iload_n hE dX11_fillsRests_98 (i := 1) rfl rfl ?_
      refine rx_iload hE dX11_fillsRests_99 rfl ?_
      refine rx_call0 (rx_callV (av := [.int (nI a), .int _]) hE dX11_fillsRests_101 lk_X11_427 (c_X11_hasThen hM (r := a) (by omega) _) (kp_o hM) np_X11_hasThen rfl rfl (by decide) (Nat.le_of_ble_eq_true rfl) rfl ?_)
      rintro v M' ⟨rfl, rfl⟩
      refine rx_int _ (qhb t J N a b a c) rfl ?_
      refine rx_iastN (i := 2 * c) hE dX11_fillsRests_104 (kp_16 hM) (by omega) (by decide) ?_
      refine rx_mem (M' := kp M (kput (k_s S1 16 (upd (S1 16) (2 * c) (qhb t J N a b a c))) (j_s (jmanyF t N (qrc J a b c)) 7 g1)) L1) (by rw [kw_16, kput_s (by decide) (by decide) (by decide)]; rfl) ?_
      refine rx_aload_n hE dX11_fillsRests_105 (i := 0) rfl rfl ?_
      refine rx_getf hE dX11_fillsRests_106 fl_X11_67_10 (kp_o hM) rfl ?_
      refine rx_iconst hE dX11_fillsRests_109 (v := 2) (by decide) ?_
      refine rx_iload hE dX11_fillsRests_110 rfl ?_
      refine rx_imul hE dX11_fillsRests_112 ?_
      refine rx_int _ (nI (2 * c)) (pk_mul _ _) ?_
      refine rx_iconst hE dX11_fillsRests_113 (v := 1) (by decide) ?_
      refine rx_iadd hE dX11_fillsRests_114 ?_
      refine rx_int _ (nI (2 * c + 1)) (nI_add _ _) ?_
      refine rx_aload_n hE dX11_fillsRests_115 (i := 0) rfl rfl ?_
      refine rx_iload_n hE dX11_fillsRests_116 (i := 2) rfl rfl ?_
      refine rx_iload hE dX11_fillsRests_117 rfl ?_
      refine rx_call0 (rx_callV (av := [.int (nI b), .int _]) hE dX11_fillsRests_119 lk_X11_427 (c_X11_hasThen hM (r := b) (by omega) _) (kp_o hM) np_X11_hasThen rfl rfl (by decide) (Nat.le_of_ble_eq_true rfl) rfl ?_)
      rintro v M' ⟨rfl, rfl⟩
      refine rx_int _ (qhb t J N a b b c) rfl ?_
      refine rx_iastN (i := 2 * c + 1) hE dX11_fillsRests_122 (kp_16 hM) (by omega) (by decide) ?_
      refine rx_mem (M' := kp M (kput (k_s (k_s S1 16 (upd (S1 16) (2 * c) (qhb t J N a b a c))) 16 (upd ((k_s S1 16 (upd (S1 16) (2 * c) (qhb t J N a b a c))) 16) (2 * c + 1) (qhb t J N a b b c))) (j_s (jmanyF t N (qrc J a b c)) 7 g1)) L1) (by rw [kw_16, kput_s (by decide) (by decide) (by decide)]; rfl) ?_
      refine rx_aload_n hE dX11_fillsRests_123 (i := 0) rfl rfl ?_
      have hz1 := (hz0.s (c := 16) (upd (S1 16) (2 * c) (qhb t J N a b a c)) (by decide) (by decide)).s (c := 16) (upd ((k_s S1 16 (upd (S1 16) (2 * c) (qhb t J N a b a c))) 16) (2 * c + 1) (qhb t J N a b b c)) (by decide) (by decide)
      refine rx_call0 (rx_callV (av := []) hE dX11_fillsRests_124 lk_X11_382 (c_X11_laysBack hM hz1.2.1) (kp_o hM) np_X11_laysBack rfl rfl (by decide) (Nat.le_of_ble_eq_true rfl) rfl ?_)
      rintro v M' ⟨rfl, rfl⟩
      rw [(jst.many t N (qrc J a b c)).back2 (J := J) ⟨fun f h1 _ _ _ => if_neg h1, rfl, rfl⟩ g1]
      refine rx_iinc_8 hE dX11_fillsRests_127 (v := 1) (by decide) (by decide) rfl ?_
      rw [nI_1]
      refine rx_goto (tgt := 43) hE dX11_fillsRests_130 (by decide) ?_
      exact ih (c + 1) _ _ g1 (upd (upd (J 1) a (nI (1 + 2 * (c / 5)))) b (nI (1 + 2 * (c % 5)))) (by omega) hz1 (fun i h1 h2 => by rw [upd_ne h2, upd_ne h1]) (fun c' h => by
        show (if 2 * c' = 2 * c + 1 then qhb t J N a b b c else if 2 * c' = 2 * c then qhb t J N a b a c else S1 16 (2 * c')) = _ ∧ (if 2 * c' + 1 = 2 * c + 1 then qhb t J N a b b c else if 2 * c' + 1 = 2 * c then qhb t J N a b a c else S1 16 (2 * c' + 1)) = _
        by_cases hc : c' = c
        · subst hc
          rw [if_neg (by omega), if_pos rfl, if_pos rfl]
          exact ⟨rfl, rfl⟩
        · rw [if_neg (by omega), if_neg (by omega), if_neg (by omega), if_neg (by omega)]
          exact hH1 c' (by omega))
  refine rx_aload_n hE dX11_fillsRests_0 (i := 0) rfl rfl ?_
  refine rx_getf hE dX11_fillsRests_1 fl_X11_39_10 (kp_o hM) rfl ?_
  refine rx_bipush hE dX11_fillsRests_4 (v := 54) (by decide) ?_
  refine rx_iload_n hE dX11_fillsRests_6 (i := 1) rfl rfl ?_
  refine rx_iadd hE dX11_fillsRests_7 ?_
  refine rx_int _ (nI (54 + a)) (nI_add _ _) ?_
  refine rx_ialdN (i := 54 + a) hE dX11_fillsRests_8 (kp_10 hM) (by omega) (by decide) ?_
  refine rx_int _ (J 1 a) (kr_1 (by omega)) ?_
  refine rx_istore_4 hE dX11_fillsRests_9 (by decide) rfl ?_
  refine rx_aload_n hE dX11_fillsRests_11 (i := 0) rfl rfl ?_
  refine rx_getf hE dX11_fillsRests_12 fl_X11_39_10 (kp_o hM) rfl ?_
  refine rx_bipush hE dX11_fillsRests_15 (v := 54) (by decide) ?_
  refine rx_iload_n hE dX11_fillsRests_17 (i := 2) rfl rfl ?_
  refine rx_iadd hE dX11_fillsRests_18 ?_
  refine rx_int _ (nI (54 + b)) (nI_add _ _) ?_
  refine rx_ialdN (i := 54 + b) hE dX11_fillsRests_19 (kp_10 hM) (by omega) (by decide) ?_
  refine rx_int _ (J 1 b) (kr_1 (by omega)) ?_
  refine rx_istore_5 hE dX11_fillsRests_20 (by decide) rfl ?_
  refine rx_aload_n hE dX11_fillsRests_22 (i := 0) rfl rfl ?_
  refine rx_iload_n hE dX11_fillsRests_23 (i := 1) rfl rfl ?_
  refine rx_call0 (rx_callV (av := [.int (nI a)]) hE dX11_fillsRests_24 lk_X11_315 (c_X11_wentFrom hM (r := a) (by omega)) (kp_o hM) np_X11_wentFrom rfl rfl (by decide) (Nat.le_of_ble_eq_true rfl) rfl ?_)
  rintro v M' ⟨rfl, rfl⟩
  refine rx_int _ (J 4 a) rfl ?_
  refine rx_istore_6 hE dX11_fillsRests_27 (by decide) rfl ?_
  refine rx_aload_n hE dX11_fillsRests_29 (i := 0) rfl rfl ?_
  refine rx_iload_n hE dX11_fillsRests_30 (i := 2) rfl rfl ?_
  refine rx_call0 (rx_callV (av := [.int (nI b)]) hE dX11_fillsRests_31 lk_X11_315 (c_X11_wentFrom hM (r := b) (by omega)) (kp_o hM) np_X11_wentFrom rfl rfl (by decide) (Nat.le_of_ble_eq_true rfl) rfl ?_)
  rintro v M' ⟨rfl, rfl⟩
  refine rx_int _ (J 4 b) rfl ?_
  refine rx_istore_7 hE dX11_fillsRests_34 (by decide) rfl ?_
  refine rx_aload_n hE dX11_fillsRests_36 (i := 0) rfl rfl ?_
  refine rx_call0 (rx_callV (av := []) hE dX11_fillsRests_37 lk_X11_376 (c_X11_keeps hM) (kp_o hM) np_X11_keeps rfl rfl (by decide) (Nat.le_of_ble_eq_true rfl) rfl ?_)
  rintro v M' ⟨rfl, rfl⟩
  have hz := kz.keep hb J g
  refine rx_iconst hE dX11_fillsRests_40 (v := 0) (by decide) ?_
  refine rx_istore_8 hE dX11_fillsRests_41 (by decide) rfl ?_
  refine rx_mem (M' := kp M (kput (k_s S 13 (kfl (S 13) (krow (j_s J 7 g)) 44)) (j_s (j_s J 1 (J 1)) 7 g)) L) (by rw [j_s_id]) ?_
  exact loop 25 0 _ _ g (J 1) (by omega) hz (fun _ _ _ => rfl) (fun c' h => by omega)
