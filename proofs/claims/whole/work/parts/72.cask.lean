/-! ===== ring ===== -/
theorem xq.R {n : Nat} {X Y : gX} {O : gO} {Q : gU} (h : xq X Y) (hR : xR n X O Q) : xR n Y O Q := hR.eq (by rw [h 0 (by decide) (by decide) (by decide)])
theorem xq.J {X Y : gX} {J : gJn} (h : xq X Y) (hJ : X 2 = J) : Y 2 = J := (h 2 (by decide) (by decide) (by decide)).trans hJ
theorem xq.K {X Y : gX} {J : gJn} (h : xq X Y) (hJ : X 3 = J) : Y 3 = J := (h 3 (by decide) (by decide) (by decide)).trans hJ
theorem xq.tf {X Y : gX} {Q : gU} {t : gJn → Nat → Int32 → Bool} (h : xq X Y) (ht : xtf X Q (X 0 0 17) = t) : xtf Y Q (Y 0 0 17) = t := by
  have e := h 0 (by decide) (by decide) (by decide)
  rw [xtf_eq (X := X) (by rw [e]), e]
  exact ht
theorem qriB_congr {W W' : Nat → Int32} {B R : Nat} (hR : R ≤ 6) {a : Nat} (ha : a ≤ 60) (h : ∀ q, q < 366 → W q = W' q) : ∀ (n b : Nat), b + n ≤ 61 → qriB W B R a b n = qriB W' B R a b n
  | 0, _, _ => rfl
  | n + 1, b, hb => by
    show (if qal W B R a b = 0 then qriB W B R a (b + 1) n else b - a) = (if qal W' B R a b = 0 then qriB W' B R a (b + 1) n else b - a)
    have e : qal W B R a b = qal W' B R a b := by
      unfold qal
      rw [qalF_congr hR a b ha (by omega) (fun q hq _ => h q hq) R 0 (by omega)]
    rw [e, qriB_congr hR ha h n (b + 1) (by omega)]
theorem qriB_le (W : Nat → Int32) (B R a : Nat) : ∀ (n b : Nat), b + n ≤ 61 → qriB W B R a b n ≤ 60
  | 0, _, _ => Nat.zero_le _
  | n + 1, b, hb => by
    show (if qal W B R a b = 0 then qriB W B R a (b + 1) n else b - a) ≤ 60
    split
    · exact qriB_le W B R a n (b + 1) (by omega)
    · omega
theorem nI_m1' {z : Nat} (hz : z < 2 ^ 31) : ¬ nI z = -1 := fun q => nI_pos hz (by rw [q]; decide)
set_option maxRecDepth 100000 in
set_option maxHeartbeats 1000000 in
theorem c_X10_sameBegins {n : Nat} {X : gX} {O : gO} {Q : gU} {G : gK} {S : gS} {L : gLg} (hR : xR n X O Q) {J : gJn} (hJ : X 2 = J) (hf : jfit J) (hT9 : jT J ≤ 999) {t : gJn → Nat → Int32 → Bool} (ht : xtf X Q (X 0 0 17) = t) {a b : Nat} (ha : a ≤ 60) (hb : b ≤ 60) : SX 0 0 0 mX10_sameBegins [.ref 16, .int (nI a), .int (nI b)] (xm n X O Q G S L) (fun v M' => v = some (.int (qalF (X 32 3) a b 0 (jR J))) ∧ M' = xm n X O Q G S L) := by
  refine SX.intro [some (.ref 16), some (.int (nI a)), some (.int (nI b)), none] (by decide +kernel) (Nat.le_of_ble_eq_true rfl) rfl (fun E hE hQ => ?_)
  have hM := hR.M
  have hr6 := hf.1.2.1
  have hB0 := hf.1.2.2.2.2.1
  have hB12 := hf.1.2.2.2.2.2.1
  have loop : ∀ (m k : Nat), k + m = jR J → qalF (X 32 3) a b k m = qalF (X 32 3) a b 0 (jR J) → RX E mX10_sameBegins.2.2.1 0 0 2 [some (.ref 16), some (.int (nI a)), some (.int (nI b)), some (.int (nI k))] [] (xm n X O Q G S L) := by
    intro m
    induction m with
    | zero =>
      intro k hk2 hF
      refine rx_iload_n hE dX10_sameBegins_2 (i := 3) rfl rfl ?_
      refine rx_aload_n hE dX10_sameBegins_3 (i := 0) rfl rfl ?_
      refine rx_getf hE dX10_sameBegins_4 fl_X10_19_9 (xa_0 hM) rfl ?_
      refine rx_getfN hE dX10_sameBegins_7 fl_X10_132_2 (xa_j xJ_2 hM) rfl ?_
      refine rx_int _ (nI (jR J)) ((congrFun (congrFun hJ 9) 2).trans hf.1.1) ?_
      refine rx_icmp_ge (tgt := 46) hE dX10_sameBegins_10 (by decide) (fun c10 => ?_) (fun c10 => absurd (show nI (jR J) ≤ nI k from nI_le (by omega) (by omega)) c10)
      refine rx_iconst hE dX10_sameBegins_46 (v := 1) (by decide) ?_
      exact rx_tret hE hQ rfl rfl dX10_sameBegins_47 ⟨by rw [← hF]; rfl, rfl⟩
    | succ m ih =>
      intro k hk2 hF
      refine rx_iload_n hE dX10_sameBegins_2 (i := 3) rfl rfl ?_
      refine rx_aload_n hE dX10_sameBegins_3 (i := 0) rfl rfl ?_
      refine rx_getf hE dX10_sameBegins_4 fl_X10_19_9 (xa_0 hM) rfl ?_
      refine rx_getfN hE dX10_sameBegins_7 fl_X10_132_2 (xa_j xJ_2 hM) rfl ?_
      refine rx_int _ (nI (jR J)) ((congrFun (congrFun hJ 9) 2).trans hf.1.1) ?_
      refine rx_icmp_ge (tgt := 46) hE dX10_sameBegins_10 (by decide) (fun c10 => absurd c10 (nI_ge (a := k) (b := (jR J)) (by omega) (by omega))) (fun c10 => ?_)
      refine rx_aload_n hE dX10_sameBegins_13 (i := 0) rfl rfl ?_
      refine rx_getf hE dX10_sameBegins_14 fl_X10_93_9 (xa_0 hM) rfl ?_
      refine rx_iload_n hE dX10_sameBegins_17 (i := 1) rfl rfl ?_
      refine rx_bipush hE dX10_sameBegins_18 (v := 6) (by decide) ?_
      refine rx_imul hE dX10_sameBegins_20 ?_
      refine rx_int _ (nI (a * 6)) (pk_mul _ _) ?_
      refine rx_iload_n hE dX10_sameBegins_21 (i := 3) rfl rfl ?_
      refine rx_iadd hE dX10_sameBegins_22 ?_
      refine rx_int _ (nI (a * 6 + k)) (nI_add _ _) ?_
      refine rx_ialdN (i := a * 6 + k) hE dX10_sameBegins_23 (xa_32_3 hM) (by omega) (by decide) ?_
      refine rx_int _ (X 32 3 (6 * a + k)) (by rw [Nat.mul_comm]) ?_
      refine rx_aload_n hE dX10_sameBegins_24 (i := 0) rfl rfl ?_
      refine rx_getf hE dX10_sameBegins_25 fl_X10_93_9 (xa_0 hM) rfl ?_
      refine rx_iload_n hE dX10_sameBegins_28 (i := 2) rfl rfl ?_
      refine rx_bipush hE dX10_sameBegins_29 (v := 6) (by decide) ?_
      refine rx_imul hE dX10_sameBegins_31 ?_
      refine rx_int _ (nI (b * 6)) (pk_mul _ _) ?_
      refine rx_iload_n hE dX10_sameBegins_32 (i := 3) rfl rfl ?_
      refine rx_iadd hE dX10_sameBegins_33 ?_
      refine rx_int _ (nI (b * 6 + k)) (nI_add _ _) ?_
      refine rx_ialdN (i := b * 6 + k) hE dX10_sameBegins_34 (xa_32_3 hM) (by omega) (by decide) ?_
      refine rx_int _ (X 32 3 (6 * b + k)) (by rw [Nat.mul_comm]) ?_
      refine rx_icmp_eq (tgt := 40) hE dX10_sameBegins_35 (by decide) (fun c35 => ?_) (fun c35 => ?_)
      · refine rx_iinc_3 hE dX10_sameBegins_40 (v := 1) (by decide) (by decide) rfl ?_
        rw [nI_1]
        refine rx_goto (tgt := 2) hE dX10_sameBegins_43 (by decide) ?_
        exact ih (k + 1) (by omega) (by rw [← hF]; exact (if_pos c35).symm)
      · refine rx_iconst hE dX10_sameBegins_38 (v := 0) (by decide) ?_
        exact rx_tret hE hQ rfl rfl dX10_sameBegins_39 ⟨by rw [← hF]; show _ = some (Value.int (if X 32 3 (6 * a + k) = X 32 3 (6 * b + k) then _ else 0)); rw [if_neg c35], rfl⟩
  refine rx_iconst hE dX10_sameBegins_0 (v := 0) (by decide) ?_
  refine rx_istore_n_3 hE dX10_sameBegins_1 (by decide) rfl ?_
  exact loop (jR J) 0 (by omega) rfl
set_option maxRecDepth 100000 in
set_option maxHeartbeats 1000000 in
theorem c_X10_ringFrom {n : Nat} {X : gX} {O : gO} {Q : gU} {G : gK} {S : gS} {L : gLg} (hR : xR n X O Q) {J : gJn} (hJ : X 2 = J) (hf : jfit J) (hT9 : jT J ≤ 999) {t : gJn → Nat → Int32 → Bool} (ht : xtf X Q (X 0 0 17) = t) {a : Nat} (ha : a < 60) : SX 1 0 0 mX10_ringFrom [.ref 16, .int (nI a)] (xm n X O Q G S L) (fun v M' => v = some (.int (if qriB (X 32 3) (jB J) (jR J) a (a + 1) (60 - a) = 0 then -1 else nI (qriB (X 32 3) (jB J) (jR J) a (a + 1) (60 - a)))) ∧ M' = xm n X O Q G S L) := by
  refine SX.intro [some (.ref 16), some (.int (nI a)), none] (by decide +kernel) (Nat.le_of_ble_eq_true rfl) rfl (fun E hE hQ => ?_)
  have hM := hR.M
  have hr6 := hf.1.2.1
  have hB0 := hf.1.2.2.2.2.1
  have hB12 := hf.1.2.2.2.2.2.1
  have loop : ∀ (m k : Nat), k + m = 61 - a → 0 < k → qriB (X 32 3) (jB J) (jR J) a (a + k) m = qriB (X 32 3) (jB J) (jR J) a (a + 1) (60 - a) → RX E mX10_ringFrom.2.2.1 0 0 2 [some (.ref 16), some (.int (nI a)), some (.int (nI k))] [] (xm n X O Q G S L) := by
    intro m
    induction m with
    | zero =>
      intro k hk2 hk0 hF
      refine rx_iload_n hE dX10_ringFrom_2 (i := 1) rfl rfl ?_
      refine rx_iload_n hE dX10_ringFrom_3 (i := 2) rfl rfl ?_
      refine rx_iadd hE dX10_ringFrom_4 ?_
      refine rx_int _ (nI (a + k)) (nI_add _ _) ?_
      refine rx_bipush hE dX10_ringFrom_5 (v := 60) (by decide) ?_
      refine rx_icmp_gt (tgt := 51) hE dX10_ringFrom_7 (by decide) (fun c7 => ?_) (fun c7 => absurd (nI_lt (a := 60) (b := a + k) (by omega) (by omega)) c7)
      refine rx_iconst hE dX10_ringFrom_51 (v := -1) (by decide) ?_
      exact rx_iret hE hQ rfl dX10_ringFrom_52 ⟨by rw [if_pos (by rw [← hF]; rfl)], rfl⟩
    | succ m ih =>
      intro k hk2 hk0 hF
      refine rx_iload_n hE dX10_ringFrom_2 (i := 1) rfl rfl ?_
      refine rx_iload_n hE dX10_ringFrom_3 (i := 2) rfl rfl ?_
      refine rx_iadd hE dX10_ringFrom_4 ?_
      refine rx_int _ (nI (a + k)) (nI_add _ _) ?_
      refine rx_bipush hE dX10_ringFrom_5 (v := 60) (by decide) ?_
      refine rx_icmp_gt (tgt := 51) hE dX10_ringFrom_7 (by decide) (fun c7 => absurd c7 (nI_nlt (a := 60) (b := a + k) (by omega) (by decide))) (fun c7 => ?_)
      refine rx_aload_n hE dX10_ringFrom_10 (i := 0) rfl rfl ?_
      refine rx_getf hE dX10_ringFrom_11 fl_X10_19_9 (xa_0 hM) rfl ?_
      refine rx_getfN hE dX10_ringFrom_14 fl_X10_179_2 (xa_j xJ_2 hM) rfl ?_
      refine rx_int _ (nI (jB J)) ((congrFun (congrFun hJ 9) 0).trans hf.1.2.2.2.1) ?_
      refine rx_if_le (tgt := 45) hE dX10_ringFrom_17 (by decide) (fun c17 => absurd c17 (nI_nle hB0 (by omega))) (fun c17 => ?_)
      refine rx_iload_n hE dX10_ringFrom_20 (i := 2) rfl rfl ?_
      refine rx_aload_n hE dX10_ringFrom_21 (i := 0) rfl rfl ?_
      refine rx_getf hE dX10_ringFrom_22 fl_X10_19_9 (xa_0 hM) rfl ?_
      refine rx_getfN hE dX10_ringFrom_25 fl_X10_179_2 (xa_j xJ_2 hM) rfl ?_
      refine rx_int _ (nI (jB J)) ((congrFun (congrFun hJ 9) 0).trans hf.1.2.2.2.1) ?_
      refine rx_irem hE dX10_ringFrom_28 (nI_ne0 hB0 (by omega)) ?_
      refine rx_int _ (nI (k % jB J)) (pk_rem (by omega) hB0 (by omega)) ?_
      refine rx_if_ne (tgt := 45) hE dX10_ringFrom_29 (by decide) (fun c29 => ?_) (fun c29 => ?_)
      · refine rx_iinc_2 hE dX10_ringFrom_45 (v := 1) (by decide) (by decide) rfl ?_
        rw [nI_1]
        refine rx_goto (tgt := 2) hE dX10_ringFrom_48 (by decide) ?_
        have hq : qal (X 32 3) (jB J) (jR J) a (a + k) = 0 := by unfold qal; rw [show a + k - a = k by omega, if_neg (fun q => c29 (by rw [q]; rfl))]
        exact ih (k + 1) (by omega) (by omega) (by rw [← hF]; exact (if_pos hq).symm)
      · have hkB : k % jB J = 0 := nI_inj (by have := Nat.mod_lt k hB0; omega) (by decide) c29
        refine rx_aload_n hE dX10_ringFrom_32 (i := 0) rfl rfl ?_
        refine rx_iload_n hE dX10_ringFrom_33 (i := 1) rfl rfl ?_
        refine rx_iload_n hE dX10_ringFrom_34 (i := 1) rfl rfl ?_
        refine rx_iload_n hE dX10_ringFrom_35 (i := 2) rfl rfl ?_
        refine rx_iadd hE dX10_ringFrom_36 ?_
        refine rx_int _ (nI (a + k)) (nI_add _ _) ?_
        refine rx_call0 (rx_callV (av := [.int (nI a), .int (nI (a + k))]) hE dX10_ringFrom_37 lk_X10_294 (c_X10_sameBegins (X := X) (a := a) (b := a + k) hR hJ hf hT9 ht (by omega) (by omega)) (xa_0 hM) np_X10_sameBegins rfl rfl (by decide) (Nat.le_of_ble_eq_true rfl) rfl ?_)
        rintro v M' ⟨rfl, rfl⟩
        refine rx_if_eq (tgt := 45) hE dX10_ringFrom_40 (by decide) (fun c40 => ?_) (fun c40 => ?_)
        · refine rx_iinc_2 hE dX10_ringFrom_45 (v := 1) (by decide) (by decide) rfl ?_
          rw [nI_1]
          refine rx_goto (tgt := 2) hE dX10_ringFrom_48 (by decide) ?_
          have hq : qal (X 32 3) (jB J) (jR J) a (a + k) = 0 := by unfold qal; rw [show a + k - a = k by omega, if_pos hkB, c40]
          exact ih (k + 1) (by omega) (by omega) (by rw [← hF]; exact (if_pos hq).symm)
        · have hq : ¬ qal (X 32 3) (jB J) (jR J) a (a + k) = 0 := by unfold qal; rw [show a + k - a = k by omega, if_pos hkB]; exact c40
          have hval : qriB (X 32 3) (jB J) (jR J) a (a + 1) (60 - a) = k := by rw [← hF]; exact (if_neg hq).trans (by omega)
          refine rx_iload_n hE dX10_ringFrom_43 (i := 2) rfl rfl ?_
          exact rx_iret hE hQ rfl dX10_ringFrom_44 ⟨by rw [hval, if_neg (by omega)], rfl⟩
  refine rx_iconst hE dX10_ringFrom_0 (v := 1) (by decide) ?_
  refine rx_istore_n_2 hE dX10_ringFrom_1 (by decide) rfl ?_
  exact loop (60 - a) 1 (by omega) (by omega) rfl
set_option maxRecDepth 100000 in
set_option maxHeartbeats 1000000 in
theorem c_X10_ring {n : Nat} {X : gX} {O : gO} {Q : gU} {G : gK} {S : gS} {L : gLg} (hR : xR n X O Q) {J : gJn} (hJ : X 2 = J) (hk : xk J) {t : gJn → Nat → Int32 → Bool} (ht : xtf X Q (X 0 0 17) = t) (what : Int32) : SX 7 0 0 mX10_ring [.ref 16, .int what] (xm n X O Q G S L) (fun v M' => v = some (.int (q_ring t J what)) ∧ xD n X O Q S L M') := by
  refine SX.intro [some (.ref 16), some (.int what), none, none] (by decide +kernel) (Nat.le_of_ble_eq_true rfl) rfl (fun E hE hQ => ?_)
  have hM := hR.M
  refine rx_aload_n hE dX10_ring_0 (i := 0) rfl rfl ?_
  refine rx_getf hE dX10_ring_1 fl_X10_19_9 (xa_0 hM) rfl ?_
  refine rx_call0 (rx_callV (av := []) hE dX10_ring_4 lk_X10_198 (x_isTold (X := X) xJ_2 hM (J := J) hJ) (xa_j xJ_2 hM) np_X2_isTold rfl rfl (by decide) (Nat.le_of_ble_eq_true rfl) rfl ?_)
  rintro v M' ⟨rfl, rfl⟩
  refine rx_if_eq (tgt := 19) hE dX10_ring_7 (by decide) (fun c7 => ?_) (fun c7 => ?_)
  · refine rx_iconst hE dX10_ring_19 (v := -1) (by decide) ?_
    exact rx_iret hE hQ rfl dX10_ring_20 ⟨by simp [q_ring, *], xD.refl n X O Q G S L⟩
  · refine rx_iload_n hE dX10_ring_10 (i := 1) rfl rfl ?_
    refine rx_iconst hE dX10_ring_11 (v := 0) (by decide) ?_
    refine rx_iconst hE dX10_ring_12 (v := 1) (by decide) ?_
    refine rx_call0 (rx_callS (av := [.int _, .int _, .int _]) hE dX10_ring_13 lk_X10_143 (c_X10_within _ _ _) np_X10_within rfl rfl (by decide) (Nat.le_of_ble_eq_true rfl) rfl ?_)
    rintro v M' ⟨rfl, rfl⟩
    refine rx_if_ne (tgt := 21) hE dX10_ring_16 (by decide) (fun c16 => ?_) (fun c16 => ?_)
    · have hg : ¬ (j_isTold J = 0 ∨ q_in what 0 1 = 0) := by simp [*]
      obtain ⟨hf, hT9⟩ := hk.told c7
      have hr6 := hf.1.2.1
      have hv : q_ring t J what = qriA (qW t J) (jB J) (jR J) what (J 9 3) 0 60 := if_neg hg
      have fin : ∀ (Y : gX) (G' : gK) (l3 : Option Value), xq X Y → (∀ q, q < 366 → Y 32 3 q = qW t J q) → RX E mX10_ring.2.2.1 0 0 85 [some (.ref 16), some (.int what), some (.int (nI 0)), l3] [] (xm n Y O Q G' S L) := by
        intro Y G' l3 hq hW
        have hR := hq.R hR
        have hJ := hq.J hJ
        have ht := hq.tf ht
        have loopb : ∀ (m k : Nat) (l3 : Option Value), k + m = 60 → qriA (qW t J) (jB J) (jR J) what (J 9 3) k m = qriA (qW t J) (jB J) (jR J) what (J 9 3) 0 60 → RX E mX10_ring.2.2.1 0 0 85 [some (.ref 16), some (.int what), some (.int (nI k)), l3] [] (xm n Y O Q G' S L) := by
          intro m
          induction m with
          | zero =>
            intro k l3 hk2 hF
            refine rx_iload_n hE dX10_ring_85 (i := 2) rfl rfl ?_
            refine rx_bipush hE dX10_ring_86 (v := 60) (by decide) ?_
            refine rx_icmp_ge (tgt := 126) hE dX10_ring_88 (by decide) (fun c88 => ?_) (fun c88 => absurd (show nI 60 ≤ nI k from nI_le (by omega) (by omega)) c88)
            refine rx_bipush hE dX10_ring_126 (v := -2) (by decide) ?_
            exact rx_iret hE hQ rfl dX10_ring_128 ⟨by rw [hv, ← hF]; rfl, Y, G', rfl, hq⟩
          | succ m ih =>
            intro k l3 hk2 hF
            refine rx_iload_n hE dX10_ring_85 (i := 2) rfl rfl ?_
            refine rx_bipush hE dX10_ring_86 (v := 60) (by decide) ?_
            refine rx_icmp_ge (tgt := 126) hE dX10_ring_88 (by decide) (fun c88 => absurd c88 (nI_ge (a := k) (b := 60) (by omega) (by omega))) (fun c88 => ?_)
            refine rx_aload_n hE dX10_ring_91 (i := 0) rfl rfl ?_
            refine rx_iload_n hE dX10_ring_92 (i := 2) rfl rfl ?_
            refine rx_call0 (rx_callV (av := [.int (nI k)]) hE dX10_ring_93 lk_X10_291 (c_X10_ringFrom (X := Y) (a := k) hR hJ hf hT9 ht (by omega)) (xa_0 hM) np_X10_ringFrom rfl rfl (by decide) (Nat.le_of_ble_eq_true rfl) rfl ?_)
            rintro v M' ⟨rfl, rfl⟩
            have hqr : qriB (Y 32 3) (jB J) (jR J) k (k + 1) (60 - k) = qriB (qW t J) (jB J) (jR J) k (k + 1) (60 - k) := qriB_congr hr6 (by omega) hW (60 - k) (k + 1) (by omega)
            rw [hqr]
            refine rx_istore_n_3 hE dX10_ring_96 (by decide) rfl ?_
            refine rx_iload_n hE dX10_ring_97 (i := 3) rfl rfl ?_
            refine rx_iconst hE dX10_ring_98 (v := -1) (by decide) ?_
            refine rx_icmp_eq (tgt := 120) hE dX10_ring_99 (by decide) (fun c99 => ?_) (fun c99 => ?_)
            · have hz : qriB (qW t J) (jB J) (jR J) k (k + 1) (60 - k) = 0 := by
                by_cases h : qriB (qW t J) (jB J) (jR J) k (k + 1) (60 - k) = 0
                · exact h
                · rw [if_neg h] at c99
                  exact absurd c99 (nI_m1' (by have := qriB_le (qW t J) (jB J) (jR J) k (60 - k) (k + 1) (by omega); omega))
              refine rx_iinc_2 hE dX10_ring_120 (v := 1) (by decide) (by decide) rfl ?_
              rw [nI_1]
              refine rx_goto (tgt := 85) hE dX10_ring_123 (by decide) ?_
              exact ih (k + 1) _ (by omega) (by rw [← hF]; exact (if_pos hz).symm)
            · have hz : ¬ qriB (qW t J) (jB J) (jR J) k (k + 1) (60 - k) = 0 := fun h => c99 (by rw [if_pos h])
              refine rx_iload_n hE dX10_ring_102 (i := 1) rfl rfl ?_
              refine rx_if_ne (tgt := 118) hE dX10_ring_103 (by decide) (fun c103 => ?_) (fun c103 => ?_)
              · refine rx_iload_n hE dX10_ring_118 (i := 3) rfl rfl ?_
                exact rx_iret hE hQ rfl dX10_ring_119 ⟨by rw [hv, ← hF]; show _ = some (Value.int (if qriB (qW t J) (jB J) (jR J) k (k + 1) (60 - k) = 0 then _ else if what = 0 then J 9 3 + nI k else nI (qriB (qW t J) (jB J) (jR J) k (k + 1) (60 - k)))); rw [if_neg hz, if_neg hz, if_neg c103], Y, G', rfl, hq⟩
              · refine rx_aload_n hE dX10_ring_106 (i := 0) rfl rfl ?_
                refine rx_getf hE dX10_ring_107 fl_X10_19_9 (xa_0 hM) rfl ?_
                refine rx_getfN hE dX10_ring_110 fl_X10_185_2 (xa_j xJ_2 hM) rfl ?_
                refine rx_int _ (J 9 3) (congrFun (congrFun hJ 9) 3) ?_
                refine rx_iload_n hE dX10_ring_113 (i := 2) rfl rfl ?_
                refine rx_iadd hE dX10_ring_114 ?_
                refine rx_goto (tgt := 119) hE dX10_ring_115 (by decide) ?_
                exact rx_iret hE hQ rfl dX10_ring_119 ⟨by rw [hv, ← hF]; show _ = some (Value.int (if qriB (qW t J) (jB J) (jR J) k (k + 1) (60 - k) = 0 then _ else if what = 0 then J 9 3 + nI k else nI (qriB (qW t J) (jB J) (jR J) k (k + 1) (60 - k)))); rw [if_neg hz, if_pos c103], Y, G', rfl, hq⟩
        exact loopb 60 0 l3 (by omega) rfl
      have loopa : ∀ (m k : Nat) (Y : gX) (G' : gK) (l3 : Option Value), k + m = 61 → xq X Y → (∀ q, q < 6 * k → Y 32 3 q = qW t J q) → RX E mX10_ring.2.2.1 0 0 34 [some (.ref 16), some (.int what), some (.int (nI k)), l3] [] (xm n (x_r Y 4 (jmanyF t k J)) O Q G' S L) := by
        intro m
        induction m with
        | zero =>
          intro k Y G' l3 hk2 hq hW
          refine rx_iload_n hE dX10_ring_34 (i := 2) rfl rfl ?_
          refine rx_bipush hE dX10_ring_35 (v := 60) (by decide) ?_
          refine rx_icmp_gt (tgt := 83) hE dX10_ring_37 (by decide) (fun c37 => ?_) (fun c37 => absurd (nI_lt (a := 60) (b := k) (by omega) (by omega)) c37)
          refine rx_iconst hE dX10_ring_83 (v := 0) (by decide) ?_
          refine rx_istore_n_2 hE dX10_ring_84 (by decide) rfl ?_
          exact fin (x_r Y 4 _) G' _ (hq.trans (xq.t Y _)) (fun q hq => hW q (by omega))
        | succ m ih =>
          intro k Y G' l3 hk2 hq hW
          refine rx_iload_n hE dX10_ring_34 (i := 2) rfl rfl ?_
          refine rx_bipush hE dX10_ring_35 (v := 60) (by decide) ?_
          refine rx_icmp_gt (tgt := 83) hE dX10_ring_37 (by decide) (fun c37 => absurd c37 (nI_nlt (a := 60) (b := k) (by omega) (by decide))) (fun c37 => ?_)
          refine rx_aload_n hE dX10_ring_40 (i := 0) rfl rfl ?_
          refine rx_getf hE dX10_ring_41 fl_X10_26_9 (xa_0 hM) rfl ?_
          refine rx_getfN hE dX10_ring_44 fl_X10_151_2 (xa_j xJ_4 hM) rfl ?_
          refine rx_iconst hE dX10_ring_47 (v := 0) (by decide) ?_
          refine rx_aload_n hE dX10_ring_48 (i := 0) rfl rfl ?_
          refine rx_getf hE dX10_ring_49 fl_X10_93_9 (xa_0 hM) rfl ?_
          refine rx_iload_n hE dX10_ring_52 (i := 2) rfl rfl ?_
          refine rx_bipush hE dX10_ring_53 (v := 6) (by decide) ?_
          refine rx_imul hE dX10_ring_55 ?_
          refine rx_int _ (nI (k * 6)) (pk_mul _ _) ?_
          refine rx_bipush hE dX10_ring_56 (v := 6) (by decide) ?_
          refine rx_copyi hE dX10_ring_58 ac_X10_285 rfl (by decide) (Nat.le_of_ble_eq_true rfl) (xa_j1 xJ_4 hM) (xa_32_3 hM) (by decide) (nI_pos (by omega)) (by decide) (by decide) (by rw [nI_clamp (by omega)]; show k * 6 + 6 ≤ 366; omega) ?_
          refine rx_mem (M' := xm n (x_r (x_r Y 32 (j_s (Y 32) 3 (va_cpy (jmanyF t k J 0) (Y 32 3) 0 (k * 6) 6))) 4 (jmanyF t k J)) O Q G' S L) (xw_32_3.trans (by rw [nI_clamp (by omega), x_r_comm (by decide)]; rfl)) ?_
          obtain ⟨Y1, hY1⟩ : ∃ Y1, Y1 = (x_r Y 32 (j_s (Y 32) 3 (va_cpy (jmanyF t k J 0) (Y 32 3) 0 (k * 6) 6))) := ⟨_, rfl⟩
          rw [← hY1]
          have hq1 : xq X Y1 := by rw [hY1]; exact hq.trans (xq.r Y _ (Or.inr (Or.inr rfl)))
          have hW1 : ∀ q, q < 6 * (k + 1) → Y1 32 3 q = qW t J q := by
            intro q hq2
            rw [hY1]
            show va_cpy (jmanyF t k J 0) (Y 32 3) 0 (k * 6) 6 q = qW t J q
            by_cases h6 : q < 6 * k
            · rw [pk_cpy_out (by omega)]
              exact hW q h6
            · rw [pk_cpy_in (by omega) (by omega), show q = 6 * k + (q - k * 6) by omega, qW_at _ _ (by omega)]
              congr 1
              omega
          have hR := hq1.R hR
          have hJ := hq1.J hJ
          have ht := hq1.tf ht
          have hfk : jfit (jmanyF t k J) := hf.many t k (by omega)
          have hTk := (hf.1.many t k (by omega)).2
          refine rx_aload_n hE dX10_ring_61 (i := 0) rfl rfl ?_
          refine rx_getf hE dX10_ring_62 fl_X10_26_9 (xa_0 hM) rfl ?_
          refine rx_aload_n hE dX10_ring_65 (i := 0) rfl rfl ?_
          refine rx_aload_n hE dX10_ring_66 (i := 0) rfl rfl ?_
          refine rx_getf hE dX10_ring_67 fl_X10_103_9 (xa_0 hM) rfl ?_
          refine rx_call0 (rx_callV (av := [.int _]) hE dX10_ring_70 lk_X10_205 (c_X10_ruleOf (X := (x_r Y1 4 (jmanyF t k J))) hM (hR.eq rfl) _) (xa_0 hM) np_X10_ruleOf rfl rfl (by decide) (Nat.le_of_ble_eq_true rfl) rfl ?_)
          rintro v M' ⟨u, rfl, hu, rfl⟩
          have hu : xT Q n u t := by rw [← ht]; exact hu
          refine rx_call0 (rx_callV (av := [u]) hE dX10_ring_73 lk_X10_209 (x_oneBeat (X := (x_r Y1 4 (jmanyF t k J))) xJ_4 hM (J := (jmanyF t k J)) rfl hfk.1 hu) (xa_j xJ_4 hM) np_X2_oneBeat rfl rfl (by decide) (Nat.le_of_ble_eq_true rfl) rfl ?_)
          rintro v M' ⟨rfl, G1, rfl⟩
          rw [x_rr]
          refine rx_pop hE dX10_ring_76 rfl ?_
          refine rx_iinc_2 hE dX10_ring_77 (v := 1) (by decide) (by decide) rfl ?_
          rw [nI_1]
          refine rx_goto (tgt := 34) hE dX10_ring_80 (by decide) ?_
          rw [← jmany_s]
          exact ih (k + 1) Y1 G1 _ (by omega) hq1 hW1
      refine rx_aload_n hE dX10_ring_21 (i := 0) rfl rfl ?_
      refine rx_getf hE dX10_ring_22 fl_X10_26_9 (xa_0 hM) rfl ?_
      refine rx_aload_n hE dX10_ring_25 (i := 0) rfl rfl ?_
      refine rx_getf hE dX10_ring_26 fl_X10_19_9 (xa_0 hM) rfl ?_
      refine rx_call0 (rx_callV (av := [.ref _]) hE dX10_ring_29 lk_X10_124 (x_copyFrom (X := X) xJ_4 xJ_2 (by decide) hM (J := J) hJ) (xa_j xJ_4 hM) np_X2_copyFrom rfl rfl (by decide) (Nat.le_of_ble_eq_true rfl) rfl ?_)
      rintro v M' ⟨rfl, rfl⟩
      refine rx_iconst hE dX10_ring_32 (v := 0) (by decide) ?_
      refine rx_istore_n_2 hE dX10_ring_33 (by decide) rfl ?_
      exact loopa 61 0 X G _ (by omega) (xq.refl X) (fun q hq => absurd hq (by omega))
    · refine rx_iconst hE dX10_ring_19 (v := -1) (by decide) ?_
      exact rx_iret hE hQ rfl dX10_ring_20 ⟨by simp [q_ring, *], xD.refl n X O Q G S L⟩
