def xE (n : Nat) (X : gX) (O : gO) (Q : gU) (S : gS) (L : gLg) (M' : gM) : Prop := ∃ (J' : gJn) (G' : gK), M' = xm n (x_r X 4 J') O Q G' S L
theorem jfull_max (f : Nat → Int32) : ∀ n, ∀ i, i < n → f i ≤ f (jfull f n)
  | 0, i, h => absurd h (Nat.not_lt_zero i)
  | n + 1, i, h => by
    show f i ≤ f (if f n ≤ f (jfull f n) then jfull f n else n)
    by_cases c : f n ≤ f (jfull f n)
    · rw [if_pos c]
      by_cases e : i = n
      · rw [e]; exact c
      · exact jfull_max f n i (by omega)
    · rw [if_neg c]
      by_cases e : i = n
      · rw [e]; exact Int32.le_refl _
      · exact Int32.le_trans (jfull_max f n i (by omega)) (Int32.le_of_lt (Int32.not_le.mp c))
theorem jcrF_0 (J : gJn) : ∀ (n k : Nat), jcrF J k n = 0 ↔ ∀ i, k ≤ i → i < k + n → J 0 i ≤ 20
  | 0, k => by
    constructor
    · intro _ i h1 h2
      omega
    · intro _
      rfl
  | n + 1, k => by
    show (if J 0 k ≤ 20 then jcrF J (k + 1) n else 1) = 0 ↔ _
    by_cases c : J 0 k ≤ 20
    · rw [if_pos c, jcrF_0 J n (k + 1)]
      constructor
      · intro q i h1 h2
        by_cases e : i = k
        · rw [e]; exact c
        · exact q i (by omega) (by omega)
      · intro q i h1 h2
        exact q i (by omega) (by omega)
    · rw [if_neg c]
      constructor
      · intro q
        exact absurd q (by decide)
      · intro q
        exact absurd (q k (Nat.le_refl _) (by omega)) c
theorem jcr_full (J : gJn) {R : Nat} (h0 : 0 < R) : jcrF J 0 R = 0 ↔ J 0 (jfull (J 0) R) ≤ 20 := by
  rw [jcrF_0]
  constructor
  · intro q
    exact q _ (Nat.zero_le _) (by have := jfull_lt (J 0) R h0; omega)
  · intro q i _ hi
    exact Int32.le_trans (jfull_max (J 0) R i (by omega)) q
theorem qnc_0 (t : gJn → Nat → Int32 → Bool) (R : Nat) : ∀ (n : Nat) (J : gJn), qnc t R n J 0 = 0
  | 0, _ => rfl
  | n + 1, J => by
    show qnc t R n (jone t J) (if (0 : Int32) = 0 then 0 else _) = 0
    rw [if_pos rfl]
    exact qnc_0 t R n _
set_option maxRecDepth 100000 in
set_option maxHeartbeats 1000000 in
theorem c_X10_neverCrowded {n : Nat} {X : gX} {O : gO} {Q : gU} {G : gK} {S : gS} {L : gLg} (hR : xR n X O Q) {J : gJn} (hJ : X 2 = J) (hf : jfit J) (hT9 : jT J ≤ 999) {t : gJn → Nat → Int32 → Bool} (ht : xtf X Q (X 0 0 17) = t) {q N : Nat} (hq0 : 0 < q) (hq9 : q ≤ 9) (hN : N ≤ 100) : SX 7 0 0 mX10_neverCrowded [.ref 16, .int (nI q), .int (nI N)] (xm n X O Q G S L) (fun v M' => v = some (.int (if qnc t (jR J) N (j_c J 1 (nI q)) 1 = 0 then 0 else 1)) ∧ xE n X O Q S L M') := by
  refine SX.intro [some (.ref 16), some (.int (nI q)), some (.int (nI N)), none] (by decide +kernel) (Nat.le_of_ble_eq_true rfl) rfl (fun E hE hQ => ?_)
  have hM := hR.M
  have hr6 := hf.1.2.1
  have loop : ∀ (m k : Nat) (G' : gK) (J' : gJn), k + m = N → jT J' = jT J + k → jfit J' → jR J' = jR J → qnc t (jR J) m J' 1 = qnc t (jR J) N (j_c J 1 (nI q)) 1 → RX E mX10_neverCrowded.2.2.1 0 0 21 [some (.ref 16), some (.int (nI q)), some (.int (nI N)), some (.int (nI k))] [] (xm n (x_r X 4 J') O Q G' S L) := by
    intro m
    induction m with
    | zero =>
      intro k G' J' hk2 hT2 hf' hRR hF
      refine rx_iload_n hE dX10_neverCrowded_21 (i := 3) rfl rfl ?_
      refine rx_iload_n hE dX10_neverCrowded_22 (i := 2) rfl rfl ?_
      refine rx_icmp_ge (tgt := 80) hE dX10_neverCrowded_23 (by decide) (fun c23 => ?_) (fun c23 => absurd (show nI N ≤ nI k from nI_le (by omega) (by omega)) c23)
      refine rx_iconst hE dX10_neverCrowded_80 (v := 1) (by decide) ?_
      exact rx_tret hE hQ rfl rfl dX10_neverCrowded_81 ⟨by rw [if_neg (by rw [← hF]; show ¬ (1 : Int32) = 0; decide)], J', G', rfl⟩
    | succ m ih =>
      intro k G' J' hk2 hT2 hf' hRR hF
      refine rx_iload_n hE dX10_neverCrowded_21 (i := 3) rfl rfl ?_
      refine rx_iload_n hE dX10_neverCrowded_22 (i := 2) rfl rfl ?_
      refine rx_icmp_ge (tgt := 80) hE dX10_neverCrowded_23 (by decide) (fun c23 => absurd c23 (nI_ge (a := k) (b := N) (by omega) (by omega))) (fun c23 => ?_)
      refine rx_aload_n hE dX10_neverCrowded_26 (i := 0) rfl rfl ?_
      refine rx_getf hE dX10_neverCrowded_27 fl_X10_26_9 (xa_0 hM) rfl ?_
      refine rx_aload_n hE dX10_neverCrowded_30 (i := 0) rfl rfl ?_
      refine rx_aload_n hE dX10_neverCrowded_31 (i := 0) rfl rfl ?_
      refine rx_getf hE dX10_neverCrowded_32 fl_X10_103_9 (xa_0 hM) rfl ?_
      refine rx_call0 (rx_callV (av := [.int _]) hE dX10_neverCrowded_35 lk_X10_205 (c_X10_ruleOf (X := (x_r X 4 J')) hM (hR.eq rfl) _) (xa_0 hM) np_X10_ruleOf rfl rfl (by decide) (Nat.le_of_ble_eq_true rfl) rfl ?_)
      rintro v M' ⟨u, rfl, hu, rfl⟩
      have hu : xT Q n u t := by rw [← ht]; exact hu
      refine rx_call0 (rx_callV (av := [u]) hE dX10_neverCrowded_38 lk_X10_209 (x_oneBeat (X := (x_r X 4 J')) xJ_4 hM (J := J') rfl hf'.1 hu) (xa_j xJ_4 hM) np_X2_oneBeat rfl rfl (by decide) (Nat.le_of_ble_eq_true rfl) rfl ?_)
      rintro v M' ⟨rfl, G1, rfl⟩
      rw [x_rr]
      refine rx_pop hE dX10_neverCrowded_41 rfl ?_
      refine rx_aload_n hE dX10_neverCrowded_42 (i := 0) rfl rfl ?_
      refine rx_getf hE dX10_neverCrowded_43 fl_X10_26_9 (xa_0 hM) rfl ?_
      refine rx_getfN hE dX10_neverCrowded_46 fl_X10_132_2 (xa_j xJ_4 hM) rfl ?_
      refine rx_int _ (nI (jR J)) (by show jone t J' 9 2 = _; rw [jone_9 t J' (by decide) (by decide), hf'.1.1, hRR]) ?_
      refine rx_if_le (tgt := 74) hE dX10_neverCrowded_49 (by decide) (fun c49 => ?_) (fun c49 => ?_)
      · have h0 : jR J = 0 := (nI_le0 (by omega)).mp c49
        refine rx_iinc_3 hE dX10_neverCrowded_74 (v := 1) (by decide) (by decide) rfl ?_
        rw [nI_1]
        refine rx_goto (tgt := 21) hE dX10_neverCrowded_77 (by decide) ?_
        exact ih (k + 1) G1 (jone t J') (by omega) (by rw [jone_T t hf'.1]; omega) (hf'.one t (by omega)) ((jone_R t J').trans hRR) (by rw [← hF]; show _ = qnc t (jR J) m (jone t J') (if (1 : Int32) = 0 then 0 else if jcrF (jone t J') 0 (jR J) = 0 then 1 else 0); rw [if_neg (by decide), if_pos (by rw [show jR J = 0 from h0]; rfl)])
      · have hR0 : 0 < jR J := Nat.pos_of_ne_zero (fun q => c49 ((nI_le0 (by omega)).mpr q))
        refine rx_aload_n hE dX10_neverCrowded_52 (i := 0) rfl rfl ?_
        refine rx_getf hE dX10_neverCrowded_53 fl_X10_26_9 (xa_0 hM) rfl ?_
        refine rx_getfN hE dX10_neverCrowded_56 fl_X10_151_2 (xa_j xJ_4 hM) rfl ?_
        refine rx_aload_n hE dX10_neverCrowded_59 (i := 0) rfl rfl ?_
        refine rx_getf hE dX10_neverCrowded_60 fl_X10_26_9 (xa_0 hM) rfl ?_
        refine rx_call0 (rx_callV (av := []) hE dX10_neverCrowded_63 lk_X10_265 (x_fullest (X := (x_r X 4 (jone t J'))) xJ_4 hM (J := (jone t J')) rfl (hf'.1.one t (by omega)) (by rw [jone_R, hRR]; exact hR0)) (xa_j xJ_4 hM) np_X2_fullest rfl rfl (by decide) (Nat.le_of_ble_eq_true rfl) rfl ?_)
        rintro v M' ⟨rfl, rfl⟩
        rw [jone_R, hRR]
        refine rx_ialdN hE dX10_neverCrowded_66 (xa_j1 xJ_4 hM) (by have := jfull_lt (jone t J' 0) (jR J) hR0; omega) (by decide) ?_
        refine rx_int _ (jone t J' 0 (jfull (jone t J' 0) (jR J))) rfl ?_
        refine rx_bipush hE dX10_neverCrowded_67 (v := 20) (by decide) ?_
        refine rx_icmp_le (tgt := 74) hE dX10_neverCrowded_69 (by decide) (fun c69 => ?_) (fun c69 => ?_)
        · refine rx_iinc_3 hE dX10_neverCrowded_74 (v := 1) (by decide) (by decide) rfl ?_
          rw [nI_1]
          refine rx_goto (tgt := 21) hE dX10_neverCrowded_77 (by decide) ?_
          exact ih (k + 1) G1 (jone t J') (by omega) (by rw [jone_T t hf'.1]; omega) (hf'.one t (by omega)) ((jone_R t J').trans hRR) (by rw [← hF]; show _ = qnc t (jR J) m (jone t J') (if (1 : Int32) = 0 then 0 else if jcrF (jone t J') 0 (jR J) = 0 then 1 else 0); rw [if_neg (by decide), if_pos ((jcr_full _ hR0).mpr c69)])
        · refine rx_iconst hE dX10_neverCrowded_72 (v := 0) (by decide) ?_
          exact rx_tret hE hQ rfl rfl dX10_neverCrowded_73 ⟨by rw [if_pos (by rw [← hF]; show qnc t (jR J) m (jone t J') (if (1 : Int32) = 0 then 0 else if jcrF (jone t J') 0 (jR J) = 0 then 1 else 0) = 0; rw [if_neg (by decide), if_neg (fun q => c69 ((jcr_full _ hR0).mp q)), qnc_0])], _, G1, rfl⟩
  refine rx_aload_n hE dX10_neverCrowded_0 (i := 0) rfl rfl ?_
  refine rx_getf hE dX10_neverCrowded_1 fl_X10_26_9 (xa_0 hM) rfl ?_
  refine rx_aload_n hE dX10_neverCrowded_4 (i := 0) rfl rfl ?_
  refine rx_getf hE dX10_neverCrowded_5 fl_X10_19_9 (xa_0 hM) rfl ?_
  refine rx_call0 (rx_callV (av := [.ref _]) hE dX10_neverCrowded_8 lk_X10_124 (x_copyFrom (X := X) xJ_4 xJ_2 (by decide) hM (J := J) hJ) (xa_j xJ_4 hM) np_X2_copyFrom rfl rfl (by decide) (Nat.le_of_ble_eq_true rfl) rfl ?_)
  rintro v M' ⟨rfl, rfl⟩
  refine rx_aload_n hE dX10_neverCrowded_11 (i := 0) rfl rfl ?_
  refine rx_getf hE dX10_neverCrowded_12 fl_X10_26_9 (xa_0 hM) rfl ?_
  refine rx_iload_n hE dX10_neverCrowded_15 (i := 1) rfl rfl ?_
  refine rx_putN hE dX10_neverCrowded_16 fl_X10_182_2 fw_2_10 (xa_j xJ_4 hM) (fun _ => rfl) (fun _ => rfl) (Nat.le_of_ble_eq_true rfl) ?_
  refine rx_mem ((xw_jc1 xJ_4).trans (by rw [x_rr, x_r_eq])) ?_
  refine rx_iconst hE dX10_neverCrowded_19 (v := 0) (by decide) ?_
  refine rx_istore_n_3 hE dX10_neverCrowded_20 (by decide) rfl ?_
  exact loop N 0 G (j_c J 1 (nI q)) (by omega) rfl (hf.c1 hq0 hq9) rfl rfl
set_option maxRecDepth 100000 in
set_option maxHeartbeats 1000000 in
theorem c_X10_leastRoom {n : Nat} {X : gX} {O : gO} {Q : gU} {G : gK} {S : gS} {L : gLg} (hR : xR n X O Q) {J : gJn} (hJ : X 2 = J) (hk : xk J) {t : gJn → Nat → Int32 → Bool} (ht : xtf X Q (X 0 0 17) = t) (n0 : Int32) : SX 9 0 0 mX10_leastRoom [.ref 16, .int n0] (xm n X O Q G S L) (fun v M' => v = some (.int (q_leastRoom t J n0)) ∧ xD n X O Q S L M') := by
  refine SX.intro [some (.ref 16), some (.int n0), none] (by decide +kernel) (Nat.le_of_ble_eq_true rfl) rfl (fun E hE hQ => ?_)
  have hM := hR.M
  refine rx_aload_n hE dX10_leastRoom_0 (i := 0) rfl rfl ?_
  refine rx_getf hE dX10_leastRoom_1 fl_X10_19_9 (xa_0 hM) rfl ?_
  refine rx_call0 (rx_callV (av := []) hE dX10_leastRoom_4 lk_X10_198 (x_isTold (X := X) xJ_2 hM (J := J) hJ) (xa_j xJ_2 hM) np_X2_isTold rfl rfl (by decide) (Nat.le_of_ble_eq_true rfl) rfl ?_)
  rintro v M' ⟨rfl, rfl⟩
  refine rx_if_eq (tgt := 20) hE dX10_leastRoom_7 (by decide) (fun c7 => ?_) (fun c7 => ?_)
  · refine rx_iconst hE dX10_leastRoom_20 (v := -1) (by decide) ?_
    exact rx_iret hE hQ rfl dX10_leastRoom_21 ⟨by simp [q_leastRoom, *], xD.refl n X O Q G S L⟩
  · refine rx_iload_n hE dX10_leastRoom_10 (i := 1) rfl rfl ?_
    refine rx_iconst hE dX10_leastRoom_11 (v := 1) (by decide) ?_
    refine rx_bipush hE dX10_leastRoom_12 (v := 60) (by decide) ?_
    refine rx_call0 (rx_callS (av := [.int _, .int _, .int _]) hE dX10_leastRoom_14 lk_X10_143 (c_X10_within _ _ _) np_X10_within rfl rfl (by decide) (Nat.le_of_ble_eq_true rfl) rfl ?_)
    rintro v M' ⟨rfl, rfl⟩
    refine rx_if_ne (tgt := 22) hE dX10_leastRoom_17 (by decide) (fun c17 => ?_) (fun c17 => ?_)
    · have hg : ¬ (j_isTold J = 0 ∨ q_in n0 1 60 = 0) := by simp [*]
      obtain ⟨hf, hT9⟩ := hk.told c7
      obtain ⟨N, hN0, hN, rfl⟩ := q_in_of (a := 1) (b := 60) (by decide) c17
      have hr6 := hf.1.2.1
      have hv : q_leastRoom t J (nI N) = qlr t (jR J) N J 1 9 := by unfold q_leastRoom; rw [if_neg hg, nI_clamp (n := N) (by omega)]
      have loop : ∀ (m k : Nat) (G' : gK) (J' : gJn), k + m = 10 → 0 < k → qlr t (jR J) N J k m = qlr t (jR J) N J 1 9 → RX E mX10_leastRoom.2.2.1 0 0 24 [some (.ref 16), some (.int (nI N)), some (.int (nI k))] [] (xm n (x_r X 4 J') O Q G' S L) := by
        intro m
        induction m with
        | zero =>
          intro k G' J' hk2 hk0 hF
          refine rx_iload_n hE dX10_leastRoom_24 (i := 2) rfl rfl ?_
          refine rx_bipush hE dX10_leastRoom_25 (v := 9) (by decide) ?_
          refine rx_icmp_gt (tgt := 47) hE dX10_leastRoom_27 (by decide) (fun c27 => ?_) (fun c27 => absurd (nI_lt (a := 9) (b := k) (by omega) (by omega)) c27)
          refine rx_bipush hE dX10_leastRoom_47 (v := -2) (by decide) ?_
          exact rx_iret hE hQ rfl dX10_leastRoom_49 ⟨by rw [hv, ← hF]; rfl, xD.t n X O Q G' S L _⟩
        | succ m ih =>
          intro k G' J' hk2 hk0 hF
          refine rx_iload_n hE dX10_leastRoom_24 (i := 2) rfl rfl ?_
          refine rx_bipush hE dX10_leastRoom_25 (v := 9) (by decide) ?_
          refine rx_icmp_gt (tgt := 47) hE dX10_leastRoom_27 (by decide) (fun c27 => absurd c27 (nI_nlt (a := 9) (b := k) (by omega) (by decide))) (fun c27 => ?_)
          refine rx_aload_n hE dX10_leastRoom_30 (i := 0) rfl rfl ?_
          refine rx_iload_n hE dX10_leastRoom_31 (i := 2) rfl rfl ?_
          refine rx_iload_n hE dX10_leastRoom_32 (i := 1) rfl rfl ?_
          refine rx_call0 (rx_callV (av := [.int (nI k), .int (nI N)]) hE dX10_leastRoom_33 lk_X10_262 (c_X10_neverCrowded (X := x_r X 4 J') (q := k) (N := N) (hR.eq rfl) hJ hf hT9 ht (by omega) (by omega) (by omega)) (xa_0 hM) np_X10_neverCrowded rfl rfl (by decide) (Nat.le_of_ble_eq_true rfl) rfl ?_)
          rintro v M' ⟨rfl, J1, G1, rfl⟩
          rw [x_rr]
          refine rx_if_eq (tgt := 41) hE dX10_leastRoom_36 (by decide) (fun c36 => ?_) (fun c36 => ?_)
          · have c36 : qnc t (jR J) N (j_c J 1 (nI k)) 1 = 0 := by
              by_cases h : qnc t (jR J) N (j_c J 1 (nI k)) 1 = 0
              · exact h
              · rw [if_neg h] at c36; exact absurd c36 (by decide)
            refine rx_iinc_2 hE dX10_leastRoom_41 (v := 1) (by decide) (by decide) rfl ?_
            rw [nI_1]
            refine rx_goto (tgt := 24) hE dX10_leastRoom_44 (by decide) ?_
            exact ih (k + 1) G1 J1 (by omega) (by omega) (by rw [← hF]; show _ = (if qnc t (jR J) N (j_c J 1 (nI k)) 1 = 0 then _ else nI k); rw [if_pos c36])
          · have c36 : ¬ qnc t (jR J) N (j_c J 1 (nI k)) 1 = 0 := fun h => c36 (by rw [if_pos h])
            refine rx_iload_n hE dX10_leastRoom_39 (i := 2) rfl rfl ?_
            exact rx_iret hE hQ rfl dX10_leastRoom_40 ⟨by rw [hv, ← hF]; show _ = some (Value.int (if qnc t (jR J) N (j_c J 1 (nI k)) 1 = 0 then _ else nI k)); rw [if_neg c36], xD.t n X O Q G1 S L _⟩
      refine rx_iconst hE dX10_leastRoom_22 (v := 1) (by decide) ?_
      refine rx_istore_n_2 hE dX10_leastRoom_23 (by decide) rfl ?_
      refine rx_mem (M' := xm n (x_r X 4 (X 4)) O Q G S L) (by rw [x_r_id]) ?_
      exact loop 9 1 G (X 4) (by omega) (by omega) rfl
    · refine rx_iconst hE dX10_leastRoom_20 (v := -1) (by decide) ?_
      exact rx_iret hE hQ rfl dX10_leastRoom_21 ⟨by simp [q_leastRoom, *], xD.refl n X O Q G S L⟩
theorem qloI_end (f : Nat → Int32) (b : Int32) : ∀ (n k : Nat) (s : g3), qloI f b k (n + 1) s = (if (qloI f b k n s).1 < f (k + n) then (f (k + n), b, nI (k + n)) else qloI f b k n s)
  | 0, k, s => rfl
  | n + 1, k, s => by
    show qloI f b (k + 1) (n + 1) (if s.1 < f k then (f k, b, nI k) else s) = _
    rw [qloI_end f b n (k + 1), show k + 1 + n = k + (n + 1) by omega]
    rfl
theorem qloI_full (f : Nat → Int32) (b : Int32) (s : g3) : ∀ n, qloI f b 0 (n + 1) s = (if s.1 < f (jfull f (n + 1)) then (f (jfull f (n + 1)), b, nI (jfull f (n + 1))) else s)
  | 0 => by
    rw [jfull_1]
    rfl
  | n + 1 => by
    rw [qloI_end, qloI_full f b s n, Nat.zero_add]
    have e : jfull f (n + 1 + 1) = if f (n + 1) ≤ f (jfull f (n + 1)) then jfull f (n + 1) else n + 1 := rfl
    rw [e]
    by_cases c : s.1 < f (jfull f (n + 1))
    · rw [if_pos c]
      by_cases d : f (n + 1) ≤ f (jfull f (n + 1))
      · rw [if_neg (show ¬ (f (jfull f (n + 1)), b, nI (jfull f (n + 1))).1 < f (n + 1) from Int32.not_lt.mpr d), if_pos d, if_pos c]
      · have d' := Int32.not_le.mp d
        rw [if_pos (show (f (jfull f (n + 1)), b, nI (jfull f (n + 1))).1 < f (n + 1) from d'), if_neg d, if_pos (Int32.lt_trans c d')]
    · rw [if_neg c]
      by_cases d : f (n + 1) ≤ f (jfull f (n + 1))
      · rw [if_neg (show ¬ s.1 < f (n + 1) from fun q => c (Int32.lt_of_lt_of_le q d)), if_pos d, if_neg c]
      · rw [if_neg d]
theorem jw_ge0 {b : Nat} (hb : b < 2 ^ 31) {v : Int32} (h : jw b v) : 0 ≤ v := by
  obtain ⟨w, hw, rfl⟩ := h
  exact nI_pos' (by omega)
theorem jw_gt {b : Nat} (hb : b < 2 ^ 31) {v : Int32} (h : jw b v) : (-1 : Int32) < v := Int32.lt_of_lt_of_le (by decide) (jw_ge0 hb h)
theorem qlo_start (t : gJn → Nat → Int32 → Bool) {J : gJn} (hf : jfit J) (hT : jT J + 1 < 1000000) {N : Nat} (hN : 1 ≤ N) (hR0 : 0 < jR J) : qlo t (jR J) N J (-1, -1, -1) = qlo t (jR J) N J (-1, -2, -2) := by
  have hr6 := hf.1.2.1
  obtain ⟨m, rfl⟩ : ∃ m, N = m + 1 := ⟨N - 1, by omega⟩
  obtain ⟨r, hr⟩ : ∃ r, jR J = r + 1 := ⟨jR J - 1, by omega⟩
  show qlo t (jR J) m (jone t J) (qloI (jone t J 0) (J 9 3) 0 (jR J) (-1, -1, -1)) = qlo t (jR J) m (jone t J) (qloI (jone t J 0) (J 9 3) 0 (jR J) (-1, -2, -2))
  have hlt := jfull_lt (jone t J 0) (jR J) hR0
  have hge := jw_gt (by decide) ((hf.one t hT).2.2.1 _ (show jfull (jone t J 0) (jR J) < 6 by omega))
  rw [hr] at hge ⊢
  rw [qloI_full, qloI_full, if_pos hge, if_pos hge]
theorem qloI_R0 (f : Nat → Int32) (b : Int32) (s : g3) : qloI f b 0 0 s = s := rfl
theorem qlo_R0 (t : gJn → Nat → Int32 → Bool) : ∀ (n : Nat) (J : gJn) (s : g3), qlo t 0 n J s = s
  | 0, _, _ => rfl
  | n + 1, J, s => qlo_R0 t n (jone t J) s
set_option maxRecDepth 100000 in
set_option maxHeartbeats 1000000 in
theorem c_X10_longest {n : Nat} {X : gX} {O : gO} {Q : gU} {G : gK} {S : gS} {L : gLg} (hR : xR n X O Q) {J : gJn} (hJ : X 2 = J) (hk : xk J) {t : gJn → Nat → Int32 → Bool} (ht : xtf X Q (X 0 0 17) = t) (n0 what : Int32) : SX 8 0 0 mX10_longest [.ref 16, .int n0, .int what] (xm n X O Q G S L) (fun v M' => v = some (.int (q_longest t J n0 what)) ∧ xD n X O Q S L M') := by
  refine SX.intro [some (.ref 16), some (.int n0), some (.int what), none, none, none, none, none] (by decide +kernel) (Nat.le_of_ble_eq_true rfl) rfl (fun E hE hQ => ?_)
  have hM := hR.M
  refine rx_aload_n hE dX10_longest_0 (i := 0) rfl rfl ?_
  refine rx_getf hE dX10_longest_1 fl_X10_19_9 (xa_0 hM) rfl ?_
  refine rx_call0 (rx_callV (av := []) hE dX10_longest_4 lk_X10_198 (x_isTold (X := X) xJ_2 hM (J := J) hJ) (xa_j xJ_2 hM) np_X2_isTold rfl rfl (by decide) (Nat.le_of_ble_eq_true rfl) rfl ?_)
  rintro v M' ⟨rfl, rfl⟩
  refine rx_if_eq (tgt := 29) hE dX10_longest_7 (by decide) (fun c7 => ?_) (fun c7 => ?_)
  · refine rx_iconst hE dX10_longest_29 (v := -1) (by decide) ?_
    exact rx_iret hE hQ rfl dX10_longest_30 ⟨by simp [q_longest, *], xD.refl n X O Q G S L⟩
  · refine rx_iload_n hE dX10_longest_10 (i := 1) rfl rfl ?_
    refine rx_iconst hE dX10_longest_11 (v := 1) (by decide) ?_
    refine rx_bipush hE dX10_longest_12 (v := 100) (by decide) ?_
    refine rx_call0 (rx_callS (av := [.int _, .int _, .int _]) hE dX10_longest_14 lk_X10_143 (c_X10_within _ _ _) np_X10_within rfl rfl (by decide) (Nat.le_of_ble_eq_true rfl) rfl ?_)
    rintro v M' ⟨rfl, rfl⟩
    refine rx_if_eq (tgt := 29) hE dX10_longest_17 (by decide) (fun c17 => ?_) (fun c17 => ?_)
    · refine rx_iconst hE dX10_longest_29 (v := -1) (by decide) ?_
      exact rx_iret hE hQ rfl dX10_longest_30 ⟨by simp [q_longest, *], xD.refl n X O Q G S L⟩
    · refine rx_iload_n hE dX10_longest_20 (i := 2) rfl rfl ?_
      refine rx_iconst hE dX10_longest_21 (v := 0) (by decide) ?_
      refine rx_iconst hE dX10_longest_22 (v := 2) (by decide) ?_
      refine rx_call0 (rx_callS (av := [.int _, .int _, .int _]) hE dX10_longest_23 lk_X10_143 (c_X10_within _ _ _) np_X10_within rfl rfl (by decide) (Nat.le_of_ble_eq_true rfl) rfl ?_)
      rintro v M' ⟨rfl, rfl⟩
      refine rx_if_ne (tgt := 31) hE dX10_longest_26 (by decide) (fun c26 => ?_) (fun c26 => ?_)
      · have hg : ¬ (j_isTold J = 0 ∨ q_in n0 1 100 = 0 ∨ q_in what 0 2 = 0) := by simp [*]
        obtain ⟨hf, hT9⟩ := hk.told c7
        obtain ⟨N, hN0, hN, rfl⟩ := q_in_of (a := 1) (b := 100) (by decide) c17
        have hr6 := hf.1.2.1
        
        refine rx_aload_n hE dX10_longest_31 (i := 0) rfl rfl ?_
        refine rx_getf hE dX10_longest_32 fl_X10_19_9 (xa_0 hM) rfl ?_
        refine rx_getfN hE dX10_longest_35 fl_X10_132_2 (xa_j xJ_2 hM) rfl ?_
        refine rx_int _ (nI (jR J)) ((congrFun (congrFun hJ 9) 2).trans hf.1.1) ?_
        refine rx_if_ne (tgt := 52) hE dX10_longest_38 (by decide) (fun c38 => ?_) (fun c38 => ?_)
        · have hR0 : 0 < jR J := Nat.pos_of_ne_zero (fun q => c38 (by rw [q]; rfl))
          have hv : q_longest t J (nI N) what = q3 what (if 0 ≤ (qlo t (jR J) N J (-1, -1, -1)).1 then (qlo t (jR J) N J (-1, -1, -1)).1 else 0) (qlo t (jR J) N J (-1, -1, -1)).2.1 (qlo t (jR J) N J (-1, -1, -1)).2.2 := by unfold q_longest; rw [if_neg hg, nI_clamp (n := N) (by omega), qlo_start t hf (by omega) (by omega) hR0]
          have loop : ∀ (m k : Nat) (G' : gK) (J' : gJn) (s : g3) (l7 : Option Value), k + m = N → jT J' = jT J + k → jfit J' → jR J' = jR J → (0 < k → 0 ≤ s.1) → qlo t (jR J) m J' s = qlo t (jR J) N J (-1, -1, -1) → RX E mX10_longest.2.2.1 0 0 74 [some (.ref 16), some (.int (nI N)), some (.int what), some (.int s.1), some (.int s.2.1), some (.int s.2.2), some (.int (nI k)), l7] [] (xm n (x_r X 4 J') O Q G' S L) := by
            intro m
            induction m with
            | zero =>
              intro k G' J' s l7 hk2 hT2 hf' hRR hs0 hF
              refine rx_iload hE dX10_longest_74 rfl ?_
              refine rx_iload_n hE dX10_longest_76 (i := 1) rfl rfl ?_
              refine rx_icmp_ge (tgt := 152) hE dX10_longest_77 (by decide) (fun c77 => ?_) (fun c77 => absurd (show nI N ≤ nI k from nI_le (by omega) (by omega)) c77)
              refine rx_iload_n hE dX10_longest_152 (i := 2) rfl rfl ?_
              refine rx_if_ne (tgt := 158) hE dX10_longest_153 (by decide) (fun c153 => ?_) (fun c153 => ?_)
              · refine rx_iload_n hE dX10_longest_158 (i := 2) rfl rfl ?_
                refine rx_iconst hE dX10_longest_159 (v := 1) (by decide) ?_
                refine rx_icmp_ne (tgt := 168) hE dX10_longest_160 (by decide) (fun c160 => ?_) (fun c160 => ?_)
                · refine rx_iload hE dX10_longest_168 rfl ?_
                  exact rx_iret hE hQ rfl dX10_longest_170 ⟨by rw [hv, ← hF]; show _ = some (Value.int (q3 what (if 0 ≤ s.1 then s.1 else 0) s.2.1 s.2.2)); unfold q3; rw [if_neg c153, if_neg c160], xD.t n X O Q G' S L _⟩
                · refine rx_iload hE dX10_longest_163 rfl ?_
                  refine rx_goto (tgt := 170) hE dX10_longest_165 (by decide) ?_
                  exact rx_iret hE hQ rfl dX10_longest_170 ⟨by rw [hv, ← hF]; show _ = some (Value.int (q3 what (if 0 ≤ s.1 then s.1 else 0) s.2.1 s.2.2)); unfold q3; rw [if_neg c153, if_pos c160], xD.t n X O Q G' S L _⟩
              · refine rx_iload_n hE dX10_longest_156 (i := 3) rfl rfl ?_
                exact rx_iret hE hQ rfl dX10_longest_157 ⟨by rw [hv, ← hF]; show _ = some (Value.int (q3 what (if 0 ≤ s.1 then s.1 else 0) s.2.1 s.2.2)); unfold q3; rw [if_pos c153, if_pos (hs0 (by omega))], xD.t n X O Q G' S L _⟩
            | succ m ih =>
              intro k G' J' s l7 hk2 hT2 hf' hRR hs0 hF
              refine rx_iload hE dX10_longest_74 rfl ?_
              refine rx_iload_n hE dX10_longest_76 (i := 1) rfl rfl ?_
              refine rx_icmp_ge (tgt := 152) hE dX10_longest_77 (by decide) (fun c77 => absurd c77 (nI_ge (a := k) (b := N) (by omega) (by omega))) (fun c77 => ?_)
              refine rx_aload_n hE dX10_longest_80 (i := 0) rfl rfl ?_
              refine rx_getf hE dX10_longest_81 fl_X10_26_9 (xa_0 hM) rfl ?_
              refine rx_aload_n hE dX10_longest_84 (i := 0) rfl rfl ?_
              refine rx_aload_n hE dX10_longest_85 (i := 0) rfl rfl ?_
              refine rx_getf hE dX10_longest_86 fl_X10_103_9 (xa_0 hM) rfl ?_
              refine rx_call0 (rx_callV (av := [.int _]) hE dX10_longest_89 lk_X10_205 (c_X10_ruleOf (X := (x_r X 4 J')) hM (hR.eq rfl) _) (xa_0 hM) np_X10_ruleOf rfl rfl (by decide) (Nat.le_of_ble_eq_true rfl) rfl ?_)
              rintro v M' ⟨u, rfl, hu, rfl⟩
              have hu : xT Q n u t := by rw [← ht]; exact hu
              refine rx_call0 (rx_callV (av := [u]) hE dX10_longest_92 lk_X10_209 (x_oneBeat (X := (x_r X 4 J')) xJ_4 hM (J := J') rfl hf'.1 hu) (xa_j xJ_4 hM) np_X2_oneBeat rfl rfl (by decide) (Nat.le_of_ble_eq_true rfl) rfl ?_)
              rintro v M' ⟨rfl, G1, rfl⟩
              rw [x_rr]
              refine rx_pop hE dX10_longest_95 rfl ?_
              have hlt := jfull_lt (jone t J' 0) (jR J) hR0
              have hge := (hf'.one t (by omega)).2.2.1 _ (show (jfull (jone t J' 0) (jR J)) < 6 by omega)
              have hq := qloI_full (jone t J' 0) (J' 9 3) s (jR J - 1)
              rw [show jR J - 1 + 1 = jR J by omega] at hq
              refine rx_aload_n hE dX10_longest_96 (i := 0) rfl rfl ?_
              refine rx_getf hE dX10_longest_97 fl_X10_26_9 (xa_0 hM) rfl ?_
              refine rx_call0 (rx_callV (av := []) hE dX10_longest_100 lk_X10_265 (x_fullest (X := (x_r X 4 (jone t J'))) xJ_4 hM (J := (jone t J')) rfl (hf'.1.one t (by omega)) (by rw [jone_R, hRR]; exact hR0)) (xa_j xJ_4 hM) np_X2_fullest rfl rfl (by decide) (Nat.le_of_ble_eq_true rfl) rfl ?_)
              rintro v M' ⟨rfl, rfl⟩
              rw [jone_R, hRR]
              refine rx_istore_7 hE dX10_longest_103 (by decide) rfl ?_
              refine rx_aload_n hE dX10_longest_105 (i := 0) rfl rfl ?_
              refine rx_getf hE dX10_longest_106 fl_X10_26_9 (xa_0 hM) rfl ?_
              refine rx_getfN hE dX10_longest_109 fl_X10_151_2 (xa_j xJ_4 hM) rfl ?_
              refine rx_iload hE dX10_longest_112 rfl ?_
              refine rx_ialdN (i := jfull (jone t J' 0) (jR J)) hE dX10_longest_114 (xa_j1 xJ_4 hM) (by omega) (by decide) ?_
              refine rx_int _ (jone t J' 0 (jfull (jone t J' 0) (jR J))) rfl ?_
              refine rx_iload_n hE dX10_longest_115 (i := 3) rfl rfl ?_
              refine rx_icmp_le (tgt := 146) hE dX10_longest_116 (by decide) (fun c116 => ?_) (fun c116 => ?_)
              · refine rx_iinc_6 hE dX10_longest_146 (v := 1) (by decide) (by decide) rfl ?_
                rw [nI_1]
                refine rx_goto (tgt := 74) hE dX10_longest_149 (by decide) ?_
                exact ih (k + 1) G1 (jone t J') s _ (by omega) (by rw [jone_T t hf'.1]; omega) (hf'.one t (by omega)) ((jone_R t J').trans hRR) (fun _ => Int32.le_trans (jw_ge0 (by decide) hge) c116) (by rw [← hF]; show _ = qlo t (jR J) m (jone t J') (qloI (jone t J' 0) (J' 9 3) 0 (jR J) s); rw [hq, if_neg (Int32.not_lt.mpr c116)])
              · refine rx_aload_n hE dX10_longest_119 (i := 0) rfl rfl ?_
                refine rx_getf hE dX10_longest_120 fl_X10_26_9 (xa_0 hM) rfl ?_
                refine rx_getfN hE dX10_longest_123 fl_X10_151_2 (xa_j xJ_4 hM) rfl ?_
                refine rx_iload hE dX10_longest_126 rfl ?_
                refine rx_ialdN (i := jfull (jone t J' 0) (jR J)) hE dX10_longest_128 (xa_j1 xJ_4 hM) (by omega) (by decide) ?_
                refine rx_int _ (jone t J' 0 (jfull (jone t J' 0) (jR J))) rfl ?_
                refine rx_istore_n_3 hE dX10_longest_129 (by decide) rfl ?_
                refine rx_aload_n hE dX10_longest_130 (i := 0) rfl rfl ?_
                refine rx_getf hE dX10_longest_131 fl_X10_19_9 (xa_0 hM) rfl ?_
                refine rx_getfN hE dX10_longest_134 fl_X10_185_2 (xa_j xJ_2 hM) rfl ?_
                refine rx_int _ (J 9 3) (congrFun (congrFun hJ 9) 3) ?_
                refine rx_iload hE dX10_longest_137 rfl ?_
                refine rx_iadd hE dX10_longest_139 ?_
                refine rx_int _ (J' 9 3) (hf.1.beatk hf'.1 hT2) ?_
                refine rx_istore_4 hE dX10_longest_140 (by decide) rfl ?_
                refine rx_iload hE dX10_longest_142 rfl ?_
                refine rx_istore_5 hE dX10_longest_144 (by decide) rfl ?_
                refine rx_iinc_6 hE dX10_longest_146 (v := 1) (by decide) (by decide) rfl ?_
                rw [nI_1]
                refine rx_goto (tgt := 74) hE dX10_longest_149 (by decide) ?_
                exact ih (k + 1) G1 (jone t J') (jone t J' 0 (jfull (jone t J' 0) (jR J)), J' 9 3, nI (jfull (jone t J' 0) (jR J))) _ (by omega) (by rw [jone_T t hf'.1]; omega) (hf'.one t (by omega)) ((jone_R t J').trans hRR) (fun _ => jw_ge0 (by decide) hge) (by rw [← hF]; show _ = qlo t (jR J) m (jone t J') (qloI (jone t J' 0) (J' 9 3) 0 (jR J) s); rw [hq, if_pos (Int32.not_le.mp c116)])
          refine rx_iconst hE dX10_longest_52 (v := -1) (by decide) ?_
          refine rx_istore_n_3 hE dX10_longest_53 (by decide) rfl ?_
          refine rx_iconst hE dX10_longest_54 (v := -1) (by decide) ?_
          refine rx_istore_4 hE dX10_longest_55 (by decide) rfl ?_
          refine rx_iconst hE dX10_longest_57 (v := -1) (by decide) ?_
          refine rx_istore_5 hE dX10_longest_58 (by decide) rfl ?_
          refine rx_aload_n hE dX10_longest_60 (i := 0) rfl rfl ?_
          refine rx_getf hE dX10_longest_61 fl_X10_26_9 (xa_0 hM) rfl ?_
          refine rx_aload_n hE dX10_longest_64 (i := 0) rfl rfl ?_
          refine rx_getf hE dX10_longest_65 fl_X10_19_9 (xa_0 hM) rfl ?_
          refine rx_call0 (rx_callV (av := [.ref _]) hE dX10_longest_68 lk_X10_124 (x_copyFrom (X := X) xJ_4 xJ_2 (by decide) hM (J := J) hJ) (xa_j xJ_4 hM) np_X2_copyFrom rfl rfl (by decide) (Nat.le_of_ble_eq_true rfl) rfl ?_)
          rintro v M' ⟨rfl, rfl⟩
          refine rx_iconst hE dX10_longest_71 (v := 0) (by decide) ?_
          refine rx_istore_6 hE dX10_longest_72 (by decide) rfl ?_
          exact loop N 0 G J (-1, -1, -1) _ (by omega) (by omega) hf rfl (fun h => absurd h (by omega)) rfl
        · have hR0 : jR J = 0 := nI_inj (by omega) (by decide) c38
          have hv : q_longest t J (nI N) what = q3 what 0 (-2) (-2) := by unfold q_longest; rw [if_neg hg, nI_clamp (n := N) (by omega), hR0, qlo_R0]; rfl
          refine rx_iload_n hE dX10_longest_41 (i := 2) rfl rfl ?_
          refine rx_if_ne (tgt := 49) hE dX10_longest_42 (by decide) (fun c42 => ?_) (fun c42 => ?_)
          · refine rx_bipush hE dX10_longest_49 (v := -2) (by decide) ?_
            exact rx_iret hE hQ rfl dX10_longest_51 ⟨by rw [hv]; unfold q3; rw [if_neg c42]; split <;> rfl, xD.refl n X O Q G S L⟩
          · refine rx_iconst hE dX10_longest_45 (v := 0) (by decide) ?_
            refine rx_goto (tgt := 51) hE dX10_longest_46 (by decide) ?_
            exact rx_iret hE hQ rfl dX10_longest_51 ⟨by rw [hv]; unfold q3; rw [if_pos c42], xD.refl n X O Q G S L⟩
      · refine rx_iconst hE dX10_longest_29 (v := -1) (by decide) ?_
        exact rx_iret hE hQ rfl dX10_longest_30 ⟨by simp [q_longest, *], xD.refl n X O Q G S L⟩
set_option maxRecDepth 100000 in
set_option maxHeartbeats 1000000 in
theorem c_X10_waitedWith {n : Nat} {X : gX} {O : gO} {Q : gU} {G : gK} {S : gS} {L : gLg} (hR : xR n X O Q) {J : gJn} (hJ : X 2 = J) (hf : jfit J) (hT9 : jT J ≤ 999) {t : gJn → Nat → Int32 → Bool} (ht : xtf X Q (X 0 0 17) = t) {bb N : Nat} (ch : Int32) (hb : bb < jB J) (hN : N ≤ 100) : SX 7 0 0 mX10_waitedWith [.ref 16, .int (nI bb), .int ch, .int (nI N)] (xm n X O Q G S L) (fun v M' => v = some (.int (jsum (jmanyF t N (j_s J 8 (upd (J 8) bb (J 8 bb ^^^ ch))) 5) (jR J))) ∧ xE n X O Q S L M') := by
  refine SX.intro [some (.ref 16), some (.int (nI bb)), some (.int ch), some (.int (nI N))] (by decide +kernel) (Nat.le_of_ble_eq_true rfl) rfl (fun E hE hQ => ?_)
  have hM := hR.M
  have hr6 := hf.1.2.1
  have hB12 := hf.1.2.2.2.2.2.1
  refine rx_aload_n hE dX10_waitedWith_0 (i := 0) rfl rfl ?_
  refine rx_getf hE dX10_waitedWith_1 fl_X10_26_9 (xa_0 hM) rfl ?_
  refine rx_aload_n hE dX10_waitedWith_4 (i := 0) rfl rfl ?_
  refine rx_getf hE dX10_waitedWith_5 fl_X10_19_9 (xa_0 hM) rfl ?_
  refine rx_call0 (rx_callV (av := [.ref _]) hE dX10_waitedWith_8 lk_X10_124 (x_copyFrom (X := X) xJ_4 xJ_2 (by decide) hM (J := J) hJ) (xa_j xJ_4 hM) np_X2_copyFrom rfl rfl (by decide) (Nat.le_of_ble_eq_true rfl) rfl ?_)
  rintro v M' ⟨rfl, rfl⟩
  refine rx_aload_n hE dX10_waitedWith_11 (i := 0) rfl rfl ?_
  refine rx_getf hE dX10_waitedWith_12 fl_X10_26_9 (xa_0 hM) rfl ?_
  refine rx_iload_n hE dX10_waitedWith_15 (i := 1) rfl rfl ?_
  refine rx_call0 (rx_callV (av := [.int _]) hE dX10_waitedWith_16 lk_X10_173 (x_hasBeat (X := (x_r X 4 J)) xJ_4 hM (J := J) rfl _) (xa_j xJ_4 hM) np_X2_hasBeat rfl rfl (by decide) (Nat.le_of_ble_eq_true rfl) rfl ?_)
  rintro v M' ⟨rfl, rfl⟩
  refine rx_if_eq (tgt := 35) hE dX10_waitedWith_19 (by decide) (fun c19 => absurd c19 (by unfold j_hasBeat; rw [if_neg (nI_pos (by omega)), hf.1.2.2.2.1, if_neg (nI_ge (by omega) (by omega))]; decide)) (fun c19 => ?_)
  refine rx_aload_n hE dX10_waitedWith_22 (i := 0) rfl rfl ?_
  refine rx_getf hE dX10_waitedWith_23 fl_X10_26_9 (xa_0 hM) rfl ?_
  refine rx_getfN hE dX10_waitedWith_26 fl_X10_176_2 (xa_j xJ_4 hM) rfl ?_
  refine rx_iload_n hE dX10_waitedWith_29 (i := 1) rfl rfl ?_
  refine rx_dup2 hE dX10_waitedWith_30 rfl rfl ?_
  refine rx_ialdN (i := bb) hE dX10_waitedWith_31 (xa_j9 xJ_4 hM) (by omega) (by decide) ?_
  refine rx_int _ (J 8 bb) rfl ?_
  refine rx_iload_n hE dX10_waitedWith_32 (i := 2) rfl rfl ?_
  refine rx_ixor hE dX10_waitedWith_33 ?_
  refine rx_iastN (i := bb) hE dX10_waitedWith_34 (xa_j9 xJ_4 hM) (by omega) (by decide) ?_
  refine rx_mem ((xw_j9 xJ_4).trans (by rw [x_rr, x_r_eq])) ?_
  refine rx_aload_n hE dX10_waitedWith_35 (i := 0) rfl rfl ?_
  refine rx_getf hE dX10_waitedWith_36 fl_X10_26_9 (xa_0 hM) rfl ?_
  refine rx_iload_n hE dX10_waitedWith_39 (i := 3) rfl rfl ?_
  refine rx_aload_n hE dX10_waitedWith_40 (i := 0) rfl rfl ?_
  refine rx_aload_n hE dX10_waitedWith_41 (i := 0) rfl rfl ?_
  refine rx_getf hE dX10_waitedWith_42 fl_X10_103_9 (xa_0 hM) rfl ?_
  refine rx_call0 (rx_callV (av := [.int _]) hE dX10_waitedWith_45 lk_X10_205 (c_X10_ruleOf (X := (x_r X 4 (j_s J 8 (upd (J 8) bb (J 8 bb ^^^ ch))))) hM (hR.eq rfl) _) (xa_0 hM) np_X10_ruleOf rfl rfl (by decide) (Nat.le_of_ble_eq_true rfl) rfl ?_)
  rintro v M' ⟨u, rfl, hu, rfl⟩
  have hu : xT Q n u t := by rw [← ht]; exact hu
  refine rx_call0 (rx_callV (av := [.int (nI N), u]) hE dX10_waitedWith_48 lk_X10_223 (x_goOn (X := (x_r X 4 (j_s J 8 (upd (J 8) bb (J 8 bb ^^^ ch))))) xJ_4 hM (J := (j_s J 8 (upd (J 8) bb (J 8 bb ^^^ ch)))) rfl (hf.s8 _).1 hu (N := N) (by show jT J + N < _; omega)) (xa_j xJ_4 hM) np_X2_goOn rfl rfl (by decide) (Nat.le_of_ble_eq_true rfl) rfl ?_)
  rintro v M' ⟨rfl, G1, rfl⟩
  rw [x_rr]
  refine rx_aload_n hE dX10_waitedWith_51 (i := 0) rfl rfl ?_
  refine rx_getf hE dX10_waitedWith_52 fl_X10_26_9 (xa_0 hM) rfl ?_
  refine rx_aload_n hE dX10_waitedWith_55 (i := 0) rfl rfl ?_
  refine rx_getf hE dX10_waitedWith_56 fl_X10_26_9 (xa_0 hM) rfl ?_
  refine rx_getfN hE dX10_waitedWith_59 fl_X10_166_2 (xa_j xJ_4 hM) rfl ?_
  refine rx_call0 (rx_callV (av := [.ref _]) hE dX10_waitedWith_62 lk_X10_191 (x_sumOf (X := (x_r X 4 (jmanyF t N (j_s J 8 (upd (J 8) bb (J 8 bb ^^^ ch)))))) xJ_4 hM (J := (jmanyF t N (j_s J 8 (upd (J 8) bb (J 8 bb ^^^ ch))))) rfl ((hf.s8 _).1.many t N (by show jT J + N < _; omega)).1 (f := 5) (by decide)) (xa_j xJ_4 hM) np_X2_sumOf rfl rfl (by decide) (Nat.le_of_ble_eq_true rfl) rfl ?_)
  rintro v M' ⟨rfl, rfl⟩
  rw [show jR (jmanyF t N (j_s J 8 (upd (J 8) bb (J 8 bb ^^^ ch)))) = jR J from (jst.many t N _).R]
  exact rx_iret hE hQ rfl dX10_waitedWith_65 ⟨rfl, _, G1, rfl⟩
theorem j_s8_0 (J : gJn) : j_s J 8 (upd (J 8) 0 (J 8 0 ^^^ 0)) = J := by
  funext f
  unfold j_s
  by_cases h : f = 8
  · subst h
    rw [if_pos rfl]
    funext i
    unfold upd
    by_cases hi : i = 0
    · rw [if_pos hi, hi, Int32.xor_zero]
    · rw [if_neg hi]
  · rw [if_neg h]
set_option maxRecDepth 100000 in
set_option maxHeartbeats 1000000 in
theorem c_X10_bestScore {n : Nat} {X : gX} {O : gO} {Q : gU} {G : gK} {S : gS} {L : gLg} (hR : xR n X O Q) {J : gJn} (hJ : X 2 = J) (hk : xk J) {t : gJn → Nat → Int32 → Bool} (ht : xtf X Q (X 0 0 17) = t) (n0 what : Int32) : SX 9 0 0 mX10_bestScore [.ref 16, .int n0, .int what] (xm n X O Q G S L) (fun v M' => v = some (.int (q_bestScore t J n0 what)) ∧ xD n X O Q S L M') := by
  refine SX.intro [some (.ref 16), some (.int n0), some (.int what), none, none, none, none, none, none] (by decide +kernel) (Nat.le_of_ble_eq_true rfl) rfl (fun E hE hQ => ?_)
  have hM := hR.M
  refine rx_aload_n hE dX10_bestScore_0 (i := 0) rfl rfl ?_
  refine rx_getf hE dX10_bestScore_1 fl_X10_19_9 (xa_0 hM) rfl ?_
  refine rx_call0 (rx_callV (av := []) hE dX10_bestScore_4 lk_X10_198 (x_isTold (X := X) xJ_2 hM (J := J) hJ) (xa_j xJ_2 hM) np_X2_isTold rfl rfl (by decide) (Nat.le_of_ble_eq_true rfl) rfl ?_)
  rintro v M' ⟨rfl, rfl⟩
  refine rx_if_eq (tgt := 29) hE dX10_bestScore_7 (by decide) (fun c7 => ?_) (fun c7 => ?_)
  · refine rx_iconst hE dX10_bestScore_29 (v := -1) (by decide) ?_
    exact rx_iret hE hQ rfl dX10_bestScore_30 ⟨by simp [q_bestScore, *], xD.refl n X O Q G S L⟩
  · refine rx_iload_n hE dX10_bestScore_10 (i := 1) rfl rfl ?_
    refine rx_iconst hE dX10_bestScore_11 (v := 1) (by decide) ?_
    refine rx_bipush hE dX10_bestScore_12 (v := 30) (by decide) ?_
    refine rx_call0 (rx_callS (av := [.int _, .int _, .int _]) hE dX10_bestScore_14 lk_X10_143 (c_X10_within _ _ _) np_X10_within rfl rfl (by decide) (Nat.le_of_ble_eq_true rfl) rfl ?_)
    rintro v M' ⟨rfl, rfl⟩
    refine rx_if_eq (tgt := 29) hE dX10_bestScore_17 (by decide) (fun c17 => ?_) (fun c17 => ?_)
    · refine rx_iconst hE dX10_bestScore_29 (v := -1) (by decide) ?_
      exact rx_iret hE hQ rfl dX10_bestScore_30 ⟨by simp [q_bestScore, *], xD.refl n X O Q G S L⟩
    · refine rx_iload_n hE dX10_bestScore_20 (i := 2) rfl rfl ?_
      refine rx_iconst hE dX10_bestScore_21 (v := 0) (by decide) ?_
      refine rx_iconst hE dX10_bestScore_22 (v := 2) (by decide) ?_
      refine rx_call0 (rx_callS (av := [.int _, .int _, .int _]) hE dX10_bestScore_23 lk_X10_143 (c_X10_within _ _ _) np_X10_within rfl rfl (by decide) (Nat.le_of_ble_eq_true rfl) rfl ?_)
      rintro v M' ⟨rfl, rfl⟩
      refine rx_if_ne (tgt := 31) hE dX10_bestScore_26 (by decide) (fun c26 => ?_) (fun c26 => ?_)
      · have hg : ¬ (j_isTold J = 0 ∨ q_in n0 1 30 = 0 ∨ q_in what 0 2 = 0) := by simp [*]
        obtain ⟨hf, hT9⟩ := hk.told c7
        obtain ⟨N, hN0, hN, rfl⟩ := q_in_of (a := 1) (b := 30) (by decide) c17
        have hr6 := hf.1.2.1
        have hB0 := hf.1.2.2.2.2.1
        have hB12 := hf.1.2.2.2.2.2.1
        have fin : ∀ (G' : gK) (J' : gJn) (s : g3) (l6 l7 l8 : Option Value), s = qbO t (jR J) N J 0 (jB J) (jsum (jmanyF t N J 5) (jR J), -2, -2) → RX E mX10_bestScore.2.2.1 0 0 120 [some (.ref 16), some (.int (nI N)), some (.int what), some (.int s.2.1), some (.int s.2.2), some (.int s.1), l6, l7, l8] [] (xm n (x_r X 4 J') O Q G' S L) := by
          intro G' J' s l6 l7 l8 hv
          have hv : q_bestScore t J (nI N) what = q3 what s.1 s.2.1 s.2.2 := by rw [hv]; unfold q_bestScore; rw [if_neg hg, nI_clamp (n := N) (by omega)]
          refine rx_iload_n hE dX10_bestScore_120 (i := 2) rfl rfl ?_
          refine rx_if_ne (tgt := 127) hE dX10_bestScore_121 (by decide) (fun c121 => ?_) (fun c121 => ?_)
          · refine rx_iload_n hE dX10_bestScore_127 (i := 2) rfl rfl ?_
            refine rx_iconst hE dX10_bestScore_128 (v := 1) (by decide) ?_
            refine rx_icmp_ne (tgt := 136) hE dX10_bestScore_129 (by decide) (fun c129 => ?_) (fun c129 => ?_)
            · refine rx_iload hE dX10_bestScore_136 rfl ?_
              exact rx_iret hE hQ rfl dX10_bestScore_138 ⟨by rw [hv]; unfold q3; rw [if_neg c121, if_neg c129], xD.t n X O Q G' S L _⟩
            · refine rx_iload_n hE dX10_bestScore_132 (i := 3) rfl rfl ?_
              refine rx_goto (tgt := 138) hE dX10_bestScore_133 (by decide) ?_
              exact rx_iret hE hQ rfl dX10_bestScore_138 ⟨by rw [hv]; unfold q3; rw [if_neg c121, if_pos c129], xD.t n X O Q G' S L _⟩
          · refine rx_iload hE dX10_bestScore_124 rfl ?_
            exact rx_iret hE hQ rfl dX10_bestScore_126 ⟨by rw [hv]; unfold q3; rw [if_pos c121], xD.t n X O Q G' S L _⟩
        have outer : ∀ (m b : Nat) (G' : gK) (J' : gJn) (s : g3) (l7 l8 : Option Value), b + m = jB J → qbO t (jR J) N J b m s = qbO t (jR J) N J 0 (jB J) (jsum (jmanyF t N J 5) (jR J), -2, -2) → RX E mX10_bestScore.2.2.1 0 0 50 [some (.ref 16), some (.int (nI N)), some (.int what), some (.int s.2.1), some (.int s.2.2), some (.int s.1), some (.int (nI b)), l7, l8] [] (xm n (x_r X 4 J') O Q G' S L) := by
          intro m
          induction m with
          | zero =>
            intro b G' J' s l7 l8 hk2 hF
            refine rx_iload hE dX10_bestScore_50 rfl ?_
            refine rx_aload_n hE dX10_bestScore_52 (i := 0) rfl rfl ?_
            refine rx_getf hE dX10_bestScore_53 fl_X10_19_9 (xa_0 hM) rfl ?_
            refine rx_getfN hE dX10_bestScore_56 fl_X10_179_2 (xa_j xJ_2 hM) rfl ?_
            refine rx_int _ (nI (jB J)) ((congrFun (congrFun hJ 9) 0).trans hf.1.2.2.2.1) ?_
            refine rx_icmp_ge (tgt := 120) hE dX10_bestScore_59 (by decide) (fun c59 => ?_) (fun c59 => absurd (show nI (jB J) ≤ nI b from nI_le (by omega) (by omega)) c59)
            exact fin G' J' s _ _ _ (by rw [← hF]; rfl)
          | succ m ih =>
            intro b G' J' s l7 l8 hk2 hF
            have hb0 : b < jB J := by omega
            refine rx_iload hE dX10_bestScore_50 rfl ?_
            refine rx_aload_n hE dX10_bestScore_52 (i := 0) rfl rfl ?_
            refine rx_getf hE dX10_bestScore_53 fl_X10_19_9 (xa_0 hM) rfl ?_
            refine rx_getfN hE dX10_bestScore_56 fl_X10_179_2 (xa_j xJ_2 hM) rfl ?_
            refine rx_int _ (nI (jB J)) ((congrFun (congrFun hJ 9) 0).trans hf.1.2.2.2.1) ?_
            refine rx_icmp_ge (tgt := 120) hE dX10_bestScore_59 (by decide) (fun c59 => absurd c59 (nI_ge (a := b) (b := (jB J)) (by omega) (by omega))) (fun c59 => ?_)
            refine rx_iconst hE dX10_bestScore_62 (v := 0) (by decide) ?_
            refine rx_istore_7 hE dX10_bestScore_63 (by decide) rfl ?_
            have inner : ∀ (n' r : Nat) (G' : gK) (J' : gJn) (s' : g3) (l8 : Option Value), r + n' = jR J → qbI t (jR J) N J b r n' s' = qbI t (jR J) N J b 0 (jR J) s → RX E mX10_bestScore.2.2.1 0 0 65 [some (.ref 16), some (.int (nI N)), some (.int what), some (.int s'.2.1), some (.int s'.2.2), some (.int s'.1), some (.int (nI b)), some (.int (nI r)), l8] [] (xm n (x_r X 4 J') O Q G' S L) := by
              intro n'
              induction n' with
              | zero =>
                intro r G' J' s' l8 hk3 hIn
                refine rx_iload hE dX10_bestScore_65 rfl ?_
                refine rx_aload_n hE dX10_bestScore_67 (i := 0) rfl rfl ?_
                refine rx_getf hE dX10_bestScore_68 fl_X10_19_9 (xa_0 hM) rfl ?_
                refine rx_getfN hE dX10_bestScore_71 fl_X10_132_2 (xa_j xJ_2 hM) rfl ?_
                refine rx_int _ (nI (jR J)) ((congrFun (congrFun hJ 9) 2).trans hf.1.1) ?_
                refine rx_icmp_ge (tgt := 114) hE dX10_bestScore_74 (by decide) (fun c74 => ?_) (fun c74 => absurd (show nI (jR J) ≤ nI r from nI_le (by omega) (by omega)) c74)
                refine rx_iinc_6 hE dX10_bestScore_114 (v := 1) (by decide) (by decide) rfl ?_
                rw [nI_1]
                refine rx_goto (tgt := 50) hE dX10_bestScore_117 (by decide) ?_
                exact ih (b + 1) G' J' s' _ _ (by omega) (by rw [← hF, show s' = qbI t (jR J) N J b 0 (jR J) s from hIn]; rfl)
              | succ n' ihn =>
                intro r G' J' s' l8 hk3 hIn
                refine rx_iload hE dX10_bestScore_65 rfl ?_
                refine rx_aload_n hE dX10_bestScore_67 (i := 0) rfl rfl ?_
                refine rx_getf hE dX10_bestScore_68 fl_X10_19_9 (xa_0 hM) rfl ?_
                refine rx_getfN hE dX10_bestScore_71 fl_X10_132_2 (xa_j xJ_2 hM) rfl ?_
                refine rx_int _ (nI (jR J)) ((congrFun (congrFun hJ 9) 2).trans hf.1.1) ?_
                refine rx_icmp_ge (tgt := 114) hE dX10_bestScore_74 (by decide) (fun c74 => absurd c74 (nI_ge (a := r) (b := (jR J)) (by omega) (by omega))) (fun c74 => ?_)
                refine rx_aload_n hE dX10_bestScore_77 (i := 0) rfl rfl ?_
                refine rx_iload hE dX10_bestScore_78 rfl ?_
                refine rx_iconst hE dX10_bestScore_80 (v := 1) (by decide) ?_
                refine rx_iload hE dX10_bestScore_81 rfl ?_
                refine rx_ishl hE dX10_bestScore_83 ?_
                refine rx_iload_n hE dX10_bestScore_84 (i := 1) rfl rfl ?_
                refine rx_call0 (rx_callV (av := [.int (nI b), .int _, .int (nI N)]) hE dX10_bestScore_85 lk_X10_245 (c_X10_waitedWith (X := x_r X 4 J') (bb := b) (N := N) (hR.eq rfl) hJ hf hT9 ht _ hb0 (by omega)) (xa_0 hM) np_X10_waitedWith rfl rfl (by decide) (Nat.le_of_ble_eq_true rfl) rfl ?_)
                rintro v M' ⟨rfl, J1, G1, rfl⟩
                rw [x_rr]
                refine rx_int _ (jsum (jmanyF t N (qbj J b r) 5) (jR J)) rfl ?_
                refine rx_istore_8 hE dX10_bestScore_88 (by decide) rfl ?_
                refine rx_iload hE dX10_bestScore_90 rfl ?_
                refine rx_iload hE dX10_bestScore_92 rfl ?_
                refine rx_icmp_ge (tgt := 108) hE dX10_bestScore_94 (by decide) (fun c94 => ?_) (fun c94 => ?_)
                · refine rx_iinc_7 hE dX10_bestScore_108 (v := 1) (by decide) (by decide) rfl ?_
                  rw [nI_1]
                  refine rx_goto (tgt := 65) hE dX10_bestScore_111 (by decide) ?_
                  exact ihn (r + 1) G1 J1 s' _ (by omega) (by rw [← hIn]; show _ = qbI t (jR J) N J b (r + 1) n' (if jsum (jmanyF t N (qbj J b r) 5) (jR J) < s'.1 then (jsum (jmanyF t N (qbj J b r) 5) (jR J), nI b, nI r) else s'); rw [if_neg (Int32.not_lt.mpr c94)])
                · refine rx_iload hE dX10_bestScore_97 rfl ?_
                  refine rx_istore_5 hE dX10_bestScore_99 (by decide) rfl ?_
                  refine rx_iload hE dX10_bestScore_101 rfl ?_
                  refine rx_istore_n_3 hE dX10_bestScore_103 (by decide) rfl ?_
                  refine rx_iload hE dX10_bestScore_104 rfl ?_
                  refine rx_istore_4 hE dX10_bestScore_106 (by decide) rfl ?_
                  refine rx_iinc_7 hE dX10_bestScore_108 (v := 1) (by decide) (by decide) rfl ?_
                  rw [nI_1]
                  refine rx_goto (tgt := 65) hE dX10_bestScore_111 (by decide) ?_
                  exact ihn (r + 1) G1 J1 (jsum (jmanyF t N (qbj J b r) 5) (jR J), nI b, nI r) _ (by omega) (by rw [← hIn]; show _ = qbI t (jR J) N J b (r + 1) n' (if jsum (jmanyF t N (qbj J b r) 5) (jR J) < s'.1 then (jsum (jmanyF t N (qbj J b r) 5) (jR J), nI b, nI r) else s'); rw [if_pos (Int32.not_le.mp c94)])
            exact inner (jR J) 0 G' J' s _ (by omega) rfl
        refine rx_bipush hE dX10_bestScore_31 (v := -2) (by decide) ?_
        refine rx_istore_n_3 hE dX10_bestScore_33 (by decide) rfl ?_
        refine rx_bipush hE dX10_bestScore_34 (v := -2) (by decide) ?_
        refine rx_istore_4 hE dX10_bestScore_36 (by decide) rfl ?_
        refine rx_mem (M' := xm n (x_r X 4 (X 4)) O Q G S L) (by rw [x_r_id]) ?_
        refine rx_aload_n hE dX10_bestScore_38 (i := 0) rfl rfl ?_
        refine rx_iconst hE dX10_bestScore_39 (v := 0) (by decide) ?_
        refine rx_iconst hE dX10_bestScore_40 (v := 0) (by decide) ?_
        refine rx_iload_n hE dX10_bestScore_41 (i := 1) rfl rfl ?_
        refine rx_call0 (rx_callV (av := [.int (nI 0), .int 0, .int (nI N)]) hE dX10_bestScore_42 lk_X10_245 (c_X10_waitedWith (X := x_r X 4 (X 4)) (bb := 0) (N := N) (hR.eq rfl) hJ hf hT9 ht 0 hB0 (by omega)) (xa_0 hM) np_X10_waitedWith rfl rfl (by decide) (Nat.le_of_ble_eq_true rfl) rfl ?_)
        rintro v M' ⟨rfl, J1, G1, rfl⟩
        rw [x_rr]
        rw [j_s8_0]
        refine rx_istore_5 hE dX10_bestScore_45 (by decide) rfl ?_
        refine rx_iconst hE dX10_bestScore_47 (v := 0) (by decide) ?_
        refine rx_istore_6 hE dX10_bestScore_48 (by decide) rfl ?_
        exact outer (jB J) 0 G1 J1 (jsum (jmanyF t N J 5) (jR J), -2, -2) _ _ (by omega) rfl
      · refine rx_iconst hE dX10_bestScore_29 (v := -1) (by decide) ?_
        exact rx_iret hE hQ rfl dX10_bestScore_30 ⟨by simp [q_bestScore, *], xD.refl n X O Q G S L⟩
