/-! ===== rests ===== -/
theorem g_rests_eq : ∀ i, i < 5 → g_rests i = nI (1 + 2 * i) := by decide
def gcn (p q : Nat → Int32) : Nat → g2
  | 0 => (0, -1)
  | n + 1 => if qreF p q (n / 5) (n % 5) 0 5 = 0 then gcn p q n else ((gcn p q n).1 + 1, if (gcn p q n).2 = -1 then nI n else (gcn p q n).2)
theorem gcn_in (p q : Nat → Int32) : ∀ n, n < 2 ^ 31 → (gcn p q n).2 = -1 ∨ ∃ j, j < n ∧ (gcn p q n).2 = nI j
  | 0, _ => Or.inl rfl
  | n + 1, h => by
    have ih := gcn_in p q n (by omega)
    show (if qreF p q (n / 5) (n % 5) 0 5 = 0 then gcn p q n else ((gcn p q n).1 + 1, if (gcn p q n).2 = -1 then nI n else (gcn p q n).2)).2 = -1 ∨ ∃ j, j < n + 1 ∧ (if qreF p q (n / 5) (n % 5) 0 5 = 0 then gcn p q n else ((gcn p q n).1 + 1, if (gcn p q n).2 = -1 then nI n else (gcn p q n).2)).2 = nI j
    split
    · rcases ih with ih | ⟨j, hj, e⟩
      · exact Or.inl ih
      · exact Or.inr ⟨j, by omega, e⟩
    · right
      rcases ih with ih | ⟨j, hj, e⟩
      · exact ⟨n, by omega, if_pos ih⟩
      · exact ⟨j, by omega, (if_neg (by rw [e]; exact nI_m1' (by omega))).trans e⟩
theorem qrsF_gcn (p q : Nat → Int32) : ∀ (n : Nat) (s : g2), n < 2 ^ 31 → qrsF p q n s = (s.1 + (gcn p q n).1, if (gcn p q n).2 = -1 then s.2 else (gcn p q n).2)
  | 0, s, _ => by
    show s = (s.1 + 0, if (-1 : Int32) = -1 then s.2 else -1)
    rw [if_pos rfl, Int32.add_zero]
  | n + 1, s, h => by
    show qrsF p q n (if qreF p q (n / 5) (n % 5) 0 5 = 0 then s else (s.1 + 1, nI n)) = _
    rw [qrsF_gcn p q n _ (by omega)]
    have e : gcn p q (n + 1) = if qreF p q (n / 5) (n % 5) 0 5 = 0 then gcn p q n else ((gcn p q n).1 + 1, if (gcn p q n).2 = -1 then nI n else (gcn p q n).2) := rfl
    rw [e]
    by_cases c : qreF p q (n / 5) (n % 5) 0 5 = 0
    · rw [if_pos c, if_pos c]
    · rw [if_neg c, if_neg c]
      show (s.1 + 1 + (gcn p q n).1, if (gcn p q n).2 = -1 then nI n else (gcn p q n).2) = (s.1 + ((gcn p q n).1 + 1), if (if (gcn p q n).2 = -1 then nI n else (gcn p q n).2) = -1 then s.2 else (if (gcn p q n).2 = -1 then nI n else (gcn p q n).2))
      have e1 : ¬ (if (gcn p q n).2 = -1 then nI n else (gcn p q n).2) = -1 := by
        split
        · exact nI_m1' (by omega)
        · assumption
      rw [if_neg e1, Int32.add_assoc, Int32.add_comm 1]
theorem gcn_ag {p q p' q' : Nat → Int32} (hp : ∀ i, i < 25 → p i = p' i) (hq : ∀ i, i < 25 → q i = q' i) : ∀ n, n ≤ 25 → gcn p q n = gcn p' q' n
  | 0, _ => rfl
  | n + 1, h => by
    have hre : ∀ (m k : Nat), k + m ≤ 5 → qreF p q (n / 5) (n % 5) k m = qreF p' q' (n / 5) (n % 5) k m := by
      intro m
      induction m with
      | zero => intro k _; rfl
      | succ m ih =>
        intro k hk
        show (if p (5 * (n / 5) + n % 5) < p (5 * k + n % 5) then 0 else if q (5 * (n / 5) + k) ≤ q (5 * (n / 5) + n % 5) then qreF p q (n / 5) (n % 5) (k + 1) m else 0) = (if p' (5 * (n / 5) + n % 5) < p' (5 * k + n % 5) then 0 else if q' (5 * (n / 5) + k) ≤ q' (5 * (n / 5) + n % 5) then qreF p' q' (n / 5) (n % 5) (k + 1) m else 0)
        rw [hp _ (by omega), hp _ (by omega), hq _ (by omega), hq _ (by omega), ih (k + 1) (by omega)]
    show (if qreF p q (n / 5) (n % 5) 0 5 = 0 then gcn p q n else _) = (if qreF p' q' (n / 5) (n % 5) 0 5 = 0 then gcn p' q' n else _)
    rw [hre 5 0 (by omega), gcn_ag hp hq n (by omega)]
set_option maxRecDepth 100000 in
set_option maxHeartbeats 1000000 in
theorem c_X10_isRest {n : Nat} {X : gX} {O : gO} {Q : gU} {G : gK} {S : gS} {L : gLg} (hM : 408 ≤ n) {j : Nat} (hj : j < 25) : SX 0 0 0 mX10_isRest [.ref 16, .int (nI j)] (xm n X O Q G S L) (fun v M' => v = some (.int (qreF (X 32 1) (X 32 2) (j / 5) (j % 5) 0 5)) ∧ M' = xm n X O Q G S L) := by
  refine SX.intro [some (.ref 16), some (.int (nI j)), none, none, none] (by decide +kernel) (Nat.le_of_ble_eq_true rfl) rfl (fun E hE hQ => ?_)
  have loop : ∀ (m k : Nat), k + m = 5 → qreF (X 32 1) (X 32 2) (j / 5) (j % 5) k m = qreF (X 32 1) (X 32 2) (j / 5) (j % 5) 0 5 → RX E mX10_isRest.2.2.1 0 0 17 [some (.ref 16), some (.int (nI j)), some (.int (nI (j / 5))), some (.int (nI (j % 5))), some (.int (nI k))] [] (xm n X O Q G S L) := by
    intro m
    induction m with
    | zero =>
      intro k hk2 hF
      refine rx_iload hE dX10_isRest_17 rfl ?_
      refine rx_gets1 hE dX10_isRest_19 sl_X10_84 ?_
      refine rx_alen1 hE dX10_isRest_22 ?_
      refine rx_icmp_ge (tgt := 80) hE dX10_isRest_23 (by decide) (fun c23 => ?_) (fun c23 => absurd (show nI 5 ≤ nI k from nI_le (by omega) (by omega)) c23)
      refine rx_iconst hE dX10_isRest_80 (v := 1) (by decide) ?_
      exact rx_tret hE hQ rfl rfl dX10_isRest_81 ⟨by rw [← hF]; rfl, rfl⟩
    | succ m ih =>
      intro k hk2 hF
      refine rx_iload hE dX10_isRest_17 rfl ?_
      refine rx_gets1 hE dX10_isRest_19 sl_X10_84 ?_
      refine rx_alen1 hE dX10_isRest_22 ?_
      refine rx_icmp_ge (tgt := 80) hE dX10_isRest_23 (by decide) (fun c23 => absurd c23 (nI_ge (a := k) (b := 5) (by omega) (by decide))) (fun c23 => ?_)
      refine rx_aload_n hE dX10_isRest_26 (i := 0) rfl rfl ?_
      refine rx_getf hE dX10_isRest_27 fl_X10_87_9 (xa_0 hM) rfl ?_
      refine rx_iload hE dX10_isRest_30 rfl ?_
      refine rx_gets1 hE dX10_isRest_32 sl_X10_84 ?_
      refine rx_alen1 hE dX10_isRest_35 ?_
      refine rx_imul hE dX10_isRest_36 ?_
      refine rx_int _ (nI (k * 5)) (pk_mul k 5) ?_
      refine rx_iload_n hE dX10_isRest_37 (i := 3) rfl rfl ?_
      refine rx_iadd hE dX10_isRest_38 ?_
      refine rx_int _ (nI (k * 5 + j % 5)) (nI_add _ _) ?_
      refine rx_ialdN (i := k * 5 + j % 5) hE dX10_isRest_39 (xa_32_1 hM) (by omega) (by decide) ?_
      refine rx_int _ (X 32 1 (5 * k + j % 5)) (congrArg (X 32 1) (by omega)) ?_
      refine rx_aload_n hE dX10_isRest_40 (i := 0) rfl rfl ?_
      refine rx_getf hE dX10_isRest_41 fl_X10_87_9 (xa_0 hM) rfl ?_
      refine rx_iload_n hE dX10_isRest_44 (i := 1) rfl rfl ?_
      refine rx_ialdN (i := j) hE dX10_isRest_45 (xa_32_1 hM) (by omega) (by decide) ?_
      refine rx_int _ (X 32 1 (5 * (j / 5) + j % 5)) (congrArg (X 32 1) (by omega)) ?_
      refine rx_icmp_gt (tgt := 72) hE dX10_isRest_46 (by decide) (fun c46 => ?_) (fun c46 => ?_)
      · refine rx_iconst hE dX10_isRest_72 (v := 0) (by decide) ?_
        exact rx_tret hE hQ rfl rfl dX10_isRest_73 ⟨by rw [← hF]; show _ = some (Value.int (if X 32 1 (5 * (j / 5) + j % 5) < X 32 1 (5 * k + j % 5) then 0 else if X 32 2 (5 * (j / 5) + k) ≤ X 32 2 (5 * (j / 5) + j % 5) then _ else 0)); rw [if_pos c46], rfl⟩
      · refine rx_aload_n hE dX10_isRest_49 (i := 0) rfl rfl ?_
        refine rx_getf hE dX10_isRest_50 fl_X10_90_9 (xa_0 hM) rfl ?_
        refine rx_iload_n hE dX10_isRest_53 (i := 2) rfl rfl ?_
        refine rx_gets1 hE dX10_isRest_54 sl_X10_84 ?_
        refine rx_alen1 hE dX10_isRest_57 ?_
        refine rx_imul hE dX10_isRest_58 ?_
        refine rx_int _ (nI (j / 5 * 5)) (pk_mul (j / 5) 5) ?_
        refine rx_iload hE dX10_isRest_59 rfl ?_
        refine rx_iadd hE dX10_isRest_61 ?_
        refine rx_int _ (nI (j / 5 * 5 + k)) (nI_add _ _) ?_
        refine rx_ialdN (i := j / 5 * 5 + k) hE dX10_isRest_62 (xa_32_2 hM) (by omega) (by decide) ?_
        refine rx_int _ (X 32 2 (5 * (j / 5) + k)) (congrArg (X 32 2) (by omega)) ?_
        refine rx_aload_n hE dX10_isRest_63 (i := 0) rfl rfl ?_
        refine rx_getf hE dX10_isRest_64 fl_X10_90_9 (xa_0 hM) rfl ?_
        refine rx_iload_n hE dX10_isRest_67 (i := 1) rfl rfl ?_
        refine rx_ialdN (i := j) hE dX10_isRest_68 (xa_32_2 hM) (by omega) (by decide) ?_
        refine rx_int _ (X 32 2 (5 * (j / 5) + j % 5)) (congrArg (X 32 2) (by omega)) ?_
        refine rx_icmp_le (tgt := 74) hE dX10_isRest_69 (by decide) (fun c69 => ?_) (fun c69 => ?_)
        · refine rx_iinc_4 hE dX10_isRest_74 (v := 1) (by decide) (by decide) rfl ?_
          rw [nI_1]
          refine rx_goto (tgt := 17) hE dX10_isRest_77 (by decide) ?_
          exact ih (k + 1) (by omega) (by rw [← hF]; exact ((if_neg c46).trans (if_pos c69)).symm)
        · refine rx_iconst hE dX10_isRest_72 (v := 0) (by decide) ?_
          exact rx_tret hE hQ rfl rfl dX10_isRest_73 ⟨by rw [← hF]; show _ = some (Value.int (if X 32 1 (5 * (j / 5) + j % 5) < X 32 1 (5 * k + j % 5) then 0 else if X 32 2 (5 * (j / 5) + k) ≤ X 32 2 (5 * (j / 5) + j % 5) then _ else 0)); rw [if_neg c46, if_neg c69], rfl⟩
  refine rx_iload_n hE dX10_isRest_0 (i := 1) rfl rfl ?_
  refine rx_gets1 hE dX10_isRest_1 sl_X10_84 ?_
  refine rx_alen1 hE dX10_isRest_4 ?_
  refine rx_idiv hE dX10_isRest_5 (by decide) ?_
  refine rx_int _ (nI (j / 5)) (pk_div (d := 5) (by omega) (by decide) (by decide)) ?_
  refine rx_istore_n_2 hE dX10_isRest_6 (by decide) rfl ?_
  refine rx_iload_n hE dX10_isRest_7 (i := 1) rfl rfl ?_
  refine rx_gets1 hE dX10_isRest_8 sl_X10_84 ?_
  refine rx_alen1 hE dX10_isRest_11 ?_
  refine rx_irem hE dX10_isRest_12 (by decide) ?_
  refine rx_int _ (nI (j % 5)) (pk_rem (d := 5) (by omega) (by decide) (by decide)) ?_
  refine rx_istore_n_3 hE dX10_isRest_13 (by decide) rfl ?_
  refine rx_iconst hE dX10_isRest_14 (v := 0) (by decide) ?_
  refine rx_istore_4 hE dX10_isRest_15 (by decide) rfl ?_
  exact loop 5 0 (by omega) rfl
set_option maxRecDepth 100000 in
set_option maxHeartbeats 1000000 in
theorem c_X10_tryRests {n : Nat} {X : gX} {O : gO} {Q : gU} {G : gK} {S : gS} {L : gLg} (hR : xR n X O Q) {J : gJn} (hJ : X 2 = J) (hf : jfit J) (hT9 : jT J ≤ 999) {t : gJn → Nat → Int32 → Bool} (ht : xtf X Q (X 0 0 17) = t) {a b N : Nat} (ha : a < jR J) (hb : b < jR J) (hN : N ≤ 100) : SX 7 0 0 mX10_tryRests [.ref 16, .int (nI a), .int (nI b), .int (nI N)] (xm n X O Q G S L) (fun v M' => v = none ∧ ∃ (Y : gX) (G' : gK), M' = xm n Y O Q G' S L ∧ xq X Y ∧ ∀ c, c < 25 → Y 32 1 c = qhb t J N a b a c ∧ Y 32 2 c = qhb t J N a b b c) := by
  refine SX.intro [some (.ref 16), some (.int (nI a)), some (.int (nI b)), some (.int (nI N)), none] (by decide +kernel) (Nat.le_of_ble_eq_true rfl) rfl (fun E hE hQ => ?_)
  have hM := hR.M
  have hr6 := hf.1.2.1
  have loop : ∀ (m k : Nat) (Y : gX) (G' : gK) (J' : gJn), k + m = 25 → xq X Y → (∀ c, c < k → Y 32 1 c = qhb t J N a b a c ∧ Y 32 2 c = qhb t J N a b b c) → RX E mX10_tryRests.2.2.1 0 0 3 [some (.ref 16), some (.int (nI a)), some (.int (nI b)), some (.int (nI N)), some (.int (nI k))] [] (xm n (x_r Y 4 J') O Q G' S L) := by
    intro m
    induction m with
    | zero =>
      intro k Y G' J' hk2 hq hP
      have hR := hq.R hR
      have hJ0 := hJ
      have hJ := hq.J hJ
      have ht := hq.tf ht
      refine rx_iload hE dX10_tryRests_3 rfl ?_
      refine rx_aload_n hE dX10_tryRests_5 (i := 0) rfl rfl ?_
      refine rx_getf hE dX10_tryRests_6 fl_X10_87_9 (xa_0 hM) rfl ?_
      refine rx_alenI hE dX10_tryRests_9 (xa_32_1 hM) ?_
      refine rx_icmp_ge (tgt := 162) hE dX10_tryRests_10 (by decide) (fun c10 => ?_) (fun c10 => absurd (show nI 25 ≤ nI k from nI_le (by omega) (by omega)) c10)
      exact rx_vret hE hQ rfl dX10_tryRests_162 ⟨rfl, x_r Y 4 J', G', rfl, hq.trans (xq.t Y _), fun c hc => ⟨(hP c (by omega)).1, (hP c (by omega)).2⟩⟩
    | succ m ih =>
      intro k Y G' J' hk2 hq hP
      have hR := hq.R hR
      have hJ0 := hJ
      have hJ := hq.J hJ
      have ht := hq.tf ht
      refine rx_iload hE dX10_tryRests_3 rfl ?_
      refine rx_aload_n hE dX10_tryRests_5 (i := 0) rfl rfl ?_
      refine rx_getf hE dX10_tryRests_6 fl_X10_87_9 (xa_0 hM) rfl ?_
      refine rx_alenI hE dX10_tryRests_9 (xa_32_1 hM) ?_
      refine rx_icmp_ge (tgt := 162) hE dX10_tryRests_10 (by decide) (fun c10 => absurd c10 (nI_ge (a := k) (b := 25) (by omega) (by decide))) (fun c10 => ?_)
      refine rx_aload_n hE dX10_tryRests_13 (i := 0) rfl rfl ?_
      refine rx_getf hE dX10_tryRests_14 fl_X10_26_9 (xa_0 hM) rfl ?_
      refine rx_aload_n hE dX10_tryRests_17 (i := 0) rfl rfl ?_
      refine rx_getf hE dX10_tryRests_18 fl_X10_19_9 (xa_0 hM) rfl ?_
      refine rx_call0 (rx_callV (av := [.ref _]) hE dX10_tryRests_21 lk_X10_124 (x_copyFrom (X := (x_r Y 4 J')) xJ_4 xJ_2 (by decide) hM (J := J) hJ) (xa_j xJ_4 hM) np_X2_copyFrom rfl rfl (by decide) (Nat.le_of_ble_eq_true rfl) rfl ?_)
      rintro v M' ⟨rfl, rfl⟩
      rw [x_rr]
      refine rx_aload_n hE dX10_tryRests_24 (i := 0) rfl rfl ?_
      refine rx_getf hE dX10_tryRests_25 fl_X10_26_9 (xa_0 hM) rfl ?_
      refine rx_getfN hE dX10_tryRests_28 fl_X10_154_2 (xa_j xJ_4 hM) rfl ?_
      refine rx_iload_n hE dX10_tryRests_31 (i := 1) rfl rfl ?_
      refine rx_gets1 hE dX10_tryRests_32 sl_X10_84 ?_
      refine rx_iload hE dX10_tryRests_35 rfl ?_
      refine rx_gets1 hE dX10_tryRests_37 sl_X10_84 ?_
      refine rx_alen1 hE dX10_tryRests_40 ?_
      refine rx_idiv hE dX10_tryRests_41 (by decide) ?_
      refine rx_int _ (nI (k / 5)) (pk_div (d := 5) (by omega) (by decide) (by decide)) ?_
      refine rx_iald1N (i := k / 5) hE dX10_tryRests_42 (by omega) ?_
      refine rx_int _ (nI (1 + 2 * (k / 5))) (g_rests_eq _ (by omega)) ?_
      refine rx_iastN (i := a) hE dX10_tryRests_43 (xa_j2 xJ_4 hM) (by omega) (by decide) ?_
      refine rx_mem (M' := xm n (x_r Y 4 (j_s J 1 (upd (J 1) a (nI (1 + 2 * (k / 5)))))) O Q G' S L) ((xw_j2 xJ_4).trans (by rw [x_rr, x_r_eq])) ?_
      refine rx_aload_n hE dX10_tryRests_44 (i := 0) rfl rfl ?_
      refine rx_getf hE dX10_tryRests_45 fl_X10_26_9 (xa_0 hM) rfl ?_
      refine rx_getfN hE dX10_tryRests_48 fl_X10_154_2 (xa_j xJ_4 hM) rfl ?_
      refine rx_iload_n hE dX10_tryRests_51 (i := 2) rfl rfl ?_
      refine rx_gets1 hE dX10_tryRests_52 sl_X10_84 ?_
      refine rx_iload hE dX10_tryRests_55 rfl ?_
      refine rx_gets1 hE dX10_tryRests_57 sl_X10_84 ?_
      refine rx_alen1 hE dX10_tryRests_60 ?_
      refine rx_irem hE dX10_tryRests_61 (by decide) ?_
      refine rx_int _ (nI (k % 5)) (pk_rem (d := 5) (by omega) (by decide) (by decide)) ?_
      refine rx_iald1N (i := k % 5) hE dX10_tryRests_62 (by omega) ?_
      refine rx_int _ (nI (1 + 2 * (k % 5))) (g_rests_eq _ (by omega)) ?_
      refine rx_iastN (i := b) hE dX10_tryRests_63 (xa_j2 xJ_4 hM) (by omega) (by decide) ?_
      refine rx_mem (M' := xm n (x_r Y 4 (qrc J a b k)) O Q G' S L) ((xw_j2 xJ_4).trans (by rw [x_rr, x_r_eq, j_ss]; rfl)) ?_
      have hfq : jfit (qrc J a b k) := hf.qrj ⟨by omega, by omega⟩ ⟨by omega, by omega⟩
      refine rx_aload_n hE dX10_tryRests_64 (i := 0) rfl rfl ?_
      refine rx_getf hE dX10_tryRests_65 fl_X10_26_9 (xa_0 hM) rfl ?_
      refine rx_iload_n hE dX10_tryRests_68 (i := 3) rfl rfl ?_
      refine rx_aload_n hE dX10_tryRests_69 (i := 0) rfl rfl ?_
      refine rx_aload_n hE dX10_tryRests_70 (i := 0) rfl rfl ?_
      refine rx_getf hE dX10_tryRests_71 fl_X10_103_9 (xa_0 hM) rfl ?_
      refine rx_call0 (rx_callV (av := [.int _]) hE dX10_tryRests_74 lk_X10_205 (c_X10_ruleOf (X := (x_r Y 4 (qrc J a b k))) hM (hR.eq rfl) _) (xa_0 hM) np_X10_ruleOf rfl rfl (by decide) (Nat.le_of_ble_eq_true rfl) rfl ?_)
      rintro v M' ⟨u, rfl, hu, rfl⟩
      have hu : xT Q n u t := by rw [← ht]; exact hu
      refine rx_call0 (rx_callV (av := [.int (nI N), u]) hE dX10_tryRests_77 lk_X10_223 (x_goOn (X := (x_r Y 4 (qrc J a b k))) xJ_4 hM (J := (qrc J a b k)) rfl hfq.1 hu (N := N) (by show jT J + N < _; omega)) (xa_j xJ_4 hM) np_X2_goOn rfl rfl (by decide) (Nat.le_of_ble_eq_true rfl) rfl ?_)
      rintro v M' ⟨rfl, G1, rfl⟩
      rw [x_rr]
      refine rx_aload_n hE dX10_tryRests_80 (i := 0) rfl rfl ?_
      refine rx_getf hE dX10_tryRests_81 fl_X10_87_9 (xa_0 hM) rfl ?_
      refine rx_iload hE dX10_tryRests_84 rfl ?_
      refine rx_aload_n hE dX10_tryRests_86 (i := 0) rfl rfl ?_
      refine rx_getf hE dX10_tryRests_87 fl_X10_26_9 (xa_0 hM) rfl ?_
      refine rx_getfN hE dX10_tryRests_90 fl_X10_163_2 (xa_j xJ_4 hM) rfl ?_
      refine rx_iload_n hE dX10_tryRests_93 (i := 1) rfl rfl ?_
      refine rx_ialdN (i := a) hE dX10_tryRests_94 (xa_j5 xJ_4 hM) (by omega) (by decide) ?_
      refine rx_aload_n hE dX10_tryRests_95 (i := 0) rfl rfl ?_
      refine rx_getf hE dX10_tryRests_96 fl_X10_19_9 (xa_0 hM) rfl ?_
      refine rx_getfN hE dX10_tryRests_99 fl_X10_163_2 (xa_j xJ_2 hM) rfl ?_
      refine rx_iload_n hE dX10_tryRests_102 (i := 1) rfl rfl ?_
      refine rx_ialdN (i := a) hE dX10_tryRests_103 (xa_j5 xJ_2 hM) (by omega) (by decide) ?_
      refine rx_int _ (J 4 a) (congrFun (congrFun hJ 4) a) ?_
      refine rx_isub hE dX10_tryRests_104 ?_
      refine rx_aload_n hE dX10_tryRests_105 (i := 0) rfl rfl ?_
      refine rx_getf hE dX10_tryRests_106 fl_X10_26_9 (xa_0 hM) rfl ?_
      refine rx_getfN hE dX10_tryRests_109 fl_X10_151_2 (xa_j xJ_4 hM) rfl ?_
      refine rx_iload_n hE dX10_tryRests_112 (i := 1) rfl rfl ?_
      refine rx_ialdN (i := a) hE dX10_tryRests_113 (xa_j1 xJ_4 hM) (by omega) (by decide) ?_
      refine rx_iconst hE dX10_tryRests_114 (v := 3) (by decide) ?_
      refine rx_idiv hE dX10_tryRests_115 (by decide) ?_
      refine rx_isub hE dX10_tryRests_116 ?_
      refine rx_int _ (qhb t J N a b a k) rfl ?_
      refine rx_iastN (i := k) hE dX10_tryRests_117 (xa_32_1 hM) (by omega) (by decide) ?_
      refine rx_mem (M' := xm n (x_r (x_r Y 32 (j_s (Y 32) 1 (upd (Y 32 1) k (qhb t J N a b a k)))) 4 (jmanyF t N (qrc J a b k))) O Q G1 S L) (xw_32_1.trans (by rw [x_r_comm (by decide)]; rfl)) ?_
      obtain ⟨Y1, hY1⟩ : ∃ Y1, Y1 = (x_r Y 32 (j_s (Y 32) 1 (upd (Y 32 1) k (qhb t J N a b a k)))) := ⟨_, rfl⟩
      rw [← hY1]
      have hq1 : xq X Y1 := by rw [hY1]; exact hq.trans (xq.r Y _ (Or.inr (Or.inr rfl)))
      have hJ := hq1.J hJ0
      refine rx_aload_n hE dX10_tryRests_118 (i := 0) rfl rfl ?_
      refine rx_getf hE dX10_tryRests_119 fl_X10_90_9 (xa_0 hM) rfl ?_
      refine rx_iload hE dX10_tryRests_122 rfl ?_
      refine rx_aload_n hE dX10_tryRests_124 (i := 0) rfl rfl ?_
      refine rx_getf hE dX10_tryRests_125 fl_X10_26_9 (xa_0 hM) rfl ?_
      refine rx_getfN hE dX10_tryRests_128 fl_X10_163_2 (xa_j xJ_4 hM) rfl ?_
      refine rx_iload_n hE dX10_tryRests_131 (i := 2) rfl rfl ?_
      refine rx_ialdN (i := b) hE dX10_tryRests_132 (xa_j5 xJ_4 hM) (by omega) (by decide) ?_
      refine rx_aload_n hE dX10_tryRests_133 (i := 0) rfl rfl ?_
      refine rx_getf hE dX10_tryRests_134 fl_X10_19_9 (xa_0 hM) rfl ?_
      refine rx_getfN hE dX10_tryRests_137 fl_X10_163_2 (xa_j xJ_2 hM) rfl ?_
      refine rx_iload_n hE dX10_tryRests_140 (i := 2) rfl rfl ?_
      refine rx_ialdN (i := b) hE dX10_tryRests_141 (xa_j5 xJ_2 hM) (by omega) (by decide) ?_
      refine rx_int _ (J 4 b) (congrFun (congrFun hJ 4) b) ?_
      refine rx_isub hE dX10_tryRests_142 ?_
      refine rx_aload_n hE dX10_tryRests_143 (i := 0) rfl rfl ?_
      refine rx_getf hE dX10_tryRests_144 fl_X10_26_9 (xa_0 hM) rfl ?_
      refine rx_getfN hE dX10_tryRests_147 fl_X10_151_2 (xa_j xJ_4 hM) rfl ?_
      refine rx_iload_n hE dX10_tryRests_150 (i := 2) rfl rfl ?_
      refine rx_ialdN (i := b) hE dX10_tryRests_151 (xa_j1 xJ_4 hM) (by omega) (by decide) ?_
      refine rx_iconst hE dX10_tryRests_152 (v := 3) (by decide) ?_
      refine rx_idiv hE dX10_tryRests_153 (by decide) ?_
      refine rx_isub hE dX10_tryRests_154 ?_
      refine rx_int _ (qhb t J N a b b k) rfl ?_
      refine rx_iastN (i := k) hE dX10_tryRests_155 (xa_32_2 hM) (by omega) (by decide) ?_
      refine rx_mem (M' := xm n (x_r (x_r Y1 32 (j_s (Y1 32) 2 (upd (Y1 32 2) k (qhb t J N a b b k)))) 4 (jmanyF t N (qrc J a b k))) O Q G1 S L) (xw_32_2.trans (by rw [x_r_comm (by decide)]; rfl)) ?_
      obtain ⟨Y2, hY2⟩ : ∃ Y2, Y2 = (x_r Y1 32 (j_s (Y1 32) 2 (upd (Y1 32 2) k (qhb t J N a b b k)))) := ⟨_, rfl⟩
      rw [← hY2]
      have hq2 : xq X Y2 := by rw [hY2]; exact hq1.trans (xq.r Y1 _ (Or.inr (Or.inr rfl)))
      have hJ := hq2.J hJ0
      refine rx_iinc_4 hE dX10_tryRests_156 (v := 1) (by decide) (by decide) rfl ?_
      rw [nI_1]
      refine rx_goto (tgt := 3) hE dX10_tryRests_159 (by decide) ?_
      refine ih (k + 1) Y2 G1 _ (by omega) hq2 (fun c hc => ?_)
      rw [hY2, hY1]
      show upd (Y 32 1) k (qhb t J N a b a k) c = _ ∧ upd (Y 32 2) k (qhb t J N a b b k) c = _
      by_cases e : c = k
      · subst e
        exact ⟨upd_eq, upd_eq⟩
      · rw [upd_ne e, upd_ne e]
        exact hP c (by omega)
  refine rx_iconst hE dX10_tryRests_0 (v := 0) (by decide) ?_
  refine rx_istore_4 hE dX10_tryRests_1 (by decide) rfl ?_
  refine rx_mem (M' := xm n (x_r X 4 (X 4)) O Q G S L) (by rw [x_r_id]) ?_
  exact loop 25 0 X G (X 4) (by omega) (xq.refl X) (fun c hc => absurd hc (by omega))
theorem rx_loc {E : gE} {nL a b pc : Nat} {ls : List (Option Value)} (l : List (Option Value)) {st : List Value} {M : gM} (h : ls = l) (k : RX E nL a b pc l st M) : RX E nL a b pc ls st M := by rw [h]; exact k
set_option maxRecDepth 100000 in
set_option maxHeartbeats 1000000 in
theorem c_X10_rests {n : Nat} {X : gX} {O : gO} {Q : gU} {G : gK} {S : gS} {L : gLg} (hR : xR n X O Q) {J : gJn} (hJ : X 2 = J) (hk : xk J) {t : gJn → Nat → Int32 → Bool} (ht : xtf X Q (X 0 0 17) = t) (one other n0 what : Int32) : SX 9 0 0 mX10_rests [.ref 16, .int one, .int other, .int n0, .int what] (xm n X O Q G S L) (fun v M' => v = some (.int (q_rests t J one other n0 what)) ∧ xD n X O Q S L M') := by
  refine SX.intro [some (.ref 16), some (.int one), some (.int other), some (.int n0), some (.int what), none, none, none, none] (by decide +kernel) (Nat.le_of_ble_eq_true rfl) rfl (fun E hE hQ => ?_)
  have hM := hR.M
  refine rx_aload_n hE dX10_rests_0 (i := 0) rfl rfl ?_
  refine rx_getf hE dX10_rests_1 fl_X10_19_9 (xa_0 hM) rfl ?_
  refine rx_iload_n hE dX10_rests_4 (i := 1) rfl rfl ?_
  refine rx_call0 (rx_callV (av := [.int _]) hE dX10_rests_5 lk_X10_147 (x_hasRoad (X := X) xJ_2 hM (J := J) hJ _) (xa_j xJ_2 hM) np_X2_hasRoad rfl rfl (by decide) (Nat.le_of_ble_eq_true rfl) rfl ?_)
  rintro v M' ⟨rfl, rfl⟩
  refine rx_if_eq (tgt := 31) hE dX10_rests_8 (by decide) (fun c8 => ?_) (fun c8 => ?_)
  · refine rx_iconst hE dX10_rests_31 (v := 0) (by decide) ?_
    refine rx_istore_5 hE dX10_rests_32 (by decide) rfl ?_
    refine rx_iload hE dX10_rests_34 rfl ?_
    refine rx_if_eq (tgt := 59) hE dX10_rests_36 (by decide) (fun c36 => ?_) (fun c36 => absurd rfl c36)
    refine rx_iconst hE dX10_rests_59 (v := -1) (by decide) ?_
    exact rx_iret hE hQ rfl dX10_rests_60 ⟨by simp [q_rests, *], xD.refl n X O Q G S L⟩
  · refine rx_aload_n hE dX10_rests_11 (i := 0) rfl rfl ?_
    refine rx_getf hE dX10_rests_12 fl_X10_19_9 (xa_0 hM) rfl ?_
    refine rx_iload_n hE dX10_rests_15 (i := 2) rfl rfl ?_
    refine rx_call0 (rx_callV (av := [.int _]) hE dX10_rests_16 lk_X10_147 (x_hasRoad (X := X) xJ_2 hM (J := J) hJ _) (xa_j xJ_2 hM) np_X2_hasRoad rfl rfl (by decide) (Nat.le_of_ble_eq_true rfl) rfl ?_)
    rintro v M' ⟨rfl, rfl⟩
    refine rx_if_eq (tgt := 31) hE dX10_rests_19 (by decide) (fun c19 => ?_) (fun c19 => ?_)
    · refine rx_iconst hE dX10_rests_31 (v := 0) (by decide) ?_
      refine rx_istore_5 hE dX10_rests_32 (by decide) rfl ?_
      refine rx_iload hE dX10_rests_34 rfl ?_
      refine rx_if_eq (tgt := 59) hE dX10_rests_36 (by decide) (fun c36 => ?_) (fun c36 => absurd rfl c36)
      refine rx_iconst hE dX10_rests_59 (v := -1) (by decide) ?_
      exact rx_iret hE hQ rfl dX10_rests_60 ⟨by simp [q_rests, *], xD.refl n X O Q G S L⟩
    · refine rx_iload_n hE dX10_rests_22 (i := 1) rfl rfl ?_
      refine rx_iload_n hE dX10_rests_23 (i := 2) rfl rfl ?_
      refine rx_icmp_eq (tgt := 31) hE dX10_rests_24 (by decide) (fun c24 => ?_) (fun c24 => ?_)
      · refine rx_iconst hE dX10_rests_31 (v := 0) (by decide) ?_
        refine rx_istore_5 hE dX10_rests_32 (by decide) rfl ?_
        refine rx_iload hE dX10_rests_34 rfl ?_
        refine rx_if_eq (tgt := 59) hE dX10_rests_36 (by decide) (fun c36 => ?_) (fun c36 => absurd rfl c36)
        refine rx_iconst hE dX10_rests_59 (v := -1) (by decide) ?_
        exact rx_iret hE hQ rfl dX10_rests_60 ⟨by simp [q_rests, *], xD.refl n X O Q G S L⟩
      · refine rx_iconst hE dX10_rests_27 (v := 1) (by decide) ?_
        refine rx_goto (tgt := 32) hE dX10_rests_28 (by decide) ?_
        refine rx_istore_5 hE dX10_rests_32 (by decide) rfl ?_
        refine rx_iload hE dX10_rests_34 rfl ?_
        refine rx_if_eq (tgt := 59) hE dX10_rests_36 (by decide) (fun c36 => absurd c36 (by decide)) (fun c36 => ?_)
        refine rx_iload_n hE dX10_rests_39 (i := 3) rfl rfl ?_
        refine rx_iconst hE dX10_rests_40 (v := 1) (by decide) ?_
        refine rx_bipush hE dX10_rests_41 (v := 20) (by decide) ?_
        refine rx_call0 (rx_callS (av := [.int _, .int _, .int _]) hE dX10_rests_43 lk_X10_143 (c_X10_within _ _ _) np_X10_within rfl rfl (by decide) (Nat.le_of_ble_eq_true rfl) rfl ?_)
        rintro v M' ⟨rfl, rfl⟩
        refine rx_if_eq (tgt := 59) hE dX10_rests_46 (by decide) (fun c46 => ?_) (fun c46 => ?_)
        · refine rx_iconst hE dX10_rests_59 (v := -1) (by decide) ?_
          exact rx_iret hE hQ rfl dX10_rests_60 ⟨by simp [q_rests, *], xD.refl n X O Q G S L⟩
        · refine rx_iload hE dX10_rests_49 rfl ?_
          refine rx_iconst hE dX10_rests_51 (v := 0) (by decide) ?_
          refine rx_iconst hE dX10_rests_52 (v := 2) (by decide) ?_
          refine rx_call0 (rx_callS (av := [.int _, .int _, .int _]) hE dX10_rests_53 lk_X10_143 (c_X10_within _ _ _) np_X10_within rfl rfl (by decide) (Nat.le_of_ble_eq_true rfl) rfl ?_)
          rintro v M' ⟨rfl, rfl⟩
          refine rx_if_ne (tgt := 61) hE dX10_rests_56 (by decide) (fun c56 => ?_) (fun c56 => ?_)
          · have hg : ¬ (j_hasRoad J one = 0 ∨ j_hasRoad J other = 0 ∨ one = other ∨ q_in n0 1 20 = 0 ∨ q_in what 0 2 = 0) := by simp [*]
            obtain ⟨hf, hT9, a, ha, rfl⟩ := hk.road c8
            obtain ⟨_, _, b, hb, rfl⟩ := hk.road c19
            have hr6 := hf.1.2.1
            obtain ⟨N, hN0, hN, rfl⟩ := q_in_of (a := 1) (b := 20) (by decide) c46
            refine rx_aload_n hE dX10_rests_61 (i := 0) rfl rfl ?_
            refine rx_iload_n hE dX10_rests_62 (i := 1) rfl rfl ?_
            refine rx_iload_n hE dX10_rests_63 (i := 2) rfl rfl ?_
            refine rx_iload_n hE dX10_rests_64 (i := 3) rfl rfl ?_
            refine rx_call0 (rx_callV (av := [.int (nI a), .int (nI b), .int (nI N)]) hE dX10_rests_65 lk_X10_278 (c_X10_tryRests (X := X) (a := a) (b := b) (N := N) hR hJ hf hT9 ht (by omega) (by omega) (by omega)) (xa_0 hM) np_X10_tryRests rfl rfl (by decide) (Nat.le_of_ble_eq_true rfl) rfl ?_)
            rintro v M' ⟨rfl, Y, G1, rfl, hq, hP⟩
            have hv : q_rests t J (nI a) (nI b) (nI N) what = (if what = 0 then (gcn (Y 32 1) (Y 32 2) 25).1 else if 0 ≤ (gcn (Y 32 1) (Y 32 2) 25).2 then (if what = 1 then 1 + 2 * ((gcn (Y 32 1) (Y 32 2) 25).2 / 5) else 1 + 2 * q_rem (gcn (Y 32 1) (Y 32 2) 25).2 5) else -2) := by
              unfold q_rests
              rw [if_neg hg, nI_clamp (n := N) (by omega), nI_clamp (n := a) (by omega), nI_clamp (n := b) (by omega), gcn_ag (fun i hi => (hP i hi).1) (fun i hi => (hP i hi).2) 25 (by omega), qrsF_gcn _ _ _ _ (by decide)]
              show (if what = 0 then 0 + (gcn (qhb t J N a b a) (qhb t J N a b b) 25).1 else if 0 ≤ (if (gcn (qhb t J N a b a) (qhb t J N a b b) 25).2 = -1 then -1 else (gcn (qhb t J N a b a) (qhb t J N a b b) 25).2) then (if what = 1 then 1 + 2 * ((if (gcn (qhb t J N a b a) (qhb t J N a b b) 25).2 = -1 then -1 else (gcn (qhb t J N a b a) (qhb t J N a b b) 25).2) / 5) else 1 + 2 * q_rem (if (gcn (qhb t J N a b a) (qhb t J N a b b) 25).2 = -1 then -1 else (gcn (qhb t J N a b a) (qhb t J N a b b) 25).2) 5) else -2) = _
              rw [Int32.zero_add, show (if (gcn (qhb t J N a b a) (qhb t J N a b b) 25).2 = -1 then (-1 : Int32) else (gcn (qhb t J N a b a) (qhb t J N a b b) 25).2) = (gcn (qhb t J N a b a) (qhb t J N a b b) 25).2 by split; (next h => exact h.symm); rfl]
            have loop : ∀ (m k : Nat), k + m = 25 → RX E mX10_rests.2.2.1 0 0 77 [some (.ref 16), some (.int (nI a)), some (.int (nI b)), some (.int (nI N)), some (.int what), some (.int 1), some (.int (gcn (Y 32 1) (Y 32 2) k).1), some (.int (gcn (Y 32 1) (Y 32 2) k).2), some (.int (nI k))] [] (xm n Y O Q G1 S L) := by
              intro m
              induction m with
              | zero =>
                intro k hk2
                refine rx_iload hE dX10_rests_77 rfl ?_
                refine rx_aload_n hE dX10_rests_79 (i := 0) rfl rfl ?_
                refine rx_getf hE dX10_rests_80 fl_X10_87_9 (xa_0 hM) rfl ?_
                refine rx_alenI hE dX10_rests_83 (xa_32_1 hM) ?_
                refine rx_icmp_ge (tgt := 120) hE dX10_rests_84 (by decide) (fun c84 => ?_) (fun c84 => absurd (show nI 25 ≤ nI k from nI_le (by omega) (by omega)) c84)
                have hk25 : k = 25 := by omega
                subst hk25
                have hin := gcn_in (Y 32 1) (Y 32 2) 25 (by decide)
            
                refine rx_iload hE dX10_rests_120 rfl ?_
                refine rx_if_ne (tgt := 128) hE dX10_rests_122 (by decide) (fun c122 => ?_) (fun c122 => ?_)
                · refine rx_iload hE dX10_rests_128 rfl ?_
                  refine rx_iconst hE dX10_rests_130 (v := -1) (by decide) ?_
                  refine rx_icmp_ne (tgt := 137) hE dX10_rests_131 (by decide) (fun c131 => ?_) (fun c131 => ?_)
                  · obtain ⟨j, hj, ej⟩ := hin.resolve_left c131
                    rw [ej] at hv
                    rw [if_neg c122, if_pos (nI_pos' (by omega))] at hv
                    refine rx_loc (l := [some (.ref 16), some (.int (nI a)), some (.int (nI b)), some (.int (nI N)), some (.int what), some (.int 1), some (.int (gcn (Y 32 1) (Y 32 2) 25).1), some (.int (nI j)), some (.int (nI 25))]) (by rw [ej]) ?_
                    refine rx_iload hE dX10_rests_137 rfl ?_
                    refine rx_iconst hE dX10_rests_139 (v := 1) (by decide) ?_
                    refine rx_icmp_ne (tgt := 157) hE dX10_rests_140 (by decide) (fun c140 => ?_) (fun c140 => ?_)
                    · refine rx_gets1 hE dX10_rests_157 sl_X10_84 ?_
                      refine rx_iload hE dX10_rests_160 rfl ?_
                      refine rx_gets1 hE dX10_rests_162 sl_X10_84 ?_
                      refine rx_alen1 hE dX10_rests_165 ?_
                      refine rx_irem hE dX10_rests_166 (by decide) ?_
                      refine rx_int _ (nI (j % 5)) (pk_rem (d := 5) (by omega) (by decide) (by decide)) ?_
                      refine rx_iald1N (i := j % 5) hE dX10_rests_167 (by omega) ?_
                      rw [g_rests_eq _ (by omega)]
                      exact rx_iret hE hQ rfl dX10_rests_168 ⟨by rw [hv, if_neg c140, show q_rem (nI j) 5 = nI (j % 5) from pk_rem (d := 5) (by omega) (by decide) (by decide), show (2 : Int32) = nI 2 from rfl, pk_mul, show (1 : Int32) = nI 1 from rfl, nI_add], Y, G1, rfl, hq⟩
                    · refine rx_gets1 hE dX10_rests_143 sl_X10_84 ?_
                      refine rx_iload hE dX10_rests_146 rfl ?_
                      refine rx_gets1 hE dX10_rests_148 sl_X10_84 ?_
                      refine rx_alen1 hE dX10_rests_151 ?_
                      refine rx_idiv hE dX10_rests_152 (by decide) ?_
                      refine rx_int _ (nI (j / 5)) (pk_div (d := 5) (by omega) (by decide) (by decide)) ?_
                      refine rx_iald1N (i := j / 5) hE dX10_rests_153 (by omega) ?_
                      rw [g_rests_eq _ (by omega)]
                      refine rx_goto (tgt := 168) hE dX10_rests_154 (by decide) ?_
                      exact rx_iret hE hQ rfl dX10_rests_168 ⟨by rw [hv, if_pos c140, show nI j / 5 = nI (j / 5) from pk_div (d := 5) (by omega) (by decide) (by decide), show (2 : Int32) = nI 2 from rfl, pk_mul, show (1 : Int32) = nI 1 from rfl, nI_add], Y, G1, rfl, hq⟩
                  · refine rx_bipush hE dX10_rests_134 (v := -2) (by decide) ?_
                    exact rx_iret hE hQ rfl dX10_rests_136 ⟨by rw [hv, if_neg c122, c131]; rfl, Y, G1, rfl, hq⟩
                · refine rx_iload hE dX10_rests_125 rfl ?_
                  exact rx_iret hE hQ rfl dX10_rests_127 ⟨by rw [hv, if_pos c122], Y, G1, rfl, hq⟩
              | succ m ih =>
                intro k hk2
                refine rx_iload hE dX10_rests_77 rfl ?_
                refine rx_aload_n hE dX10_rests_79 (i := 0) rfl rfl ?_
                refine rx_getf hE dX10_rests_80 fl_X10_87_9 (xa_0 hM) rfl ?_
                refine rx_alenI hE dX10_rests_83 (xa_32_1 hM) ?_
                refine rx_icmp_ge (tgt := 120) hE dX10_rests_84 (by decide) (fun c84 => absurd c84 (nI_ge (a := k) (b := 25) (by omega) (by decide))) (fun c84 => ?_)
                refine rx_aload_n hE dX10_rests_87 (i := 0) rfl rfl ?_
                refine rx_iload hE dX10_rests_88 rfl ?_
                refine rx_call0 (rx_callV (av := [.int (nI k)]) hE dX10_rests_90 lk_X10_282 (c_X10_isRest (X := Y) (j := k) hM (by omega)) (xa_0 hM) np_X10_isRest rfl rfl (by decide) (Nat.le_of_ble_eq_true rfl) rfl ?_)
                rintro v M' ⟨rfl, rfl⟩
                refine rx_if_eq (tgt := 114) hE dX10_rests_93 (by decide) (fun c93 => ?_) (fun c93 => ?_)
                · refine rx_iinc_8 hE dX10_rests_114 (v := 1) (by decide) (by decide) rfl ?_
                  rw [nI_1]
                  refine rx_goto (tgt := 77) hE dX10_rests_117 (by decide) ?_
                  have eg : gcn (Y 32 1) (Y 32 2) (k + 1) = _ := if_pos c93
                  refine rx_loc (l := [some (.ref 16), some (.int (nI a)), some (.int (nI b)), some (.int (nI N)), some (.int what), some (.int 1), some (.int (gcn (Y 32 1) (Y 32 2) (k + 1)).1), some (.int (gcn (Y 32 1) (Y 32 2) (k + 1)).2), some (.int (nI (k + 1)))]) (by rw [eg]) ?_
                  exact ih (k + 1) (by omega)
                · refine rx_iinc_6 hE dX10_rests_96 (v := 1) (by decide) (by decide) rfl ?_
                  refine rx_iload hE dX10_rests_99 rfl ?_
                  refine rx_iconst hE dX10_rests_101 (v := -1) (by decide) ?_
                  refine rx_icmp_ne (tgt := 110) hE dX10_rests_102 (by decide) (fun c102 => ?_) (fun c102 => ?_)
                  · refine rx_iload hE dX10_rests_110 rfl ?_
                    refine rx_istore_7 hE dX10_rests_112 (by decide) rfl ?_
                    refine rx_iinc_8 hE dX10_rests_114 (v := 1) (by decide) (by decide) rfl ?_
                    rw [nI_1]
                    refine rx_goto (tgt := 77) hE dX10_rests_117 (by decide) ?_
                    have eg : gcn (Y 32 1) (Y 32 2) (k + 1) = _ := if_neg c93
                    refine rx_loc (l := [some (.ref 16), some (.int (nI a)), some (.int (nI b)), some (.int (nI N)), some (.int what), some (.int 1), some (.int (gcn (Y 32 1) (Y 32 2) (k + 1)).1), some (.int (gcn (Y 32 1) (Y 32 2) (k + 1)).2), some (.int (nI (k + 1)))]) (by rw [eg]; show _ = [_, _, _, _, _, _, some (Value.int ((gcn (Y 32 1) (Y 32 2) k).1 + 1)), some (Value.int (if (gcn (Y 32 1) (Y 32 2) k).2 = -1 then nI k else (gcn (Y 32 1) (Y 32 2) k).2)), _]; rw [if_neg c102]) ?_
                    exact ih (k + 1) (by omega)
                  · refine rx_iload hE dX10_rests_105 rfl ?_
                    refine rx_goto (tgt := 112) hE dX10_rests_107 (by decide) ?_
                    refine rx_istore_7 hE dX10_rests_112 (by decide) rfl ?_
                    refine rx_iinc_8 hE dX10_rests_114 (v := 1) (by decide) (by decide) rfl ?_
                    rw [nI_1]
                    refine rx_goto (tgt := 77) hE dX10_rests_117 (by decide) ?_
                    have eg : gcn (Y 32 1) (Y 32 2) (k + 1) = _ := if_neg c93
                    refine rx_loc (l := [some (.ref 16), some (.int (nI a)), some (.int (nI b)), some (.int (nI N)), some (.int what), some (.int 1), some (.int (gcn (Y 32 1) (Y 32 2) (k + 1)).1), some (.int (gcn (Y 32 1) (Y 32 2) (k + 1)).2), some (.int (nI (k + 1)))]) (by rw [eg]; show _ = [_, _, _, _, _, _, some (Value.int ((gcn (Y 32 1) (Y 32 2) k).1 + 1)), some (Value.int (if (gcn (Y 32 1) (Y 32 2) k).2 = -1 then nI k else (gcn (Y 32 1) (Y 32 2) k).2)), _]; rw [if_pos c102]) ?_
                    exact ih (k + 1) (by omega)
            refine rx_iconst hE dX10_rests_68 (v := 0) (by decide) ?_
            refine rx_istore_6 hE dX10_rests_69 (by decide) rfl ?_
            refine rx_iconst hE dX10_rests_71 (v := -1) (by decide) ?_
            refine rx_istore_7 hE dX10_rests_72 (by decide) rfl ?_
            refine rx_iconst hE dX10_rests_74 (v := 0) (by decide) ?_
            refine rx_istore_8 hE dX10_rests_75 (by decide) rfl ?_
            exact loop 25 0 (by omega)
          · refine rx_iconst hE dX10_rests_59 (v := -1) (by decide) ?_
            exact rx_iret hE hQ rfl dX10_rests_60 ⟨by simp [q_rests, *], xD.refl n X O Q G S L⟩
