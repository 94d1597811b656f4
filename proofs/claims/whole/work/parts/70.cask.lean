/-! ===== row 5 (what was waited) is of no matter to a beat ===== -/
theorem j_s_cm (J : gJn) {a b : Nat} (h : a ≠ b) (x y : Nat → Int32) : j_s (j_s J a x) b y = j_s (j_s J b y) a x := by
  funext i
  unfold j_s
  by_cases h1 : i = b
  · rw [if_pos h1, if_neg (by omega), if_pos h1]
  · rw [if_neg h1]
    by_cases h2 : i = a
    · rw [if_pos h2, if_pos h2]
    · rw [if_neg h2, if_neg h2, if_neg h1]
theorem jarS_5 (k : Nat) (J : gJn) (v : Nat → Int32) : jarS k (j_s J 5 v) = j_s (jarS k J) 5 v := by
  unfold jarS
  show (if nI k = J 9 5 then j_s J 5 v else if J 1 k ≤ 0 then j_s J 5 v else if J 9 3 - J 9 3 / J 1 k * J 1 k = 0 then j_addw (j_s J 5 v) k 1 else j_s J 5 v) = _
  by_cases h1 : nI k = J 9 5
  · rw [if_pos h1, if_pos h1]
  · rw [if_neg h1, if_neg h1]
    by_cases h2 : J 1 k ≤ 0
    · rw [if_pos h2, if_pos h2]
    · rw [if_neg h2, if_neg h2]
      by_cases h3 : J 9 3 - J 9 3 / J 1 k * J 1 k = 0
      · rw [if_pos h3, if_pos h3]
        unfold j_addw
        rw [j_s_cm J (by decide)]
        rfl
      · rw [if_neg h3, if_neg h3]
theorem jarF_5 (v : Nat → Int32) : ∀ (n k : Nat) (J : gJn), jarF k n (j_s J 5 v) = j_s (jarF k n J) 5 v
  | 0, _, _ => rfl
  | n + 1, k, J => by
    show jarF (k + 1) n (jarS k (j_s J 5 v)) = j_s (jarF (k + 1) n (jarS k J)) 5 v
    rw [jarS_5, jarF_5 v n (k + 1)]
theorem kaS_5 (s : Int32) (k : Nat) (J : gJn) (v : Nat → Int32) : kaS s k (j_s J 5 v) = j_s (kaS s k J) 5 v := by
  unfold kaS
  by_cases h : jbit s k = 1
  · rw [if_pos h, if_pos h]
    unfold j_leave
    rw [j_s_cm _ (show (5 : Nat) ≠ 0 by decide), j_s_cm _ (show (5 : Nat) ≠ 4 by decide), j_s_cm _ (show (5 : Nat) ≠ 7 by decide), j_s_cm _ (show (5 : Nat) ≠ 6 by decide)]
    rfl
  · rw [if_neg h, if_neg h, j_s_cm _ (show (5 : Nat) ≠ 7 by decide)]
    rfl
theorem kaF_5 (s : Int32) (v : Nat → Int32) : ∀ (n k : Nat) (J : gJn), kaF s k n (j_s J 5 v) = j_s (kaF s k n J) 5 v
  | 0, _, _ => rfl
  | n + 1, k, J => by
    show kaF s (k + 1) n (kaS s k (j_s J 5 v)) = j_s (kaF s (k + 1) n (kaS s k J)) 5 v
    rw [kaS_5, kaF_5 s v n (k + 1)]
def jwn (w v : Nat → Int32) (k n : Nat) : Nat → Int32 := fun i => if k ≤ i ∧ i < k + n then jmin 99999 (v i + w i) else v i
theorem kbF_5 : ∀ (n k : Nat) (J : gJn) (v : Nat → Int32), kbF k n (j_s J 5 v) = j_s J 5 (jwn (J 0) v k n)
  | 0, k, J, v => by
    show j_s J 5 v = _
    rw [show jwn (J 0) v k 0 = v from funext fun i => if_neg (by omega)]
  | n + 1, k, J, v => by
    show kbF (k + 1) n (jgt2 k (j_s J 5 v)) = _
    have e : jgt2 k (j_s J 5 v) = j_s J 5 (upd v k (jmin 99999 (v k + J 0 k))) := by
      unfold jgt2
      rw [j_ss]
      rfl
    rw [e, kbF_5 n (k + 1) J]
    congr 1
    funext i
    unfold jwn
    by_cases hi : i = k
    · subst hi
      rw [if_neg (by omega), upd_eq, if_pos (by omega)]
    · rw [upd_ne hi]
      by_cases h2 : k ≤ i ∧ i < k + (n + 1)
      · rw [if_pos h2, if_pos (by omega)]
      · rw [if_neg h2, if_neg (by omega)]
theorem jgtF_5 (s : Int32) : ∀ (n k : Nat) (J : gJn) (v : Nat → Int32) (acc : Int32), (jgtF s k n (j_s J 5 v) acc).2 = (jgtF s k n J acc).2
  | 0, _, _, _, _ => rfl
  | n + 1, k, J, v, acc => by
    show (jgtF s (k + 1) n (jgt2 k (jgt1 s k (j_s J 5 v))) (jgtA s k (j_s J 5 v) acc)).2 = (jgtF s (k + 1) n (jgt2 k (jgt1 s k J)) (jgtA s k J acc)).2
    have e1 : jgt2 k (jgt1 s k (j_s J 5 v)) = j_s (jgt1 s k J) 5 (upd v k (jmin 99999 (v k + jgt1 s k J 0 k))) := by
      rw [jgt1_ka, jgt1_ka, kaS_5]
      unfold jgt2
      rw [j_ss]
      rfl
    have e2 : jgtA s k (j_s J 5 v) acc = jgtA s k J acc := by
      unfold jgtA
      rw [jgt1_ka, jgt1_ka, kaS_5]
      rfl
    rw [e1, e2, jgtF_5 s n (k + 1)]
    show _ = (jgtF s (k + 1) n (j_s (jgt1 s k J) 5 (upd (jgt1 s k J 5) k (jmin 99999 (jgt1 s k J 5 k + jgt1 s k J 0 k)))) (jgtA s k J acc)).2
    rw [jgtF_5 s n (k + 1)]
def jn5 (t : gJn → Nat → Int32 → Bool) : Prop := ∀ (J : gJn) (v : Nat → Int32), t (j_s J 5 v) = t J
theorem jset_5 {t : gJn → Nat → Int32 → Bool} (h : jn5 t) (J : gJn) (v : Nat → Int32) : jset t (j_s J 5 v) = jset t J := by
  have key : ∀ (T : Nat → Int32 → Bool) (n k : Nat) (K : gJn) (s : Int32), jobF (j_s K 5 v) T k n s = jobF K T k n s := by
    intro T n
    induction n with
    | zero => intro k K s; rfl
    | succ n ih =>
      intro k K s
      show jobF (j_s K 5 v) T (k + 1) n (if K 3 k &&& s = 0 then s ||| (if T k s = true then (1 : Int32) <<< (nI k &&& 31) else 0) else s) = _
      rw [ih]
      rfl
  show jobF (jarF 0 (jR J) (j_s J 5 v)) (t (jarF 0 (jR J) (j_s J 5 v))) 0 (jR J) 0 = _
  rw [jarF_5, h, key]
  rfl
theorem jone_0 (t : gJn → Nat → Int32 → Bool) (J : gJn) : jone t J 0 = kaF (jset t J) 0 (jR J) (jarF 0 (jR J) J) 0 := by
  unfold jone j_go j_end
  show (jgtF (jset t J) 0 (jR J) (jarF 0 (jR J) J) 0).1 0 = _
  rw [jgtF_fst, kbF_f (by decide)]
theorem j_c_s5 (J : gJn) (g : Nat → Int32) (c : Nat) (v : Int32) : j_c (j_s J 5 g) c v = j_s (j_c J c v) 5 g := by
  funext i
  unfold j_c j_s
  by_cases h : i = 9
  · subst h
    rfl
  · rw [if_neg h]
    show _ = if i = 5 then g else (if i = 9 then upd (J 9) c v else J i)
    rw [if_neg h]
theorem jone_5 {t : gJn → Nat → Int32 → Bool} (h : jn5 t) (J : gJn) (v : Nat → Int32) : jone t (j_s J 5 v) = j_s (jone t J) 5 (jwn (jone t J 0) v 0 (jR J)) := by
  have e : ∀ (v : Nat → Int32), jone t (j_s J 5 v) = j_s (j_end (jP J) (jR J) (kaF (jset t J) 0 (jR J) (jarF 0 (jR J) J), (jgtF (jset t J) 0 (jR J) (jarF 0 (jR J) J) 0).2)) 5 (jwn (jone t J 0) v 0 (jR J)) := by
    intro v
    show j_go (jP J) (jR J) (jset t (j_s J 5 v)) (jarF 0 (jR J) (j_s J 5 v)) = _
    rw [jset_5 h, jarF_5]
    unfold j_go
    have e2 : jgtF (jset t J) 0 (jR J) (j_s (jarF 0 (jR J) J) 5 v) 0 = (j_s (kaF (jset t J) 0 (jR J) (jarF 0 (jR J) J)) 5 (jwn (jone t J 0) v 0 (jR J)), (jgtF (jset t J) 0 (jR J) (jarF 0 (jR J) J) 0).2) := by
      refine Prod.ext ?_ (jgtF_5 _ _ _ _ _ _)
      rw [jgtF_fst, kaF_5, kbF_5, jone_0]
    rw [e2]
    unfold j_end
    show j_c (j_c (j_s (kaF (jset t J) 0 (jR J) (jarF 0 (jR J) J)) 5 (jwn (jone t J 0) v 0 (jR J))) 4 (j_heard (kaF (jset t J) 0 (jR J) (jarF 0 (jR J) J) 9 4) _)) 3 (kaF (jset t J) 0 (jR J) (jarF 0 (jR J) J) 9 3 + 1) = _
    rw [j_c_s5, j_c_s5]
  have e0 : j_s (jone t J) 5 (jwn (jone t J 0) v 0 (jR J)) = j_s (jone t (j_s J 5 (J 5))) 5 (jwn (jone t J 0) v 0 (jR J)) := by rw [j_s_id]
  rw [e0, e v, e (J 5), j_ss]
/-- nobody comes to a shut road -/
theorem jarF_0r {r : Nat} : ∀ (n k : Nat) (J : gJn), J 9 5 = nI r → k + n ≤ 6 → r < 6 → J 0 r = 0 → jarF k n J 0 r = 0
  | 0, _, _, _, _, _, h => h
  | n + 1, k, J, h5, hk, hr, h => by
    show jarF (k + 1) n (jarS k J) 0 r = 0
    refine jarF_0r n (k + 1) (jarS k J) (by rw [jarS_f k J (by decide)]; exact h5) (by omega) hr ?_
    unfold jarS
    by_cases hkr : k = r
    · subst hkr
      rw [if_pos h5.symm]
      exact h
    · split
      · exact h
      · split
        · exact h
        · split
          · show upd (J 0) k _ r = 0
            rw [upd_ne (Ne.symm hkr)]
            exact h
          · exact h
theorem kaF_0r {r : Nat} (s : Int32) : ∀ (n k : Nat) (J : gJn), 0 < J 9 1 → J 0 r = 0 → kaF s k n J 0 r = 0
  | 0, _, _, _, h => h
  | n + 1, k, J, h1, h => by
    show kaF s (k + 1) n (kaS s k J) 0 r = 0
    refine kaF_0r s n (k + 1) (kaS s k J) (by rw [kaS_f s k J (by decide) (by decide) (by decide) (by decide)]; exact h1) ?_
    unfold kaS
    split
    · show upd (J 0) k (J 0 k - j_many J k) r = 0
      by_cases hkr : r = k
      · subst hkr
        rw [upd_eq]
        unfold j_many jmin
        rw [h, if_pos h1]
        rfl
      · rw [upd_ne hkr]
        exact h
    · exact h
theorem jone_0r (t : gJn → Nat → Int32 → Bool) {J : gJn} {r : Nat} (h5 : J 9 5 = nI r) (hR : jR J ≤ 6) (hr : r < 6) (h1 : 0 < J 9 1) (h : J 0 r = 0) : jone t J 0 r = 0 := by
  rw [jone_0]
  exact kaF_0r _ _ _ _ (by rw [jarF_f (by decide)]; exact h1) (jarF_0r _ _ _ h5 (by omega) hr h)
theorem jmany_5 {t : gJn → Nat → Int32 → Bool} (ht : jn5 t) {r : Nat} (hr : r < 6) : ∀ (N : Nat) (J : gJn), J 9 5 = nI r → jR J ≤ 6 → 0 < J 9 1 → J 0 r = 0 → jmanyF t N (j_s J 5 (upd (J 5) r 0)) = j_s (jmanyF t N J) 5 (upd (jmanyF t N J 5) r 0)
  | 0, J, _, _, _, _ => rfl
  | N + 1, J, h5, hR, h1, h => by
    show jmanyF t N (jone t (j_s J 5 (upd (J 5) r 0))) = j_s (jmanyF t N (jone t J)) 5 (upd (jmanyF t N (jone t J) 5) r 0)
    have h0 := jone_0r t h5 hR hr h1 h
    have e5 : jone t J 5 = jwn (jone t J 0) (J 5) 0 (jR J) := by
      have e := congrFun (jone_5 ht J (J 5)) 5
      rw [j_s_id] at e
      exact e
    have e6 : jwn (jone t J 0) (upd (J 5) r 0) 0 (jR J) = upd (jone t J 5) r 0 := by
      rw [e5]
      funext i
      unfold jwn
      by_cases hi : i = r
      · subst hi
        rw [upd_eq, upd_eq, h0]
        split <;> decide
      · rw [upd_ne hi, upd_ne hi]
    rw [jone_5 ht, e6]
    exact jmany_5 ht hr N (jone t J) (by rw [jone_9 t J (by decide) (by decide)]; exact h5) (by rw [jone_R]; exact hR) (by rw [jone_9 t J (by decide) (by decide)]; exact h1) h0
theorem jsum_ag {f g : Nat → Int32} : ∀ n, (∀ i, i < n → f i = g i) → jsum f n = jsum g n
  | 0, _ => rfl
  | n + 1, h => by
    show jsum f n + f n = jsum g n + g n
    rw [jsum_ag n (fun i hi => h i (by omega)), h n (by omega)]
theorem jsum_upd (f : Nat → Int32) {r : Nat} : ∀ n, r < n → jsum (upd f r 0) n = jsum f n - f r
  | 0, h => absurd h (Nat.not_lt_zero r)
  | n + 1, h => by
    show jsum (upd f r 0) n + upd f r 0 n = jsum f n + f n - f r
    by_cases e : r = n
    · subst e
      rw [upd_eq, jsum_ag r (g := f) (fun i hi => upd_ne (by omega)), Int32.add_zero, Int32.add_sub_cancel]
    · rw [upd_ne (Ne.symm e), jsum_upd f n (by omega), Int32.sub_eq_add_neg, Int32.sub_eq_add_neg, Int32.add_assoc, Int32.add_assoc, Int32.add_comm (-f r)]
def qsa (J : gJn) (r : Nat) : gJn := j_s (j_c J 5 (nI r)) 0 (upd (J 0) r 0)
theorem jfit.qsa {J : gJn} (h : jfit J) (r : Nat) : jfit (qsa J r) := ⟨h.1, h.2.1, upd_all h.2.2.1 ⟨0, by decide, rfl⟩, h.2.2.2⟩
theorem jfit.room {J : gJn} (h : jfit J) : 0 < J 9 1 := by
  obtain ⟨m, m0, m9, e⟩ := h.2.1
  rw [e]
  exact nI_lt (a := 0) m0 (by omega)
theorem qsj_sum {t : gJn → Nat → Int32 → Bool} (ht : jn5 t) {J : gJn} (hf : jfit J) {r N : Nat} (hr : r < jR J) : jsum (jmanyF t N (qsj J r) 5) (jR J) = jsum (jmanyF t N (qsa J r) 5) (jR J) - jmanyF t N (qsa J r) 5 r := by
  have hr6 := hf.1.2.1
  have e : qsj J r = j_s (qsa J r) 5 (upd ((qsa J r) 5) r 0) := rfl
  rw [e, jmany_5 ht (r := r) (by omega) N (qsa J r) rfl hr6 hf.room (show upd (J 0) r 0 r = 0 from upd_eq)]
  exact jsum_upd _ _ hr
theorem xtf_5 (X : gX) (Q : gU) (f : Int32) : jn5 (xtf X Q f) := by
  intro J v
  unfold xtf
  split
  · rfl
  · split
    · rfl
    · rfl
theorem j_hasRoad_m1 (J : gJn) : j_hasRoad J (-1) = 0 := if_pos (by decide)
set_option maxRecDepth 100000 in
set_option maxHeartbeats 1000000 in
theorem c_X10_waitedShutN {n : Nat} {X : gX} {O : gO} {Q : gU} {G : gK} {S : gS} {L : gLg} (hR : xR n X O Q) {J : gJn} (hJ : X 2 = J) (hf : jfit J) (hT9 : jT J ≤ 999) {t : gJn → Nat → Int32 → Bool} (ht : xtf X Q (X 0 0 17) = t) {N : Nat} (hsh : J 9 5 = -1) (hN : N ≤ 100) : SX 7 0 0 mX10_waitedShut [.ref 16, .int (-1), .int (nI N)] (xm n X O Q G S L) (fun v M' => v = some (.int (jsum (jmanyF t N J 5) (jR J))) ∧ xE n X O Q S L M') := by
  refine SX.intro [some (.ref 16), some (.int (-1)), some (.int (nI N)), none] (by decide +kernel) (Nat.le_of_ble_eq_true rfl) rfl (fun E hE hQ => ?_)
  have hM := hR.M
  have hr6 := hf.1.2.1
  have hc5 : j_c J 5 (-1) = J := by rw [← hsh, j_c_id]
  refine rx_aload_n hE dX10_waitedShut_0 (i := 0) rfl rfl ?_
  refine rx_getf hE dX10_waitedShut_1 fl_X10_26_9 (xa_0 hM) rfl ?_
  refine rx_aload_n hE dX10_waitedShut_4 (i := 0) rfl rfl ?_
  refine rx_getf hE dX10_waitedShut_5 fl_X10_19_9 (xa_0 hM) rfl ?_
  refine rx_call0 (rx_callV (av := [.ref _]) hE dX10_waitedShut_8 lk_X10_124 (x_copyFrom (X := X) xJ_4 xJ_2 (by decide) hM (J := J) hJ) (xa_j xJ_4 hM) np_X2_copyFrom rfl rfl (by decide) (Nat.le_of_ble_eq_true rfl) rfl ?_)
  rintro v M' ⟨rfl, rfl⟩
  refine rx_aload_n hE dX10_waitedShut_11 (i := 0) rfl rfl ?_
  refine rx_getf hE dX10_waitedShut_12 fl_X10_26_9 (xa_0 hM) rfl ?_
  refine rx_iload_n hE dX10_waitedShut_15 (i := 1) rfl rfl ?_
  refine rx_putN hE dX10_waitedShut_16 fl_X10_272_2 fw_2_14 (xa_j xJ_4 hM) (fun _ => rfl) (fun _ => rfl) (Nat.le_of_ble_eq_true rfl) ?_
  refine rx_mem ((xw_jc5 xJ_4).trans (by rw [x_rr, x_r_eq, hc5])) ?_
  refine rx_aload_n hE dX10_waitedShut_19 (i := 0) rfl rfl ?_
  refine rx_getf hE dX10_waitedShut_20 fl_X10_26_9 (xa_0 hM) rfl ?_
  refine rx_iload_n hE dX10_waitedShut_23 (i := 1) rfl rfl ?_
  refine rx_call0 (rx_callV (av := [.int _]) hE dX10_waitedShut_24 lk_X10_147 (x_hasRoad (X := (x_r X 4 J)) xJ_4 hM (J := J) rfl _) (xa_j xJ_4 hM) np_X2_hasRoad rfl rfl (by decide) (Nat.le_of_ble_eq_true rfl) rfl ?_)
  rintro v M' ⟨rfl, rfl⟩
  refine rx_if_eq (tgt := 40) hE dX10_waitedShut_27 (by decide) (fun c27 => ?_) (fun c27 => absurd (j_hasRoad_m1 _) c27)
  refine rx_aload_n hE dX10_waitedShut_40 (i := 0) rfl rfl ?_
  refine rx_getf hE dX10_waitedShut_41 fl_X10_26_9 (xa_0 hM) rfl ?_
  refine rx_iload_n hE dX10_waitedShut_44 (i := 2) rfl rfl ?_
  refine rx_aload_n hE dX10_waitedShut_45 (i := 0) rfl rfl ?_
  refine rx_aload_n hE dX10_waitedShut_46 (i := 0) rfl rfl ?_
  refine rx_getf hE dX10_waitedShut_47 fl_X10_103_9 (xa_0 hM) rfl ?_
  refine rx_call0 (rx_callV (av := [.int _]) hE dX10_waitedShut_50 lk_X10_205 (c_X10_ruleOf (X := (x_r X 4 J)) hM (hR.eq rfl) _) (xa_0 hM) np_X10_ruleOf rfl rfl (by decide) (Nat.le_of_ble_eq_true rfl) rfl ?_)
  rintro v M' ⟨u, rfl, hu, rfl⟩
  have hu : xT Q n u t := by rw [← ht]; exact hu
  refine rx_call0 (rx_callV (av := [.int (nI N), u]) hE dX10_waitedShut_53 lk_X10_223 (x_goOn (X := (x_r X 4 J)) xJ_4 hM (J := J) rfl hf.1 hu (N := N) (by omega)) (xa_j xJ_4 hM) np_X2_goOn rfl rfl (by decide) (Nat.le_of_ble_eq_true rfl) rfl ?_)
  rintro v M' ⟨rfl, G1, rfl⟩
  rw [x_rr]
  refine rx_aload_n hE dX10_waitedShut_56 (i := 0) rfl rfl ?_
  refine rx_getf hE dX10_waitedShut_57 fl_X10_26_9 (xa_0 hM) rfl ?_
  refine rx_aload_n hE dX10_waitedShut_60 (i := 0) rfl rfl ?_
  refine rx_getf hE dX10_waitedShut_61 fl_X10_26_9 (xa_0 hM) rfl ?_
  refine rx_getfN hE dX10_waitedShut_64 fl_X10_166_2 (xa_j xJ_4 hM) rfl ?_
  refine rx_call0 (rx_callV (av := [.ref _]) hE dX10_waitedShut_67 lk_X10_191 (x_sumOf (X := (x_r X 4 (jmanyF t N J))) xJ_4 hM (J := (jmanyF t N J)) rfl (hf.1.many t N (by omega)).1 (f := 5) (by decide)) (xa_j xJ_4 hM) np_X2_sumOf rfl rfl (by decide) (Nat.le_of_ble_eq_true rfl) rfl ?_)
  rintro v M' ⟨rfl, rfl⟩
  rw [show jR (jmanyF t N J) = jR J from (jst.many t N _).R]
  refine rx_istore_n_3 hE dX10_waitedShut_70 (by decide) rfl ?_
  refine rx_aload_n hE dX10_waitedShut_71 (i := 0) rfl rfl ?_
  refine rx_getf hE dX10_waitedShut_72 fl_X10_26_9 (xa_0 hM) rfl ?_
  refine rx_iload_n hE dX10_waitedShut_75 (i := 1) rfl rfl ?_
  refine rx_call0 (rx_callV (av := [.int _]) hE dX10_waitedShut_76 lk_X10_147 (x_hasRoad (X := (x_r X 4 (jmanyF t N J))) xJ_4 hM (J := (jmanyF t N J)) rfl _) (xa_j xJ_4 hM) np_X2_hasRoad rfl rfl (by decide) (Nat.le_of_ble_eq_true rfl) rfl ?_)
  rintro v M' ⟨rfl, rfl⟩
  refine rx_if_eq (tgt := 96) hE dX10_waitedShut_79 (by decide) (fun c79 => ?_) (fun c79 => absurd (j_hasRoad_m1 _) c79)
  refine rx_iload_n hE dX10_waitedShut_96 (i := 3) rfl rfl ?_
  exact rx_iret hE hQ rfl dX10_waitedShut_97 ⟨rfl, _, G1, rfl⟩
set_option maxRecDepth 100000 in
set_option maxHeartbeats 1000000 in
theorem c_X10_waitedShut {n : Nat} {X : gX} {O : gO} {Q : gU} {G : gK} {S : gS} {L : gLg} (hR : xR n X O Q) {J : gJn} (hJ : X 2 = J) (hf : jfit J) (hT9 : jT J ≤ 999) {t : gJn → Nat → Int32 → Bool} (ht : xtf X Q (X 0 0 17) = t) {r N : Nat} (hr : r < jR J) (hN : N ≤ 100) : SX 7 0 0 mX10_waitedShut [.ref 16, .int (nI r), .int (nI N)] (xm n X O Q G S L) (fun v M' => v = some (.int (jsum (jmanyF t N (qsj J r) 5) (jR J))) ∧ xE n X O Q S L M') := by
  refine SX.intro [some (.ref 16), some (.int (nI r)), some (.int (nI N)), none] (by decide +kernel) (Nat.le_of_ble_eq_true rfl) rfl (fun E hE hQ => ?_)
  have hM := hR.M
  have hr6 := hf.1.2.1
  have ht5 : jn5 t := by rw [← ht]; exact xtf_5 _ _ _
  have hr1 : ¬ j_hasRoad J (nI r) = 0 := by
    unfold j_hasRoad
    rw [if_neg (nI_pos (by omega)), hf.1.1, if_neg (nI_ge hr (by omega))]
    decide
  have hr2 : j_hasRoad (jmanyF t N (qsa J r)) (nI r) = j_hasRoad J (nI r) := by
    unfold j_hasRoad
    rw [(jst.many t N (qsa J r)).2.2 2 (by decide) (by decide)]
    rfl
  refine rx_aload_n hE dX10_waitedShut_0 (i := 0) rfl rfl ?_
  refine rx_getf hE dX10_waitedShut_1 fl_X10_26_9 (xa_0 hM) rfl ?_
  refine rx_aload_n hE dX10_waitedShut_4 (i := 0) rfl rfl ?_
  refine rx_getf hE dX10_waitedShut_5 fl_X10_19_9 (xa_0 hM) rfl ?_
  refine rx_call0 (rx_callV (av := [.ref _]) hE dX10_waitedShut_8 lk_X10_124 (x_copyFrom (X := X) xJ_4 xJ_2 (by decide) hM (J := J) hJ) (xa_j xJ_4 hM) np_X2_copyFrom rfl rfl (by decide) (Nat.le_of_ble_eq_true rfl) rfl ?_)
  rintro v M' ⟨rfl, rfl⟩
  refine rx_aload_n hE dX10_waitedShut_11 (i := 0) rfl rfl ?_
  refine rx_getf hE dX10_waitedShut_12 fl_X10_26_9 (xa_0 hM) rfl ?_
  refine rx_iload_n hE dX10_waitedShut_15 (i := 1) rfl rfl ?_
  refine rx_putN hE dX10_waitedShut_16 fl_X10_272_2 fw_2_14 (xa_j xJ_4 hM) (fun _ => rfl) (fun _ => rfl) (Nat.le_of_ble_eq_true rfl) ?_
  refine rx_mem ((xw_jc5 xJ_4).trans (by rw [x_rr, x_r_eq])) ?_
  refine rx_aload_n hE dX10_waitedShut_19 (i := 0) rfl rfl ?_
  refine rx_getf hE dX10_waitedShut_20 fl_X10_26_9 (xa_0 hM) rfl ?_
  refine rx_iload_n hE dX10_waitedShut_23 (i := 1) rfl rfl ?_
  refine rx_call0 (rx_callV (av := [.int _]) hE dX10_waitedShut_24 lk_X10_147 (x_hasRoad (X := (x_r X 4 (j_c J 5 (nI r)))) xJ_4 hM (J := (j_c J 5 (nI r))) rfl _) (xa_j xJ_4 hM) np_X2_hasRoad rfl rfl (by decide) (Nat.le_of_ble_eq_true rfl) rfl ?_)
  rintro v M' ⟨rfl, rfl⟩
  refine rx_if_eq (tgt := 40) hE dX10_waitedShut_27 (by decide) (fun c27 => absurd c27 hr1) (fun c27 => ?_)
  refine rx_aload_n hE dX10_waitedShut_30 (i := 0) rfl rfl ?_
  refine rx_getf hE dX10_waitedShut_31 fl_X10_26_9 (xa_0 hM) rfl ?_
  refine rx_getfN hE dX10_waitedShut_34 fl_X10_151_2 (xa_j xJ_4 hM) rfl ?_
  refine rx_iload_n hE dX10_waitedShut_37 (i := 1) rfl rfl ?_
  refine rx_iconst hE dX10_waitedShut_38 (v := 0) (by decide) ?_
  refine rx_iastN (i := r) hE dX10_waitedShut_39 (xa_j1 xJ_4 hM) (by omega) (by decide) ?_
  refine rx_mem (M' := xm n (x_r X 4 (qsa J r)) O Q G S L) ((xw_j1 xJ_4).trans (by rw [x_rr, x_r_eq]; rfl)) ?_
  refine rx_aload_n hE dX10_waitedShut_40 (i := 0) rfl rfl ?_
  refine rx_getf hE dX10_waitedShut_41 fl_X10_26_9 (xa_0 hM) rfl ?_
  refine rx_iload_n hE dX10_waitedShut_44 (i := 2) rfl rfl ?_
  refine rx_aload_n hE dX10_waitedShut_45 (i := 0) rfl rfl ?_
  refine rx_aload_n hE dX10_waitedShut_46 (i := 0) rfl rfl ?_
  refine rx_getf hE dX10_waitedShut_47 fl_X10_103_9 (xa_0 hM) rfl ?_
  refine rx_call0 (rx_callV (av := [.int _]) hE dX10_waitedShut_50 lk_X10_205 (c_X10_ruleOf (X := (x_r X 4 (qsa J r))) hM (hR.eq rfl) _) (xa_0 hM) np_X10_ruleOf rfl rfl (by decide) (Nat.le_of_ble_eq_true rfl) rfl ?_)
  rintro v M' ⟨u, rfl, hu, rfl⟩
  have hu : xT Q n u t := by rw [← ht]; exact hu
  refine rx_call0 (rx_callV (av := [.int (nI N), u]) hE dX10_waitedShut_53 lk_X10_223 (x_goOn (X := (x_r X 4 (qsa J r))) xJ_4 hM (J := (qsa J r)) rfl (hf.qsa r).1 hu (N := N) (by show jT J + N < _; omega)) (xa_j xJ_4 hM) np_X2_goOn rfl rfl (by decide) (Nat.le_of_ble_eq_true rfl) rfl ?_)
  rintro v M' ⟨rfl, G1, rfl⟩
  rw [x_rr]
  refine rx_aload_n hE dX10_waitedShut_56 (i := 0) rfl rfl ?_
  refine rx_getf hE dX10_waitedShut_57 fl_X10_26_9 (xa_0 hM) rfl ?_
  refine rx_aload_n hE dX10_waitedShut_60 (i := 0) rfl rfl ?_
  refine rx_getf hE dX10_waitedShut_61 fl_X10_26_9 (xa_0 hM) rfl ?_
  refine rx_getfN hE dX10_waitedShut_64 fl_X10_166_2 (xa_j xJ_4 hM) rfl ?_
  refine rx_call0 (rx_callV (av := [.ref _]) hE dX10_waitedShut_67 lk_X10_191 (x_sumOf (X := (x_r X 4 (jmanyF t N (qsa J r)))) xJ_4 hM (J := (jmanyF t N (qsa J r))) rfl ((hf.qsa r).1.many t N (by show jT J + N < _; omega)).1 (f := 5) (by decide)) (xa_j xJ_4 hM) np_X2_sumOf rfl rfl (by decide) (Nat.le_of_ble_eq_true rfl) rfl ?_)
  rintro v M' ⟨rfl, rfl⟩
  rw [show jR (jmanyF t N (qsa J r)) = jR J from (jst.many t N _).R]
  refine rx_istore_n_3 hE dX10_waitedShut_70 (by decide) rfl ?_
  refine rx_aload_n hE dX10_waitedShut_71 (i := 0) rfl rfl ?_
  refine rx_getf hE dX10_waitedShut_72 fl_X10_26_9 (xa_0 hM) rfl ?_
  refine rx_iload_n hE dX10_waitedShut_75 (i := 1) rfl rfl ?_
  refine rx_call0 (rx_callV (av := [.int _]) hE dX10_waitedShut_76 lk_X10_147 (x_hasRoad (X := (x_r X 4 (jmanyF t N (qsa J r)))) xJ_4 hM (J := (jmanyF t N (qsa J r))) rfl _) (xa_j xJ_4 hM) np_X2_hasRoad rfl rfl (by decide) (Nat.le_of_ble_eq_true rfl) rfl ?_)
  rintro v M' ⟨rfl, rfl⟩
  refine rx_if_eq (tgt := 96) hE dX10_waitedShut_79 (by decide) (fun c79 => absurd (hr2.symm.trans c79) hr1) (fun c79 => ?_)
  refine rx_iload_n hE dX10_waitedShut_82 (i := 3) rfl rfl ?_
  refine rx_aload_n hE dX10_waitedShut_83 (i := 0) rfl rfl ?_
  refine rx_getf hE dX10_waitedShut_84 fl_X10_26_9 (xa_0 hM) rfl ?_
  refine rx_getfN hE dX10_waitedShut_87 fl_X10_166_2 (xa_j xJ_4 hM) rfl ?_
  refine rx_iload_n hE dX10_waitedShut_90 (i := 1) rfl rfl ?_
  refine rx_ialdN (i := r) hE dX10_waitedShut_91 (xa_j6 xJ_4 hM) (by omega) (by decide) ?_
  refine rx_int _ (jmanyF t N (qsa J r) 5 r) rfl ?_
  refine rx_isub hE dX10_waitedShut_92 ?_
  refine rx_goto (tgt := 97) hE dX10_waitedShut_93 (by decide) ?_
  exact rx_iret hE hQ rfl dX10_waitedShut_97 ⟨by rw [qsj_sum ht5 hf hr], _, G1, rfl⟩
set_option maxRecDepth 100000 in
set_option maxHeartbeats 1000000 in
theorem c_X10_shut {n : Nat} {X : gX} {O : gO} {Q : gU} {G : gK} {S : gS} {L : gLg} (hR : xR n X O Q) {J : gJn} (hJ : X 2 = J) (hk : xk J) {t : gJn → Nat → Int32 → Bool} (ht : xtf X Q (X 0 0 17) = t) (hsh : J 9 5 = -1) (n0 what : Int32) : SX 9 0 0 mX10_shut [.ref 16, .int n0, .int what] (xm n X O Q G S L) (fun v M' => v = some (.int (q_shut t J n0 what)) ∧ xD n X O Q S L M') := by
  refine SX.intro [some (.ref 16), some (.int n0), some (.int what), none, none, none, none] (by decide +kernel) (Nat.le_of_ble_eq_true rfl) rfl (fun E hE hQ => ?_)
  have hM := hR.M
  refine rx_aload_n hE dX10_shut_0 (i := 0) rfl rfl ?_
  refine rx_getf hE dX10_shut_1 fl_X10_19_9 (xa_0 hM) rfl ?_
  refine rx_call0 (rx_callV (av := []) hE dX10_shut_4 lk_X10_198 (x_isTold (X := X) xJ_2 hM (J := J) hJ) (xa_j xJ_2 hM) np_X2_isTold rfl rfl (by decide) (Nat.le_of_ble_eq_true rfl) rfl ?_)
  rintro v M' ⟨rfl, rfl⟩
  refine rx_if_eq (tgt := 29) hE dX10_shut_7 (by decide) (fun c7 => ?_) (fun c7 => ?_)
  · refine rx_bipush hE dX10_shut_29 (v := -2) (by decide) ?_
    exact rx_iret hE hQ rfl dX10_shut_31 ⟨by simp [q_shut, *], xD.refl n X O Q G S L⟩
  · refine rx_iload_n hE dX10_shut_10 (i := 1) rfl rfl ?_
    refine rx_iconst hE dX10_shut_11 (v := 1) (by decide) ?_
    refine rx_bipush hE dX10_shut_12 (v := 60) (by decide) ?_
    refine rx_call0 (rx_callS (av := [.int _, .int _, .int _]) hE dX10_shut_14 lk_X10_143 (c_X10_within _ _ _) np_X10_within rfl rfl (by decide) (Nat.le_of_ble_eq_true rfl) rfl ?_)
    rintro v M' ⟨rfl, rfl⟩
    refine rx_if_eq (tgt := 29) hE dX10_shut_17 (by decide) (fun c17 => ?_) (fun c17 => ?_)
    · refine rx_bipush hE dX10_shut_29 (v := -2) (by decide) ?_
      exact rx_iret hE hQ rfl dX10_shut_31 ⟨by simp [q_shut, *], xD.refl n X O Q G S L⟩
    · refine rx_iload_n hE dX10_shut_20 (i := 2) rfl rfl ?_
      refine rx_iconst hE dX10_shut_21 (v := 0) (by decide) ?_
      refine rx_iconst hE dX10_shut_22 (v := 1) (by decide) ?_
      refine rx_call0 (rx_callS (av := [.int _, .int _, .int _]) hE dX10_shut_23 lk_X10_143 (c_X10_within _ _ _) np_X10_within rfl rfl (by decide) (Nat.le_of_ble_eq_true rfl) rfl ?_)
      rintro v M' ⟨rfl, rfl⟩
      refine rx_if_ne (tgt := 32) hE dX10_shut_26 (by decide) (fun c26 => ?_) (fun c26 => ?_)
      · have hg : ¬ (j_isTold J = 0 ∨ q_in n0 1 60 = 0 ∨ q_in what 0 1 = 0) := by simp [*]
        obtain ⟨hf, hT9⟩ := hk.told c7
        obtain ⟨N, hN0, hN, rfl⟩ := q_in_of (a := 1) (b := 60) (by decide) c17
        have hr6 := hf.1.2.1
        have hv : q_shut t J (nI N) what = if what = 0 then (qshF t (jR J) N J 0 (jR J) (jsum (jmanyF t N J 5) (jR J), -1)).2 else (qshF t (jR J) N J 0 (jR J) (jsum (jmanyF t N J 5) (jR J), -1)).1 := by unfold q_shut; rw [if_neg hg, nI_clamp (n := N) (by omega)]
        have loop : ∀ (m k : Nat) (G' : gK) (J' : gJn) (s : g2) (l6 : Option Value), k + m = jR J → qshF t (jR J) N J k m s = qshF t (jR J) N J 0 (jR J) (jsum (jmanyF t N J 5) (jR J), -1) → RX E mX10_shut.2.2.1 0 0 45 [some (.ref 16), some (.int (nI N)), some (.int what), some (.int s.2), some (.int s.1), some (.int (nI k)), l6] [] (xm n (x_r X 4 J') O Q G' S L) := by
          intro m
          induction m with
          | zero =>
            intro k G' J' s l6 hk2 hF
            refine rx_iload hE dX10_shut_45 rfl ?_
            refine rx_aload_n hE dX10_shut_47 (i := 0) rfl rfl ?_
            refine rx_getf hE dX10_shut_48 fl_X10_19_9 (xa_0 hM) rfl ?_
            refine rx_getfN hE dX10_shut_51 fl_X10_132_2 (xa_j xJ_2 hM) rfl ?_
            refine rx_int _ (nI (jR J)) ((congrFun (congrFun hJ 9) 2).trans hf.1.1) ?_
            refine rx_icmp_ge (tgt := 86) hE dX10_shut_54 (by decide) (fun c54 => ?_) (fun c54 => absurd (show nI (jR J) ≤ nI k from nI_le (by omega) (by omega)) c54)
            refine rx_iload_n hE dX10_shut_86 (i := 2) rfl rfl ?_
            refine rx_if_ne (tgt := 94) hE dX10_shut_87 (by decide) (fun c87 => ?_) (fun c87 => ?_)
            · refine rx_iload hE dX10_shut_94 rfl ?_
              exact rx_iret hE hQ rfl dX10_shut_96 ⟨by rw [hv, ← hF]; show _ = some (Value.int (if what = 0 then s.2 else s.1)); rw [if_neg c87], xD.t n X O Q G' S L _⟩
            · refine rx_iload_n hE dX10_shut_90 (i := 3) rfl rfl ?_
              refine rx_goto (tgt := 96) hE dX10_shut_91 (by decide) ?_
              exact rx_iret hE hQ rfl dX10_shut_96 ⟨by rw [hv, ← hF]; show _ = some (Value.int (if what = 0 then s.2 else s.1)); rw [if_pos c87], xD.t n X O Q G' S L _⟩
          | succ m ih =>
            intro k G' J' s l6 hk2 hF
            refine rx_iload hE dX10_shut_45 rfl ?_
            refine rx_aload_n hE dX10_shut_47 (i := 0) rfl rfl ?_
            refine rx_getf hE dX10_shut_48 fl_X10_19_9 (xa_0 hM) rfl ?_
            refine rx_getfN hE dX10_shut_51 fl_X10_132_2 (xa_j xJ_2 hM) rfl ?_
            refine rx_int _ (nI (jR J)) ((congrFun (congrFun hJ 9) 2).trans hf.1.1) ?_
            refine rx_icmp_ge (tgt := 86) hE dX10_shut_54 (by decide) (fun c54 => absurd c54 (nI_ge (a := k) (b := (jR J)) (by omega) (by omega))) (fun c54 => ?_)
            refine rx_aload_n hE dX10_shut_57 (i := 0) rfl rfl ?_
            refine rx_iload hE dX10_shut_58 rfl ?_
            refine rx_iload_n hE dX10_shut_60 (i := 1) rfl rfl ?_
            refine rx_call0 (rx_callV (av := [.int (nI k), .int (nI N)]) hE dX10_shut_61 lk_X10_268 (c_X10_waitedShut (X := x_r X 4 J') (r := k) (N := N) (hR.eq rfl) hJ hf hT9 ht (by omega) (by omega)) (xa_0 hM) np_X10_waitedShut rfl rfl (by decide) (Nat.le_of_ble_eq_true rfl) rfl ?_)
            rintro v M' ⟨rfl, J1, G1, rfl⟩
            rw [x_rr]
            refine rx_istore_6 hE dX10_shut_64 (by decide) rfl ?_
            refine rx_iload hE dX10_shut_66 rfl ?_
            refine rx_iload hE dX10_shut_68 rfl ?_
            refine rx_icmp_ge (tgt := 80) hE dX10_shut_70 (by decide) (fun c70 => ?_) (fun c70 => ?_)
            · refine rx_iinc_5 hE dX10_shut_80 (v := 1) (by decide) (by decide) rfl ?_
              rw [nI_1]
              refine rx_goto (tgt := 45) hE dX10_shut_83 (by decide) ?_
              exact ih (k + 1) G1 J1 s _ (by omega) (by rw [← hF]; show _ = qshF t (jR J) N J (k + 1) m (if jsum (jmanyF t N (qsj J k) 5) (jR J) < s.1 then (jsum (jmanyF t N (qsj J k) 5) (jR J), nI k) else s); rw [if_neg (Int32.not_lt.mpr c70)])
            · refine rx_iload hE dX10_shut_73 rfl ?_
              refine rx_istore_4 hE dX10_shut_75 (by decide) rfl ?_
              refine rx_iload hE dX10_shut_77 rfl ?_
              refine rx_istore_n_3 hE dX10_shut_79 (by decide) rfl ?_
              refine rx_iinc_5 hE dX10_shut_80 (v := 1) (by decide) (by decide) rfl ?_
              rw [nI_1]
              refine rx_goto (tgt := 45) hE dX10_shut_83 (by decide) ?_
              exact ih (k + 1) G1 J1 (jsum (jmanyF t N (qsj J k) 5) (jR J), nI k) _ (by omega) (by rw [← hF]; show _ = qshF t (jR J) N J (k + 1) m (if jsum (jmanyF t N (qsj J k) 5) (jR J) < s.1 then (jsum (jmanyF t N (qsj J k) 5) (jR J), nI k) else s); rw [if_pos (Int32.not_le.mp c70)])
        refine rx_iconst hE dX10_shut_32 (v := -1) (by decide) ?_
        refine rx_istore_n_3 hE dX10_shut_33 (by decide) rfl ?_
        refine rx_aload_n hE dX10_shut_34 (i := 0) rfl rfl ?_
        refine rx_iconst hE dX10_shut_35 (v := -1) (by decide) ?_
        refine rx_iload_n hE dX10_shut_36 (i := 1) rfl rfl ?_
        refine rx_call0 (rx_callV (av := [.int (-1), .int (nI N)]) hE dX10_shut_37 lk_X10_268 (c_X10_waitedShutN (X := X) (N := N) (hR.eq rfl) hJ hf hT9 ht hsh (by omega)) (xa_0 hM) np_X10_waitedShut rfl rfl (by decide) (Nat.le_of_ble_eq_true rfl) rfl ?_)
        rintro v M' ⟨rfl, J1, G1, rfl⟩
        
        refine rx_istore_4 hE dX10_shut_40 (by decide) rfl ?_
        refine rx_iconst hE dX10_shut_42 (v := 0) (by decide) ?_
        refine rx_istore_5 hE dX10_shut_43 (by decide) rfl ?_
        exact loop (jR J) 0 G1 J1 (jsum (jmanyF t N J 5) (jR J), -1) _ (by omega) rfl
      · refine rx_bipush hE dX10_shut_29 (v := -2) (by decide) ?_
        exact rx_iret hE hQ rfl dX10_shut_31 ⟨by simp [q_shut, *], xD.refl n X O Q G S L⟩
