/-! ===== the class's search ===== -/
def xrs (T : Nat → Nat → Int32) (e w v : Nat → Nat) (m T0 R N C : Nat) (ps pn : Nat → Nat) (h0 : Int32) : Prop := T 0 7 = nI R ∧ T 0 8 = nI N ∧ T 0 6 = nI C ∧ T 0 9 = h0 ∧ R ≤ 6 ∧ N ≤ 3 ∧ C ≤ 64 ∧ (∀ i, i < C → ps i < 2 ^ R ∧ T 15 i = nI (ps i) ∧ T 16 i = jso pn (nI (ps i)) R) ∧ (∀ r, r < R → ∀ c, c < 2 ^ N → T (2 + r) c = nI (rsF (e r) m T0 c.testBit (w r, v r) N).2 ∧ T (9 + r) c = nI (sdN (fun i => decide (0 < rar (e r) (T0 + i) (rsF (e r) m T0 c.testBit (w r, v r) i).1)) N))
def xpk (T : Nat → Nat → Int32) (C : Nat) (pk : Nat → Nat) (k : Nat) : Prop := ∀ i, i < k → pk i < C ∧ T 17 i = nI (pk i)
theorem shl0 : ∀ i, i < 7 → (0 : Int32) <<< (nI i &&& 31) = 0 := by decide
theorem sd_or {a x r i : Nat} (ha : a < 2 ^ i) (hi : i < 7) (hx : x < 64) (hr : r < 6) : nI a ||| (jbit (nI x) r <<< (nI i &&& 31)) = nI (if x.testBit r = true then a + 2 ^ i else a) := by
  by_cases c : x.testBit r = true
  · rw [if_pos c, (tb_jbit x hx r hr).mpr c]
    exact (kbm_tab i hi a ha).1
  · rw [if_neg c, (jbit01 (nI x) r).resolve_right (fun q => c ((tb_jbit x hx r hr).mp q)), shl0 i hi]
    exact Int32.or_zero
theorem sd_left : ∀ N, N ≤ 3 → ∀ k, k ≤ N → ∀ a, a < 2 ^ k → nI a ||| nI (2 ^ N - 2 ^ k) = nI (a + (2 ^ N - 2 ^ k)) := by decide +kernel
theorem pow_le {k N : Nat} (h : k ≤ N) : 2 ^ k ≤ 2 ^ N := Nat.pow_le_pow_right (by decide) h
theorem sdN_top (p : Nat → Bool) (k : Nat) : ∀ j, sdN (fun i => if i < k then p i else true) (k + j) = sdN p k + (2 ^ (k + j) - 2 ^ k)
  | 0 => by
    rw [Nat.add_zero, Nat.sub_self, Nat.add_zero]
    exact sdN_ag k (fun i hi => if_pos hi)
  | j + 1 => by
    show (if (if k + j < k then p (k + j) else true) = true then sdN (fun i => if i < k then p i else true) (k + j) + 2 ^ (k + j) else sdN (fun i => if i < k then p i else true) (k + j)) = _
    rw [if_neg (show ¬ k + j < k by omega), if_pos rfl, sdN_top p k j, show k + (j + 1) = (k + j) + 1 by omega, Nat.pow_succ]
    have := pow_le (show k ≤ k + j by omega)
    omega
theorem sdN_tb {q : Nat → Bool} {N : Nat} (hN : N ≤ 3) {i : Nat} (hi : i < N) : (sdN q N).testBit i = q i := by
  have key : ∀ b0 b1 b2 : Bool, ∀ N, N ≤ 3 → ∀ i, i < N → (sdN (fun j => if j = 0 then b0 else if j = 1 then b1 else b2) N).testBit i = (if i = 0 then b0 else if i = 1 then b1 else b2) := by decide
  have hq : ∀ i, i < N → q i = (if i = 0 then q 0 else if i = 1 then q 1 else q 2) := fun i hi => by
    rcases (show i = 0 ∨ i = 1 ∨ i = 2 by omega) with rfl | rfl | rfl <;> rfl
  rw [sdN_ag N hq, key (q 0) (q 1) (q 2) N hN i hi, ← hq i hi]
theorem rsF_sd {e m T : Nat} {q : Nat → Bool} {s : Nat × Nat} {N k : Nat} (hN : N ≤ 3) (hk : k ≤ N) : rsF e m T (sdN q N).testBit s k = rsF e m T q s k := rsF_ag k (fun i hi => sdN_tb hN (by omega))
theorem idle_iff : ∀ x, x < 64 → ∀ y, y < 64 → (nI x &&& (nI y ^^^ (-1)) = 0 ↔ ∀ r, r < 6 → x.testBit r = true → y.testBit r = true) := by decide +kernel
set_option maxRecDepth 100000 in
set_option maxHeartbeats 1000000 in
theorem c_X5_choiceOf {n : Nat} {X : gX} {O : gO} {Q : gU} {G : gK} {S : gS} {L : gLg} (hM : 408 ≤ n) {T : Nat → Nat → Int32} (hT : X 31 = T) {e w vd : Nat → Nat} {m T0 R N C : Nat} {ps pn : Nat → Nat} {h0 : Int32} (hs : xrs T e w vd m T0 R N C ps pn h0) {pk : Nat → Nat} {k : Nat} (hp : xpk T C pk k) (hk3 : k ≤ 3) {r : Nat} (hr : r < 6) : SX 0 0 0 mX5_choiceOf [.ref 260, .int (nI r), .int (nI k)] (xm n X O Q G S L) (fun v M' => v = some (.int (nI (sdN (fun i => (ps (pk i)).testBit r) k))) ∧ M' = xm n X O Q G S L) := by
  refine SX.intro [some (.ref 260), some (.int (nI r)), some (.int (nI k)), none, none] (by decide +kernel) (Nat.le_of_ble_eq_true rfl) rfl (fun E hE hQ => ?_)
  obtain ⟨t7, t8, t6, t9, hR6, hN3, hC, hps, htb⟩ := id hs
  have hp64 := pow6' hR6
  have loop : ∀ (n1 i : Nat), i + n1 = k → RX E mX5_choiceOf.2.2.1 0 0 5 [some (.ref 260), some (.int (nI r)), some (.int (nI k)), some (.int (nI (sdN (fun i => (ps (pk i)).testBit r) i))), some (.int (nI i))] [] (xm n X O Q G S L) := by
    intro n1
    induction n1 with
    | zero =>
      intro i hk2
      refine rx_iload hE dX5_choiceOf_5 rfl ?_
      refine rx_iload_n hE dX5_choiceOf_7 (i := 2) rfl rfl ?_
      refine rx_icmp_ge (tgt := 39) hE dX5_choiceOf_8 (by decide) (fun c8 => ?_) (fun c8 => absurd (show nI k ≤ nI i from nI_le (by omega) (by omega)) c8)
      refine rx_iload_n hE dX5_choiceOf_39 (i := 3) rfl rfl ?_
      exact rx_iret hE hQ rfl dX5_choiceOf_40 ⟨by rw [show i = k by omega], rfl⟩
    | succ n1 ih =>
      intro i hk2
      refine rx_iload hE dX5_choiceOf_5 rfl ?_
      refine rx_iload_n hE dX5_choiceOf_7 (i := 2) rfl rfl ?_
      refine rx_icmp_ge (tgt := 39) hE dX5_choiceOf_8 (by decide) (fun c8 => absurd c8 (nI_ge (a := i) (b := k) (by omega) (by omega))) (fun c8 => ?_)
      refine rx_iload_n hE dX5_choiceOf_11 (i := 3) rfl rfl ?_
      refine rx_aload_n hE dX5_choiceOf_12 (i := 0) rfl rfl ?_
      refine rx_getf hE dX5_choiceOf_13 fl_X5_21_5 (xa_31 hM) rfl ?_
      refine rx_aload_n hE dX5_choiceOf_16 (i := 0) rfl rfl ?_
      refine rx_getf hE dX5_choiceOf_17 fl_X5_28_5 (xa_31 hM) rfl ?_
      refine rx_iload hE dX5_choiceOf_20 rfl ?_
      refine rx_ialdN (i := i) hE dX5_choiceOf_22 (xa_31_17 hM) (by omega) (by decide) ?_
      have hpi := hp i (by omega)
      have hsi := hps (pk i) hpi.1
      refine rx_int _ (nI (pk i)) ((congrFun (congrFun hT 17) i).trans hpi.2) ?_
      refine rx_ialdN (i := pk i) hE dX5_choiceOf_23 (xa_31_15 hM) (by omega) (by decide) ?_
      refine rx_int _ (nI (ps (pk i))) ((congrFun (congrFun hT 15) (pk i)).trans hsi.2.1) ?_
      refine rx_iload_n hE dX5_choiceOf_24 (i := 1) rfl rfl ?_
      refine rx_ishr hE dX5_choiceOf_25 ?_
      refine rx_iconst hE dX5_choiceOf_26 (v := 1) (by decide) ?_
      refine rx_iand hE dX5_choiceOf_27 ?_
      refine rx_int _ (jbit (nI (ps (pk i))) r) rfl ?_
      refine rx_iload hE dX5_choiceOf_28 rfl ?_
      refine rx_ishl hE dX5_choiceOf_30 ?_
      refine rx_ior hE dX5_choiceOf_31 ?_
      refine rx_int _ (nI (sdN (fun i => (ps (pk i)).testBit r) (i + 1))) (sd_or (sdN_lt (fun i => (ps (pk i)).testBit r) i) (by omega) (by omega) hr) ?_
      refine rx_istore_n_3 hE dX5_choiceOf_32 (by decide) rfl ?_
      refine rx_iinc_4 hE dX5_choiceOf_33 (v := 1) (by decide) (by decide) rfl ?_
      rw [nI_1]
      refine rx_goto (tgt := 5) hE dX5_choiceOf_36 (by decide) ?_
      exact ih (i + 1) (by omega)
  refine rx_iconst hE dX5_choiceOf_0 (v := 0) (by decide) ?_
  refine rx_istore_n_3 hE dX5_choiceOf_1 (by decide) rfl ?_
  refine rx_iconst hE dX5_choiceOf_2 (v := 0) (by decide) ?_
  refine rx_istore_4 hE dX5_choiceOf_3 (by decide) rfl ?_
  exact loop k 0 (by omega)
set_option maxRecDepth 100000 in
set_option maxHeartbeats 1000000 in
theorem c_X5_waitedAtLeast {n : Nat} {X : gX} {O : gO} {Q : gU} {G : gK} {S : gS} {L : gLg} (hM : 408 ≤ n) {T : Nat → Nat → Int32} (hT : X 31 = T) {e w vd : Nat → Nat} {m T0 R N C : Nat} {ps pn : Nat → Nat} {h0 : Int32} (hs : xrs T e w vd m T0 R N C ps pn h0) {pk : Nat → Nat} {k : Nat} (hp : xpk T C pk k) (hkN : k ≤ N) : SX 1 0 0 mX5_waitedAtLeast [.ref 260, .int (nI k)] (xm n X O Q G S L) (fun v M' => v = some (.int (nI (nsum (fun r => (rsF (e r) m T0 (fun i => if i < k then (ps (pk i)).testBit r else true) (w r, vd r) N).2) R))) ∧ M' = xm n X O Q G S L) := by
  refine SX.intro [some (.ref 260), some (.int (nI k)), none, none, none] (by decide +kernel) (Nat.le_of_ble_eq_true rfl) rfl (fun E hE hQ => ?_)
  obtain ⟨t7, t8, t6, t9, hR6, hN3, hC, hps, htb⟩ := id hs
  have hp64 := pow6' hR6
  have loop : ∀ (n1 r : Nat), r + n1 = R → RX E mX5_waitedAtLeast.2.2.1 0 0 16 [some (.ref 260), some (.int (nI k)), some (.int (nI (2 ^ N - 2 ^ k))), some (.int (nI (nsum (fun r => (rsF (e r) m T0 (fun i => if i < k then (ps (pk i)).testBit r else true) (w r, vd r) N).2) r))), some (.int (nI r))] [] (xm n X O Q G S L) := by
    intro n1
    induction n1 with
    | zero =>
      intro r hk2
      refine rx_iload hE dX5_waitedAtLeast_16 rfl ?_
      refine rx_aload_n hE dX5_waitedAtLeast_18 (i := 0) rfl rfl ?_
      refine rx_getf hE dX5_waitedAtLeast_19 fl_X5_38_5 (xa_31 hM) rfl ?_
      refine rx_int _ (nI R) ((congrFun (congrFun hT 0) 7).trans t7) ?_
      refine rx_icmp_ge (tgt := 51) hE dX5_waitedAtLeast_22 (by decide) (fun c22 => ?_) (fun c22 => absurd (show nI R ≤ nI r from nI_le (by omega) (by omega)) c22)
      refine rx_iload_n hE dX5_waitedAtLeast_51 (i := 3) rfl rfl ?_
      exact rx_iret hE hQ rfl dX5_waitedAtLeast_52 ⟨by rw [show r = R by omega], rfl⟩
    | succ n1 ih =>
      intro r hk2
      refine rx_iload hE dX5_waitedAtLeast_16 rfl ?_
      refine rx_aload_n hE dX5_waitedAtLeast_18 (i := 0) rfl rfl ?_
      refine rx_getf hE dX5_waitedAtLeast_19 fl_X5_38_5 (xa_31 hM) rfl ?_
      refine rx_int _ (nI R) ((congrFun (congrFun hT 0) 7).trans t7) ?_
      refine rx_icmp_ge (tgt := 51) hE dX5_waitedAtLeast_22 (by decide) (fun c22 => absurd c22 (nI_ge (a := r) (b := R) (by omega) (by omega))) (fun c22 => ?_)
      refine rx_iload_n hE dX5_waitedAtLeast_25 (i := 3) rfl rfl ?_
      refine rx_aload_n hE dX5_waitedAtLeast_26 (i := 0) rfl rfl ?_
      refine rx_getf hE dX5_waitedAtLeast_27 fl_X5_15_5 (xa_31 hM) rfl ?_
      refine rx_iload hE dX5_waitedAtLeast_30 rfl ?_
      refine rx_aaldN hE (by decide) rfl dX5_waitedAtLeast_32 (xa_31_1 hM) (by omega) (by decide) ?_
      rw [if_pos (show r < 6 by omega), show 262 + r = 260 + (2 + r) by omega]
      refine rx_aload_n hE dX5_waitedAtLeast_33 (i := 0) rfl rfl ?_
      refine rx_iload hE dX5_waitedAtLeast_34 rfl ?_
      refine rx_iload_n hE dX5_waitedAtLeast_36 (i := 1) rfl rfl ?_
      refine rx_call0 (rx_callV (av := [.int (nI r), .int (nI k)]) hE dX5_waitedAtLeast_37 lk_X5_99 (c_X5_choiceOf (X := X) hM hT hs hp (by omega) (r := r) (by omega)) (xa_31 hM) np_X5_choiceOf rfl rfl (by decide) (Nat.le_of_ble_eq_true rfl) rfl ?_)
      rintro v M' ⟨rfl, rfl⟩
      refine rx_iload_n hE dX5_waitedAtLeast_40 (i := 2) rfl rfl ?_
      refine rx_ior hE dX5_waitedAtLeast_41 ?_
      have hsl : sdN (fun i => if i < k then (ps (pk i)).testBit r else true) N = sdN (fun i => (ps (pk i)).testBit r) k + (2 ^ N - 2 ^ k) := by
        have := sdN_top (fun i => (ps (pk i)).testBit r) k (N - k)
        rw [show k + (N - k) = N by omega] at this
        exact this
      have hq8 : sdN (fun i => if i < k then (ps (pk i)).testBit r else true) N < 2 ^ N := sdN_lt _ N
      have h2N : 2 ^ N ≤ 8 := Nat.pow_le_pow_right (by decide) hN3
      refine rx_int _ (nI (sdN (fun i => if i < k then (ps (pk i)).testBit r else true) N)) ((sd_left N hN3 k hkN _ (sdN_lt _ k)).trans (by rw [hsl])) ?_
      refine rx_ialdN (i := sdN (fun i => if i < k then (ps (pk i)).testBit r else true) N) hE dX5_waitedAtLeast_42 (xs_at (k := 2 + r) hM (Or.inl ⟨by omega, by omega⟩)) (by omega) (by decide) ?_
      refine rx_int _ (nI ((rsF (e r) m T0 (fun i => if i < k then (ps (pk i)).testBit r else true) (w r, vd r) N).2)) ((congrFun (congrFun hT (2 + r)) _).trans ((htb r (by omega) _ hq8).1.trans (by rw [rsF_sd hN3 (Nat.le_refl _)]))) ?_
      refine rx_iadd hE dX5_waitedAtLeast_43 ?_
      refine rx_int _ (nI (nsum (fun r => (rsF (e r) m T0 (fun i => if i < k then (ps (pk i)).testBit r else true) (w r, vd r) N).2) (r + 1))) (nI_add _ _) ?_
      refine rx_istore_n_3 hE dX5_waitedAtLeast_44 (by decide) rfl ?_
      refine rx_iinc_4 hE dX5_waitedAtLeast_45 (v := 1) (by decide) (by decide) rfl ?_
      rw [nI_1]
      refine rx_goto (tgt := 16) hE dX5_waitedAtLeast_48 (by decide) ?_
      exact ih (r + 1) (by omega)
  refine rx_iconst hE dX5_waitedAtLeast_0 (v := 1) (by decide) ?_
  refine rx_aload_n hE dX5_waitedAtLeast_1 (i := 0) rfl rfl ?_
  refine rx_getf hE dX5_waitedAtLeast_2 fl_X5_41_5 (xa_31 hM) rfl ?_
  refine rx_int _ (nI N) ((congrFun (congrFun hT 0) 8).trans t8) ?_
  refine rx_ishl hE dX5_waitedAtLeast_5 ?_
  refine rx_int _ (nI (2 ^ N)) (shl1 _ (by omega)) ?_
  refine rx_iconst hE dX5_waitedAtLeast_6 (v := 1) (by decide) ?_
  refine rx_iload_n hE dX5_waitedAtLeast_7 (i := 1) rfl rfl ?_
  refine rx_ishl hE dX5_waitedAtLeast_8 ?_
  refine rx_int _ (nI (2 ^ k)) (shl1 _ (by omega)) ?_
  refine rx_isub hE dX5_waitedAtLeast_9 ?_
  refine rx_int _ (nI (2 ^ N - 2 ^ k)) (pk_sub (pow_le hkN)) ?_
  refine rx_istore_n_2 hE dX5_waitedAtLeast_10 (by decide) rfl ?_
  refine rx_iconst hE dX5_waitedAtLeast_11 (v := 0) (by decide) ?_
  refine rx_istore_n_3 hE dX5_waitedAtLeast_12 (by decide) rfl ?_
  refine rx_iconst hE dX5_waitedAtLeast_13 (v := 0) (by decide) ?_
  refine rx_istore_4 hE dX5_waitedAtLeast_14 (by decide) rfl ?_
  exact loop R 0 (by omega)
set_option maxRecDepth 100000 in
set_option maxHeartbeats 1000000 in
theorem c_X5_waitingRoads {n : Nat} {X : gX} {O : gO} {Q : gU} {G : gK} {S : gS} {L : gLg} (hM : 408 ≤ n) {T : Nat → Nat → Int32} (hT : X 31 = T) {e w vd : Nat → Nat} {m T0 R N C : Nat} {ps pn : Nat → Nat} {h0 : Int32} (hs : xrs T e w vd m T0 R N C ps pn h0) {pk : Nat → Nat} {k : Nat} (hp : xpk T C pk k) (hkN : k < N) : SX 1 0 0 mX5_waitingRoads [.ref 260, .int (nI k)] (xm n X O Q G S L) (fun v M' => v = some (.int (nI (sdN (fun r => decide (0 < rar (e r) (T0 + k) (rsF (e r) m T0 (fun i => (ps (pk i)).testBit r) (w r, vd r) k).1)) R))) ∧ M' = xm n X O Q G S L) := by
  refine SX.intro [some (.ref 260), some (.int (nI k)), none, none] (by decide +kernel) (Nat.le_of_ble_eq_true rfl) rfl (fun E hE hQ => ?_)
  obtain ⟨t7, t8, t6, t9, hR6, hN3, hC, hps, htb⟩ := id hs
  have hp64 := pow6' hR6
  have loop : ∀ (n1 r : Nat), r + n1 = R → RX E mX5_waitingRoads.2.2.1 0 0 4 [some (.ref 260), some (.int (nI k)), some (.int (nI (sdN (fun r => decide (0 < rar (e r) (T0 + k) (rsF (e r) m T0 (fun i => (ps (pk i)).testBit r) (w r, vd r) k).1)) r))), some (.int (nI r))] [] (xm n X O Q G S L) := by
    intro n1
    induction n1 with
    | zero =>
      intro r hk2
      refine rx_iload_n hE dX5_waitingRoads_4 (i := 3) rfl rfl ?_
      refine rx_aload_n hE dX5_waitingRoads_5 (i := 0) rfl rfl ?_
      refine rx_getf hE dX5_waitingRoads_6 fl_X5_38_5 (xa_31 hM) rfl ?_
      refine rx_int _ (nI R) ((congrFun (congrFun hT 0) 7).trans t7) ?_
      refine rx_icmp_ge (tgt := 40) hE dX5_waitingRoads_9 (by decide) (fun c9 => ?_) (fun c9 => absurd (show nI R ≤ nI r from nI_le (by omega) (by omega)) c9)
      refine rx_iload_n hE dX5_waitingRoads_40 (i := 2) rfl rfl ?_
      exact rx_iret hE hQ rfl dX5_waitingRoads_41 ⟨by rw [show r = R by omega], rfl⟩
    | succ n1 ih =>
      intro r hk2
      refine rx_iload_n hE dX5_waitingRoads_4 (i := 3) rfl rfl ?_
      refine rx_aload_n hE dX5_waitingRoads_5 (i := 0) rfl rfl ?_
      refine rx_getf hE dX5_waitingRoads_6 fl_X5_38_5 (xa_31 hM) rfl ?_
      refine rx_int _ (nI R) ((congrFun (congrFun hT 0) 7).trans t7) ?_
      refine rx_icmp_ge (tgt := 40) hE dX5_waitingRoads_9 (by decide) (fun c9 => absurd c9 (nI_ge (a := r) (b := R) (by omega) (by omega))) (fun c9 => ?_)
      refine rx_iload_n hE dX5_waitingRoads_12 (i := 2) rfl rfl ?_
      refine rx_aload_n hE dX5_waitingRoads_13 (i := 0) rfl rfl ?_
      refine rx_getf hE dX5_waitingRoads_14 fl_X5_18_5 (xa_31 hM) rfl ?_
      refine rx_iload_n hE dX5_waitingRoads_17 (i := 3) rfl rfl ?_
      refine rx_aaldN hE (by decide) rfl dX5_waitingRoads_18 (xa_31_8 hM) (by omega) (by decide) ?_
      rw [if_pos (show r < 6 by omega), show 269 + r = 260 + (9 + r) by omega]
      refine rx_aload_n hE dX5_waitingRoads_19 (i := 0) rfl rfl ?_
      refine rx_iload_n hE dX5_waitingRoads_20 (i := 3) rfl rfl ?_
      refine rx_iload_n hE dX5_waitingRoads_21 (i := 1) rfl rfl ?_
      refine rx_call0 (rx_callV (av := [.int (nI r), .int (nI k)]) hE dX5_waitingRoads_22 lk_X5_99 (c_X5_choiceOf (X := X) hM hT hs hp (by omega) (r := r) (by omega)) (xa_31 hM) np_X5_choiceOf rfl rfl (by decide) (Nat.le_of_ble_eq_true rfl) rfl ?_)
      rintro v M' ⟨rfl, rfl⟩
      refine rx_ialdN (i := sdN (fun i => (ps (pk i)).testBit r) k) hE dX5_waitingRoads_25 (xs_at (k := 9 + r) hM (Or.inr ⟨by omega, by omega⟩)) (by have := sdN_lt (fun i => (ps (pk i)).testBit r) k; have : 2 ^ k ≤ 8 := Nat.pow_le_pow_right (by decide) (show k ≤ 3 by omega); omega) (by decide) ?_
      have hq8 : sdN (fun i => (ps (pk i)).testBit r) k < 2 ^ N := Nat.lt_of_lt_of_le (sdN_lt _ k) (pow_le (by omega))
      have h2N : 2 ^ N ≤ 8 := Nat.pow_le_pow_right (by decide) hN3
      refine rx_int _ (nI (sdN (fun i => decide (0 < rar (e r) (T0 + i) (rsF (e r) m T0 (sdN (fun i => (ps (pk i)).testBit r) k).testBit (w r, vd r) i).1)) N)) ((congrFun (congrFun hT (9 + r)) _).trans (htb r (by omega) _ hq8).2) ?_
      have hw8 : (sdN (fun i => decide (0 < rar (e r) (T0 + i) (rsF (e r) m T0 (sdN (fun i => (ps (pk i)).testBit r) k).testBit (w r, vd r) i).1)) N) < 2 ^ N := sdN_lt _ N
      refine rx_iload_n hE dX5_waitingRoads_26 (i := 1) rfl rfl ?_
      refine rx_ishr hE dX5_waitingRoads_27 ?_
      refine rx_iconst hE dX5_waitingRoads_28 (v := 1) (by decide) ?_
      refine rx_iand hE dX5_waitingRoads_29 ?_
      refine rx_int _ (jbit (nI (sdN (fun i => decide (0 < rar (e r) (T0 + i) (rsF (e r) m T0 (sdN (fun i => (ps (pk i)).testBit r) k).testBit (w r, vd r) i).1)) N)) k) rfl ?_
      refine rx_iload_n hE dX5_waitingRoads_30 (i := 3) rfl rfl ?_
      refine rx_ishl hE dX5_waitingRoads_31 ?_
      refine rx_ior hE dX5_waitingRoads_32 ?_
      refine rx_int _ (nI (sdN (fun r => decide (0 < rar (e r) (T0 + k) (rsF (e r) m T0 (fun i => (ps (pk i)).testBit r) (w r, vd r) k).1)) (r + 1))) ((sd_or (sdN_lt (fun r => decide (0 < rar (e r) (T0 + k) (rsF (e r) m T0 (fun i => (ps (pk i)).testBit r) (w r, vd r) k).1)) r) (by omega) (by omega) (by omega)).trans (congrArg nI (by rw [sdN_tb hN3 hkN, rsF_sd (by omega) (Nat.le_refl _)]; rfl))) ?_
      refine rx_istore_n_2 hE dX5_waitingRoads_33 (by decide) rfl ?_
      refine rx_iinc_3 hE dX5_waitingRoads_34 (v := 1) (by decide) (by decide) rfl ?_
      rw [nI_1]
      refine rx_goto (tgt := 4) hE dX5_waitingRoads_37 (by decide) ?_
      exact ih (r + 1) (by omega)
  refine rx_iconst hE dX5_waitingRoads_0 (v := 0) (by decide) ?_
  refine rx_istore_n_2 hE dX5_waitingRoads_1 (by decide) rfl ?_
  refine rx_iconst hE dX5_waitingRoads_2 (v := 0) (by decide) ?_
  refine rx_istore_n_3 hE dX5_waitingRoads_3 (by decide) rfl ?_
  exact loop R 0 (by omega)
