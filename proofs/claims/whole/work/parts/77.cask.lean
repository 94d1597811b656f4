/-! ===== mornings of the class ===== -/
def xd (X : gX) (v : Int32) : gX := x_r X 0 (j_f (X 0) 18 v)
theorem j_ff (T : Nat → Nat → Int32) (i : Nat) (v w : Int32) : j_f (j_f T i v) i w = j_f T i w := by
  funext k
  unfold j_f
  by_cases h : k = 0
  · rw [if_pos h, if_pos h, if_pos rfl, upd_upd]
  · rw [if_neg h, if_neg h, if_neg h]
theorem j_f_id (T : Nat → Nat → Int32) (i : Nat) : j_f T i (T 0 i) = T := by
  funext k
  unfold j_f
  by_cases h : k = 0
  · rw [if_pos h, h]
    funext j
    unfold upd
    split
    · next e => rw [e]
    · rfl
  · rw [if_neg h]
theorem xd_xd (X : gX) (v w : Int32) : xd (xd X v) w = xd X w := by
  unfold xd
  rw [x_rr, x_r_eq, j_ff]
theorem xd_4 {X : gX} {J : gJn} (h : X 4 = J) (v : Int32) : x_r (xd X v) 4 J = xd X v := by
  subst h
  exact x_r_id (xd X v) 4
theorem xd_c (X : gX) (J : gJn) (v : Int32) : xd (x_r X 4 J) v = x_r (xd X v) 4 J := by
  unfold xd
  exact x_r_comm (by decide) _ _
theorem xd_n (X : gX) (J J' : gJn) (v w : Int32) : x_r (xd (x_r (xd X v) 4 J) w) 4 J' = x_r (xd X w) 4 J' := by
  rw [xd_c, xd_xd, x_rr]
theorem xd_b (X : gX) (J : gJn) (v : Int32) : xd (x_r (xd X v) 4 J) (X 0 0 18) = x_r X 4 J := by
  rw [xd_c, xd_xd]
  unfold xd
  rw [j_f_id, x_r_id]
theorem xd_tf {X : gX} {Q : gU} {t : gJn → Nat → Int32 → Bool} (ht : xtf X Q (X 0 0 17) = t) (v : Int32) (J : gJn) : xtf (x_r (xd X v) 4 J) Q ((x_r (xd X v) 4 J) 0 0 17) = t := by
  have e : (x_r (xd X v) 4 J) 0 0 17 = X 0 0 17 := rfl
  rw [e, xtf_eq (X := X) (X' := x_r (xd X v) 4 J) (show (x_r (xd X v) 4 J) 0 0 16 = X 0 0 16 from rfl)]
  exact ht
def qdc (p R : Nat) (s : gJn × Nat) : gJn × Nat := if qdv s.2 100 < p ∧ 0 < R then (j_addw s.1 (qdv (qdx s.2) R) 3, qdx (qdx s.2)) else (s.1, qdx s.2)
theorem qmo1_qdc (t : gJn → Nat → Int32 → Bool) (p R : Nat) (s : gJn × Nat) : qmo1 t p R s = (jone t (qdc p R s).1, (qdc p R s).2) := by
  unfold qmo1 qdc
  split <;> rfl
theorem qdc_ok {J J1 : gJn} (hf : jfit J) {p R x x1 : Nat} (hR : R ≤ 6) (hq : qdc p R (J, x) = (J1, x1)) : jfit J1 ∧ jst J1 J ∧ jT J1 = jT J ∧ x1 < 2147483648 := by
  change (if qdv x 100 < p ∧ 0 < R then (j_addw J (qdv (qdx x) R) 3, qdx (qdx x)) else (J, qdx x)) = (J1, x1) at hq
  by_cases h : qdv x 100 < p ∧ 0 < R
  · rw [if_pos h] at hq
    obtain ⟨e1, e2⟩ := Prod.mk.inj hq
    have hl : qdv (qdx x) R < R := Nat.mod_lt _ h.2
    rw [← e1, ← e2]
    exact ⟨hf.add3 (r := qdv (qdx x) R) (by omega), ⟨rfl, rfl, fun _ _ _ => rfl⟩, rfl, qdx_lt _⟩
  · rw [if_neg h] at hq
    obtain ⟨e1, e2⟩ := Prod.mk.inj hq
    rw [← e1, ← e2]
    exact ⟨hf, jst.refl J, rfl, qdx_lt _⟩
set_option maxRecDepth 100000 in
set_option maxHeartbeats 1000000 in
theorem c_X10_nextDraw {n : Nat} {X : gX} {O : gO} {Q : gU} {G : gK} {S : gS} {L : gLg} (hM : 408 ≤ n) {x : Nat} (hx : X 0 0 18 = nI x) (hx1 : x < 2147483648) : SX 0 0 0 mX10_nextDraw [.ref 16] (xm n X O Q G S L) (fun v M' => v = some (.int (nI (qdx x / 65536))) ∧ M' = xm n (xd X (nI (qdx x))) O Q G S L) := by
  refine SX.intro [some (.ref 16)] (by decide +kernel) (Nat.le_of_ble_eq_true rfl) rfl (fun E hE hQ => ?_)
  refine rx_aload_n hE dX10_nextDraw_0 (i := 0) rfl rfl ?_
  refine rx_aload_n hE dX10_nextDraw_1 (i := 0) rfl rfl ?_
  refine rx_getf hE dX10_nextDraw_2 fl_X10_106_9 (xa_0 hM) rfl ?_
  refine rx_int _ (nI x) hx ?_
  refine rx_i2l hE dX10_nextDraw_5 ?_
  refine rx_lng _ (lN x) (nI_l hx1) ?_
  refine rx_ldc2 hE dX10_nextDraw_6 kl_X10_328 ?_
  refine rx_lmul hE dX10_nextDraw_9 ?_
  refine rx_lng _ (lN (x * 1103515245)) (lN_mul x 1103515245) ?_
  refine rx_ldc2 hE dX10_nextDraw_10 kl_X10_330 ?_
  refine rx_ladd hE dX10_nextDraw_13 ?_
  refine rx_lng _ (lN (x * 1103515245 + 12345)) (lN_add _ 12345) ?_
  refine rx_ldc2 hE dX10_nextDraw_14 kl_X10_332 ?_
  refine rx_lrem hE dX10_nextDraw_17 (by decide) ?_
  refine rx_lng _ (lN (qdx x)) (pk_lRem (by omega) (by decide) (by decide)) ?_
  refine rx_l2i hE dX10_nextDraw_18 ?_
  refine rx_int _ (nI (qdx x)) (lN_i _) ?_
  refine rx_put hE dX10_nextDraw_19 fl_X10_106_9 fw_9_18 (xa_0 hM) (fun _ => rfl) (fun _ => rfl) (Nat.le_of_ble_eq_true rfl) ?_
  refine rx_mem (M' := xm n (xd X (nI (qdx x))) O Q G S L) xw_0_f18 ?_
  refine rx_aload_n hE dX10_nextDraw_22 (i := 0) rfl rfl ?_
  refine rx_getf hE dX10_nextDraw_23 fl_X10_106_9 (xa_0 hM) rfl ?_
  refine rx_int _ (nI (qdx x)) rfl ?_
  refine rx_ldcw hE dX10_nextDraw_26 k_X10_334 ?_
  refine rx_idiv hE dX10_nextDraw_29 (by decide) ?_
  refine rx_int _ (nI (qdx x / 65536)) (pk_div (d := 65536) (by have := qdx_lt x; omega) (by decide) (by decide)) ?_
  exact rx_iret hE hQ rfl dX10_nextDraw_30 ⟨rfl, rfl⟩
set_option maxRecDepth 100000 in
set_option maxHeartbeats 1000000 in
theorem c_X10_drawCarts {n : Nat} {X : gX} {O : gO} {Q : gU} {G : gK} {S : gS} {L : gLg} (hM : 408 ≤ n) {J' : gJn} (hX4 : X 4 = J') (hok : jok J') {x p : Nat} (hx : X 0 0 18 = nI x) (hx1 : x < 2147483648) (hp : p ≤ 100) : SX 2 0 0 mX10_drawCarts [.ref 16, .int (nI p)] (xm n X O Q G S L) (fun v M' => v = none ∧ M' = xm n (x_r (xd X (nI (qdc p (jR J') (J', x)).2)) 4 (qdc p (jR J') (J', x)).1) O Q G S L) := by
  refine SX.intro [some (.ref 16), some (.int (nI p))] (by decide +kernel) (Nat.le_of_ble_eq_true rfl) rfl (fun E hE hQ => ?_)
  have hr6 := hok.2.1
  have hd100 : qdv x 100 < 100 := Nat.mod_lt _ (by decide)
  refine rx_aload_n hE dX10_drawCarts_0 (i := 0) rfl rfl ?_
  refine rx_call0 (rx_callV (av := []) hE dX10_drawCarts_1 lk_X10_325 (c_X10_nextDraw (X := X) hM hx hx1) (xa_0 hM) np_X10_nextDraw rfl rfl (by decide) (Nat.le_of_ble_eq_true rfl) rfl ?_)
  rintro v M' ⟨rfl, rfl⟩
  refine rx_bipush hE dX10_drawCarts_4 (v := 100) (by decide) ?_
  refine rx_irem hE dX10_drawCarts_6 (by decide) ?_
  refine rx_int _ (nI (qdv x 100)) (pk_rem (d := 100) (by have := qdx_lt x; omega) (by decide) (by decide)) ?_
  refine rx_iload_n hE dX10_drawCarts_7 (i := 1) rfl rfl ?_
  refine rx_icmp_ge (tgt := 41) hE dX10_drawCarts_8 (by decide) (fun c8 => ?_) (fun c8 => ?_)
  · exact rx_vret hE hQ rfl dX10_drawCarts_41 ⟨rfl, by rw [show qdc p (jR J') (J', x) = (J', qdx x) from if_neg (fun q => absurd (show qdv x 100 < p from q.1) (by have := (nI_leI (by omega) (by omega)).mp c8; omega)), xd_4 hX4]⟩
  · refine rx_aload_n hE dX10_drawCarts_11 (i := 0) rfl rfl ?_
    refine rx_getf hE dX10_drawCarts_12 fl_X10_26_9 (xa_0 hM) rfl ?_
    refine rx_getfN hE dX10_drawCarts_15 fl_X10_132_2 (xa_j xJ_4 hM) rfl ?_
    refine rx_int _ (nI (jR J')) ((congrFun (congrFun hX4 9) 2).trans hok.1) ?_
    refine rx_if_le (tgt := 41) hE dX10_drawCarts_18 (by decide) (fun c18 => ?_) (fun c18 => ?_)
    · exact rx_vret hE hQ rfl dX10_drawCarts_41 ⟨rfl, by rw [show qdc p (jR J') (J', x) = (J', qdx x) from if_neg (fun q => absurd c18 (nI_nle q.2 (by omega))), xd_4 hX4]⟩
    · have hR0 : 0 < jR J' := Nat.pos_of_ne_zero (fun q => c18 (by rw [q]; decide))
      have hq6 : qdv (qdx x) (jR J') < 6 := Nat.lt_of_lt_of_le (Nat.mod_lt _ hR0) hr6
      refine rx_aload_n hE dX10_drawCarts_21 (i := 0) rfl rfl ?_
      refine rx_getf hE dX10_drawCarts_22 fl_X10_26_9 (xa_0 hM) rfl ?_
      refine rx_aload_n hE dX10_drawCarts_25 (i := 0) rfl rfl ?_
      refine rx_call0 (rx_callV (av := []) hE dX10_drawCarts_26 lk_X10_325 (c_X10_nextDraw (X := xd X (nI (qdx x))) hM (x := qdx x) rfl (qdx_lt x)) (xa_0 hM) np_X10_nextDraw rfl rfl (by decide) (Nat.le_of_ble_eq_true rfl) rfl ?_)
      rintro v M' ⟨rfl, rfl⟩
      rw [xd_xd]
      refine rx_aload_n hE dX10_drawCarts_29 (i := 0) rfl rfl ?_
      refine rx_getf hE dX10_drawCarts_30 fl_X10_26_9 (xa_0 hM) rfl ?_
      refine rx_getfN hE dX10_drawCarts_33 fl_X10_132_2 (xa_j xJ_4 hM) rfl ?_
      refine rx_int _ (nI (jR J')) ((congrFun (congrFun hX4 9) 2).trans hok.1) ?_
      refine rx_irem hE dX10_drawCarts_36 (nI_ne0 hR0 (by omega)) ?_
      refine rx_int _ (nI (qdv (qdx x) (jR J'))) (pk_rem (by have := qdx_lt (qdx x); omega) hR0 (by omega)) ?_
      refine rx_iconst hE dX10_drawCarts_37 (v := 3) (by decide) ?_
      refine rx_call0 (rx_callV (av := [.int (nI (qdv (qdx x) (jR J'))), .int 3]) hE dX10_drawCarts_38 lk_X10_213 (x_addWaiting (X := xd X (nI (qdx (qdx x)))) xJ_4 hM (J := J') hX4 (k := (qdv (qdx x) (jR J'))) (by omega) 3) (xa_j xJ_4 hM) np_X2_addWaiting rfl rfl (by decide) (Nat.le_of_ble_eq_true rfl) rfl ?_)
      rintro v M' ⟨rfl, rfl⟩
      exact rx_vret hE hQ rfl dX10_drawCarts_41 ⟨rfl, by rw [show qdc p (jR J') (J', x) = (j_addw J' (qdv (qdx x) (jR J')) 3, qdx (qdx x)) from if_pos ⟨Nat.lt_of_not_le (fun q => c8 ((nI_leI (by omega) (by omega)).mpr q)), hR0⟩]⟩
set_option maxRecDepth 100000 in
set_option maxHeartbeats 1000000 in
theorem rx_mstep {n : Nat} {X : gX} {O : gO} {Q : gU} {G : gK} {S : gS} {L : gLg} (hR : xR n X O Q) (hM : 408 ≤ n) {E : gE} (hE : g_E 9 mX10_mornings E) {t : gJn → Nat → Int32 → Bool} {J1 : gJn} {x1 : Nat} (htd : xtf (x_r (xd X (nI x1)) 4 J1) Q ((x_r (xd X (nI x1)) 4 J1) 0 0 17) = t) {J' : gJn} (hok : jok J') {x p k N : Nat} (hx : x < 2147483648) (hp : p ≤ 100) (hk1 : k < N) (hN : N ≤ 60) (hqd : qdc p (jR J') (J', x) = (J1, x1)) (hok1 : jok J1) {a1 a4 a5 a6 a7 a8 a9 : Int32} (hk : ∀ G1, RX E mX10_mornings.2.2.1 0 0 101 [some (.ref 16), some (.int a1), some (.int (nI N)), some (.int (nI p)), some (.int a4), some (.int a5), some (.int a6), some (.int a7), some (.int a8), some (.int a9), some (.int (nI (k + 1)))] [] (xm n (x_r (xd X (nI x1)) 4 (jone t J1)) O Q G1 S L)) : RX E mX10_mornings.2.2.1 0 0 101 [some (.ref 16), some (.int a1), some (.int (nI N)), some (.int (nI p)), some (.int a4), some (.int a5), some (.int a6), some (.int a7), some (.int a8), some (.int a9), some (.int (nI k))] [] (xm n (x_r (xd X (nI x)) 4 J') O Q G S L) := by
  refine rx_iload hE dX10_mornings_101 rfl ?_
  refine rx_iload_n hE dX10_mornings_103 (i := 2) rfl rfl ?_
  refine rx_icmp_ge (tgt := 134) hE dX10_mornings_104 (by decide) (fun c104 => absurd c104 (nI_ge (a := k) (b := N) (by omega) (by omega))) (fun c104 => ?_)
  refine rx_aload_n hE dX10_mornings_107 (i := 0) rfl rfl ?_
  refine rx_iload_n hE dX10_mornings_108 (i := 3) rfl rfl ?_
  refine rx_call0 (rx_callV (av := [.int (nI p)]) hE dX10_mornings_109 lk_X10_322 (c_X10_drawCarts (X := x_r (xd X (nI x)) 4 J') hM (J' := J') rfl hok (x := x) (p := p) rfl hx hp) (xa_0 hM) np_X10_drawCarts rfl rfl (by decide) (Nat.le_of_ble_eq_true rfl) rfl ?_)
  rintro v M' ⟨rfl, rfl⟩
  refine rx_mem (M' := xm n (x_r (xd X (nI x1)) 4 J1) O Q G S L) (by rw [xd_n, hqd]) ?_
  refine rx_aload_n hE dX10_mornings_112 (i := 0) rfl rfl ?_
  refine rx_getf hE dX10_mornings_113 fl_X10_26_9 (xa_0 hM) rfl ?_
  refine rx_aload_n hE dX10_mornings_116 (i := 0) rfl rfl ?_
  refine rx_aload_n hE dX10_mornings_117 (i := 0) rfl rfl ?_
  refine rx_getf hE dX10_mornings_118 fl_X10_103_9 (xa_0 hM) rfl ?_
  refine rx_call0 (rx_callV (av := [.int _]) hE dX10_mornings_121 lk_X10_205 (c_X10_ruleOf (X := (x_r (xd X (nI x1)) 4 J1)) hM (hR.eq rfl) _) (xa_0 hM) np_X10_ruleOf rfl rfl (by decide) (Nat.le_of_ble_eq_true rfl) rfl ?_)
  rintro v M' ⟨u, rfl, hu, rfl⟩
  have hu : xT Q n u t := by rw [← htd]; exact hu
  refine rx_call0 (rx_callV (av := [u]) hE dX10_mornings_124 lk_X10_209 (x_oneBeat (X := (x_r (xd X (nI x1)) 4 J1)) xJ_4 hM (J := J1) rfl hok1 hu) (xa_j xJ_4 hM) np_X2_oneBeat rfl rfl (by decide) (Nat.le_of_ble_eq_true rfl) rfl ?_)
  rintro v M' ⟨rfl, G1, rfl⟩
  rw [x_rr]
  refine rx_pop hE dX10_mornings_127 rfl ?_
  refine rx_iinc_10 hE dX10_mornings_128 (v := 1) (by decide) (by decide) rfl ?_
  rw [nI_1]
  refine rx_goto (tgt := 101) hE dX10_mornings_131 (by decide) ?_
  exact hk G1
set_option maxRecDepth 100000 in
set_option maxHeartbeats 1000000 in
theorem c_X10_mornings {n : Nat} {X : gX} {O : gO} {Q : gU} {G : gK} {S : gS} {L : gLg} (hR : xR n X O Q) {J : gJn} (hJ : X 2 = J) (hk : xk J) {t : gJn → Nat → Int32 → Bool} (ht : xtf X Q (X 0 0 17) = t) {x0 : Nat} (hxf : X 0 0 18 = nI x0) (hx0 : x0 < 2147483648) (m0 n0 p0 what : Int32) : SX 9 0 0 mX10_mornings [.ref 16, .int m0, .int n0, .int p0, .int what] (xm n X O Q G S L) (fun v M' => v = some (.int (q_mornings t J x0 m0 n0 p0 what)) ∧ xD n X O Q S L M') := by
  refine SX.intro [some (.ref 16), some (.int m0), some (.int n0), some (.int p0), some (.int what), none, none, none, none, none, none] (by decide +kernel) (Nat.le_of_ble_eq_true rfl) rfl (fun E hE hQ => ?_)
  have hM := hR.M
  refine rx_iload_n hE dX10_mornings_0 (i := 1) rfl rfl ?_
  refine rx_iconst hE dX10_mornings_1 (v := 1) (by decide) ?_
  refine rx_bipush hE dX10_mornings_2 (v := 10) (by decide) ?_
  refine rx_call0 (rx_callS (av := [.int _, .int _, .int _]) hE dX10_mornings_4 lk_X10_143 (c_X10_within _ _ _) np_X10_within rfl rfl (by decide) (Nat.le_of_ble_eq_true rfl) rfl ?_)
  rintro v M' ⟨rfl, rfl⟩
  refine rx_if_eq (tgt := 44) hE dX10_mornings_7 (by decide) (fun c7 => ?_) (fun c7 => ?_)
  · refine rx_iconst hE dX10_mornings_44 (v := 0) (by decide) ?_
    refine rx_istore_5 hE dX10_mornings_45 (by decide) rfl ?_
    refine rx_aload_n hE dX10_mornings_47 (i := 0) rfl rfl ?_
    refine rx_getf hE dX10_mornings_48 fl_X10_19_9 (xa_0 hM) rfl ?_
    refine rx_call0 (rx_callV (av := []) hE dX10_mornings_51 lk_X10_198 (x_isTold (X := X) xJ_2 hM (J := J) hJ) (xa_j xJ_2 hM) np_X2_isTold rfl rfl (by decide) (Nat.le_of_ble_eq_true rfl) rfl ?_)
    rintro v M' ⟨rfl, rfl⟩
    refine rx_if_eq (tgt := 62) hE dX10_mornings_54 (by decide) (fun c54 => ?_) (fun c54 => ?_)
    · refine rx_ldcw hE dX10_mornings_62 k_X10_321 ?_
      exact rx_iret hE hQ rfl dX10_mornings_65 ⟨by simp [q_mornings, *], xD.refl n X O Q G S L⟩
    · refine rx_iload hE dX10_mornings_57 rfl ?_
      refine rx_if_ne (tgt := 66) hE dX10_mornings_59 (by decide) (fun c59 => absurd rfl c59) (fun c59 => ?_)
      refine rx_ldcw hE dX10_mornings_62 k_X10_321 ?_
      exact rx_iret hE hQ rfl dX10_mornings_65 ⟨by simp [q_mornings, *], xD.refl n X O Q G S L⟩
  · refine rx_iload_n hE dX10_mornings_10 (i := 2) rfl rfl ?_
    refine rx_iconst hE dX10_mornings_11 (v := 1) (by decide) ?_
    refine rx_bipush hE dX10_mornings_12 (v := 60) (by decide) ?_
    refine rx_call0 (rx_callS (av := [.int _, .int _, .int _]) hE dX10_mornings_14 lk_X10_143 (c_X10_within _ _ _) np_X10_within rfl rfl (by decide) (Nat.le_of_ble_eq_true rfl) rfl ?_)
    rintro v M' ⟨rfl, rfl⟩
    refine rx_if_eq (tgt := 44) hE dX10_mornings_17 (by decide) (fun c17 => ?_) (fun c17 => ?_)
    · refine rx_iconst hE dX10_mornings_44 (v := 0) (by decide) ?_
      refine rx_istore_5 hE dX10_mornings_45 (by decide) rfl ?_
      refine rx_aload_n hE dX10_mornings_47 (i := 0) rfl rfl ?_
      refine rx_getf hE dX10_mornings_48 fl_X10_19_9 (xa_0 hM) rfl ?_
      refine rx_call0 (rx_callV (av := []) hE dX10_mornings_51 lk_X10_198 (x_isTold (X := X) xJ_2 hM (J := J) hJ) (xa_j xJ_2 hM) np_X2_isTold rfl rfl (by decide) (Nat.le_of_ble_eq_true rfl) rfl ?_)
      rintro v M' ⟨rfl, rfl⟩
      refine rx_if_eq (tgt := 62) hE dX10_mornings_54 (by decide) (fun c54 => ?_) (fun c54 => ?_)
      · refine rx_ldcw hE dX10_mornings_62 k_X10_321 ?_
        exact rx_iret hE hQ rfl dX10_mornings_65 ⟨by simp [q_mornings, *], xD.refl n X O Q G S L⟩
      · refine rx_iload hE dX10_mornings_57 rfl ?_
        refine rx_if_ne (tgt := 66) hE dX10_mornings_59 (by decide) (fun c59 => absurd rfl c59) (fun c59 => ?_)
        refine rx_ldcw hE dX10_mornings_62 k_X10_321 ?_
        exact rx_iret hE hQ rfl dX10_mornings_65 ⟨by simp [q_mornings, *], xD.refl n X O Q G S L⟩
    · refine rx_iload_n hE dX10_mornings_20 (i := 3) rfl rfl ?_
      refine rx_iconst hE dX10_mornings_21 (v := 0) (by decide) ?_
      refine rx_bipush hE dX10_mornings_22 (v := 100) (by decide) ?_
      refine rx_call0 (rx_callS (av := [.int _, .int _, .int _]) hE dX10_mornings_24 lk_X10_143 (c_X10_within _ _ _) np_X10_within rfl rfl (by decide) (Nat.le_of_ble_eq_true rfl) rfl ?_)
      rintro v M' ⟨rfl, rfl⟩
      refine rx_if_eq (tgt := 44) hE dX10_mornings_27 (by decide) (fun c27 => ?_) (fun c27 => ?_)
      · refine rx_iconst hE dX10_mornings_44 (v := 0) (by decide) ?_
        refine rx_istore_5 hE dX10_mornings_45 (by decide) rfl ?_
        refine rx_aload_n hE dX10_mornings_47 (i := 0) rfl rfl ?_
        refine rx_getf hE dX10_mornings_48 fl_X10_19_9 (xa_0 hM) rfl ?_
        refine rx_call0 (rx_callV (av := []) hE dX10_mornings_51 lk_X10_198 (x_isTold (X := X) xJ_2 hM (J := J) hJ) (xa_j xJ_2 hM) np_X2_isTold rfl rfl (by decide) (Nat.le_of_ble_eq_true rfl) rfl ?_)
        rintro v M' ⟨rfl, rfl⟩
        refine rx_if_eq (tgt := 62) hE dX10_mornings_54 (by decide) (fun c54 => ?_) (fun c54 => ?_)
        · refine rx_ldcw hE dX10_mornings_62 k_X10_321 ?_
          exact rx_iret hE hQ rfl dX10_mornings_65 ⟨by simp [q_mornings, *], xD.refl n X O Q G S L⟩
        · refine rx_iload hE dX10_mornings_57 rfl ?_
          refine rx_if_ne (tgt := 66) hE dX10_mornings_59 (by decide) (fun c59 => absurd rfl c59) (fun c59 => ?_)
          refine rx_ldcw hE dX10_mornings_62 k_X10_321 ?_
          exact rx_iret hE hQ rfl dX10_mornings_65 ⟨by simp [q_mornings, *], xD.refl n X O Q G S L⟩
      · refine rx_iload hE dX10_mornings_30 rfl ?_
        refine rx_iconst hE dX10_mornings_32 (v := 0) (by decide) ?_
        refine rx_iconst hE dX10_mornings_33 (v := 1) (by decide) ?_
        refine rx_call0 (rx_callS (av := [.int _, .int _, .int _]) hE dX10_mornings_34 lk_X10_143 (c_X10_within _ _ _) np_X10_within rfl rfl (by decide) (Nat.le_of_ble_eq_true rfl) rfl ?_)
        rintro v M' ⟨rfl, rfl⟩
        refine rx_if_eq (tgt := 44) hE dX10_mornings_37 (by decide) (fun c37 => ?_) (fun c37 => ?_)
        · refine rx_iconst hE dX10_mornings_44 (v := 0) (by decide) ?_
          refine rx_istore_5 hE dX10_mornings_45 (by decide) rfl ?_
          refine rx_aload_n hE dX10_mornings_47 (i := 0) rfl rfl ?_
          refine rx_getf hE dX10_mornings_48 fl_X10_19_9 (xa_0 hM) rfl ?_
          refine rx_call0 (rx_callV (av := []) hE dX10_mornings_51 lk_X10_198 (x_isTold (X := X) xJ_2 hM (J := J) hJ) (xa_j xJ_2 hM) np_X2_isTold rfl rfl (by decide) (Nat.le_of_ble_eq_true rfl) rfl ?_)
          rintro v M' ⟨rfl, rfl⟩
          refine rx_if_eq (tgt := 62) hE dX10_mornings_54 (by decide) (fun c54 => ?_) (fun c54 => ?_)
          · refine rx_ldcw hE dX10_mornings_62 k_X10_321 ?_
            exact rx_iret hE hQ rfl dX10_mornings_65 ⟨by simp [q_mornings, *], xD.refl n X O Q G S L⟩
          · refine rx_iload hE dX10_mornings_57 rfl ?_
            refine rx_if_ne (tgt := 66) hE dX10_mornings_59 (by decide) (fun c59 => absurd rfl c59) (fun c59 => ?_)
            refine rx_ldcw hE dX10_mornings_62 k_X10_321 ?_
            exact rx_iret hE hQ rfl dX10_mornings_65 ⟨by simp [q_mornings, *], xD.refl n X O Q G S L⟩
        · refine rx_iconst hE dX10_mornings_40 (v := 1) (by decide) ?_
          refine rx_goto (tgt := 45) hE dX10_mornings_41 (by decide) ?_
          refine rx_istore_5 hE dX10_mornings_45 (by decide) rfl ?_
          refine rx_aload_n hE dX10_mornings_47 (i := 0) rfl rfl ?_
          refine rx_getf hE dX10_mornings_48 fl_X10_19_9 (xa_0 hM) rfl ?_
          refine rx_call0 (rx_callV (av := []) hE dX10_mornings_51 lk_X10_198 (x_isTold (X := X) xJ_2 hM (J := J) hJ) (xa_j xJ_2 hM) np_X2_isTold rfl rfl (by decide) (Nat.le_of_ble_eq_true rfl) rfl ?_)
          rintro v M' ⟨rfl, rfl⟩
          refine rx_if_eq (tgt := 62) hE dX10_mornings_54 (by decide) (fun c54 => ?_) (fun c54 => ?_)
          · refine rx_ldcw hE dX10_mornings_62 k_X10_321 ?_
            exact rx_iret hE hQ rfl dX10_mornings_65 ⟨by simp [q_mornings, *], xD.refl n X O Q G S L⟩
          · refine rx_iload hE dX10_mornings_57 rfl ?_
            refine rx_if_ne (tgt := 66) hE dX10_mornings_59 (by decide) (fun c59 => ?_) (fun c59 => absurd c59 (by decide))
            have hg : ¬ (j_isTold J = 0 ∨ q_in m0 1 10 = 0 ∨ q_in n0 1 60 = 0 ∨ q_in p0 0 100 = 0 ∨ q_in what 0 1 = 0) := by simp [*]
            obtain ⟨hf, hT9⟩ := hk.told c54
            obtain ⟨m, hm0, hm, rfl⟩ := q_in_of (a := 1) (b := 10) (by decide) c7
            obtain ⟨N, hN0, hN, rfl⟩ := q_in_of (a := 1) (b := 60) (by decide) c17
            obtain ⟨p, hp0, hp, rfl⟩ := q_in_of (a := 0) (b := 100) (by decide) c27
            have hr6 := hf.1.2.1
            have hv : q_mornings t J x0 (nI m) (nI N) (nI p) what = if what = 0 then (qmoM t p (jR J) N J m (0, 0, x0)).1 else (qmoM t p (jR J) N J m (0, 0, x0)).2.1 := by unfold q_mornings; rw [if_neg hg, nI_clamp (n := m) (by omega), nI_clamp (n := N) (by omega), nI_clamp (n := p) (by omega)]
            have outer : ∀ (m' y : Nat) (G' : gK) (J' : gJn) (s : Int32 × Int32 × Nat) (l10 : Option Value), y + m' = m → s.2.2 < 2147483648 → qmoM t p (jR J) N J m' s = qmoM t p (jR J) N J m (0, 0, x0) → RX E mX10_mornings.2.2.1 0 0 81 [some (.ref 16), some (.int (nI m)), some (.int (nI N)), some (.int (nI p)), some (.int what), some (.int 1), some (.int (X 0 0 18)), some (.int s.1), some (.int s.2.1), some (.int (nI y)), l10] [] (xm n (x_r (xd X (nI s.2.2)) 4 J') O Q G' S L) := by
              intro m'
              induction m' with
              | zero =>
                intro y G' J' s l10 hk2 hx hF
                refine rx_iload hE dX10_mornings_81 rfl ?_
                refine rx_iload_n hE dX10_mornings_83 (i := 1) rfl rfl ?_
                refine rx_icmp_ge (tgt := 194) hE dX10_mornings_84 (by decide) (fun c84 => ?_) (fun c84 => absurd (show nI m ≤ nI y from nI_le (by omega) (by omega)) c84)
                refine rx_aload_n hE dX10_mornings_194 (i := 0) rfl rfl ?_
                refine rx_iload hE dX10_mornings_195 rfl ?_
                refine rx_put hE dX10_mornings_197 fl_X10_106_9 fw_9_18 (xa_0 hM) (fun _ => rfl) (fun _ => rfl) (Nat.le_of_ble_eq_true rfl) ?_
                refine rx_mem (M' := xm n (x_r X 4 J') O Q G' S L) (xw_0_f18.trans (congrArg (fun Z => xm n Z O Q G' S L) (xd_b X J' _))) ?_
                refine rx_iload hE dX10_mornings_200 rfl ?_
                refine rx_if_ne (tgt := 210) hE dX10_mornings_202 (by decide) (fun c202 => ?_) (fun c202 => ?_)
                · refine rx_iload hE dX10_mornings_210 rfl ?_
                  exact rx_iret hE hQ rfl dX10_mornings_212 ⟨by rw [hv, ← hF]; show _ = some (Value.int (if what = 0 then s.1 else s.2.1)); rw [if_neg c202], xD.t n X O Q G' S L _⟩
                · refine rx_iload hE dX10_mornings_205 rfl ?_
                  refine rx_goto (tgt := 212) hE dX10_mornings_207 (by decide) ?_
                  exact rx_iret hE hQ rfl dX10_mornings_212 ⟨by rw [hv, ← hF]; show _ = some (Value.int (if what = 0 then s.1 else s.2.1)); rw [if_pos c202], xD.t n X O Q G' S L _⟩
              | succ m' ih =>
                intro y G' J' s l10 hk2 hx hF
                have inner : ∀ (n' k : Nat) (G' : gK) (J' : gJn) (x : Nat), k + n' = N → jT J' = jT J + k → x < 2147483648 → jst J' J → jfit J' → qmoB t p (jR J) n' (J', x) = qmoB t p (jR J) N (J, s.2.2) → RX E mX10_mornings.2.2.1 0 0 101 [some (.ref 16), some (.int (nI m)), some (.int (nI N)), some (.int (nI p)), some (.int what), some (.int 1), some (.int (X 0 0 18)), some (.int s.1), some (.int s.2.1), some (.int (nI y)), some (.int (nI k))] [] (xm n (x_r (xd X (nI x)) 4 J') O Q G' S L) := by
                  intro n'
                  induction n' with
                  | zero =>
                    intro k G' J' x hk3 hT2 hx hs hf' hIn
                    refine rx_iload hE dX10_mornings_101 rfl ?_
                    refine rx_iload_n hE dX10_mornings_103 (i := 2) rfl rfl ?_
                    refine rx_icmp_ge (tgt := 134) hE dX10_mornings_104 (by decide) (fun c104 => ?_) (fun c104 => absurd (show nI N ≤ nI k from nI_le (by omega) (by omega)) c104)
                    refine rx_iload hE dX10_mornings_134 rfl ?_
                    refine rx_aload_n hE dX10_mornings_136 (i := 0) rfl rfl ?_
                    refine rx_getf hE dX10_mornings_137 fl_X10_26_9 (xa_0 hM) rfl ?_
                    refine rx_aload_n hE dX10_mornings_140 (i := 0) rfl rfl ?_
                    refine rx_getf hE dX10_mornings_141 fl_X10_26_9 (xa_0 hM) rfl ?_
                    refine rx_getfN hE dX10_mornings_144 fl_X10_163_2 (xa_j xJ_4 hM) rfl ?_
                    refine rx_call0 (rx_callV (av := [.ref _]) hE dX10_mornings_147 lk_X10_191 (x_sumOf (X := (x_r (xd X (nI x)) 4 J')) xJ_4 hM (J := J') rfl hf'.1 (f := 4) (by decide)) (xa_j xJ_4 hM) np_X2_sumOf rfl rfl (by decide) (Nat.le_of_ble_eq_true rfl) rfl ?_)
                    rintro v M' ⟨rfl, rfl⟩
                    rw [show jR J' = jR J from hs.R]
                    refine rx_aload_n hE dX10_mornings_150 (i := 0) rfl rfl ?_
                    refine rx_getf hE dX10_mornings_151 fl_X10_19_9 (xa_0 hM) rfl ?_
                    refine rx_aload_n hE dX10_mornings_154 (i := 0) rfl rfl ?_
                    refine rx_getf hE dX10_mornings_155 fl_X10_19_9 (xa_0 hM) rfl ?_
                    refine rx_getfN hE dX10_mornings_158 fl_X10_163_2 (xa_j xJ_2 hM) rfl ?_
                    refine rx_call0 (rx_callV (av := [.ref _]) hE dX10_mornings_161 lk_X10_191 (x_sumOf (X := (x_r (xd X (nI x)) 4 J')) xJ_2 hM (J := J) hJ hf.1 (f := 4) (by decide)) (xa_j xJ_2 hM) np_X2_sumOf rfl rfl (by decide) (Nat.le_of_ble_eq_true rfl) rfl ?_)
                    rintro v M' ⟨rfl, rfl⟩
                    refine rx_isub hE dX10_mornings_164 ?_
                    refine rx_iadd hE dX10_mornings_165 ?_
                    refine rx_istore_7 hE dX10_mornings_166 (by decide) rfl ?_
                    refine rx_iload hE dX10_mornings_168 rfl ?_
                    refine rx_aload_n hE dX10_mornings_170 (i := 0) rfl rfl ?_
                    refine rx_getf hE dX10_mornings_171 fl_X10_26_9 (xa_0 hM) rfl ?_
                    refine rx_getfN hE dX10_mornings_174 fl_X10_195_2 (xa_j xJ_4 hM) rfl ?_
                    refine rx_int _ (J' 9 4) rfl ?_
                    refine rx_aload_n hE dX10_mornings_177 (i := 0) rfl rfl ?_
                    refine rx_getf hE dX10_mornings_178 fl_X10_19_9 (xa_0 hM) rfl ?_
                    refine rx_getfN hE dX10_mornings_181 fl_X10_195_2 (xa_j xJ_2 hM) rfl ?_
                    refine rx_int _ (J 9 4) (congrFun (congrFun hJ 9) 4) ?_
                    refine rx_isub hE dX10_mornings_184 ?_
                    refine rx_iadd hE dX10_mornings_185 ?_
                    refine rx_istore_8 hE dX10_mornings_186 (by decide) rfl ?_
                    refine rx_iinc_9 hE dX10_mornings_188 (v := 1) (by decide) (by decide) rfl ?_
                    rw [nI_1]
                    refine rx_goto (tgt := 81) hE dX10_mornings_191 (by decide) ?_
                    exact ih (y + 1) G' J' (s.1 + (jsum (J' 4) (jR J) - jsum (J 4) (jR J)), s.2.1 + (J' 9 4 - J 9 4), x) _ (by omega) hx (by rw [← hF]; show _ = qmoM t p (jR J) N J m' (s.1 + (jsum ((qmoB t p (jR J) N (J, s.2.2)).1 4) (jR J) - jsum (J 4) (jR J)), s.2.1 + ((qmoB t p (jR J) N (J, s.2.2)).1 9 4 - J 9 4), (qmoB t p (jR J) N (J, s.2.2)).2); rw [← show (J', x) = qmoB t p (jR J) N (J, s.2.2) from hIn])
                  | succ n' ihn =>
                    intro k G' J' x hk3 hT2 hx hs hf' hIn
                    rcases hqd : qdc p (jR J) (J', x) with ⟨J1, x1⟩
                    obtain ⟨h1, h2, h3, h4⟩ := qdc_ok hf' hr6 hqd
                    refine rx_mstep hR hM hE (xd_tf ht (nI x1) J1) hf'.1 hx hp (by omega) hN (by rw [show jR J' = jR J from hs.R]; exact hqd) h1.1 (fun G1 => ?_)
                    exact ihn (k + 1) G1 (jone t J1) x1 (by omega) (by rw [jone_T t h1.1, h3]; omega) h4 ((hs.trans h2).trans (jst.one t J1)) (h1.one t (by rw [h3]; omega)) (by rw [← hIn, qmoB_s, qmo1_qdc, hqd])
                refine rx_iload hE dX10_mornings_81 rfl ?_
                refine rx_iload_n hE dX10_mornings_83 (i := 1) rfl rfl ?_
                refine rx_icmp_ge (tgt := 194) hE dX10_mornings_84 (by decide) (fun c84 => absurd c84 (nI_ge (a := y) (b := m) (by omega) (by omega))) (fun c84 => ?_)
                refine rx_aload_n hE dX10_mornings_87 (i := 0) rfl rfl ?_
                refine rx_getf hE dX10_mornings_88 fl_X10_26_9 (xa_0 hM) rfl ?_
                refine rx_aload_n hE dX10_mornings_91 (i := 0) rfl rfl ?_
                refine rx_getf hE dX10_mornings_92 fl_X10_19_9 (xa_0 hM) rfl ?_
                refine rx_call0 (rx_callV (av := [.ref _]) hE dX10_mornings_95 lk_X10_124 (x_copyFrom (X := (x_r (xd X (nI s.2.2)) 4 J')) xJ_4 xJ_2 (by decide) hM (J := J) hJ) (xa_j xJ_4 hM) np_X2_copyFrom rfl rfl (by decide) (Nat.le_of_ble_eq_true rfl) rfl ?_)
                rintro v M' ⟨rfl, rfl⟩
                rw [x_rr]
                refine rx_iconst hE dX10_mornings_98 (v := 0) (by decide) ?_
                refine rx_istore_10 hE dX10_mornings_99 (by decide) rfl ?_
                exact inner N 0 G' J s.2.2 (by omega) (by omega) hx (jst.refl J) hf rfl
            refine rx_aload_n hE dX10_mornings_66 (i := 0) rfl rfl ?_
            refine rx_getf hE dX10_mornings_67 fl_X10_106_9 (xa_0 hM) rfl ?_
            refine rx_istore_6 hE dX10_mornings_70 (by decide) rfl ?_
            refine rx_iconst hE dX10_mornings_72 (v := 0) (by decide) ?_
            refine rx_istore_7 hE dX10_mornings_73 (by decide) rfl ?_
            refine rx_iconst hE dX10_mornings_75 (v := 0) (by decide) ?_
            refine rx_istore_8 hE dX10_mornings_76 (by decide) rfl ?_
            refine rx_iconst hE dX10_mornings_78 (v := 0) (by decide) ?_
            refine rx_istore_9 hE dX10_mornings_79 (by decide) rfl ?_
            refine rx_mem (M' := xm n (x_r (xd X (nI x0)) 4 (X 4)) O Q G S L) (by rw [xd_4 rfl, ← hxf]; unfold xd; rw [j_f_id, x_r_id]) ?_
            exact outer m 0 G (X 4) (0, 0, x0) _ (by omega) hx0 rfl
