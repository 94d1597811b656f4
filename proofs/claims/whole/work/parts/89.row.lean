/-! ===== the search, and row ===== -/
theorem rsF_2 {e m T : Nat} {b : Nat → Bool} {s : Nat × Nat} (h : s.2 ≤ 99999) : ∀ k, (rsF e m T b s k).2 ≤ 99999
  | 0 => h
  | k + 1 => by show min 99999 _ ≤ 99999; exact Nat.min_le_left _ _
theorem rlb_le {J : gJn} {R : Nat} {e : Nat → Nat} {m T : Nat} {w v : Nat → Nat} (h : rok J R e m T w v) (hR : R ≤ 6) (N k b : Nat) : rlb e w v m T R N k b ≤ 599994 :=
  Nat.le_trans (nsum_le _ R (fun i hi => rsF_2 (h.2.2.2.2.2.2 i hi).2.2.2.2.2.1 N)) (Nat.le_trans (Nat.mul_le_mul_right 99999 hR) (Nat.le_of_ble_eq_true rfl))
theorem jfit.rok {J : gJn} (h : jfit J) (hT : jT J ≤ 999) (h5 : J 9 5 = -1) : ∃ (e w v : Nat → Nat) (m : Nat), rok J (jR J) e m (jT J) w v := by
  obtain ⟨f, hf⟩ := jw_fun (b := 999) (R := 6) (by decide) h.2.2.1
  obtain ⟨g, hg⟩ := jw_fun (b := 99999) (R := 6) (by decide) h.2.2.2.1
  obtain ⟨m, m0, m9, em⟩ := h.2.1
  have hr6 := h.1.2.1
  refine ⟨fun i => (J 1 i).toNatClampNeg, f, g, m, h5, em, h.1.2.2.2.2.2.2.1, m0, m9, by omega, fun r hr => ?_⟩
  obtain ⟨e, e0, e12, ee⟩ := h.2.2.2.2.1 r hr
  show 0 < (J 1 r).toNatClampNeg ∧ (J 1 r).toNatClampNeg ≤ 12 ∧ J 1 r = nI (J 1 r).toNatClampNeg ∧ _
  rw [ee, nI_clamp (by omega)]
  exact ⟨e0, e12, rfl, (hf r (by omega)).1, (hf r (by omega)).2, (hg r (by omega)).1, (hg r (by omega)).2⟩
theorem foN_end (f : Nat → g3 → g3) : ∀ (n x : Nat) (s : g3), foN f x (n + 1) s = f (x + n) (foN f x n s)
  | 0, x, s => rfl
  | n + 1, x, s => by
    show foN f (x + 1) (n + 1) (f x s) = f (x + (n + 1)) (foN f (x + 1) n (f x s))
    rw [foN_end f n (x + 1), show x + 1 + n = x + (n + 1) by omega]
def xse (J : gJn) (N : Nat) (T1 : Nat → Nat → Int32) (ps : Nat → Nat) (c x : Nat) : Prop := T1 0 7 = nI (jR J) ∧ T1 0 8 = nI N ∧ T1 0 9 = J 9 4 ∧ T1 0 10 = 599995 ∧ T1 0 11 = 0 ∧ T1 0 6 = nI c ∧ c ≤ x ∧ (∀ i, i < c → ps i < x ∧ ¬ jpcF J (nI (ps i)) 0 (jR J) = 0 ∧ T1 15 i = nI (ps i) ∧ T1 16 i = jso (jP J) (nI (ps i)) (jR J)) ∧ ∀ (f : Nat → g3 → g3) (s : g3), (∀ x s, jpcF J (nI x) 0 (jR J) = 0 → f x s = s) → foN f 0 x s = foN (fun i => f (ps i)) 0 c s
theorem xse.no {J : gJn} {N : Nat} {T1 : Nat → Nat → Int32} {ps : Nat → Nat} {c x : Nat} (h : xse J N T1 ps c x) (hx : jpcF J (nI x) 0 (jR J) = 0) : xse J N T1 ps c (x + 1) := by
  obtain ⟨h1, h2, h3, h4, h5, h6, h7, h8, h9⟩ := h
  refine ⟨h1, h2, h3, h4, h5, h6, by omega, fun i hi => ⟨by have := (h8 i hi).1; omega, (h8 i hi).2⟩, fun f s hf => ?_⟩
  rw [foN_end, Nat.zero_add, hf x _ hx]
  exact h9 f s hf
theorem xse.yes {J : gJn} {N : Nat} {T1 : Nat → Nat → Int32} {ps : Nat → Nat} {c x : Nat} (h : xse J N T1 ps c x) (hx : ¬ jpcF J (nI x) 0 (jR J) = 0) : xse J N (j_f (j_s (j_s T1 15 (upd (T1 15) c (nI x))) 16 (upd (T1 16) c (jso (jP J) (nI x) (jR J)))) 6 (nI (c + 1))) (fun i => if i = c then x else ps i) (c + 1) (x + 1) := by
  obtain ⟨h1, h2, h3, h4, h5, h6, h7, h8, h9⟩ := h
  refine ⟨h1, h2, h3, h4, h5, rfl, by omega, fun i hi => ?_, fun f s hf => ?_⟩
  · show (if i = c then x else ps i) < x + 1 ∧ ¬ jpcF J (nI (if i = c then x else ps i)) 0 (jR J) = 0 ∧ upd (T1 15) c (nI x) i = nI (if i = c then x else ps i) ∧ upd (T1 16) c (jso (jP J) (nI x) (jR J)) i = jso (jP J) (nI (if i = c then x else ps i)) (jR J)
    by_cases e : i = c
    · rw [if_pos e, e, upd_eq, upd_eq]
      exact ⟨by omega, hx, rfl, rfl⟩
    · rw [if_neg e, upd_ne e, upd_ne e]
      obtain ⟨a1, a2⟩ := h8 i (by omega)
      exact ⟨by omega, a2⟩
  · rw [foN_end, foN_end, Nat.zero_add, Nat.zero_add, h9 f s hf]
    show f x _ = f (if c = c then x else ps c) _
    rw [if_pos rfl]
    congr 1
    refine foN_ag c 0 s (fun i s' _ hi => ?_)
    show f (ps i) s' = f (if i = c then x else ps i) s'
    rw [if_neg (by omega)]
theorem qitN_pos {J : gJn} {N : Nat} : ∀ (n c : Nat) (s : g3), c + n ≤ 2 ^ 18 → 0 ≤ s.1 → 0 ≤ (qitN (qro1 J N) c n s).1
  | 0, _, _, _, h => h
  | n + 1, c, s, hc, h => by
    rw [qitN_s]
    refine qitN_pos n (c + 1) _ (by omega) ?_
    unfold qro1
    split
    · exact h
    · split
      · exact h
      · exact nI_pos' (by omega)
theorem qro_pos {J : gJn} {N : Nat} (hR : jR J ≤ 6) (hN : N ≤ 3) : 0 ≤ (qro J N).1 := by
  have hp : 2 ^ (N * jR J) ≤ 2 ^ 18 := Nat.pow_le_pow_right (by decide) (Nat.le_trans (Nat.mul_le_mul hN hR) (by decide))
  have h0 : 0 < 2 ^ (N * jR J) := Nat.pow_pos (by decide)
  unfold qro
  obtain ⟨q, hq⟩ : ∃ q, 2 ^ (N * jR J) = q + 1 := ⟨2 ^ (N * jR J) - 1, by omega⟩
  rw [hq, qitN_s]
  refine qitN_pos q 1 _ (by omega) ?_
  unfold qro1
  rw [qfpF_0 J hR (Nat.pow_pos (by decide)), if_neg (by decide), if_neg (fun z => absurd z.1 (by decide))]
  exact nI_pos' (by decide)
set_option maxRecDepth 100000 in
set_option maxHeartbeats 1000000 in
theorem c_X5_search {n : Nat} {X : gX} {O : gO} {Q : gU} {G : gK} {S : gS} {L : gLg} (hM : 408 ≤ n) {J : gJn} (hJ : X 2 = J) (hf : jfit J) (hT9 : jT J ≤ 999) (hsh : J 9 5 = -1) {N : Nat} (hN3 : N ≤ 3) : SX 7 0 0 mX5_search [.ref 260, .ref 19, .ref 39, .int (nI N)] (xm n X O Q G S L) (fun v M' => v = none ∧ ∃ (T' : Nat → Nat → Int32) (J' : gJn), M' = xm n (x_r (x_r X 31 T') 4 J') O Q G S L ∧ xrel (2 ^ jR J) N (qro J N) T') := by
  refine SX.intro [some (.ref 260), some (.ref 19), some (.ref 39), some (.int (nI N)), none] (by decide +kernel) (Nat.le_of_ble_eq_true rfl) rfl (fun E hE hQ => ?_)
  have hr6 := hf.1.2.1
  have hp64 := pow6' hr6
  have h2N : 2 ^ N ≤ 8 := Nat.pow_le_pow_right (by decide) hN3
  obtain ⟨e, w, vd, m, hok⟩ := hf.rok hT9 hsh
  have hB : (2 ^ jR J) ^ N < 2 ^ 31 := Nat.lt_of_le_of_lt (Nat.le_trans (Nat.pow_le_pow_left hp64 N) (Nat.pow_le_pow_right (by decide) hN3)) (Nat.le_of_ble_eq_true rfl)
  have loopb : ∀ (T1 : Nat → Nat → Int32) (ps : Nat → Nat) (c : Nat), xse J N T1 ps c (2 ^ jR J) → RX E mX5_search.2.2.1 0 0 105 [some (.ref 260), some (.ref 19), some (.ref 39), some (.int (nI N)), some (.int (nI 0))] [] (xm n (x_r X 31 T1) O Q G S L) := by
    intro T1 ps c hx
    have loop2 : ∀ (m2 x : Nat) (T1 : Nat → Nat → Int32) (J' : gJn), x + m2 = 2 ^ N → xse J N T1 ps c (2 ^ jR J) → (∀ r, r < jR J → ∀ c, c < x → T1 (2 + r) c = nI (rsF (e r) m (jT J) c.testBit (w r, vd r) N).2 ∧ T1 (9 + r) c = nI (sdN (fun i => decide (0 < rar (e r) (jT J + i) (rsF (e r) m (jT J) c.testBit (w r, vd r) i).1)) N)) → RX E mX5_search.2.2.1 0 0 105 [some (.ref 260), some (.ref 19), some (.ref 39), some (.int (nI N)), some (.int (nI x))] [] (xm n (x_r (x_r X 31 T1) 4 J') O Q G S L) := by
      intro m2
      induction m2 with
      | zero =>
        intro x T1 J' hk5 hx ht
        have hc64 := hx.2.2.2.2.2.2.1
        have hxrs : xrs T1 e w vd m (jT J) (jR J) N c ps (jP J) (J 9 4) := ⟨hx.1, hx.2.1, hx.2.2.2.2.2.1, hx.2.2.1, hr6, hN3, by omega, fun i hi => ⟨(hx.2.2.2.2.2.2.2.1 i hi).1, (hx.2.2.2.2.2.2.2.1 i hi).2.2⟩, fun r hr c hc => ht r hr c (by omega)⟩
        refine rx_iload hE dX5_search_105 rfl ?_
        refine rx_iconst hE dX5_search_107 (v := 1) (by decide) ?_
        refine rx_aload_n hE dX5_search_108 (i := 0) rfl rfl ?_
        refine rx_getf hE dX5_search_109 fl_X5_41_5 (xa_31 hM) rfl ?_
        refine rx_int _ (nI N) hx.2.1 ?_
        refine rx_ishl hE dX5_search_112 ?_
        refine rx_int _ (nI (2 ^ N)) (shl1 _ (by omega)) ?_
        refine rx_icmp_ge (tgt := 134) hE dX5_search_113 (by decide) (fun c113 => ?_) (fun c113 => absurd (show nI (2 ^ N) ≤ nI x from nI_le (by omega) (by omega)) c113)
        refine rx_aload_n hE dX5_search_134 (i := 0) rfl rfl ?_
        refine rx_iconst hE dX5_search_135 (v := 0) (by decide) ?_
        refine rx_call0 (rx_callV (av := [.int (nI 0)]) hE dX5_search_136 lk_X5_74 (c_X5_choose (J := J) (e := e) (w := w) (vd := vd) (m := m) (T0 := jT J) (R := jR J) (N := N) (C := c) (ps := ps) (pn := jP J) (h0 := J 9 4) hM (fun f s hf => hx.2.2.2.2.2.2.2.2 f s hf) (fun i hi => (hx.2.2.2.2.2.2.2.1 i hi).2.1) (rlb_le hok hr6 N) hB N 0 0 (x_r (x_r X 31 T1) 4 J') (fun _ => 0) (-1, 0, 0) (by omega) hxrs (fun i hi => absurd hi (Nat.not_lt_zero i)) (fun i hi => absurd hi (Nat.not_lt_zero i)) (by rw [Nat.pow_zero]; decide) (Or.inl ⟨rfl, hx.2.2.2.1, hx.2.2.2.2.1⟩)) (xa_31 hM) np_X5_choose rfl rfl (by omega) (Nat.le_of_ble_eq_true rfl) rfl ?_)
        rintro v M' ⟨rfl, T3, rfl, _, _, hr3⟩
        rw [x31_4]
        exact rx_vret hE hQ rfl dX5_search_139 ⟨rfl, T3, J', rfl, by rw [rch_ro hok hr6 rfl hN3 (by omega)] at hr3; exact hr3⟩
      | succ m2 ihm2 =>
        intro x T1 J' hk5 hx ht
        have hc64 := hx.2.2.2.2.2.2.1
        refine rx_iload hE dX5_search_105 rfl ?_
        refine rx_iconst hE dX5_search_107 (v := 1) (by decide) ?_
        refine rx_aload_n hE dX5_search_108 (i := 0) rfl rfl ?_
        refine rx_getf hE dX5_search_109 fl_X5_41_5 (xa_31 hM) rfl ?_
        refine rx_int _ (nI N) hx.2.1 ?_
        refine rx_ishl hE dX5_search_112 ?_
        refine rx_int _ (nI (2 ^ N)) (shl1 _ (by omega)) ?_
        refine rx_icmp_ge (tgt := 134) hE dX5_search_113 (by decide) (fun c113 => absurd c113 (nI_ge (a := x) (b := 2 ^ N) (by omega) (by omega))) (fun c113 => ?_)
        refine rx_aload_n hE dX5_search_116 (i := 2) rfl rfl ?_
        refine rx_aload_n hE dX5_search_117 (i := 1) rfl rfl ?_
        refine rx_call0 (rx_callV (av := [.ref _]) hE dX5_search_118 lk_X5_66 (x_copyFrom (X := (x_r (x_r X 31 T1) 4 J')) xJ_4 xJ_2 (by decide) hM (J := J) hJ) (xa_j xJ_4 hM) np_X2_copyFrom rfl rfl (by decide) (Nat.le_of_ble_eq_true rfl) rfl ?_)
        rintro v M' ⟨rfl, rfl⟩
        rw [x_rr]
        refine rx_aload_n hE dX5_search_121 (i := 0) rfl rfl ?_
        refine rx_aload_n hE dX5_search_122 (i := 2) rfl rfl ?_
        refine rx_iload hE dX5_search_123 rfl ?_
        refine rx_call0 (rx_callV (av := [.ref 39, .int (nI x)]) hE dX5_search_125 lk_X5_70 (c_X5_tryChoice (X := (x_r (x_r X 31 T1) 4 J)) hM (J := J) rfl hf hT9 hok rfl hr6 hN3 hx.1 hx.2.1 (c := x) (by omega)) (xa_31 hM) np_X5_tryChoice rfl rfl (by decide) (Nat.le_of_ble_eq_true rfl) rfl ?_)
        rintro v M' ⟨rfl, T2, J2, rfl, g1, g2, g3⟩
        rw [x31_4, x_rr]
        refine rx_iinc_4 hE dX5_search_128 (v := 1) (by decide) (by decide) rfl ?_
        rw [nI_1]
        refine rx_goto (tgt := 105) hE dX5_search_131 (by decide) ?_
        refine ihm2 (x + 1) T2 J2 (by omega) ?_ (fun r hr c' hc' => ?_)
        · obtain ⟨h1, h2, h3, h4, h5, h6, h7, h8, h9⟩ := hx
          have e0 : T2 0 = T1 0 := g1 0 (by omega) (by omega)
          exact ⟨by rw [e0]; exact h1, by rw [e0]; exact h2, by rw [e0]; exact h3, by rw [e0]; exact h4, by rw [e0]; exact h5, by rw [e0]; exact h6, h7, fun i hi => by
            rw [show T2 15 = T1 15 from g1 15 (by omega) (by omega), show T2 16 = T1 16 from g1 16 (by omega) (by omega)]
            exact h8 i hi, h9⟩
        · by_cases hcx : c' = x
          · rw [hcx]
            exact g3 r hr
          · obtain ⟨a1, a2⟩ := g2 r c' hr hcx
            rw [a1, a2]
            exact ht r hr c' (by omega)
    refine rx_mem (M' := xm n (x_r (x_r X 31 T1) 4 (X 4)) O Q G S L) (by rw [show X 4 = (x_r X 31 T1) 4 from rfl, x_r_id]) ?_
    exact loop2 (2 ^ N) 0 T1 (X 4) (by omega) hx (fun r hr c' hc' => absurd hc' (Nat.not_lt_zero c'))
  have loopa : ∀ (m1 x : Nat) (T1 : Nat → Nat → Int32) (ps : Nat → Nat) (c : Nat), x + m1 = 2 ^ jR J → xse J N T1 ps c x → RX E mX5_search.2.2.1 0 0 40 [some (.ref 260), some (.ref 19), some (.ref 39), some (.int (nI N)), some (.int (nI x))] [] (xm n (x_r X 31 T1) O Q G S L) := by
    intro m1
    induction m1 with
    | zero =>
      intro x T1 ps c hk2 hx
      have hcx := hx.2.2.2.2.2.2.1
      refine rx_iload hE dX5_search_40 rfl ?_
      refine rx_iconst hE dX5_search_42 (v := 1) (by decide) ?_
      refine rx_aload_n hE dX5_search_43 (i := 0) rfl rfl ?_
      refine rx_getf hE dX5_search_44 fl_X5_38_5 (xa_31 hM) rfl ?_
      refine rx_int _ (nI (jR J)) hx.1 ?_
      refine rx_ishl hE dX5_search_47 ?_
      refine rx_int _ (nI (2 ^ jR J)) (shl1 _ hr6) ?_
      refine rx_icmp_ge (tgt := 102) hE dX5_search_48 (by decide) (fun c48 => ?_) (fun c48 => absurd (show nI (2 ^ jR J) ≤ nI x from nI_le (by omega) (by omega)) c48)
      refine rx_iconst hE dX5_search_102 (v := 0) (by decide) ?_
      refine rx_istore_4 hE dX5_search_103 (by decide) rfl ?_
      have hxe : x = 2 ^ jR J := by omega
      rw [hxe] at hx
      exact loopb T1 ps c hx
    | succ m1 ihm1 =>
      intro x T1 ps c hk2 hx
      have hcx := hx.2.2.2.2.2.2.1
      refine rx_iload hE dX5_search_40 rfl ?_
      refine rx_iconst hE dX5_search_42 (v := 1) (by decide) ?_
      refine rx_aload_n hE dX5_search_43 (i := 0) rfl rfl ?_
      refine rx_getf hE dX5_search_44 fl_X5_38_5 (xa_31 hM) rfl ?_
      refine rx_int _ (nI (jR J)) hx.1 ?_
      refine rx_ishl hE dX5_search_47 ?_
      refine rx_int _ (nI (2 ^ jR J)) (shl1 _ hr6) ?_
      refine rx_icmp_ge (tgt := 102) hE dX5_search_48 (by decide) (fun c48 => absurd c48 (nI_ge (a := x) (b := 2 ^ jR J) (by omega) (by omega))) (fun c48 => ?_)
      refine rx_aload_n hE dX5_search_51 (i := 1) rfl rfl ?_
      refine rx_iload hE dX5_search_52 rfl ?_
      refine rx_call0 (rx_callV (av := [.int _]) hE dX5_search_54 lk_X5_58 (x_isPeaceful (X := (x_r X 31 T1)) xJ_2 hM (J := J) hJ hf.1 _) (xa_j xJ_2 hM) np_X2_isPeaceful rfl rfl (by decide) (Nat.le_of_ble_eq_true rfl) rfl ?_)
      rintro v M' ⟨rfl, rfl⟩
      refine rx_if_eq (tgt := 96) hE dX5_search_57 (by decide) (fun c57 => ?_) (fun c57 => ?_)
      · refine rx_iinc_4 hE dX5_search_96 (v := 1) (by decide) (by decide) rfl ?_
        rw [nI_1]
        refine rx_goto (tgt := 40) hE dX5_search_99 (by decide) ?_
        exact ihm1 (x + 1) T1 ps c (by omega) (hx.no c57)
      · refine rx_aload_n hE dX5_search_60 (i := 0) rfl rfl ?_
        refine rx_getf hE dX5_search_61 fl_X5_21_5 (xa_31 hM) rfl ?_
        refine rx_aload_n hE dX5_search_64 (i := 0) rfl rfl ?_
        refine rx_getf hE dX5_search_65 fl_X5_34_5 (xa_31 hM) rfl ?_
        refine rx_int _ (nI c) hx.2.2.2.2.2.1 ?_
        refine rx_iload hE dX5_search_68 rfl ?_
        refine rx_iastN (i := c) hE dX5_search_70 (xa_31_15 hM) (by omega) (by decide) ?_
        refine rx_mem (M' := xm n (x_r X 31 (j_s T1 15 (upd (T1 15) c (nI x)))) O Q G S L) (xw_31_15.trans (by rw [x_rr, x_r_eq])) ?_
        refine rx_aload_n hE dX5_search_71 (i := 0) rfl rfl ?_
        refine rx_getf hE dX5_search_72 fl_X5_25_5 (xa_31 hM) rfl ?_
        refine rx_aload_n hE dX5_search_75 (i := 0) rfl rfl ?_
        refine rx_getf hE dX5_search_76 fl_X5_34_5 (xa_31 hM) rfl ?_
        refine rx_int _ (nI c) hx.2.2.2.2.2.1 ?_
        refine rx_aload_n hE dX5_search_79 (i := 1) rfl rfl ?_
        refine rx_iload hE dX5_search_80 rfl ?_
        refine rx_call0 (rx_callV (av := [.int (nI x)]) hE dX5_search_82 lk_X5_62 (x_soundOf (X := (x_r X 31 (j_s T1 15 (upd (T1 15) c (nI x))))) xJ_2 hM (J := J) hJ hf.1 _) (xa_j xJ_2 hM) np_X2_soundOf rfl rfl (by decide) (Nat.le_of_ble_eq_true rfl) rfl ?_)
        rintro v M' ⟨rfl, rfl⟩
        refine rx_iastN (i := c) hE dX5_search_85 (xa_31_16 hM) (by omega) (by decide) ?_
        refine rx_mem (M' := xm n (x_r X 31 (j_s (j_s T1 15 (upd (T1 15) c (nI x))) 16 (upd (T1 16) c (jso (jP J) (nI x) (jR J))))) O Q G S L) (xw_31_16.trans (by rw [x_rr, x_r_eq]; rfl)) ?_
        refine rx_aload_n hE dX5_search_86 (i := 0) rfl rfl ?_
        refine rx_dup hE dX5_search_87 rfl ?_
        refine rx_getf hE dX5_search_88 fl_X5_34_5 (xa_31 hM) rfl ?_
        refine rx_int _ (nI c) hx.2.2.2.2.2.1 ?_
        refine rx_iconst hE dX5_search_91 (v := 1) (by decide) ?_
        refine rx_iadd hE dX5_search_92 ?_
        refine rx_int _ (nI (c + 1)) (nI_1 _) ?_
        refine rx_put hE dX5_search_93 fl_X5_34_5 fw_5_6 (xa_31 hM) (fun _ => rfl) (fun _ => rfl) (Nat.le_of_ble_eq_true rfl) ?_
        refine rx_mem (M' := xm n (x_r X 31 (j_f (j_s (j_s T1 15 (upd (T1 15) c (nI x))) 16 (upd (T1 16) c (jso (jP J) (nI x) (jR J)))) 6 (nI (c + 1)))) O Q G S L) (xw_31_f6.trans (by rw [x_rr, x_r_eq])) ?_
        refine rx_iinc_4 hE dX5_search_96 (v := 1) (by decide) (by decide) rfl ?_
        rw [nI_1]
        refine rx_goto (tgt := 40) hE dX5_search_99 (by decide) ?_
        exact ihm1 (x + 1) _ _ (c + 1) (by omega) (hx.yes c57)
  refine rx_aload_n hE dX5_search_0 (i := 0) rfl rfl ?_
  refine rx_aload_n hE dX5_search_1 (i := 1) rfl rfl ?_
  refine rx_getfN hE dX5_search_2 fl_X5_53_2 (xa_j xJ_2 hM) rfl ?_
  refine rx_int _ (nI (jR J)) ((congrFun (congrFun hJ 9) 2).trans hf.1.1) ?_
  refine rx_put hE dX5_search_5 fl_X5_38_5 fw_5_7 (xa_31 hM) (fun _ => rfl) (fun _ => rfl) (Nat.le_of_ble_eq_true rfl) ?_
  refine rx_mem (M' := xm n (x_r X 31 (j_f (X 31) 7 (nI (jR J)))) O Q G S L) (xw_31_f7) ?_
  refine rx_aload_n hE dX5_search_8 (i := 0) rfl rfl ?_
  refine rx_iload_n hE dX5_search_9 (i := 3) rfl rfl ?_
  refine rx_put hE dX5_search_10 fl_X5_41_5 fw_5_8 (xa_31 hM) (fun _ => rfl) (fun _ => rfl) (Nat.le_of_ble_eq_true rfl) ?_
  refine rx_mem (M' := xm n (x_r X 31 (j_f (j_f (X 31) 7 (nI (jR J))) 8 (nI N))) O Q G S L) (xw_31_f8.trans (by rw [x_rr, x_r_eq])) ?_
  refine rx_aload_n hE dX5_search_13 (i := 0) rfl rfl ?_
  refine rx_aload_n hE dX5_search_14 (i := 1) rfl rfl ?_
  refine rx_getfN hE dX5_search_15 fl_X5_54_2 (xa_j xJ_2 hM) rfl ?_
  refine rx_int _ (J 9 4) (congrFun (congrFun hJ 9) 4) ?_
  refine rx_put hE dX5_search_18 fl_X5_44_5 fw_5_9 (xa_31 hM) (fun _ => rfl) (fun _ => rfl) (Nat.le_of_ble_eq_true rfl) ?_
  refine rx_mem (M' := xm n (x_r X 31 (j_f (j_f (j_f (X 31) 7 (nI (jR J))) 8 (nI N)) 9 (J 9 4))) O Q G S L) (xw_31_f9.trans (by rw [x_rr, x_r_eq])) ?_
  refine rx_aload_n hE dX5_search_21 (i := 0) rfl rfl ?_
  refine rx_ldc hE dX5_search_22 k_X5_57 ?_
  refine rx_put hE dX5_search_24 fl_X5_47_5 fw_5_10 (xa_31 hM) (fun _ => rfl) (fun _ => rfl) (Nat.le_of_ble_eq_true rfl) ?_
  refine rx_mem (M' := xm n (x_r X 31 (j_f (j_f (j_f (j_f (X 31) 7 (nI (jR J))) 8 (nI N)) 9 (J 9 4)) 10 599995)) O Q G S L) (xw_31_f10.trans (by rw [x_rr, x_r_eq])) ?_
  refine rx_aload_n hE dX5_search_27 (i := 0) rfl rfl ?_
  refine rx_iconst hE dX5_search_28 (v := 0) (by decide) ?_
  refine rx_put hE dX5_search_29 fl_X5_50_5 fw_5_11 (xa_31 hM) (fun _ => rfl) (fun _ => rfl) (Nat.le_of_ble_eq_true rfl) ?_
  refine rx_mem (M' := xm n (x_r X 31 (j_f (j_f (j_f (j_f (j_f (X 31) 7 (nI (jR J))) 8 (nI N)) 9 (J 9 4)) 10 599995) 11 0)) O Q G S L) (xw_31_f11.trans (by rw [x_rr, x_r_eq])) ?_
  refine rx_aload_n hE dX5_search_32 (i := 0) rfl rfl ?_
  refine rx_iconst hE dX5_search_33 (v := 0) (by decide) ?_
  refine rx_put hE dX5_search_34 fl_X5_34_5 fw_5_6 (xa_31 hM) (fun _ => rfl) (fun _ => rfl) (Nat.le_of_ble_eq_true rfl) ?_
  refine rx_mem (M' := xm n (x_r X 31 (j_f (j_f (j_f (j_f (j_f (j_f (X 31) 7 (nI (jR J))) 8 (nI N)) 9 (J 9 4)) 10 599995) 11 0) 6 0)) O Q G S L) (xw_31_f6.trans (by rw [x_rr, x_r_eq])) ?_
  refine rx_iconst hE dX5_search_37 (v := 0) (by decide) ?_
  refine rx_istore_4 hE dX5_search_38 (by decide) rfl ?_
  exact loopa (2 ^ jR J) 0 (j_f (j_f (j_f (j_f (j_f (j_f (X 31) 7 (nI (jR J))) 8 (nI N)) 9 (J 9 4)) 10 599995) 11 0) 6 0) (fun _ => 0) 0 (by omega) ⟨rfl, rfl, rfl, rfl, rfl, rfl, by omega, fun i hi => absurd hi (Nat.not_lt_zero i), fun f s _ => rfl⟩
set_option maxRecDepth 100000 in
set_option maxHeartbeats 1000000 in
theorem c_X10_row {n : Nat} {X : gX} {O : gO} {Q : gU} {G : gK} {S : gS} {L : gLg} (hR : xR n X O Q) {J : gJn} (hJ : X 2 = J) (hk : xk J) {t : gJn → Nat → Int32 → Bool} (ht : xtf X Q (X 0 0 17) = t) (hsh : J 9 5 = -1) (n0 what : Int32) : SX 9 0 0 mX10_row [.ref 16, .int n0, .int what] (xm n X O Q G S L) (fun v M' => v = some (.int (q_row J n0 what)) ∧ xD n X O Q S L M') := by
  refine SX.intro [some (.ref 16), some (.int n0), some (.int what)] (by decide +kernel) (Nat.le_of_ble_eq_true rfl) rfl (fun E hE hQ => ?_)
  have hM := hR.M
  refine rx_aload_n hE dX10_row_0 (i := 0) rfl rfl ?_
  refine rx_getf hE dX10_row_1 fl_X10_19_9 (xa_0 hM) rfl ?_
  refine rx_call0 (rx_callV (av := []) hE dX10_row_4 lk_X10_198 (x_isTold (X := X) xJ_2 hM (J := J) hJ) (xa_j xJ_2 hM) np_X2_isTold rfl rfl (by decide) (Nat.le_of_ble_eq_true rfl) rfl ?_)
  rintro v M' ⟨rfl, rfl⟩
  refine rx_if_eq (tgt := 28) hE dX10_row_7 (by decide) (fun c7 => ?_) (fun c7 => ?_)
  · refine rx_sipush hE dX10_row_28 (v := -10000) (by decide) ?_
    exact rx_iret hE hQ rfl dX10_row_31 ⟨by simp [q_row, *], xD.refl n X O Q G S L⟩
  · refine rx_iload_n hE dX10_row_10 (i := 1) rfl rfl ?_
    refine rx_iconst hE dX10_row_11 (v := 1) (by decide) ?_
    refine rx_iconst hE dX10_row_12 (v := 3) (by decide) ?_
    refine rx_call0 (rx_callS (av := [.int _, .int _, .int _]) hE dX10_row_13 lk_X10_143 (c_X10_within _ _ _) np_X10_within rfl rfl (by decide) (Nat.le_of_ble_eq_true rfl) rfl ?_)
    rintro v M' ⟨rfl, rfl⟩
    refine rx_if_eq (tgt := 28) hE dX10_row_16 (by decide) (fun c16 => ?_) (fun c16 => ?_)
    · refine rx_sipush hE dX10_row_28 (v := -10000) (by decide) ?_
      exact rx_iret hE hQ rfl dX10_row_31 ⟨by simp [q_row, *], xD.refl n X O Q G S L⟩
    · refine rx_iload_n hE dX10_row_19 (i := 2) rfl rfl ?_
      refine rx_iconst hE dX10_row_20 (v := 0) (by decide) ?_
      refine rx_iconst hE dX10_row_21 (v := 4) (by decide) ?_
      refine rx_call0 (rx_callS (av := [.int _, .int _, .int _]) hE dX10_row_22 lk_X10_143 (c_X10_within _ _ _) np_X10_within rfl rfl (by decide) (Nat.le_of_ble_eq_true rfl) rfl ?_)
      rintro v M' ⟨rfl, rfl⟩
      refine rx_if_ne (tgt := 32) hE dX10_row_25 (by decide) (fun c25 => ?_) (fun c25 => ?_)
      · have hg : ¬ (j_isTold J = 0 ∨ q_in n0 1 3 = 0 ∨ q_in what 0 4 = 0) := by simp [*]
        obtain ⟨hf, hT9⟩ := hk.told c7
        obtain ⟨N, hN0, hN, rfl⟩ := q_in_of (a := 1) (b := 3) (by decide) c16
        have hr6 := hf.1.2.1
        have hq0 := qro_pos (J := J) (N := N) hr6 hN
        have hv : q_row J (nI N) what = if what = 0 then (qro J N).2.1 else if what = 1 then (qro J N).2.2 else if nI N ≤ what - 2 then -2 else nI (qdg (2 ^ jR J) N (qro J N).1.toNatClampNeg (what - 2).toNatClampNeg) := by unfold q_row; rw [if_neg hg, nI_clamp (n := N) (by omega)]
        obtain ⟨ww, hw0, hw4, rfl⟩ := q_in_of (a := 0) (b := 4) (by decide) c25
        have hB : (2 ^ jR J) ^ N < 2 ^ 31 := Nat.lt_of_le_of_lt (Nat.le_trans (Nat.pow_le_pow_left (pow6' hr6) N) (Nat.pow_le_pow_right (by decide) hN)) (Nat.le_of_ble_eq_true rfl)
        refine rx_iload_n hE dX10_row_32 (i := 2) rfl rfl ?_
        refine rx_iconst hE dX10_row_33 (v := 2) (by decide) ?_
        refine rx_isub hE dX10_row_34 ?_
        refine rx_iload_n hE dX10_row_35 (i := 1) rfl rfl ?_
        refine rx_icmp_lt (tgt := 42) hE dX10_row_36 (by decide) (fun c36 => ?_) (fun c36 => ?_)
        · have h36 : ¬ nI N ≤ nI ww - 2 := Int32.not_le.mpr c36
          refine rx_aload_n hE dX10_row_42 (i := 0) rfl rfl ?_
          refine rx_getf hE dX10_row_43 fl_X10_76_9 (xa_0 hM) rfl ?_
          refine rx_aload_n hE dX10_row_46 (i := 0) rfl rfl ?_
          refine rx_getf hE dX10_row_47 fl_X10_19_9 (xa_0 hM) rfl ?_
          refine rx_aload_n hE dX10_row_50 (i := 0) rfl rfl ?_
          refine rx_getf hE dX10_row_51 fl_X10_26_9 (xa_0 hM) rfl ?_
          refine rx_iload_n hE dX10_row_54 (i := 1) rfl rfl ?_
          refine rx_call0 (rx_callV (av := [.ref _, .ref _, .int (nI N)]) hE dX10_row_55 lk_X10_249 (c_X5_search (X := X) hM hJ hf hT9 hsh (N := N) (by omega)) (xa_31 hM) np_X5_search rfl rfl (by decide) (Nat.le_of_ble_eq_true rfl) rfl ?_)
          rintro v M' ⟨rfl, T', J', rfl, hrel⟩
          obtain ⟨cc, hcc, e1, e2, e3, e4⟩ := hrel.resolve_left (fun q => absurd hq0 (by rw [q.1]; decide))
          refine rx_iload_n hE dX10_row_58 (i := 2) rfl rfl ?_
          refine rx_iconst hE dX10_row_59 (v := 2) (by decide) ?_
          refine rx_icmp_lt (tgt := 75) hE dX10_row_60 (by decide) (fun c60 => ?_) (fun c60 => ?_)
          · have hw01 : ww = 0 ∨ ww = 1 := by
              have := (nI_ltI (a := ww) (b := 2) (by omega) (by decide)).mp c60
              omega
            refine rx_iload_n hE dX10_row_75 (i := 2) rfl rfl ?_
            refine rx_if_ne (tgt := 89) hE dX10_row_76 (by decide) (fun c76 => ?_) (fun c76 => ?_)
            · refine rx_aload_n hE dX10_row_89 (i := 0) rfl rfl ?_
              refine rx_getf hE dX10_row_90 fl_X10_76_9 (xa_0 hM) rfl ?_
              refine rx_getfN hE dX10_row_93 fl_X10_259_5 (xa_31 hM) rfl ?_
              refine rx_int _ (qro J N).2.2 e3 ?_
              exact rx_iret hE hQ rfl dX10_row_96 ⟨by rw [hv, if_neg c76, if_pos (by rw [hw01.resolve_left (fun q => c76 (by rw [q]; rfl))]; rfl)], ⟨_, G, rfl, fun r a b c => by rw [x_r_ne _ _ a, x_r_ne _ _ b]⟩⟩
            · refine rx_aload_n hE dX10_row_79 (i := 0) rfl rfl ?_
              refine rx_getf hE dX10_row_80 fl_X10_76_9 (xa_0 hM) rfl ?_
              refine rx_getfN hE dX10_row_83 fl_X10_256_5 (xa_31 hM) rfl ?_
              refine rx_int _ (qro J N).2.1 e2 ?_
              refine rx_goto (tgt := 96) hE dX10_row_86 (by decide) ?_
              exact rx_iret hE hQ rfl dX10_row_96 ⟨by rw [hv, if_pos c76], ⟨_, G, rfl, fun r a b c => by rw [x_r_ne _ _ a, x_r_ne _ _ b]⟩⟩
          · have hw2 : 2 ≤ ww := Classical.byContradiction (fun q => c60 (nI_lt (b := 2) (by omega) (by decide)))
            have hw3 : nI ww - 2 = nI (ww - 2) := nI_p2 (by omega)
            have hlt : ww - 2 < N := by rw [hw3] at c36; exact (nI_ltI (by omega) (by omega)).mp c36
            refine rx_aload_n hE dX10_row_63 (i := 0) rfl rfl ?_
            refine rx_getf hE dX10_row_64 fl_X10_76_9 (xa_0 hM) rfl ?_
            refine rx_getfN hE dX10_row_67 fl_X10_253_5 (xa_31 hM) rfl ?_
            refine rx_iload_n hE dX10_row_70 (i := 2) rfl rfl ?_
            refine rx_iconst hE dX10_row_71 (v := 2) (by decide) ?_
            refine rx_isub hE dX10_row_72 ?_
            refine rx_int _ (nI (ww - 2)) hw3 ?_
            refine rx_ialdN (i := ww - 2) hE dX10_row_73 (xa_31_18 hM) (by omega) (by decide) ?_
            refine rx_int _ (nI (qdg (2 ^ jR J) N cc (ww - 2))) (e4 _ hlt) ?_
            exact rx_iret hE hQ rfl dX10_row_74 ⟨by rw [hv, if_neg (nI_ne0 (by omega) (by omega)), if_neg (show ¬ nI ww = 1 from fun q => absurd (nI_inj (b := 1) (by omega) (by decide) q) (by omega)), if_neg h36, e1, nI_clamp (n := cc) (by omega), hw3, nI_clamp (n := ww - 2) (by omega)], ⟨_, G, rfl, fun r a b c => by rw [x_r_ne _ _ a, x_r_ne _ _ b]⟩⟩
        · have h36 : nI N ≤ nI ww - 2 := Int32.not_lt.mp c36
          have hw2 : 2 ≤ ww := by
            rcases (show ww = 0 ∨ ww = 1 ∨ 2 ≤ ww by omega) with h | h | h
            · rw [h] at h36; exact absurd (Int32.le_trans (nI_pos' (n := N) (by omega)) h36) (by decide)
            · rw [h] at h36; exact absurd (Int32.le_trans (nI_pos' (n := N) (by omega)) h36) (by decide)
            · exact h
          refine rx_bipush hE dX10_row_39 (v := -2) (by decide) ?_
          exact rx_iret hE hQ rfl dX10_row_41 ⟨by rw [hv, if_neg (nI_ne0 (by omega) (by omega)), if_neg (show ¬ nI ww = 1 from fun q => absurd (nI_inj (b := 1) (by omega) (by decide) q) (by omega)), if_pos h36], xD.refl n X O Q G S L⟩
      · refine rx_sipush hE dX10_row_28 (v := -10000) (by decide) ?_
        exact rx_iret hE hQ rfl dX10_row_31 ⟨by simp [q_row, *], xD.refl n X O Q G S L⟩
