/-! ===== trying a choice ===== -/
def wtq (b R : Nat) (T T1 : Nat → Nat → Int32) (c : Nat) (h : Nat → Int32 → Prop) : Prop := (∀ f, ¬ (b ≤ f ∧ f < b + R) → T1 f = T f) ∧ (∀ r x, r < R → x ≠ c → T1 (b + r) x = T (b + r) x) ∧ ∀ r, r < R → h r (T1 (b + r) c)
theorem wtq.up {b R : Nat} {T T1 : Nat → Nat → Int32} {c : Nat} {h h' : Nat → Int32 → Prop} (q : wtq b R T T1 c h) {r : Nat} (hr : r < R) {y : Int32} (hy : h' r y) (ho : ∀ r' z, r' ≠ r → h r' z → h' r' z) : wtq b R T (j_s T1 (b + r) (upd (T1 (b + r)) c y)) c h' := by
  refine ⟨fun f hf => ?_, fun r' x hr' hx => ?_, fun r' hr' => ?_⟩
  · rw [show j_s T1 (b + r) (upd (T1 (b + r)) c y) f = T1 f from if_neg (by omega)]
    exact q.1 f hf
  · by_cases e : r' = r
    · subst e
      rw [show j_s T1 (b + r') (upd (T1 (b + r')) c y) (b + r') = upd (T1 (b + r')) c y from if_pos rfl, upd_ne hx]
      exact q.2.1 r' x hr' hx
    · rw [show j_s T1 (b + r) (upd (T1 (b + r)) c y) (b + r') = T1 (b + r') from if_neg (by omega)]
      exact q.2.1 r' x hr' hx
  · by_cases e : r' = r
    · subst e
      rw [show j_s T1 (b + r') (upd (T1 (b + r')) c y) (b + r') = upd (T1 (b + r')) c y from if_pos rfl, upd_eq]
      exact hy
    · rw [show j_s T1 (b + r) (upd (T1 (b + r)) c y) (b + r') = T1 (b + r') from if_neg (by omega)]
      exact ho r' _ e (q.2.2 r' hr')
theorem wtq.mono {b R : Nat} {T T1 : Nat → Nat → Int32} {c : Nat} {h h' : Nat → Int32 → Prop} (q : wtq b R T T1 c h) (ho : ∀ r z, r < R → h r z → h' r z) : wtq b R T T1 c h' := ⟨q.1, q.2.1, fun r hr => ho r _ hr (q.2.2 r hr)⟩
theorem wtq.start {b R : Nat} (T : Nat → Nat → Int32) (c : Nat) {h : Nat → Int32 → Prop} (hh : ∀ r, r < R → h r (T (b + r) c)) : wtq b R T T c h := ⟨fun _ _ => rfl, fun _ _ _ _ => rfl, hh⟩
theorem tb_ones : ∀ R, R ≤ 6 → ∀ r, r < R → (2 ^ R - 1).testBit r = true := by decide +kernel
theorem x31_4 (X : gX) (T : Nat → Nat → Int32) (A : gJn) (v : Nat → Nat → Int32) : x_r (x_r (x_r X 31 T) 4 A) 31 v = x_r (x_r X 31 v) 4 A := by rw [x_r_comm (by decide), x_rr]
theorem jP_ar (n k : Nat) (J : gJn) : jP (jarF k n J) = jP J := by
  unfold jP
  rw [jarF_f (by decide)]
theorem jR_ar (n k : Nat) (J : gJn) : jR (jarF k n J) = jR J := by
  unfold jR
  rw [jarF_f (by decide)]
def dch (R c : Nat) (i : Nat) : Nat := if c.testBit i = true then 2 ^ R - 1 else 0
theorem dch_lt (R c i : Nat) : dch R c i < 2 ^ R := by
  unfold dch
  have : 0 < 2 ^ R := Nat.pow_pos (by decide)
  split <;> omega
theorem dch_tb {R c i r : Nat} (hR : R ≤ 6) (hr : r < R) : (dch R c i).testBit r = c.testBit i := by
  unfold dch
  by_cases h : c.testBit i = true
  · rw [if_pos h, h, tb_ones R hR r hr]
  · rw [if_neg h, Nat.zero_testBit, Bool.eq_false_iff.mpr h]
theorem rW_dch {e w v : Nat → Nat} {m T R c k r : Nat} (hR : R ≤ 6) (hr : r < R) : rW e w v m T (dch R c) k r = rsF (e r) m T c.testBit (w r, v r) k := rsF_ag k (fun i _ => dch_tb hR hr)
set_option maxRecDepth 100000 in
set_option maxHeartbeats 1000000 in
theorem c_X5_tryChoice {n : Nat} {X : gX} {O : gO} {Q : gU} {G : gK} {S : gS} {L : gLg} (hM : 408 ≤ n) {J : gJn} (hJ : X 4 = J) (hf : jfit J) (hT9 : jT J ≤ 999) {e w vd : Nat → Nat} {m T0 R N : Nat} (hok : rok J R e m T0 w vd) (hjR : jR J = R) (hR6 : R ≤ 6) (hN3 : N ≤ 3) (t7 : X 31 0 7 = nI R) (t8 : X 31 0 8 = nI N) {c : Nat} (hc : c < 2 ^ N) : SX 4 0 0 mX5_tryChoice [.ref 260, .ref 39, .int (nI c)] (xm n X O Q G S L) (fun v M' => v = none ∧ ∃ (T' : Nat → Nat → Int32) (J' : gJn), M' = xm n (x_r (x_r X 31 T') 4 J') O Q G S L ∧ (∀ f, ¬ (2 ≤ f ∧ f < 2 + R) → ¬ (9 ≤ f ∧ f < 9 + R) → T' f = X 31 f) ∧ (∀ r x, r < R → x ≠ c → T' (2 + r) x = X 31 (2 + r) x ∧ T' (9 + r) x = X 31 (9 + r) x) ∧ ∀ r, r < R → T' (2 + r) c = nI (rsF (e r) m T0 c.testBit (w r, vd r) N).2 ∧ T' (9 + r) c = nI (sdN (fun i => decide (0 < rar (e r) (T0 + i) (rsF (e r) m T0 c.testBit (w r, vd r) i).1)) N)) := by
  refine SX.intro [some (.ref 260), some (.ref 39), some (.int (nI c)), none, none] (by decide +kernel) (Nat.le_of_ble_eq_true rfl) rfl (fun E hE hQ => ?_)
  have hp64 := pow6' hR6
  have h2N : 2 ^ N ≤ 8 := Nat.pow_le_pow_right (by decide) hN3
  have hT0 : T0 < 2 ^ 30 := hok.2.2.2.2.2.1
  have hT1 : jT J = T0 := by unfold jT; rw [hok.2.2.1, nI_clamp (by omega)]
  have hfq : ∀ i, i ≤ N → jfit (qpl (dch R c) 0 i J) := by
    have key : ∀ i, i ≤ N → jfit (qpl (dch R c) 0 i J) ∧ jT (qpl (dch R c) 0 i J) = jT J + i := by
      intro i
      induction i with
      | zero => intro _; exact ⟨hf, rfl⟩
      | succ i ih =>
        intro hi
        obtain ⟨h1, h2⟩ := ih (by omega)
        have e := qpl_end (dch R c) i 0 J
        rw [Nat.zero_add] at e
        rw [e]
        exact ⟨h1.pl _ (by omega), by rw [(h1.1.pl _ (by omega)).2]; omega⟩
    exact fun i hi => (key i hi).1
  have loop2 : ∀ (m2 i : Nat) (T1 : Nat → Nat → Int32) (l4 : Option Value), i + m2 = N → wtq 9 R (X 31) T1 c (fun r' z => z = nI (sdN (fun i => decide (0 < rar (e r') (T0 + i) (rsF (e r') m T0 c.testBit (w r', vd r') i).1)) i)) → RX E mX5_tryChoice.2.2.1 0 0 27 [some (.ref 260), some (.ref 39), some (.int (nI c)), some (.int (nI i)), l4] [] (xm n (x_r (x_r X 31 T1) 4 (qpl (dch R c) 0 i J)) O Q G S L) := by
    intro m2
    induction m2 with
    | zero =>
      intro i T1 l4 hk5 q2
      refine rx_iload_n hE dX5_tryChoice_27 (i := 3) rfl rfl ?_
      refine rx_aload_n hE dX5_tryChoice_28 (i := 0) rfl rfl ?_
      refine rx_getf hE dX5_tryChoice_29 fl_X5_41_5 (xa_31 hM) rfl ?_
      refine rx_int _ (nI N) ((congrFun (q2.1 0 (by omega)) 8).trans t8) ?_
      refine rx_icmp_ge (tgt := 117) hE dX5_tryChoice_32 (by decide) (fun c32 => ?_) (fun c32 => absurd (show nI N ≤ nI i from nI_le (by omega) (by omega)) c32)
      have hiN : i = N := by omega
      rw [hiN]
      rw [hiN] at q2
      obtain ⟨hoN, hjN, hpN, hhN⟩ := hok.many hR6 hjR (d := dch R c) N (fun j _ => Nat.lt_of_lt_of_le (dch_lt R c j) hp64) (by omega)
      obtain ⟨T2, hT2⟩ : ∃ T2, T2 = T1 := ⟨_, rfl⟩
      rw [← hT2] at q2
      clear hk5
      refine rx_iconst hE dX5_tryChoice_117 (v := 0) (by decide) ?_
      refine rx_istore_n_3 hE dX5_tryChoice_118 (by decide) rfl ?_
      have loop3 : ∀ (m3 r : Nat) (T1 : Nat → Nat → Int32), r + m3 = R → wtq 2 R T2 T1 c (fun r' z => r' < r → z = nI (rsF (e r') m T0 c.testBit (w r', vd r') N).2) → RX E mX5_tryChoice.2.2.1 0 0 119 [some (.ref 260), some (.ref 39), some (.int (nI c)), some (.int (nI r)), l4] [] (xm n (x_r (x_r X 31 T1) 4 (qpl (dch R c) 0 N J)) O Q G S L) := by
        intro m3
        induction m3 with
        | zero =>
          intro r T1 hk3 q3
          refine rx_iload_n hE dX5_tryChoice_119 (i := 3) rfl rfl ?_
          refine rx_aload_n hE dX5_tryChoice_120 (i := 0) rfl rfl ?_
          refine rx_getf hE dX5_tryChoice_121 fl_X5_38_5 (xa_31 hM) rfl ?_
          refine rx_int _ (nI R) ((congrFun ((q3.1 0 (by omega)).trans (q2.1 0 (by omega))) 7).trans t7) ?_
          refine rx_icmp_ge (tgt := 147) hE dX5_tryChoice_124 (by decide) (fun c124 => ?_) (fun c124 => absurd (show nI R ≤ nI r from nI_le (by omega) (by omega)) c124)
          exact rx_vret hE hQ rfl dX5_tryChoice_147 ⟨rfl, T1, _, rfl, fun f f2 f9 => (q3.1 f f2).trans (q2.1 f f9), fun r' x hr' hx => ⟨(q3.2.1 r' x hr' hx).trans (congrFun (q2.1 (2 + r') (by omega)) x), (congrFun (q3.1 (9 + r') (by omega)) x).trans (q2.2.1 r' x hr' hx)⟩, fun r' hr' => ⟨q3.2.2 r' hr' (by omega), (congrFun (q3.1 (9 + r') (by omega)) c).trans (q2.2.2 r' hr')⟩⟩
        | succ m3 ihm3 =>
          intro r T1 hk3 q3
          refine rx_iload_n hE dX5_tryChoice_119 (i := 3) rfl rfl ?_
          refine rx_aload_n hE dX5_tryChoice_120 (i := 0) rfl rfl ?_
          refine rx_getf hE dX5_tryChoice_121 fl_X5_38_5 (xa_31 hM) rfl ?_
          refine rx_int _ (nI R) ((congrFun ((q3.1 0 (by omega)).trans (q2.1 0 (by omega))) 7).trans t7) ?_
          refine rx_icmp_ge (tgt := 147) hE dX5_tryChoice_124 (by decide) (fun c124 => absurd c124 (nI_ge (a := r) (b := R) (by omega) (by omega))) (fun c124 => ?_)
          refine rx_aload_n hE dX5_tryChoice_127 (i := 0) rfl rfl ?_
          refine rx_getf hE dX5_tryChoice_128 fl_X5_15_5 (xa_31 hM) rfl ?_
          refine rx_iload_n hE dX5_tryChoice_131 (i := 3) rfl rfl ?_
          refine rx_aaldN hE (by decide) rfl dX5_tryChoice_132 (xa_31_1 hM) (by omega) (by decide) ?_
          rw [if_pos (show r < 6 by omega), show 262 + r = 260 + (2 + r) by omega]
          refine rx_iload_n hE dX5_tryChoice_133 (i := 2) rfl rfl ?_
          refine rx_aload_n hE dX5_tryChoice_134 (i := 1) rfl rfl ?_
          refine rx_getfN hE dX5_tryChoice_135 fl_X5_87_2 (xa_j xJ_4 hM) rfl ?_
          refine rx_iload_n hE dX5_tryChoice_138 (i := 3) rfl rfl ?_
          refine rx_ialdN (i := r) hE dX5_tryChoice_139 (xa_j6 xJ_4 hM) (by omega) (by decide) ?_
          refine rx_int _ (nI (rsF (e r) m T0 c.testBit (w r, vd r) N).2) ((hoN.2.2.2.2.2.2 r (by omega)).2.2.2.2.2.2.trans (congrArg (fun z => nI (Prod.snd z)) (rW_dch hR6 (by omega)))) ?_
          refine rx_iastN (i := c) hE dX5_tryChoice_140 (xs_at (k := 2 + r) hM (Or.inl ⟨by omega, by omega⟩)) (by omega) (by decide) ?_
          refine rx_mem (M' := xm n (x_r (x_r X 31 (j_s T1 (2 + r) (upd (T1 (2 + r)) c (nI (rsF (e r) m T0 c.testBit (w r, vd r) N).2)))) 4 (qpl (dch R c) 0 N J)) O Q G S L) ((xs_up (k := 2 + r) (Or.inl ⟨by omega, by omega⟩)).trans (by rw [x31_4]; rfl)) ?_
          refine rx_iinc_3 hE dX5_tryChoice_141 (v := 1) (by decide) (by decide) rfl ?_
          rw [nI_1]
          refine rx_goto (tgt := 119) hE dX5_tryChoice_144 (by decide) ?_
          exact ihm3 (r + 1) _ (by omega) (q3.up (by omega) (fun _ => rfl) (fun r' z hne hz hlt => hz (by omega)))
      exact loop3 R 0 T1 (by omega) (by rw [hT2]; exact wtq.start _ _ (fun r' _ h => absurd h (Nat.not_lt_zero r')))
    | succ m2 ihm2 =>
      intro i T1 l4 hk5 q2
      obtain ⟨hoi, hji, hpi, hhi⟩ := hok.many hR6 hjR (d := dch R c) i (fun j _ => Nat.lt_of_lt_of_le (dch_lt R c j) hp64) (by omega)
      have hfi := hfq i (by omega)
      have hoka : jok (jarF 0 R (qpl (dch R c) 0 i J)) := hfi.1.arr R 0
      have hjp : jpl (nI (dch R c i)) (qpl (dch R c) 0 i J) = j_go (jP (jarF 0 R (qpl (dch R c) 0 i J))) (jR (jarF 0 R (qpl (dch R c) 0 i J))) (nI (dch R c i)) (jarF 0 R (qpl (dch R c) 0 i J)) := by
        unfold jpl
        rw [hji, jP_ar, jR_ar, hji]
      have hqe : (qpl (dch R c) 0 (i + 1) J) = jpl (nI (dch R c i)) (qpl (dch R c) 0 i J) := by
        have := qpl_end (dch R c) i 0 J
        rw [Nat.zero_add] at this
        exact this
      refine rx_iload_n hE dX5_tryChoice_27 (i := 3) rfl rfl ?_
      refine rx_aload_n hE dX5_tryChoice_28 (i := 0) rfl rfl ?_
      refine rx_getf hE dX5_tryChoice_29 fl_X5_41_5 (xa_31 hM) rfl ?_
      refine rx_int _ (nI N) ((congrFun (q2.1 0 (by omega)) 8).trans t8) ?_
      refine rx_icmp_ge (tgt := 117) hE dX5_tryChoice_32 (by decide) (fun c32 => absurd c32 (nI_ge (a := i) (b := N) (by omega) (by omega))) (fun c32 => ?_)
      refine rx_aload_n hE dX5_tryChoice_35 (i := 1) rfl rfl ?_
      refine rx_call0 (rx_callV (av := []) hE dX5_tryChoice_36 lk_X5_78 (x_arrive (X := (x_r (x_r X 31 T1) 4 (qpl (dch R c) 0 i J))) xJ_4 hM (J := (qpl (dch R c) 0 i J)) rfl hfi.1) (xa_j xJ_4 hM) np_X2_arrive rfl rfl (by decide) (Nat.le_of_ble_eq_true rfl) rfl ?_)
      rintro v M' ⟨rfl, rfl⟩
      rw [x_rr, hji]
      refine rx_iconst hE dX5_tryChoice_39 (v := 0) (by decide) ?_
      refine rx_istore_4 hE dX5_tryChoice_40 (by decide) rfl ?_
      have loop4 : ∀ (m4 r : Nat) (T1 : Nat → Nat → Int32), r + m4 = R → wtq 9 R (X 31) T1 c (fun r' z => z = nI (sdN (fun i => decide (0 < rar (e r') (T0 + i) (rsF (e r') m T0 c.testBit (w r', vd r') i).1)) (if r' < r then i + 1 else i))) → RX E mX5_tryChoice.2.2.1 0 0 42 [some (.ref 260), some (.ref 39), some (.int (nI c)), some (.int (nI i)), some (.int (nI r))] [] (xm n (x_r (x_r X 31 T1) 4 (jarF 0 R (qpl (dch R c) 0 i J))) O Q G S L) := by
        intro m4
        induction m4 with
        | zero =>
          intro r T1 hk4 qi
          refine rx_iload hE dX5_tryChoice_42 rfl ?_
          refine rx_aload_n hE dX5_tryChoice_44 (i := 0) rfl rfl ?_
          refine rx_getf hE dX5_tryChoice_45 fl_X5_38_5 (xa_31 hM) rfl ?_
          refine rx_int _ (nI R) ((congrFun (qi.1 0 (by omega)) 7).trans t7) ?_
          refine rx_icmp_ge (tgt := 86) hE dX5_tryChoice_48 (by decide) (fun c48 => ?_) (fun c48 => absurd (show nI R ≤ nI r from nI_le (by omega) (by omega)) c48)
          refine rx_aload_n hE dX5_tryChoice_86 (i := 1) rfl rfl ?_
          refine rx_iload_n hE dX5_tryChoice_87 (i := 2) rfl rfl ?_
          refine rx_iload_n hE dX5_tryChoice_88 (i := 3) rfl rfl ?_
          refine rx_ishr hE dX5_tryChoice_89 ?_
          refine rx_iconst hE dX5_tryChoice_90 (v := 1) (by decide) ?_
          refine rx_iand hE dX5_tryChoice_91 ?_
          refine rx_int _ (jbit (nI c) i) rfl ?_
          refine rx_iconst hE dX5_tryChoice_92 (v := 1) (by decide) ?_
          refine rx_icmp_ne (tgt := 107) hE dX5_tryChoice_93 (by decide) (fun c93 => ?_) (fun c93 => ?_)
          · refine rx_iconst hE dX5_tryChoice_107 (v := 0) (by decide) ?_
            refine rx_call0 (rx_callV (av := [.int (nI (dch R c i))]) hE dX5_tryChoice_108 lk_X5_84 (x_goThrough (X := (x_r (x_r X 31 T1) 4 (jarF 0 R (qpl (dch R c) 0 i J)))) xJ_4 hM (J := (jarF 0 R (qpl (dch R c) 0 i J))) rfl hoka (nI (dch R c i))) (xa_j xJ_4 hM) np_X2_goThrough rfl rfl (by decide) (Nat.le_of_ble_eq_true rfl) (by rw [show dch R c i = 0 from if_neg (fun q => c93 ((tb_jbit c (by omega) i (by omega)).mpr q))]; rfl) ?_)
            rintro v M' ⟨rfl, rfl⟩
            rw [x_rr]
            refine rx_mem (M' := xm n (x_r (x_r X 31 T1) 4 (qpl (dch R c) 0 (i + 1) J)) O Q G S L) (by rw [hqe, ← hjp]) ?_
            refine rx_iinc_3 hE dX5_tryChoice_111 (v := 1) (by decide) (by decide) rfl ?_
            rw [nI_1]
            refine rx_goto (tgt := 27) hE dX5_tryChoice_114 (by decide) ?_
            exact ihm2 (i + 1) T1 _ (by omega) (qi.mono (fun r' z hr' hz => by rw [if_pos (show r' < r by omega)] at hz; exact hz))
          · refine rx_iconst hE dX5_tryChoice_96 (v := 1) (by decide) ?_
            refine rx_aload_n hE dX5_tryChoice_97 (i := 0) rfl rfl ?_
            refine rx_getf hE dX5_tryChoice_98 fl_X5_38_5 (xa_31 hM) rfl ?_
            refine rx_int _ (nI R) ((congrFun (qi.1 0 (by omega)) 7).trans t7) ?_
            refine rx_ishl hE dX5_tryChoice_101 ?_
            refine rx_int _ (nI (2 ^ R)) (shl1 _ hR6) ?_
            refine rx_iconst hE dX5_tryChoice_102 (v := 1) (by decide) ?_
            refine rx_isub hE dX5_tryChoice_103 ?_
            refine rx_int _ (nI (2 ^ R - 1)) (nI_p1 (Nat.pow_pos (by decide))) ?_
            refine rx_goto (tgt := 108) hE dX5_tryChoice_104 (by decide) ?_
            refine rx_call0 (rx_callV (av := [.int (nI (dch R c i))]) hE dX5_tryChoice_108 lk_X5_84 (x_goThrough (X := (x_r (x_r X 31 T1) 4 (jarF 0 R (qpl (dch R c) 0 i J)))) xJ_4 hM (J := (jarF 0 R (qpl (dch R c) 0 i J))) rfl hoka (nI (dch R c i))) (xa_j xJ_4 hM) np_X2_goThrough rfl rfl (by decide) (Nat.le_of_ble_eq_true rfl) (by rw [show dch R c i = 2 ^ R - 1 from if_pos ((tb_jbit c (by omega) i (by omega)).mp c93)]; rfl) ?_)
            rintro v M' ⟨rfl, rfl⟩
            rw [x_rr]
            refine rx_mem (M' := xm n (x_r (x_r X 31 T1) 4 (qpl (dch R c) 0 (i + 1) J)) O Q G S L) (by rw [hqe, ← hjp]) ?_
            refine rx_iinc_3 hE dX5_tryChoice_111 (v := 1) (by decide) (by decide) rfl ?_
            rw [nI_1]
            refine rx_goto (tgt := 27) hE dX5_tryChoice_114 (by decide) ?_
            exact ihm2 (i + 1) T1 _ (by omega) (qi.mono (fun r' z hr' hz => by rw [if_pos (show r' < r by omega)] at hz; exact hz))
        | succ m4 ihm4 =>
          intro r T1 hk4 qi
          refine rx_iload hE dX5_tryChoice_42 rfl ?_
          refine rx_aload_n hE dX5_tryChoice_44 (i := 0) rfl rfl ?_
          refine rx_getf hE dX5_tryChoice_45 fl_X5_38_5 (xa_31 hM) rfl ?_
          refine rx_int _ (nI R) ((congrFun (qi.1 0 (by omega)) 7).trans t7) ?_
          refine rx_icmp_ge (tgt := 86) hE dX5_tryChoice_48 (by decide) (fun c48 => absurd c48 (nI_ge (a := r) (b := R) (by omega) (by omega))) (fun c48 => ?_)
          refine rx_aload_n hE dX5_tryChoice_51 (i := 0) rfl rfl ?_
          refine rx_getf hE dX5_tryChoice_52 fl_X5_18_5 (xa_31 hM) rfl ?_
          refine rx_iload hE dX5_tryChoice_55 rfl ?_
          refine rx_aaldN hE (by decide) rfl dX5_tryChoice_57 (xa_31_8 hM) (by omega) (by decide) ?_
          rw [if_pos (show r < 6 by omega), show 269 + r = 260 + (9 + r) by omega]
          refine rx_iload_n hE dX5_tryChoice_58 (i := 2) rfl rfl ?_
          refine rx_dup2 hE dX5_tryChoice_59 rfl rfl ?_
          refine rx_ialdN (i := c) hE dX5_tryChoice_60 (xs_at (k := 9 + r) hM (Or.inr ⟨by omega, by omega⟩)) (by omega) (by decide) ?_
          refine rx_int _ (nI (sdN (fun i => decide (0 < rar (e r) (T0 + i) (rsF (e r) m T0 c.testBit (w r, vd r) i).1)) i)) ((qi.2.2 r (by omega)).trans (by rw [if_neg (show ¬ r < r by omega)])) ?_
          refine rx_aload_n hE dX5_tryChoice_61 (i := 1) rfl rfl ?_
          refine rx_getfN hE dX5_tryChoice_62 fl_X5_81_2 (xa_j xJ_4 hM) rfl ?_
          refine rx_iload hE dX5_tryChoice_65 rfl ?_
          refine rx_ialdN (i := r) hE dX5_tryChoice_67 (xa_j1 xJ_4 hM) (by omega) (by decide) ?_
          have hwa := hoi.ar hR6 (show r < R by omega)
          rw [show (rW e w vd m T0 (dch R c) i r) = rsF (e r) m T0 c.testBit (w r, vd r) i from rW_dch hR6 (by omega)] at hwa
          refine rx_int _ (nI (rar (e r) (T0 + i) (rsF (e r) m T0 c.testBit (w r, vd r) i).1)) hwa.1 ?_
          refine rx_if_le (tgt := 77) hE dX5_tryChoice_68 (by decide) (fun c68 => ?_) (fun c68 => ?_)
          · refine rx_iconst hE dX5_tryChoice_77 (v := 0) (by decide) ?_
            refine rx_ior hE dX5_tryChoice_78 ?_
            refine rx_int _ (nI (sdN (fun i => decide (0 < rar (e r) (T0 + i) (rsF (e r) m T0 c.testBit (w r, vd r) i).1)) (i + 1))) (by rw [Int32.or_zero]; exact congrArg nI (if_neg (fun q => by have h := of_decide_eq_true q; rw [(nI_le0 (by omega)).mp c68] at h; omega)).symm) ?_
            refine rx_iastN (i := c) hE dX5_tryChoice_79 (xs_at (k := 9 + r) hM (Or.inr ⟨by omega, by omega⟩)) (by omega) (by decide) ?_
            refine rx_mem (M' := xm n (x_r (x_r X 31 (j_s T1 (9 + r) (upd (T1 (9 + r)) c (nI (sdN (fun i => decide (0 < rar (e r) (T0 + i) (rsF (e r) m T0 c.testBit (w r, vd r) i).1)) (i + 1)))))) 4 (jarF 0 R (qpl (dch R c) 0 i J))) O Q G S L) ((xs_up (k := 9 + r) (Or.inr ⟨by omega, by omega⟩)).trans (by rw [x31_4]; rfl)) ?_
            refine rx_iinc_4 hE dX5_tryChoice_80 (v := 1) (by decide) (by decide) rfl ?_
            rw [nI_1]
            refine rx_goto (tgt := 42) hE dX5_tryChoice_83 (by decide) ?_
            exact ihm4 (r + 1) _ (by omega) (qi.up (by omega) (by rw [if_pos (by omega)]) (fun r' z hne hz => by rw [hz]; by_cases h : r' < r; rw [if_pos h, if_pos (by omega)]; rw [if_neg h, if_neg (by omega)]))
          · refine rx_iconst hE dX5_tryChoice_71 (v := 1) (by decide) ?_
            refine rx_iload_n hE dX5_tryChoice_72 (i := 3) rfl rfl ?_
            refine rx_ishl hE dX5_tryChoice_73 ?_
            refine rx_goto (tgt := 78) hE dX5_tryChoice_74 (by decide) ?_
            refine rx_ior hE dX5_tryChoice_78 ?_
            refine rx_int _ (nI (sdN (fun i => decide (0 < rar (e r) (T0 + i) (rsF (e r) m T0 c.testBit (w r, vd r) i).1)) (i + 1))) ((kbm_tab i (by omega) _ (sdN_lt _ i)).1.trans (congrArg nI (if_pos (decide_eq_true (Nat.pos_of_ne_zero (fun q => c68 ((nI_le0 (by omega)).mpr q))))).symm)) ?_
            refine rx_iastN (i := c) hE dX5_tryChoice_79 (xs_at (k := 9 + r) hM (Or.inr ⟨by omega, by omega⟩)) (by omega) (by decide) ?_
            refine rx_mem (M' := xm n (x_r (x_r X 31 (j_s T1 (9 + r) (upd (T1 (9 + r)) c (nI (sdN (fun i => decide (0 < rar (e r) (T0 + i) (rsF (e r) m T0 c.testBit (w r, vd r) i).1)) (i + 1)))))) 4 (jarF 0 R (qpl (dch R c) 0 i J))) O Q G S L) ((xs_up (k := 9 + r) (Or.inr ⟨by omega, by omega⟩)).trans (by rw [x31_4]; rfl)) ?_
            refine rx_iinc_4 hE dX5_tryChoice_80 (v := 1) (by decide) (by decide) rfl ?_
            rw [nI_1]
            refine rx_goto (tgt := 42) hE dX5_tryChoice_83 (by decide) ?_
            exact ihm4 (r + 1) _ (by omega) (qi.up (by omega) (by rw [if_pos (by omega)]) (fun r' z hne hz => by rw [hz]; by_cases h : r' < r; rw [if_pos h, if_pos (by omega)]; rw [if_neg h, if_neg (by omega)]))
      exact loop4 R 0 T1 (by omega) (q2.mono (fun r' z _ hz => by rw [if_neg (Nat.not_lt_zero r')]; exact hz))
  have loop1 : ∀ (m1 r : Nat) (T1 : Nat → Nat → Int32) (l4 : Option Value), r + m1 = R → wtq 9 R (X 31) T1 c (fun r' z => r' < r → z = nI 0) → RX E mX5_tryChoice.2.2.1 0 0 2 [some (.ref 260), some (.ref 39), some (.int (nI c)), some (.int (nI r)), l4] [] (xm n (x_r (x_r X 31 T1) 4 J) O Q G S L) := by
    intro m1
    induction m1 with
    | zero =>
      intro r T1 l4 hk6 q1
      refine rx_iload_n hE dX5_tryChoice_2 (i := 3) rfl rfl ?_
      refine rx_aload_n hE dX5_tryChoice_3 (i := 0) rfl rfl ?_
      refine rx_getf hE dX5_tryChoice_4 fl_X5_38_5 (xa_31 hM) rfl ?_
      refine rx_int _ (nI R) ((congrFun (q1.1 0 (by omega)) 7).trans t7) ?_
      refine rx_icmp_ge (tgt := 25) hE dX5_tryChoice_7 (by decide) (fun c7 => ?_) (fun c7 => absurd (show nI R ≤ nI r from nI_le (by omega) (by omega)) c7)
      refine rx_iconst hE dX5_tryChoice_25 (v := 0) (by decide) ?_
      refine rx_istore_n_3 hE dX5_tryChoice_26 (by decide) rfl ?_
      exact loop2 N 0 T1 _ (by omega) (q1.mono (fun r' z hr' hz => hz (by omega)))
    | succ m1 ihm1 =>
      intro r T1 l4 hk6 q1
      refine rx_iload_n hE dX5_tryChoice_2 (i := 3) rfl rfl ?_
      refine rx_aload_n hE dX5_tryChoice_3 (i := 0) rfl rfl ?_
      refine rx_getf hE dX5_tryChoice_4 fl_X5_38_5 (xa_31 hM) rfl ?_
      refine rx_int _ (nI R) ((congrFun (q1.1 0 (by omega)) 7).trans t7) ?_
      refine rx_icmp_ge (tgt := 25) hE dX5_tryChoice_7 (by decide) (fun c7 => absurd c7 (nI_ge (a := r) (b := R) (by omega) (by omega))) (fun c7 => ?_)
      refine rx_aload_n hE dX5_tryChoice_10 (i := 0) rfl rfl ?_
      refine rx_getf hE dX5_tryChoice_11 fl_X5_18_5 (xa_31 hM) rfl ?_
      refine rx_iload_n hE dX5_tryChoice_14 (i := 3) rfl rfl ?_
      refine rx_aaldN hE (by decide) rfl dX5_tryChoice_15 (xa_31_8 hM) (by omega) (by decide) ?_
      rw [if_pos (show r < 6 by omega), show 269 + r = 260 + (9 + r) by omega]
      refine rx_iload_n hE dX5_tryChoice_16 (i := 2) rfl rfl ?_
      refine rx_iconst hE dX5_tryChoice_17 (v := 0) (by decide) ?_
      refine rx_iastN (i := c) hE dX5_tryChoice_18 (xs_at (k := 9 + r) hM (Or.inr ⟨by omega, by omega⟩)) (by omega) (by decide) ?_
      refine rx_mem (M' := xm n (x_r (x_r X 31 (j_s T1 (9 + r) (upd (T1 (9 + r)) c 0))) 4 J) O Q G S L) ((xs_up (k := 9 + r) (Or.inr ⟨by omega, by omega⟩)).trans (by rw [x31_4]; rfl)) ?_
      refine rx_iinc_3 hE dX5_tryChoice_19 (v := 1) (by decide) (by decide) rfl ?_
      rw [nI_1]
      refine rx_goto (tgt := 2) hE dX5_tryChoice_22 (by decide) ?_
      exact ihm1 (r + 1) _ _ (by omega) (q1.up (by omega) (fun _ => rfl) (fun r' z hne hz hlt => hz (by omega)))
  refine rx_iconst hE dX5_tryChoice_0 (v := 0) (by decide) ?_
  refine rx_istore_n_3 hE dX5_tryChoice_1 (by decide) rfl ?_
  refine rx_mem (M' := xm n (x_r (x_r X 31 (X 31)) 4 J) O Q G S L) (by rw [x_r_id, ← hJ, x_r_id]) ?_
  exact loop1 R 0 (X 31) _ (by omega) (wtq.start _ _ (fun r' _ h => absurd h (Nat.not_lt_zero r')))
