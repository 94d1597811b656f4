/-! ===== weighing and choosing ===== -/
def xrel (P N : Nat) (s : g3) (T : Nat → Nat → Int32) : Prop := (s = (-1, 0, 0) ∧ T 0 10 = 599995 ∧ T 0 11 = 0) ∨ ∃ c, c < P ^ N ∧ s.1 = nI c ∧ T 0 10 = s.2.1 ∧ T 0 11 = s.2.2 ∧ ∀ i, i < N → T 18 i = nI (qdg P N c i)
def xsam (T T' : Nat → Nat → Int32) : Prop := (∀ f, f ≠ 0 → f ≠ 17 → f ≠ 18 → T' f = T f) ∧ ∀ i, i ≠ 10 → i ≠ 11 → T' 0 i = T 0 i
theorem xsam.refl (T : Nat → Nat → Int32) : xsam T T := ⟨fun _ _ _ _ => rfl, fun _ _ _ => rfl⟩
theorem xsam.trans {T T' T'' : Nat → Nat → Int32} (h : xsam T T') (h' : xsam T' T'') : xsam T T'' := ⟨fun f a b c => (h'.1 f a b c).trans (h.1 f a b c), fun i a b => (h'.2 i a b).trans (h.2 i a b)⟩
theorem xrs.sam {T T' : Nat → Nat → Int32} {e w v : Nat → Nat} {m T0 R N C : Nat} {ps pn : Nat → Nat} {h0 : Int32} (h : xrs T e w v m T0 R N C ps pn h0) (hs : xsam T T') : xrs T' e w v m T0 R N C ps pn h0 := by
  obtain ⟨t7, t8, t6, t9, hR6, hN3, hC, hps, htb⟩ := h
  refine ⟨(hs.2 7 (by decide) (by decide)).trans t7, (hs.2 8 (by decide) (by decide)).trans t8, (hs.2 6 (by decide) (by decide)).trans t6, (hs.2 9 (by decide) (by decide)).trans t9, hR6, hN3, hC, fun i hi => ?_, fun r hr c hc => ?_⟩
  · rw [hs.1 15 (by decide) (by decide) (by decide), hs.1 16 (by decide) (by decide) (by decide)]
    exact hps i hi
  · rw [hs.1 (2 + r) (by omega) (by omega) (by omega), hs.1 (9 + r) (by omega) (by omega) (by omega)]
    exact htb r hr c hc
theorem xrel.prune {P N : Nat} {s : g3} {T : Nat → Nat → Int32} (h : xrel P N s T) (hB : P ^ N < 2 ^ 31) {b : Nat} (hb : b ≤ 599994) : (T 0 10 < nI b ↔ 0 ≤ s.1 ∧ s.2.1 < nI b) := by
  rcases h with ⟨rfl, h1, _⟩ | ⟨c, hc, h0, h1, _⟩
  · rw [h1]
    constructor
    · intro q
      exact absurd (show nI 599995 < nI b from q) (nI_nlt (by omega) (by decide))
    · rintro ⟨q, _⟩
      exact absurd q (by decide)
  · rw [h1, h0]
    exact ⟨fun q => ⟨nI_pos' (by omega), q⟩, fun q => q.2⟩
theorem xrel.w {P N : Nat} {s : g3} {T : Nat → Nat → Int32} (h : xrel P N s T) (hB : P ^ N < 2 ^ 31) {b : Nat} (hb : b ≤ 599994) (H : Int32) : (nI b < T 0 10 ∨ T 0 11 < H) ↔ ¬ (0 ≤ s.1 ∧ ¬ nI b < s.2.1 ∧ ¬ s.2.2 < H) := by
  rcases h with ⟨rfl, h1, _⟩ | ⟨c, hc, h0, h1, h2, _⟩
  · constructor
    · intro _ q
      exact absurd q.1 (by decide)
    · intro _
      left
      rw [h1]
      exact nI_lt (b := 599995) (by omega) (by decide)
  · rw [h1, h2]
    constructor
    · rintro (q | q) ⟨_, q2, q3⟩
      · exact q2 q
      · exact q3 q
    · intro q
      by_cases a : nI b < s.2.1
      · exact Or.inl a
      · right
        refine Classical.byContradiction (fun z => q ⟨?_, a, z⟩)
        rw [h0]
        exact nI_pos' (by omega)
theorem xrel.eq {P N : Nat} {s : g3} {T T' : Nat → Nat → Int32} (h : xrel P N s T) (h0 : T' 0 = T 0) (h18 : T' 18 = T 18) : xrel P N s T' := by
  unfold xrel at h ⊢
  rw [h0, h18]
  exact h
set_option maxRecDepth 100000 in
set_option maxHeartbeats 1000000 in
theorem c_X5_weigh {n : Nat} {X : gX} {O : gO} {Q : gU} {G : gK} {S : gS} {L : gLg} (hM : 408 ≤ n) {e w vd : Nat → Nat} {m T0 R N C : Nat} {ps pn : Nat → Nat} {h0 : Int32} (hs : xrs (X 31) e w vd m T0 R N C ps pn h0) {pk : Nat → Nat} (hp : xpk (X 31) C pk N) {P : Nat} (hB : P ^ N < 2 ^ 31) {s : g3} (hrel : xrel P N s (X 31)) {lb b : Nat} (hW9 : lb ≤ 599994) (hb : b < P ^ N) (hdg : ∀ i, i < N → qdg P N b i = ps (pk i)) : SX 2 0 0 mX5_weigh [.ref 260, .int (nI lb)] (xm n X O Q G S L) (fun v M' => v = none ∧ ∃ T', M' = xm n (x_r X 31 T') O Q G S L ∧ xsam (X 31) T' ∧ T' 17 = X 31 17 ∧ xrel P N (if 0 ≤ s.1 ∧ ¬ (nI lb) < s.2.1 ∧ ¬ s.2.2 < rhc pn R h0 (fun i => ps (pk i)) N then s else (nI b, (nI lb), rhc pn R h0 (fun i => ps (pk i)) N)) T') := by
  refine SX.intro [some (.ref 260), some (.int (nI lb)), none, none] (by decide +kernel) (Nat.le_of_ble_eq_true rfl) rfl (fun E hE hQ => ?_)
  obtain ⟨t7, t8, t6, t9, hR6, hN3, hC, hps, htb⟩ := id hs
  have hp64 := pow6' hR6
  have loopa : ∀ (n1 i : Nat), i + n1 = N → RX E mX5_weigh.2.2.1 0 0 7 [some (.ref 260), some (.int (nI lb)), some (.int (rhc pn R h0 (fun i => ps (pk i)) i)), some (.int (nI i))] [] (xm n X O Q G S L) := by
    intro n1
    induction n1 with
    | zero =>
      intro i hk2
      refine rx_iload_n hE dX5_weigh_7 (i := 3) rfl rfl ?_
      refine rx_aload_n hE dX5_weigh_8 (i := 0) rfl rfl ?_
      refine rx_getf hE dX5_weigh_9 fl_X5_41_5 (xa_31 hM) rfl ?_
      refine rx_int _ (nI N) t8 ?_
      refine rx_icmp_ge (tgt := 37) hE dX5_weigh_12 (by decide) (fun c12 => ?_) (fun c12 => absurd (show nI N ≤ nI i from nI_le (by omega) (by omega)) c12)
      have hi : i = N := by omega
      rw [hi]
      refine rx_iload_n hE dX5_weigh_37 (i := 1) rfl rfl ?_
      refine rx_aload_n hE dX5_weigh_38 (i := 0) rfl rfl ?_
      refine rx_getf hE dX5_weigh_39 fl_X5_47_5 (xa_31 hM) rfl ?_
      refine rx_icmp_lt (tgt := 53) hE dX5_weigh_42 (by decide) (fun c42 => ?_) (fun c42 => ?_)
      · have hupd : ¬ (0 ≤ s.1 ∧ ¬ (nI lb) < s.2.1 ∧ ¬ s.2.2 < rhc pn R h0 (fun i => ps (pk i)) N) := (hrel.w hB hW9 _).mp (Or.inl c42)
        refine rx_aload_n hE dX5_weigh_53 (i := 0) rfl rfl ?_
        refine rx_iload_n hE dX5_weigh_54 (i := 1) rfl rfl ?_
        refine rx_put hE dX5_weigh_55 fl_X5_47_5 fw_5_10 (xa_31 hM) (fun _ => rfl) (fun _ => rfl) (Nat.le_of_ble_eq_true rfl) ?_
        refine rx_mem (M' := xm n (x_r X 31 (j_f (X 31) 10 (nI lb))) O Q G S L) xw_31_f10 ?_
        refine rx_aload_n hE dX5_weigh_58 (i := 0) rfl rfl ?_
        refine rx_iload_n hE dX5_weigh_59 (i := 2) rfl rfl ?_
        refine rx_put hE dX5_weigh_60 fl_X5_50_5 fw_5_11 (xa_31 hM) (fun _ => rfl) (fun _ => rfl) (Nat.le_of_ble_eq_true rfl) ?_
        refine rx_mem (M' := xm n (x_r X 31 (j_f (j_f (X 31) 10 (nI lb)) 11 (rhc pn R h0 (fun i => ps (pk i)) N))) O Q G S L) (xw_31_f11.trans (by rw [x_rr, x_r_eq])) ?_
        refine rx_iconst hE dX5_weigh_63 (v := 0) (by decide) ?_
        refine rx_istore_n_3 hE dX5_weigh_64 (by decide) rfl ?_
        have loopb : ∀ (n1 i : Nat) (bb : Nat → Int32), i + n1 = N → (∀ j, j < i → bb j = nI (ps (pk j))) → RX E mX5_weigh.2.2.1 0 0 65 [some (.ref 260), some (.int (nI lb)), some (.int (rhc pn R h0 (fun i => ps (pk i)) N)), some (.int (nI i))] [] (xm n (x_r X 31 (j_s (j_f (j_f (X 31) 10 (nI lb)) 11 (rhc pn R h0 (fun i => ps (pk i)) N)) 18 bb)) O Q G S L) := by
          intro n1
          induction n1 with
          | zero =>
            intro i bb hk2 hbb
            refine rx_iload_n hE dX5_weigh_65 (i := 3) rfl rfl ?_
            refine rx_aload_n hE dX5_weigh_66 (i := 0) rfl rfl ?_
            refine rx_getf hE dX5_weigh_67 fl_X5_41_5 (xa_31 hM) rfl ?_
            refine rx_int _ (nI N) t8 ?_
            refine rx_icmp_ge (tgt := 96) hE dX5_weigh_70 (by decide) (fun c70 => ?_) (fun c70 => absurd (show nI N ≤ nI i from nI_le (by omega) (by omega)) c70)
            exact rx_vret hE hQ rfl dX5_weigh_96 ⟨rfl, j_s (j_f (j_f (X 31) 10 (nI lb)) 11 (rhc pn R h0 (fun i => ps (pk i)) N)) 18 bb, rfl, ⟨fun f f0 _ f18 => by show (if f = 18 then bb else (j_f (j_f (X 31) 10 (nI lb)) 11 (rhc pn R h0 (fun i => ps (pk i)) N)) f) = _; rw [if_neg f18]; exact (if_neg f0).trans (if_neg f0), fun j j1 j2 => by show upd (upd (X 31 0) 10 (nI lb)) 11 _ j = _; rw [upd_ne j2, upd_ne j1]⟩, rfl, by rw [if_neg hupd]; exact Or.inr ⟨b, hb, rfl, rfl, rfl, fun j hj => (hbb j (by omega)).trans (by rw [hdg j hj])⟩⟩
          | succ n1 ih =>
            intro i bb hk2 hbb
            refine rx_iload_n hE dX5_weigh_65 (i := 3) rfl rfl ?_
            refine rx_aload_n hE dX5_weigh_66 (i := 0) rfl rfl ?_
            refine rx_getf hE dX5_weigh_67 fl_X5_41_5 (xa_31 hM) rfl ?_
            refine rx_int _ (nI N) t8 ?_
            refine rx_icmp_ge (tgt := 96) hE dX5_weigh_70 (by decide) (fun c70 => absurd c70 (nI_ge (a := i) (b := N) (by omega) (by omega))) (fun c70 => ?_)
            refine rx_aload_n hE dX5_weigh_73 (i := 0) rfl rfl ?_
            refine rx_getf hE dX5_weigh_74 fl_X5_31_5 (xa_31 hM) rfl ?_
            refine rx_iload_n hE dX5_weigh_77 (i := 3) rfl rfl ?_
            refine rx_aload_n hE dX5_weigh_78 (i := 0) rfl rfl ?_
            refine rx_getf hE dX5_weigh_79 fl_X5_21_5 (xa_31 hM) rfl ?_
            refine rx_aload_n hE dX5_weigh_82 (i := 0) rfl rfl ?_
            refine rx_getf hE dX5_weigh_83 fl_X5_28_5 (xa_31 hM) rfl ?_
            refine rx_iload_n hE dX5_weigh_86 (i := 3) rfl rfl ?_
            refine rx_ialdN (i := i) hE dX5_weigh_87 (xa_31_17 hM) (by omega) (by decide) ?_
            have hpi := hp i (by omega)
            have hsi := hps (pk i) hpi.1
            refine rx_int _ (nI (pk i)) hpi.2 ?_
            refine rx_ialdN (i := pk i) hE dX5_weigh_88 (xa_31_15 hM) (by omega) (by decide) ?_
            refine rx_int _ (nI (ps (pk i))) hsi.2.1 ?_
            refine rx_iastN (i := i) hE dX5_weigh_89 (xa_31_18 hM) (by omega) (by decide) ?_
            refine rx_mem (M' := xm n (x_r X 31 (j_s (j_f (j_f (X 31) 10 (nI lb)) 11 (rhc pn R h0 (fun i => ps (pk i)) N)) 18 (upd bb i (nI (ps (pk i)))))) O Q G S L) (xw_31_18.trans (by rw [x_rr, x_r_eq, j_ss]; rfl)) ?_
            refine rx_iinc_3 hE dX5_weigh_90 (v := 1) (by decide) (by decide) rfl ?_
            rw [nI_1]
            refine rx_goto (tgt := 65) hE dX5_weigh_93 (by decide) ?_
            exact ih (i + 1) _ (by omega) (fun j hj => by
              by_cases hj2 : j = i
              · rw [hj2]; exact upd_eq
              · exact (upd_ne hj2).trans (hbb j (by omega)))
        refine rx_mem (M' := xm n (x_r X 31 (j_s (j_f (j_f (X 31) 10 (nI lb)) 11 (rhc pn R h0 (fun i => ps (pk i)) N)) 18 ((j_f (j_f (X 31) 10 (nI lb)) 11 (rhc pn R h0 (fun i => ps (pk i)) N)) 18))) O Q G S L) (by rw [j_s_id]) ?_
        exact loopb N 0 _ (by omega) (fun j hj => absurd hj (Nat.not_lt_zero j))
      · refine rx_iload_n hE dX5_weigh_45 (i := 2) rfl rfl ?_
        refine rx_aload_n hE dX5_weigh_46 (i := 0) rfl rfl ?_
        refine rx_getf hE dX5_weigh_47 fl_X5_50_5 (xa_31 hM) rfl ?_
        refine rx_icmp_le (tgt := 96) hE dX5_weigh_50 (by decide) (fun c50 => ?_) (fun c50 => ?_)
        · exact rx_vret hE hQ rfl dX5_weigh_96 ⟨rfl, X 31, by rw [x_r_id], xsam.refl _, rfl, by rw [if_pos (Classical.byContradiction (fun q => ((hrel.w hB hW9 (rhc pn R h0 (fun i => ps (pk i)) N)).mpr q).elim c42 (fun z => absurd z (Int32.not_lt.mpr c50))))]; exact hrel⟩
        · have hupd : ¬ (0 ≤ s.1 ∧ ¬ (nI lb) < s.2.1 ∧ ¬ s.2.2 < rhc pn R h0 (fun i => ps (pk i)) N) := (hrel.w hB hW9 _).mp (Or.inr (Int32.not_le.mp c50))
          refine rx_aload_n hE dX5_weigh_53 (i := 0) rfl rfl ?_
          refine rx_iload_n hE dX5_weigh_54 (i := 1) rfl rfl ?_
          refine rx_put hE dX5_weigh_55 fl_X5_47_5 fw_5_10 (xa_31 hM) (fun _ => rfl) (fun _ => rfl) (Nat.le_of_ble_eq_true rfl) ?_
          refine rx_mem (M' := xm n (x_r X 31 (j_f (X 31) 10 (nI lb))) O Q G S L) xw_31_f10 ?_
          refine rx_aload_n hE dX5_weigh_58 (i := 0) rfl rfl ?_
          refine rx_iload_n hE dX5_weigh_59 (i := 2) rfl rfl ?_
          refine rx_put hE dX5_weigh_60 fl_X5_50_5 fw_5_11 (xa_31 hM) (fun _ => rfl) (fun _ => rfl) (Nat.le_of_ble_eq_true rfl) ?_
          refine rx_mem (M' := xm n (x_r X 31 (j_f (j_f (X 31) 10 (nI lb)) 11 (rhc pn R h0 (fun i => ps (pk i)) N))) O Q G S L) (xw_31_f11.trans (by rw [x_rr, x_r_eq])) ?_
          refine rx_iconst hE dX5_weigh_63 (v := 0) (by decide) ?_
          refine rx_istore_n_3 hE dX5_weigh_64 (by decide) rfl ?_
          have loopb : ∀ (n1 i : Nat) (bb : Nat → Int32), i + n1 = N → (∀ j, j < i → bb j = nI (ps (pk j))) → RX E mX5_weigh.2.2.1 0 0 65 [some (.ref 260), some (.int (nI lb)), some (.int (rhc pn R h0 (fun i => ps (pk i)) N)), some (.int (nI i))] [] (xm n (x_r X 31 (j_s (j_f (j_f (X 31) 10 (nI lb)) 11 (rhc pn R h0 (fun i => ps (pk i)) N)) 18 bb)) O Q G S L) := by
            intro n1
            induction n1 with
            | zero =>
              intro i bb hk2 hbb
              refine rx_iload_n hE dX5_weigh_65 (i := 3) rfl rfl ?_
              refine rx_aload_n hE dX5_weigh_66 (i := 0) rfl rfl ?_
              refine rx_getf hE dX5_weigh_67 fl_X5_41_5 (xa_31 hM) rfl ?_
              refine rx_int _ (nI N) t8 ?_
              refine rx_icmp_ge (tgt := 96) hE dX5_weigh_70 (by decide) (fun c70 => ?_) (fun c70 => absurd (show nI N ≤ nI i from nI_le (by omega) (by omega)) c70)
              exact rx_vret hE hQ rfl dX5_weigh_96 ⟨rfl, j_s (j_f (j_f (X 31) 10 (nI lb)) 11 (rhc pn R h0 (fun i => ps (pk i)) N)) 18 bb, rfl, ⟨fun f f0 _ f18 => by show (if f = 18 then bb else (j_f (j_f (X 31) 10 (nI lb)) 11 (rhc pn R h0 (fun i => ps (pk i)) N)) f) = _; rw [if_neg f18]; exact (if_neg f0).trans (if_neg f0), fun j j1 j2 => by show upd (upd (X 31 0) 10 (nI lb)) 11 _ j = _; rw [upd_ne j2, upd_ne j1]⟩, rfl, by rw [if_neg hupd]; exact Or.inr ⟨b, hb, rfl, rfl, rfl, fun j hj => (hbb j (by omega)).trans (by rw [hdg j hj])⟩⟩
            | succ n1 ih =>
              intro i bb hk2 hbb
              refine rx_iload_n hE dX5_weigh_65 (i := 3) rfl rfl ?_
              refine rx_aload_n hE dX5_weigh_66 (i := 0) rfl rfl ?_
              refine rx_getf hE dX5_weigh_67 fl_X5_41_5 (xa_31 hM) rfl ?_
              refine rx_int _ (nI N) t8 ?_
              refine rx_icmp_ge (tgt := 96) hE dX5_weigh_70 (by decide) (fun c70 => absurd c70 (nI_ge (a := i) (b := N) (by omega) (by omega))) (fun c70 => ?_)
              refine rx_aload_n hE dX5_weigh_73 (i := 0) rfl rfl ?_
              refine rx_getf hE dX5_weigh_74 fl_X5_31_5 (xa_31 hM) rfl ?_
              refine rx_iload_n hE dX5_weigh_77 (i := 3) rfl rfl ?_
              refine rx_aload_n hE dX5_weigh_78 (i := 0) rfl rfl ?_
              refine rx_getf hE dX5_weigh_79 fl_X5_21_5 (xa_31 hM) rfl ?_
              refine rx_aload_n hE dX5_weigh_82 (i := 0) rfl rfl ?_
              refine rx_getf hE dX5_weigh_83 fl_X5_28_5 (xa_31 hM) rfl ?_
              refine rx_iload_n hE dX5_weigh_86 (i := 3) rfl rfl ?_
              refine rx_ialdN (i := i) hE dX5_weigh_87 (xa_31_17 hM) (by omega) (by decide) ?_
              have hpi := hp i (by omega)
              have hsi := hps (pk i) hpi.1
              refine rx_int _ (nI (pk i)) hpi.2 ?_
              refine rx_ialdN (i := pk i) hE dX5_weigh_88 (xa_31_15 hM) (by omega) (by decide) ?_
              refine rx_int _ (nI (ps (pk i))) hsi.2.1 ?_
              refine rx_iastN (i := i) hE dX5_weigh_89 (xa_31_18 hM) (by omega) (by decide) ?_
              refine rx_mem (M' := xm n (x_r X 31 (j_s (j_f (j_f (X 31) 10 (nI lb)) 11 (rhc pn R h0 (fun i => ps (pk i)) N)) 18 (upd bb i (nI (ps (pk i)))))) O Q G S L) (xw_31_18.trans (by rw [x_rr, x_r_eq, j_ss]; rfl)) ?_
              refine rx_iinc_3 hE dX5_weigh_90 (v := 1) (by decide) (by decide) rfl ?_
              rw [nI_1]
              refine rx_goto (tgt := 65) hE dX5_weigh_93 (by decide) ?_
              exact ih (i + 1) _ (by omega) (fun j hj => by
                by_cases hj2 : j = i
                · rw [hj2]; exact upd_eq
                · exact (upd_ne hj2).trans (hbb j (by omega)))
          refine rx_mem (M' := xm n (x_r X 31 (j_s (j_f (j_f (X 31) 10 (nI lb)) 11 (rhc pn R h0 (fun i => ps (pk i)) N)) 18 ((j_f (j_f (X 31) 10 (nI lb)) 11 (rhc pn R h0 (fun i => ps (pk i)) N)) 18))) O Q G S L) (by rw [j_s_id]) ?_
          exact loopb N 0 _ (by omega) (fun j hj => absurd hj (Nat.not_lt_zero j))
    | succ n1 ih =>
      intro i hk2
      refine rx_iload_n hE dX5_weigh_7 (i := 3) rfl rfl ?_
      refine rx_aload_n hE dX5_weigh_8 (i := 0) rfl rfl ?_
      refine rx_getf hE dX5_weigh_9 fl_X5_41_5 (xa_31 hM) rfl ?_
      refine rx_int _ (nI N) t8 ?_
      refine rx_icmp_ge (tgt := 37) hE dX5_weigh_12 (by decide) (fun c12 => absurd c12 (nI_ge (a := i) (b := N) (by omega) (by omega))) (fun c12 => ?_)
      refine rx_iload_n hE dX5_weigh_15 (i := 2) rfl rfl ?_
      refine rx_aload_n hE dX5_weigh_16 (i := 0) rfl rfl ?_
      refine rx_getf hE dX5_weigh_17 fl_X5_25_5 (xa_31 hM) rfl ?_
      refine rx_aload_n hE dX5_weigh_20 (i := 0) rfl rfl ?_
      refine rx_getf hE dX5_weigh_21 fl_X5_28_5 (xa_31 hM) rfl ?_
      refine rx_iload_n hE dX5_weigh_24 (i := 3) rfl rfl ?_
      refine rx_ialdN (i := i) hE dX5_weigh_25 (xa_31_17 hM) (by omega) (by decide) ?_
      have hpi := hp i (by omega)
      have hsi := hps (pk i) hpi.1
      refine rx_int _ (nI (pk i)) hpi.2 ?_
      refine rx_ialdN (i := pk i) hE dX5_weigh_26 (xa_31_16 hM) (by omega) (by decide) ?_
      refine rx_int _ (jso pn (nI (ps (pk i))) R) hsi.2.2 ?_
      refine rx_call0 (rx_callS (av := [.int _, .int _]) hE dX5_weigh_27 lk_X5_103 (c_X2_heardBehind _ _) np_X2_heardBehind rfl rfl (by decide) (Nat.le_of_ble_eq_true rfl) rfl ?_)
      rintro v M' ⟨rfl, rfl⟩
      refine rx_int _ (rhc pn R h0 (fun i => ps (pk i)) (i + 1)) rfl ?_
      refine rx_istore_n_2 hE dX5_weigh_30 (by decide) rfl ?_
      refine rx_iinc_3 hE dX5_weigh_31 (v := 1) (by decide) (by decide) rfl ?_
      rw [nI_1]
      refine rx_goto (tgt := 7) hE dX5_weigh_34 (by decide) ?_
      exact ih (i + 1) (by omega)
  refine rx_aload_n hE dX5_weigh_0 (i := 0) rfl rfl ?_
  refine rx_getf hE dX5_weigh_1 fl_X5_44_5 (xa_31 hM) rfl ?_
  refine rx_int _ (rhc pn R h0 (fun i => ps (pk i)) 0) t9 ?_
  refine rx_istore_n_2 hE dX5_weigh_4 (by decide) rfl ?_
  refine rx_iconst hE dX5_weigh_5 (v := 0) (by decide) ?_
  refine rx_istore_n_3 hE dX5_weigh_6 (by decide) rfl ?_
  exact loopa N 0 (by omega)
