/-! ===== RuleText.readClause ===== -/
theorem let_te {T : Nat → Int32} {N p : Nat} (hp : p ≤ N) (h : ¬ qwd T N p 12468 = 0) : p + 3 ≤ nx T N p := by
  have h1 := (qw_let hp).mp h
  have h2 := (wd_te hp h).2.2
  have h3 : trl T N p = 3 := h1.1
  have h4 := sk_le (T := T) (te_le (T := T) hp).2.1
  unfold trl at h3
  unfold nx
  omega
def rcP (T : Nat → Int32) (N p c i : Nat) (st : List Int32) (X' : gX) : Prop := (qwd T N p 12468 = 0 ∧ ce X' T N (fE p 0)) ∨ (¬ qwd T N p 12468 = 0 ∧ i = 12 ∧ ce X' T N (fE p 4)) ∨ (¬ qwd T N p 12468 = 0 ∧ i < 12 ∧ ((∃ g, ce X' T N g ∧ clR T N (nx T N p) c (.error g)) ∨ ∃ p1 q c1, clR T N (nx T N p) c (.ok (p1, q, c1)) ∧ cq X' T N p1 c1 (st ++ cstep q) ∧ kct q ∧ (st ++ cstep q).length + 2 ≤ p1 ∧ p < p1))
set_option maxRecDepth 100000 in
set_option maxHeartbeats 1000000 in
theorem c_X7_readClause {n : Nat} {X : gX} {O : gO} {Q : gU} {G : gK} {S : gS} {L : gLg} (hM : 408 ≤ n) {T : Nat → Int32} {N p c : Nat} {st : List Int32} (hN : N ≤ 400) (hq : cq X T N p c st) (hb : ∀ i, tb8 (T i)) (hl : st.length ≤ p) {i : Nat} (hi : i ≤ 12) : SX 29 0 0 mX7_readClause [.ref 50, .int (nI i)] (xm n X O Q G S L) (fun v M' => v = none ∧ ∃ X', M' = xm n X' O Q G S L ∧ xf X X' ∧ rcP T N p c i st X') := by
  refine SX.intro [some (.ref 50), some (.int (nI i))] (by decide +kernel) (Nat.le_of_ble_eq_true rfl) rfl (fun E hE hQ => ?_)
  have hpN0 := hq.2.1
  have hc6 := hq.2.2.2.2.2
  refine rx_aload_n hE dX7_readClause_0 (i := 0) rfl rfl ?_
  refine rx_getf hE dX7_readClause_1 fl_X7_39_7 (xa_6 hM) rfl ?_
  refine rx_ldcS hE 1 (by decide) dX7_readClause_4 rfl rfl ?_
  refine rx_call0 (rx_callV (av := [.ref 4]) hE dX7_readClause_6 lk_X7_45 (c_X8_wordLet hM hN hq.2.1 hq.1) (xa_1 hM) np_X8_wordOf rfl rfl (by decide) (Nat.le_of_ble_eq_true rfl) rfl ?_)
  rintro v M' ⟨rfl, rfl⟩
  by_cases hlt : qwd T N p 12468 = 0
  · refine rx_int _ (-1) (if_pos hlt) ?_
    refine rx_iconst hE dX7_readClause_9 (v := -1) (by decide) ?_
    refine rx_icmp_ne (tgt := 22) hE dX7_readClause_10 (by decide) (fun c10 => absurd rfl c10) (fun c10 => ?_)
    refine rx_aload_n hE dX7_readClause_13 (i := 0) rfl rfl ?_
    refine rx_getf hE dX7_readClause_14 fl_X7_39_7 (xa_6 hM) rfl ?_
    refine rx_iconst hE dX7_readClause_17 (v := 0) (by decide) ?_
    refine rx_call0 (rx_callV (av := [.int 0]) hE dX7_readClause_18 lk_X7_51 (c_X8_failQ (X := X) hM hN hq (by omega) (w := 0) (by decide)) (xa_1 hM) np_X8_fail rfl rfl (by decide) (Nat.le_of_ble_eq_true rfl) rfl ?_)
    rintro v M' ⟨rfl, X', rfl, hf, he⟩
    exact rx_vret hE hQ rfl dX7_readClause_21 ⟨rfl, X', rfl, hf, Or.inl ⟨hlt, he⟩⟩
  · refine rx_int _ 0 (if_neg hlt) ?_
    have hle := let_te hq.2.1 hlt
    refine rx_iconst hE dX7_readClause_9 (v := -1) (by decide) ?_
    refine rx_icmp_ne (tgt := 22) hE dX7_readClause_10 (by decide) (fun c10 => ?_) (fun c10 => absurd c10 (by decide))
    refine rx_iload_n hE dX7_readClause_22 (i := 1) rfl rfl ?_
    refine rx_bipush hE dX7_readClause_23 (v := 12) (by decide) ?_
    refine rx_icmp_lt (tgt := 37) hE dX7_readClause_25 (by decide) (fun c25 => ?_) (fun c25 => ?_)
    · have hi12 : i < 12 := Classical.byContradiction (fun z => absurd c25 (Int32.not_lt.mpr (nI_le (a := 12) (b := i) (by omega) (by omega))))
      refine rx_aload_n hE dX7_readClause_37 (i := 0) rfl rfl ?_
      refine rx_getf hE dX7_readClause_38 fl_X7_39_7 (xa_6 hM) rfl ?_
      refine rx_call0 (rx_callV (av := []) hE dX7_readClause_41 lk_X7_55 (c_X8_nextQ (X := X) hM hN hq) (xa_1 hM) np_X8_next rfl rfl (by decide) (Nat.le_of_ble_eq_true rfl) rfl ?_)
      rintro v M' ⟨rfl, X2, rfl, f2, q2⟩
      have hnx2 := q2.2.1
      refine rx_aload_n hE dX7_readClause_44 (i := 0) rfl rfl ?_
      refine rx_call0 (rx_callV (av := []) hE dX7_readClause_45 lk_X7_59 (c_X7_readSum (X := X2) hM hN q2 (by omega)) (xa_6 hM) np_X7_readSum rfl rfl (by decide) (Nat.le_of_ble_eq_true rfl) rfl ?_)
      rintro v M' ⟨rfl, X3, rfl, f3, hv⟩
      rcases hv with ⟨g, he, m1, hm1⟩ | ⟨p1, l1, c1, q3, m1, hm1⟩
      · obtain ⟨h0, ⟨pe, hpe, hce⟩, hk⟩ := id he
        refine rx_aload_n hE dX7_readClause_48 (i := 0) rfl rfl ?_
        refine rx_getf hE dX7_readClause_49 fl_X7_39_7 (xa_6 hM) rfl ?_
        refine rx_getfN hE dX7_readClause_52 fl_X7_62_8 (xa_1 hM) rfl ?_
        refine rx_int _ g hce.1.2.2.2 ?_
        refine rx_if_ne (tgt := 71) hE dX7_readClause_55 (by decide) (fun c55 => ?_) (fun c55 => absurd c55 h0)
        refine rx_aload_n hE dX7_readClause_71 (i := 0) rfl rfl ?_
        refine rx_bipush hE dX7_readClause_72 (v := -33) (by decide) ?_
        refine rx_call0 (rx_callV (av := [.int (-33)]) hE dX7_readClause_74 lk_X7_67 (c_X7_putE hM he (-33)) (xa_6 hM) np_X7_put rfl rfl (by decide) (Nat.le_of_ble_eq_true rfl) rfl ?_)
        rintro v M' ⟨rfl, rfl⟩
        exact rx_vret hE hQ rfl dX7_readClause_77 ⟨rfl, X3, rfl, f2.trans f3, Or.inr (Or.inr ⟨hlt, hi12, Or.inl ⟨g, he, m1, _, hm1, Or.inl ⟨_, rfl, rfl⟩⟩⟩)⟩
      · obtain ⟨_, ez, ety, e3, e4, e5, e6⟩ := smR_ty _ _ _ _ _ _ _ _ _ hm1 (Or.inl rfl) (Or.inl rfl) q2.2.1
        rw [List.nil_append] at ez
        subst ez
        have k0 : (opt 0).length = 0 := rfl
        refine rx_aload_n hE dX7_readClause_48 (i := 0) rfl rfl ?_
        refine rx_getf hE dX7_readClause_49 fl_X7_39_7 (xa_6 hM) rfl ?_
        refine rx_getfN hE dX7_readClause_52 fl_X7_62_8 (xa_1 hM) rfl ?_
        refine rx_int _ 0 q3.1.1.2.2.2 ?_
        refine rx_if_ne (tgt := 71) hE dX7_readClause_55 (by decide) (fun c55 => absurd rfl c55) (fun c55 => ?_)
        refine rx_aload_n hE dX7_readClause_58 (i := 0) rfl rfl ?_
        refine rx_getf hE dX7_readClause_59 fl_X7_39_7 (xa_6 hM) rfl ?_
        refine rx_ldcS hE 2 (by decide) dX7_readClause_62 rfl rfl ?_
        refine rx_call0 (rx_callV (av := [.ref 5]) hE dX7_readClause_64 lk_X7_45 (c_X8_wordIf hM hN q3.2.1 q3.1) (xa_1 hM) np_X8_wordOf rfl rfl (by decide) (Nat.le_of_ble_eq_true rfl) rfl ?_)
        rintro v M' ⟨rfl, rfl⟩
        by_cases hif : qwd T N p1 294 = 0
        · refine rx_int _ (-1) (if_pos hif) ?_
          refine rx_iconst hE dX7_readClause_67 (v := -1) (by decide) ?_
          refine rx_icmp_ne (tgt := 78) hE dX7_readClause_68 (by decide) (fun c68 => absurd rfl c68) (fun c68 => ?_)
          refine rx_aload_n hE dX7_readClause_71 (i := 0) rfl rfl ?_
          refine rx_bipush hE dX7_readClause_72 (v := -33) (by decide) ?_
          refine rx_call0 (rx_callV (av := [.int (-33)]) hE dX7_readClause_74 lk_X7_67 (c_X7_putQ (X := X3) hM q3 (by simp only [List.length_append, List.length_map]; omega) (-33)) (xa_6 hM) np_X7_put rfl rfl (by decide) (Nat.le_of_ble_eq_true rfl) rfl ?_)
          rintro v M' ⟨rfl, X4, rfl, f4, q4⟩
          exact rx_vret hE hQ rfl dX7_readClause_77 ⟨rfl, X4, rfl, f2.trans (f3.trans f4), Or.inr (Or.inr ⟨hlt, hi12, Or.inr ⟨p1, (l1, none), c1, ⟨m1, _, hm1, Or.inr ⟨p1, _, c1, rfl, Or.inl ⟨hif, rfl⟩⟩⟩, by rw [show st ++ cstep (l1, none) = st ++ l1.map cenc ++ [-33] from (List.append_assoc _ _ _).symm]; exact q4, ⟨ety [] (by decide), fun t z => absurd z (by simp)⟩, by rw [show cstep (l1, none) = l1.map cenc ++ [-33] from rfl, List.length_append, List.length_append, List.length_map]; show st.length + (l1.length + 1) + 2 ≤ p1; omega, by omega⟩⟩)⟩
        · refine rx_int _ 0 (if_neg hif) ?_
          refine rx_iconst hE dX7_readClause_67 (v := -1) (by decide) ?_
          refine rx_icmp_ne (tgt := 78) hE dX7_readClause_68 (by decide) (fun c68 => ?_) (fun c68 => absurd c68 (by decide))
          refine rx_aload_n hE dX7_readClause_78 (i := 0) rfl rfl ?_
          refine rx_getf hE dX7_readClause_79 fl_X7_39_7 (xa_6 hM) rfl ?_
          refine rx_call0 (rx_callV (av := []) hE dX7_readClause_82 lk_X7_55 (c_X8_nextQ (X := X3) hM hN q3) (xa_1 hM) np_X8_next rfl rfl (by decide) (Nat.le_of_ble_eq_true rfl) rfl ?_)
          rintro v M' ⟨rfl, X4, rfl, f4, q4⟩
          have hnx3 := nx_lt (T := T) (wd_te q3.2.1 hif).1
          have hnx4 := q4.2.1
          refine rx_aload_n hE dX7_readClause_85 (i := 0) rfl rfl ?_
          refine rx_iconst hE dX7_readClause_86 (v := 0) (by decide) ?_
          refine rx_call0 (rx_callV (av := [.int 0]) hE dX7_readClause_87 lk_X7_70 (c_X7_test0 hM hN hb X4 (nx T N p1) c1 (st ++ l1.map cenc) q4 (by simp only [List.length_append, List.length_map]; omega)) (xa_6 hM) np_X7_readTest rfl rfl (by decide) (Nat.le_of_ble_eq_true rfl) rfl ?_)
          rintro v M' ⟨rfl, X5, rfl, f5, hv⟩
          rcases hv with ⟨g, he, hv⟩ | ⟨p2, l2, c2, q5, hv⟩
          · obtain ⟨m2, hm2⟩ := hv [] [] ⟨rfl, Or.inl rfl⟩
            refine rx_aload_n hE dX7_readClause_90 (i := 0) rfl rfl ?_
            refine rx_bipush hE dX7_readClause_91 (v := -34) (by decide) ?_
            refine rx_call0 (rx_callV (av := [.int (-34)]) hE dX7_readClause_93 lk_X7_67 (c_X7_putE hM he (-34)) (xa_6 hM) np_X7_put rfl rfl (by decide) (Nat.le_of_ble_eq_true rfl) rfl ?_)
            rintro v M' ⟨rfl, rfl⟩
            exact rx_vret hE hQ rfl dX7_readClause_96 ⟨rfl, X5, rfl, f2.trans (f3.trans (f4.trans f5)), Or.inr (Or.inr ⟨hlt, hi12, Or.inl ⟨g, he, m1, _, hm1, Or.inr ⟨p1, _, c1, rfl, Or.inr ⟨hif, m2, _, hm2, Or.inl ⟨_, rfl, rfl⟩⟩⟩⟩⟩)⟩
          · obtain ⟨m2, hm2⟩ := hv.1 [] ⟨rfl, Or.inl rfl⟩
            have hv3 := hv.2.2.2.2
            have hp5 := q5.2.1
            refine rx_aload_n hE dX7_readClause_90 (i := 0) rfl rfl ?_
            refine rx_bipush hE dX7_readClause_91 (v := -34) (by decide) ?_
            refine rx_call0 (rx_callV (av := [.int (-34)]) hE dX7_readClause_93 lk_X7_67 (c_X7_putQ (X := X5) hM q5 (by simp only [List.length_append, List.length_map]; omega) (-34)) (xa_6 hM) np_X7_put rfl rfl (by decide) (Nat.le_of_ble_eq_true rfl) rfl ?_)
            rintro v M' ⟨rfl, X6, rfl, f6, q6⟩
            exact rx_vret hE hQ rfl dX7_readClause_96 ⟨rfl, X6, rfl, f2.trans (f3.trans (f4.trans (f5.trans f6))), Or.inr (Or.inr ⟨hlt, hi12, Or.inr ⟨p2, (l1, some l2), c2, ⟨m1, _, hm1, Or.inr ⟨p1, _, c1, rfl, Or.inr ⟨hif, m2, _, hm2, Or.inr ⟨p2, _, c2, rfl, rfl⟩⟩⟩⟩, by rw [show st ++ cstep (l1, some l2) = st ++ l1.map cenc ++ l2.map cenc ++ [-34] by rw [show cstep (l1, some l2) = l1.map cenc ++ (l2.map cenc ++ [-34]) from rfl]; simp only [List.append_assoc]]; exact q6, ⟨ety [] (by decide), fun t z => by injection z with z; subst z; exact hv.2.2.2.1 [] (by decide)⟩, by rw [show cstep (l1, some l2) = l1.map cenc ++ (l2.map cenc ++ [-34]) from rfl, List.length_append, List.length_append, List.length_append, List.length_map, List.length_map]; show st.length + (l1.length + (l2.length + 1)) + 2 ≤ p2; omega, by omega⟩⟩)⟩
    · have hi12 : ¬ i < 12 := fun z => c25 (nI_lt (a := i) (b := 12) z (by decide))
      refine rx_aload_n hE dX7_readClause_28 (i := 0) rfl rfl ?_
      refine rx_getf hE dX7_readClause_29 fl_X7_39_7 (xa_6 hM) rfl ?_
      refine rx_iconst hE dX7_readClause_32 (v := 4) (by decide) ?_
      refine rx_call0 (rx_callV (av := [.int 4]) hE dX7_readClause_33 lk_X7_51 (c_X8_failQ (X := X) hM hN hq (by omega) (w := 4) (by decide)) (xa_1 hM) np_X8_fail rfl rfl (by decide) (Nat.le_of_ble_eq_true rfl) rfl ?_)
      rintro v M' ⟨rfl, X', rfl, hf, he⟩
      exact rx_vret hE hQ rfl dX7_readClause_36 ⟨rfl, X', rfl, hf, Or.inr (Or.inl ⟨hlt, by omega, he⟩)⟩
