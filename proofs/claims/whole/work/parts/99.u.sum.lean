/-! ===== readSum ===== -/
theorem aI_0 {t : Nat} (h : isO t) : aI t = -1 ↔ t = 0 := by
  rcases h with rfl | rfl | rfl | rfl | rfl | rfl <;> decide
theorem cenc_op {t : Nat} (h : isO t) (h0 : ¬ t = 0) : (opt t).map cenc = [aI t] := by
  rcases h with rfl | rfl | rfl | rfl | rfl | rfl
  · exact absurd rfl h0
  all_goals decide
theorem app_t1 {st : List Int32} {l : gSg} {x : Nat × Nat} {t : Nat} (h : isO t) (h0 : ¬ t = 0) : st ++ l.map cenc ++ [cenc x] ++ [aI t] = st ++ (l ++ x :: opt t).map cenc := by
  rw [List.map_append, List.map_cons, cenc_op h h0]
  simp only [List.append_assoc, List.cons_append, List.nil_append]
theorem app_t0 {st : List Int32} {l : gSg} {x : Nat × Nat} : st ++ l.map cenc ++ [cenc x] = st ++ (l ++ x :: opt 0).map cenc := by
  rw [List.map_append, List.append_assoc]
  rfl
theorem app_a1 {st : List Int32} {l : gSg} {t : Nat} (h : isO t) (h0 : ¬ t = 0) : st ++ l.map cenc ++ [aI t] = st ++ (l ++ opt t).map cenc := by
  rw [List.map_append, cenc_op h h0, List.append_assoc]
theorem app_a0 {st : List Int32} {l : gSg} : st ++ l.map cenc = st ++ (l ++ opt 0).map cenc := by
  rw [show opt 0 = [] from rfl, List.append_nil]
set_option maxRecDepth 100000 in
set_option maxHeartbeats 1000000 in
theorem c_X7_readSum {n : Nat} {X : gX} {O : gO} {Q : gU} {G : gK} {S : gS} {L : gLg} (hM : 408 ≤ n) {T : Nat → Int32} {N p c : Nat} {st : List Int32} (hN : N ≤ 400) (hq : cq X T N p c st) (hl : st.length + 3 ≤ p) : SX 6 0 0 mX7_readSum [.ref 50] (xm n X O Q G S L) (fun v M' => v = none ∧ ∃ X', M' = xm n X' O Q G S L ∧ xf X X' ∧ ((∃ g, ce X' T N g ∧ ∃ m, smR T N m 0 0 p [] c (.error g)) ∨ ∃ p' l' c', cq X' T N p' c' (st ++ l'.map cenc) ∧ ∃ m, smR T N m 0 0 p [] c (.ok (p', l', c')))) := by
  refine SX.intro [some (.ref 50), none, none, none] (by decide +kernel) (Nat.le_of_ble_eq_true rfl) rfl (fun E hE hQ => ?_)
  have hc6 := hq.2.2.2.2.2
  have l1 : ∀ (m1 a t p1 c1 : Nat) (i : Nat) (l : gSg) (X1 : gX), N < p1 + m1 → isO a → isO t → xf X X1 → cq X1 T N p1 c1 (st ++ l.map cenc) → st.length + l.length + (opt a).length + (opt t).length + 3 ≤ p1 → 2 * i ≤ p1 → (∀ m r, smR T N m a t p1 l c1 r → ∃ m', smR T N m' 0 0 p [] c r) → RX E mX7_readSum.2.2.1 0 0 6 [some (.ref 50), some (.int (aI a)), some (.int (aI t)), some (.int (nI i))] [] (xm n X1 O Q G S L) := by
    intro m1
    induction m1 with
    | zero =>
      intro a t p1 c1 i l X1 hm ha ht fx q1 hln hi hpre
      exact absurd q1.2.1 (by omega)
    | succ m1 ih0 =>
      have ih := fun a t p1 c1 l i X1 => ih0 a t p1 c1 i l X1
      intro a t p1 c1 i l X1 hm ha ht fx q1 hln hi hpre
      have hp1 := q1.2.1
      have hoa := opt_le a
      have hot := opt_le t
      refine rx_iload_n hE dX7_readSum_6 (i := 3) rfl rfl ?_
      refine rx_sipush hE dX7_readSum_7 (v := 400) (by decide) ?_
      refine rx_icmp_ge (tgt := 93) hE dX7_readSum_10 (by decide) (fun c10 => absurd c10 (nI_ge (a := i) (b := 400) (by omega) (by decide))) (fun c10 => ?_)
      refine rx_aload_n hE dX7_readSum_13 (i := 0) rfl rfl ?_
      refine rx_getf hE dX7_readSum_14 fl_X7_39_7 (xa_6 hM) rfl ?_
      refine rx_getfN hE dX7_readSum_17 fl_X7_62_8 (xa_1 hM) rfl ?_
      refine rx_int _ 0 q1.1.1.2.2.2 ?_
      refine rx_if_ne (tgt := 93) hE dX7_readSum_20 (by decide) (fun c20 => absurd rfl c20) (fun c20 => ?_)
      refine rx_aload_n hE dX7_readSum_23 (i := 0) rfl rfl ?_
      refine rx_call0 (rx_callV (av := []) hE dX7_readSum_24 lk_X7_97 (c_X7_readValue (X := X1) hM hN q1 (by simp only [List.length_append, List.length_map]; omega)) (xa_6 hM) np_X7_readValue rfl rfl (by decide) (Nat.le_of_ble_eq_true rfl) rfl ?_)
      rintro v M' ⟨rfl, X2, rfl, f2, hv⟩
      rcases hv with ⟨wv, hv, he⟩ | ⟨x, hv, q2⟩
      · obtain ⟨h0, ⟨pe, hpe, hce⟩, hk⟩ := id he
        refine rx_iload_n hE dX7_readSum_27 (i := 2) rfl rfl ?_
        refine rx_iconst hE dX7_readSum_28 (v := -1) (by decide) ?_
        refine rx_icmp_eq (tgt := 37) hE dX7_readSum_29 (by decide) (fun c29 => ?_) (fun c29 => ?_)
        · refine rx_aload_n hE dX7_readSum_37 (i := 0) rfl rfl ?_
          refine rx_bipush hE dX7_readSum_38 (v := 42) (by decide) ?_
          refine rx_bipush hE dX7_readSum_40 (v := 47) (by decide) ?_
          refine rx_bipush hE dX7_readSum_42 (v := 37) (by decide) ?_
          refine rx_call0 (rx_callV (av := [.int 42, .int 47, .int 37]) hE dX7_readSum_44 lk_X7_100 (c_X7_joinE hM hN hpe hce h0 42 47 37) (xa_6 hM) np_X7_joinSign rfl rfl (by decide) (Nat.le_of_ble_eq_true rfl) rfl ?_)
          rintro v M' ⟨rfl, rfl⟩
          refine rx_istore_n_2 hE dX7_readSum_47 (by decide) rfl ?_
          refine rx_iload_n hE dX7_readSum_48 (i := 2) rfl rfl ?_
          refine rx_iconst hE dX7_readSum_49 (v := -1) (by decide) ?_
          refine rx_icmp_ne (tgt := 80) hE dX7_readSum_50 (by decide) (fun c50 => absurd rfl c50) (fun c50 => ?_)
          refine rx_iload_n hE dX7_readSum_53 (i := 1) rfl rfl ?_
          refine rx_iconst hE dX7_readSum_54 (v := -1) (by decide) ?_
          refine rx_icmp_eq (tgt := 63) hE dX7_readSum_55 (by decide) (fun c55 => ?_) (fun c55 => ?_)
          · refine rx_aload_n hE dX7_readSum_63 (i := 0) rfl rfl ?_
            refine rx_bipush hE dX7_readSum_64 (v := 43) (by decide) ?_
            refine rx_bipush hE dX7_readSum_66 (v := 45) (by decide) ?_
            refine rx_bipush hE dX7_readSum_68 (v := 45) (by decide) ?_
            refine rx_call0 (rx_callV (av := [.int 43, .int 45, .int 45]) hE dX7_readSum_70 lk_X7_100 (c_X7_joinE hM hN hpe hce h0 43 45 45) (xa_6 hM) np_X7_joinSign rfl rfl (by decide) (Nat.le_of_ble_eq_true rfl) rfl ?_)
            rintro v M' ⟨rfl, rfl⟩
            refine rx_istore_n_1 hE dX7_readSum_73 (by decide) rfl ?_
            refine rx_iload_n hE dX7_readSum_74 (i := 1) rfl rfl ?_
            refine rx_iconst hE dX7_readSum_75 (v := -1) (by decide) ?_
            refine rx_icmp_ne (tgt := 80) hE dX7_readSum_76 (by decide) (fun c76 => absurd rfl c76) (fun c76 => ?_)
            exact rx_vret hE hQ rfl dX7_readSum_79 ⟨rfl, X2, rfl, fx.trans f2, Or.inl ⟨fE p1 (nI wv), he, hpre 1 _ (Or.inl ⟨wv, hv, rfl⟩)⟩⟩
          · refine rx_aload_n hE dX7_readSum_58 (i := 0) rfl rfl ?_
            refine rx_iload_n hE dX7_readSum_59 (i := 1) rfl rfl ?_
            refine rx_call0 (rx_callV (av := [.int (aI a)]) hE dX7_readSum_60 lk_X7_67 (c_X7_putE hM he (aI a)) (xa_6 hM) np_X7_put rfl rfl (by decide) (Nat.le_of_ble_eq_true rfl) rfl ?_)
            rintro v M' ⟨rfl, rfl⟩
            refine rx_aload_n hE dX7_readSum_63 (i := 0) rfl rfl ?_
            refine rx_bipush hE dX7_readSum_64 (v := 43) (by decide) ?_
            refine rx_bipush hE dX7_readSum_66 (v := 45) (by decide) ?_
            refine rx_bipush hE dX7_readSum_68 (v := 45) (by decide) ?_
            refine rx_call0 (rx_callV (av := [.int 43, .int 45, .int 45]) hE dX7_readSum_70 lk_X7_100 (c_X7_joinE hM hN hpe hce h0 43 45 45) (xa_6 hM) np_X7_joinSign rfl rfl (by decide) (Nat.le_of_ble_eq_true rfl) rfl ?_)
            rintro v M' ⟨rfl, rfl⟩
            refine rx_istore_n_1 hE dX7_readSum_73 (by decide) rfl ?_
            refine rx_iload_n hE dX7_readSum_74 (i := 1) rfl rfl ?_
            refine rx_iconst hE dX7_readSum_75 (v := -1) (by decide) ?_
            refine rx_icmp_ne (tgt := 80) hE dX7_readSum_76 (by decide) (fun c76 => absurd rfl c76) (fun c76 => ?_)
            exact rx_vret hE hQ rfl dX7_readSum_79 ⟨rfl, X2, rfl, fx.trans f2, Or.inl ⟨fE p1 (nI wv), he, hpre 1 _ (Or.inl ⟨wv, hv, rfl⟩)⟩⟩
        · refine rx_aload_n hE dX7_readSum_32 (i := 0) rfl rfl ?_
          refine rx_iload_n hE dX7_readSum_33 (i := 2) rfl rfl ?_
          refine rx_call0 (rx_callV (av := [.int (aI t)]) hE dX7_readSum_34 lk_X7_67 (c_X7_putE hM he (aI t)) (xa_6 hM) np_X7_put rfl rfl (by decide) (Nat.le_of_ble_eq_true rfl) rfl ?_)
          rintro v M' ⟨rfl, rfl⟩
          refine rx_aload_n hE dX7_readSum_37 (i := 0) rfl rfl ?_
          refine rx_bipush hE dX7_readSum_38 (v := 42) (by decide) ?_
          refine rx_bipush hE dX7_readSum_40 (v := 47) (by decide) ?_
          refine rx_bipush hE dX7_readSum_42 (v := 37) (by decide) ?_
          refine rx_call0 (rx_callV (av := [.int 42, .int 47, .int 37]) hE dX7_readSum_44 lk_X7_100 (c_X7_joinE hM hN hpe hce h0 42 47 37) (xa_6 hM) np_X7_joinSign rfl rfl (by decide) (Nat.le_of_ble_eq_true rfl) rfl ?_)
          rintro v M' ⟨rfl, rfl⟩
          refine rx_istore_n_2 hE dX7_readSum_47 (by decide) rfl ?_
          refine rx_iload_n hE dX7_readSum_48 (i := 2) rfl rfl ?_
          refine rx_iconst hE dX7_readSum_49 (v := -1) (by decide) ?_
          refine rx_icmp_ne (tgt := 80) hE dX7_readSum_50 (by decide) (fun c50 => absurd rfl c50) (fun c50 => ?_)
          refine rx_iload_n hE dX7_readSum_53 (i := 1) rfl rfl ?_
          refine rx_iconst hE dX7_readSum_54 (v := -1) (by decide) ?_
          refine rx_icmp_eq (tgt := 63) hE dX7_readSum_55 (by decide) (fun c55 => ?_) (fun c55 => ?_)
          · refine rx_aload_n hE dX7_readSum_63 (i := 0) rfl rfl ?_
            refine rx_bipush hE dX7_readSum_64 (v := 43) (by decide) ?_
            refine rx_bipush hE dX7_readSum_66 (v := 45) (by decide) ?_
            refine rx_bipush hE dX7_readSum_68 (v := 45) (by decide) ?_
            refine rx_call0 (rx_callV (av := [.int 43, .int 45, .int 45]) hE dX7_readSum_70 lk_X7_100 (c_X7_joinE hM hN hpe hce h0 43 45 45) (xa_6 hM) np_X7_joinSign rfl rfl (by decide) (Nat.le_of_ble_eq_true rfl) rfl ?_)
            rintro v M' ⟨rfl, rfl⟩
            refine rx_istore_n_1 hE dX7_readSum_73 (by decide) rfl ?_
            refine rx_iload_n hE dX7_readSum_74 (i := 1) rfl rfl ?_
            refine rx_iconst hE dX7_readSum_75 (v := -1) (by decide) ?_
            refine rx_icmp_ne (tgt := 80) hE dX7_readSum_76 (by decide) (fun c76 => absurd rfl c76) (fun c76 => ?_)
            exact rx_vret hE hQ rfl dX7_readSum_79 ⟨rfl, X2, rfl, fx.trans f2, Or.inl ⟨fE p1 (nI wv), he, hpre 1 _ (Or.inl ⟨wv, hv, rfl⟩)⟩⟩
          · refine rx_aload_n hE dX7_readSum_58 (i := 0) rfl rfl ?_
            refine rx_iload_n hE dX7_readSum_59 (i := 1) rfl rfl ?_
            refine rx_call0 (rx_callV (av := [.int (aI a)]) hE dX7_readSum_60 lk_X7_67 (c_X7_putE hM he (aI a)) (xa_6 hM) np_X7_put rfl rfl (by decide) (Nat.le_of_ble_eq_true rfl) rfl ?_)
            rintro v M' ⟨rfl, rfl⟩
            refine rx_aload_n hE dX7_readSum_63 (i := 0) rfl rfl ?_
            refine rx_bipush hE dX7_readSum_64 (v := 43) (by decide) ?_
            refine rx_bipush hE dX7_readSum_66 (v := 45) (by decide) ?_
            refine rx_bipush hE dX7_readSum_68 (v := 45) (by decide) ?_
            refine rx_call0 (rx_callV (av := [.int 43, .int 45, .int 45]) hE dX7_readSum_70 lk_X7_100 (c_X7_joinE hM hN hpe hce h0 43 45 45) (xa_6 hM) np_X7_joinSign rfl rfl (by decide) (Nat.le_of_ble_eq_true rfl) rfl ?_)
            rintro v M' ⟨rfl, rfl⟩
            refine rx_istore_n_1 hE dX7_readSum_73 (by decide) rfl ?_
            refine rx_iload_n hE dX7_readSum_74 (i := 1) rfl rfl ?_
            refine rx_iconst hE dX7_readSum_75 (v := -1) (by decide) ?_
            refine rx_icmp_ne (tgt := 80) hE dX7_readSum_76 (by decide) (fun c76 => absurd rfl c76) (fun c76 => ?_)
            exact rx_vret hE hQ rfl dX7_readSum_79 ⟨rfl, X2, rfl, fx.trans f2, Or.inl ⟨fE p1 (nI wv), he, hpre 1 _ (Or.inl ⟨wv, hv, rfl⟩)⟩⟩
      · have hp1N := pvO_lt q1.2.1 hv
        have hnx := nx_lt (T := T) hp1N
        have hnx2 := q2.2.1
        have k37 : ∀ (X3 : gX), xf X X3 → cq X3 T N (nx T N p1) (c1 + 1) (st ++ (l ++ x :: opt t).map cenc) → RX E mX7_readSum.2.2.1 0 0 37 [some (.ref 50), some (.int (aI a)), some (.int (aI t)), some (.int (nI i))] [] (xm n X3 O Q G S L) := by
          intro X3 f3 q3
          refine rx_aload_n hE dX7_readSum_37 (i := 0) rfl rfl ?_
          refine rx_bipush hE dX7_readSum_38 (v := 42) (by decide) ?_
          refine rx_bipush hE dX7_readSum_40 (v := 47) (by decide) ?_
          refine rx_bipush hE dX7_readSum_42 (v := 37) (by decide) ?_
          refine rx_call0 (rx_callV (av := [.int 42, .int 47, .int 37]) hE dX7_readSum_44 lk_X7_100 (c_X7_joinT hM hN q3.2.1 q3.1) (xa_6 hM) np_X7_joinSign rfl rfl (by decide) (Nat.le_of_ble_eq_true rfl) rfl ?_)
          rintro v M' ⟨rfl, rfl⟩
          refine rx_istore_n_2 hE dX7_readSum_47 (by decide) rfl ?_
          refine rx_iload_n hE dX7_readSum_48 (i := 2) rfl rfl ?_
          refine rx_iconst hE dX7_readSum_49 (v := -1) (by decide) ?_
          refine rx_icmp_ne (tgt := 80) hE dX7_readSum_50 (by decide) (fun c50 => ?_) (fun c50 => ?_)
          · have htm : ¬ tmO T N (nx T N p1) = 0 := fun z => c50 ((aI_0 (tmO_is _)).mpr z)
            have hb2 := nx_lt (T := T) (tmO_lt htm).1
            refine rx_aload_n hE dX7_readSum_80 (i := 0) rfl rfl ?_
            refine rx_getf hE dX7_readSum_81 fl_X7_39_7 (xa_6 hM) rfl ?_
            refine rx_call0 (rx_callV (av := []) hE dX7_readSum_84 lk_X7_55 (c_X8_nextQ (X := X3) hM hN q3) (xa_1 hM) np_X8_next rfl rfl (by decide) (Nat.le_of_ble_eq_true rfl) rfl ?_)
            rintro v M' ⟨rfl, X5, rfl, f5, q5⟩
            refine rx_iinc_3 hE dX7_readSum_87 (v := 1) (by decide) (by decide) rfl ?_
            rw [nI_1]
            refine rx_goto (tgt := 6) hE dX7_readSum_90 (by decide) ?_
            exact ih _ _ _ _ _ (i + 1) _ (by omega) ha (tmO_is _) (f3.trans f5) q5 (by have k3 := opt_le (tmO T N (nx T N p1)); simp only [List.length_append, List.length_cons]; omega) (by omega) (fun m r hm => hpre (m + 1) r (Or.inr ⟨x, hv, Or.inl ⟨htm, hm⟩⟩))
          · have htm : tmO T N (nx T N p1) = 0 := (aI_0 (tmO_is _)).mp c50
            rw [htm]
            have k63 : ∀ (X4 : gX), xf X X4 → cq X4 T N (nx T N p1) (c1 + 1) (st ++ (l ++ x :: opt t ++ opt a).map cenc) → RX E mX7_readSum.2.2.1 0 0 63 [some (.ref 50), some (.int (aI a)), some (.int (aI 0)), some (.int (nI i))] [] (xm n X4 O Q G S L) := by
              intro X4 f4 q4
              refine rx_aload_n hE dX7_readSum_63 (i := 0) rfl rfl ?_
              refine rx_bipush hE dX7_readSum_64 (v := 43) (by decide) ?_
              refine rx_bipush hE dX7_readSum_66 (v := 45) (by decide) ?_
              refine rx_bipush hE dX7_readSum_68 (v := 45) (by decide) ?_
              refine rx_call0 (rx_callV (av := [.int 43, .int 45, .int 45]) hE dX7_readSum_70 lk_X7_100 (c_X7_joinA hM hN q4.2.1 q4.1) (xa_6 hM) np_X7_joinSign rfl rfl (by decide) (Nat.le_of_ble_eq_true rfl) rfl ?_)
              rintro v M' ⟨rfl, rfl⟩
              refine rx_istore_n_1 hE dX7_readSum_73 (by decide) rfl ?_
              refine rx_iload_n hE dX7_readSum_74 (i := 1) rfl rfl ?_
              refine rx_iconst hE dX7_readSum_75 (v := -1) (by decide) ?_
              refine rx_icmp_ne (tgt := 80) hE dX7_readSum_76 (by decide) (fun c76 => ?_) (fun c76 => ?_)
              · have had : ¬ adO T N (nx T N p1) = 0 := fun z => c76 ((aI_0 (adO_is _)).mpr z)
                have hb2 := nx_lt (T := T) (adO_lt had).1
                refine rx_aload_n hE dX7_readSum_80 (i := 0) rfl rfl ?_
                refine rx_getf hE dX7_readSum_81 fl_X7_39_7 (xa_6 hM) rfl ?_
                refine rx_call0 (rx_callV (av := []) hE dX7_readSum_84 lk_X7_55 (c_X8_nextQ (X := X4) hM hN q4) (xa_1 hM) np_X8_next rfl rfl (by decide) (Nat.le_of_ble_eq_true rfl) rfl ?_)
                rintro v M' ⟨rfl, X5, rfl, f5, q5⟩
                refine rx_iinc_3 hE dX7_readSum_87 (v := 1) (by decide) (by decide) rfl ?_
                rw [nI_1]
                refine rx_goto (tgt := 6) hE dX7_readSum_90 (by decide) ?_
                exact ih _ _ _ _ _ (i + 1) _ (by omega) (adO_is _) (Or.inl rfl) (f4.trans f5) q5 (by have k3 := opt_le (adO T N (nx T N p1)); have k4 : (opt 0).length = 0 := rfl; simp only [List.length_append, List.length_cons]; omega) (by omega) (fun m r hm => hpre (m + 1) r (Or.inr ⟨x, hv, Or.inr (Or.inl ⟨htm, had, hm⟩)⟩))
              · have had : adO T N (nx T N p1) = 0 := (aI_0 (adO_is _)).mp c76
                exact rx_vret hE hQ rfl dX7_readSum_79 ⟨rfl, X4, rfl, f4, Or.inr ⟨nx T N p1, _, c1 + 1, q4, hpre 1 _ (Or.inr ⟨x, hv, Or.inr (Or.inr ⟨htm, had, rfl⟩)⟩)⟩⟩
            refine rx_iload_n hE dX7_readSum_53 (i := 1) rfl rfl ?_
            refine rx_iconst hE dX7_readSum_54 (v := -1) (by decide) ?_
            refine rx_icmp_eq (tgt := 63) hE dX7_readSum_55 (by decide) (fun c55 => ?_) (fun c55 => ?_)
            · have ha0 : a = 0 := (aI_0 ha).mp c55
              subst ha0
              exact k63 X3 f3 (by rw [app_a0] at q3; exact q3)
            · refine rx_aload_n hE dX7_readSum_58 (i := 0) rfl rfl ?_
              refine rx_iload_n hE dX7_readSum_59 (i := 1) rfl rfl ?_
              refine rx_call0 (rx_callV (av := [.int (aI a)]) hE dX7_readSum_60 lk_X7_67 (c_X7_putQ (X := X3) hM q3 (by simp only [List.length_append, List.length_map, List.length_cons, List.length_nil]; omega) (aI a)) (xa_6 hM) np_X7_put rfl rfl (by decide) (Nat.le_of_ble_eq_true rfl) rfl ?_)
              rintro v M' ⟨rfl, X4, rfl, f4, q4⟩
              have ha0 : ¬ a = 0 := fun z => c55 ((aI_0 ha).mpr z)
              exact k63 X4 (f3.trans f4) (by rw [app_a1 ha ha0] at q4; exact q4)
        refine rx_iload_n hE dX7_readSum_27 (i := 2) rfl rfl ?_
        refine rx_iconst hE dX7_readSum_28 (v := -1) (by decide) ?_
        refine rx_icmp_eq (tgt := 37) hE dX7_readSum_29 (by decide) (fun c29 => ?_) (fun c29 => ?_)
        · have ht0 : t = 0 := (aI_0 ht).mp c29
          subst ht0
          exact k37 X2 (fx.trans f2) (by rw [app_t0] at q2; exact q2)
        · refine rx_aload_n hE dX7_readSum_32 (i := 0) rfl rfl ?_
          refine rx_iload_n hE dX7_readSum_33 (i := 2) rfl rfl ?_
          refine rx_call0 (rx_callV (av := [.int (aI t)]) hE dX7_readSum_34 lk_X7_67 (c_X7_putQ (X := X2) hM q2 (by simp only [List.length_append, List.length_map, List.length_cons, List.length_nil]; omega) (aI t)) (xa_6 hM) np_X7_put rfl rfl (by decide) (Nat.le_of_ble_eq_true rfl) rfl ?_)
          rintro v M' ⟨rfl, X3, rfl, f3, q3⟩
          have ht0 : ¬ t = 0 := fun z => c29 ((aI_0 ht).mpr z)
          exact k37 X3 (fx.trans (f2.trans f3)) (by rw [app_t1 ht ht0] at q3; exact q3)
  refine rx_iconst hE dX7_readSum_0 (v := -1) (by decide) ?_
  refine rx_istore_n_1 hE dX7_readSum_1 (by decide) rfl ?_
  refine rx_iconst hE dX7_readSum_2 (v := -1) (by decide) ?_
  refine rx_istore_n_2 hE dX7_readSum_3 (by decide) rfl ?_
  refine rx_iconst hE dX7_readSum_4 (v := 0) (by decide) ?_
  refine rx_istore_n_3 hE dX7_readSum_5 (by decide) rfl ?_
  exact l1 (N + 1) 0 0 p c 0 [] X (by omega) (Or.inl rfl) (Or.inl rfl) (xf.refl X) (by rw [List.map_nil, List.append_nil]; exact hq) (by show st.length + 0 + 0 + 0 + 3 ≤ p; omega) (by omega) (fun m r hm => ⟨m, hm⟩)
