/-! ===== readClauses of a junction; junction() ===== -/
def jlP (T : Nat → Int32) (N : Nat) (X' : gX) (v : Option Value) : Prop := X' 1 1 = T ∧ ((∃ g, v = some (.int g) ∧ ¬ g = 0 ∧ ∃ m, jlR T N m (sk T N 0) 0 j_zero (.error g)) ∨ (v = some (.int 0) ∧ ∃ K, (∃ m, jlR T N m (sk T N 0) 0 j_zero (.ok K)) ∧ X' 4 = K ∧ ∃ k, jv (k + 1) K))
set_option maxRecDepth 100000 in
set_option maxHeartbeats 1000000 in
theorem c_X9_readJunction {n : Nat} {X : gX} {O : gO} {Q : gU} {G : gK} {S : gS} {L : gLg} (hM : 408 ≤ n) {T : Nat → Int32} {N : Nat} (hN : N ≤ 400) (h1 : X 1 0 1 = nI N) (hbt : X 1 1 = T) (hz4 : X 4 = j_zero) : SX 6 0 0 mX9_readClauses [.ref 49] (xm n X O Q G S L) (fun v M' => ∃ X', M' = xm n X' O Q G S L ∧ xg X X' ∧ jlP T N X' v) := by
  refine SX.intro [some (.ref 49), none] (by decide +kernel) (Nat.le_of_ble_eq_true rfl) rfl (fun E hE hQ => ?_)
  have l1 : ∀ (m1 p1 i : Nat) (J1 : gJn) (X1 : gX), N < p1 + m1 → i ≤ p1 → xg X X1 → cj X1 T N p1 J1 → jv i J1 → (∀ m r, jlR T N m p1 i J1 r → ∃ m', jlR T N m' (sk T N 0) 0 j_zero r) → RX E mX9_readClauses.2.2.1 0 0 9 [some (.ref 49), some (.int (nI i))] [] (xm n X1 O Q G S L) := by
    intro m1
    induction m1 with
    | zero =>
      intro p1 i J1 X1 hm hi fx q1 hjv hpre
      exact absurd q1.2.1 (by omega)
    | succ m1 ih =>
      intro p1 i J1 X1 hm hi fx q1 hjv hpre
      have hp1 := q1.2.1
      obtain ⟨R, hR6, hR, _⟩ := hjv.1
      have hBB : ¬ i = 0 → ∃ B, B ≤ 12 ∧ J1 9 0 = nI B := fun z => by
        obtain ⟨b, _, h2, h3⟩ := (hjv.2.2.2.2.2 z).1
        exact ⟨b, h2, h3⟩
      refine rx_iload_n hE dX9_readClauses_9 (i := 1) rfl rfl ?_
      refine rx_sipush hE dX9_readClauses_10 (v := 400) (by decide) ?_
      refine rx_icmp_gt (tgt := 72) hE dX9_readClauses_13 (by decide) (fun c13 => absurd c13 (Int32.not_lt.mpr (nI_le (a := i) (b := 400) (by omega) (by decide)))) (fun c13 => ?_)
      refine rx_aload_n hE dX9_readClauses_16 (i := 0) rfl rfl ?_
      refine rx_iload_n hE dX9_readClauses_17 (i := 1) rfl rfl ?_
      refine rx_call0 (rx_callU (av := [.int (nI i)]) hE dX9_readClauses_18 lkU_9_20_3 (c_X3_readClause (X := X1) hM hN q1 hR hR6 (show i ≤ 400 by omega) hBB) (xa_5 hM) rfl rfl (by decide) (Nat.le_of_ble_eq_true rfl) rfl ?_)
      rintro v M' ⟨rfl, X2, rfl, f2, hv⟩
      have hv' : (∃ g, cje X2 T N g ∧ ∃ m, jlR T N m (sk T N 0) 0 j_zero (.error g)) ∨ ∃ w p2 J2, w < 4 ∧ wjN T N p1 = nI w ∧ ¬ jms i w J1 ∧ jcF T N w (nx T N p1) J1 = .ok (p2, J2) ∧ cj X2 T N p2 J2 := by
        rcases hv with ⟨h1, he⟩ | ⟨w, hw4, hw, ⟨h1, he⟩ | ⟨h1, h2⟩⟩
        · exact Or.inl ⟨_, he, hpre 1 _ (Or.inl ⟨h1, rfl⟩)⟩
        · exact Or.inl ⟨_, he, hpre 1 _ (Or.inr ⟨w, hw4, hw, Or.inl ⟨h1, rfl⟩⟩)⟩
        · rcases h2 with ⟨g, hg, he⟩ | ⟨p2, J2, hJ, q2⟩
          · exact Or.inl ⟨_, he, hpre 1 _ (Or.inr ⟨w, hw4, hw, Or.inr ⟨h1, Or.inl ⟨g, hg, rfl⟩⟩⟩)⟩
          · exact Or.inr ⟨w, p2, J2, hw4, hw, h1, hJ, q2⟩
      rcases hv' with ⟨g, he, hg⟩ | ⟨w, p2, J2, hw4, hw, hms, hJ, q2⟩
      · obtain ⟨h0, pe, hpe, hce⟩ := id he
        refine rx_aload_n hE dX9_readClauses_21 (i := 0) rfl rfl ?_
        refine rx_getf hE dX9_readClauses_22 fl_X9_9_3 (xa_5 hM) rfl ?_
        refine rx_getfN hE dX9_readClauses_25 fl_X9_24_8 (xa_1 hM) rfl ?_
        refine rx_int _ g hce.1.2.2.2 ?_
        refine rx_if_ne (tgt := 72) hE dX9_readClauses_28 (by decide) (fun c28 => ?_) (fun c28 => absurd c28 h0)
        refine rx_aload_n hE dX9_readClauses_72 (i := 0) rfl rfl ?_
        refine rx_getf hE dX9_readClauses_73 fl_X9_9_3 (xa_5 hM) rfl ?_
        refine rx_getfN hE dX9_readClauses_76 fl_X9_24_8 (xa_1 hM) rfl ?_
        refine rx_int _ g hce.1.2.2.2 ?_
        exact rx_iret hE hQ rfl dX9_readClauses_79 ⟨X2, rfl, fx.trans f2, hce.1.2.1, Or.inl ⟨_, rfl, h0, hg⟩⟩
      · have hp2 := q2.2.1
        have hwN := (wj_te q1.2.1 (by rw [hw]; exact nI_m1 (by omega))).1
        have hnx0 := nx_lt (T := T) hwN
        have hst := jv_step (nx_le (T := T) q1.2.1).2 hw4 hjv hms hJ
        refine rx_aload_n hE dX9_readClauses_21 (i := 0) rfl rfl ?_
        refine rx_getf hE dX9_readClauses_22 fl_X9_9_3 (xa_5 hM) rfl ?_
        refine rx_getfN hE dX9_readClauses_25 fl_X9_24_8 (xa_1 hM) rfl ?_
        refine rx_int _ 0 q2.1.1.2.2.2 ?_
        refine rx_if_ne (tgt := 72) hE dX9_readClauses_28 (by decide) (fun c28 => absurd rfl c28) (fun c28 => ?_)
        refine rx_aload_n hE dX9_readClauses_31 (i := 0) rfl rfl ?_
        refine rx_getf hE dX9_readClauses_32 fl_X9_9_3 (xa_5 hM) rfl ?_
        refine rx_getfN hE dX9_readClauses_35 fl_X9_28_8 (xa_1 hM) rfl ?_
        refine rx_int _ (nI (tk T N p2)) q2.1.2.1 ?_
        refine rx_if_ne (tgt := 44) hE dX9_readClauses_38 (by decide) (fun c38 => ?_) (fun c38 => ?_)
        · have hpl : p2 < N := tk_lt (fun z => c38 (by rw [z]; rfl))
          refine rx_aload_n hE dX9_readClauses_44 (i := 0) rfl rfl ?_
          refine rx_getf hE dX9_readClauses_45 fl_X9_9_3 (xa_5 hM) rfl ?_
          refine rx_bipush hE dX9_readClauses_48 (v := 59) (by decide) ?_
          refine rx_call0 (rx_callV (av := [.int 59]) hE dX9_readClauses_50 lk_X9_31 (c_X8_takeSignJ (X := X2) hM hN q2 (k := 59) (by decide)) (xa_1 hM) np_X8_takeSign rfl rfl (by decide) (Nat.le_of_ble_eq_true rfl) rfl ?_)
          rintro v M' ⟨rfl, X3, rfl, f3, h3⟩
          rcases h3 with ⟨hs, q3⟩ | ⟨hs, he⟩
          · have hnx := nx_lt (T := T) hs.1
            refine rx_aload_n hE dX9_readClauses_53 (i := 0) rfl rfl ?_
            refine rx_getf hE dX9_readClauses_54 fl_X9_9_3 (xa_5 hM) rfl ?_
            refine rx_getfN hE dX9_readClauses_57 fl_X9_24_8 (xa_1 hM) rfl ?_
            refine rx_int _ 0 q3.1.1.2.2.2 ?_
            refine rx_if_eq (tgt := 66) hE dX9_readClauses_60 (by decide) (fun c60 => ?_) (fun c60 => absurd rfl c60)
            refine rx_iinc_1 hE dX9_readClauses_66 (v := 1) (by decide) (by decide) rfl ?_
            rw [nI_1]
            refine rx_goto (tgt := 9) hE dX9_readClauses_69 (by decide) ?_
            exact ih _ (i + 1) J2 _ (by omega) (by omega) (fx.trans (f2.trans f3)) q3 hst.1 (fun m r hm => hpre (m + 1) r (Or.inr ⟨w, hw4, hw, Or.inr ⟨hms, Or.inr ⟨p2, J2, hJ, Or.inr (Or.inr ⟨hs, hm⟩)⟩⟩⟩))
          · obtain ⟨h0, pe, hpe, hce⟩ := id he
            refine rx_aload_n hE dX9_readClauses_53 (i := 0) rfl rfl ?_
            refine rx_getf hE dX9_readClauses_54 fl_X9_9_3 (xa_5 hM) rfl ?_
            refine rx_getfN hE dX9_readClauses_57 fl_X9_24_8 (xa_1 hM) rfl ?_
            refine rx_int _ _ hce.1.2.2.2 ?_
            refine rx_if_eq (tgt := 66) hE dX9_readClauses_60 (by decide) (fun c60 => absurd c60 h0) (fun c60 => ?_)
            refine rx_goto (tgt := 72) hE dX9_readClauses_63 (by decide) ?_
            refine rx_aload_n hE dX9_readClauses_72 (i := 0) rfl rfl ?_
            refine rx_getf hE dX9_readClauses_73 fl_X9_9_3 (xa_5 hM) rfl ?_
            refine rx_getfN hE dX9_readClauses_76 fl_X9_24_8 (xa_1 hM) rfl ?_
            refine rx_int _ _ hce.1.2.2.2 ?_
            exact rx_iret hE hQ rfl dX9_readClauses_79 ⟨X3, rfl, fx.trans (f2.trans f3), hce.1.2.1, Or.inl ⟨_, rfl, h0, hpre 1 _ (Or.inr ⟨w, hw4, hw, Or.inr ⟨hms, Or.inr ⟨p2, J2, hJ, Or.inr (Or.inl ⟨hpl, hs, rfl⟩)⟩⟩⟩)⟩⟩
        · have hpl : ¬ p2 < N := fun z => by
            have hz : tk T N p2 = 0 := (tk_eq (k := 0) (by decide)).mp c38
            unfold tk at hz
            rw [if_neg (fun y => y z)] at hz
            split at hz
            · exact absurd hz (by decide)
            · split at hz <;> exact absurd hz (by decide)
          refine rx_goto (tgt := 72) hE dX9_readClauses_41 (by decide) ?_
          refine rx_aload_n hE dX9_readClauses_72 (i := 0) rfl rfl ?_
          refine rx_getf hE dX9_readClauses_73 fl_X9_9_3 (xa_5 hM) rfl ?_
          refine rx_getfN hE dX9_readClauses_76 fl_X9_24_8 (xa_1 hM) rfl ?_
          refine rx_int _ 0 q2.1.1.2.2.2 ?_
          exact rx_iret hE hQ rfl dX9_readClauses_79 ⟨X2, rfl, fx.trans f2, q2.1.1.2.1, Or.inr ⟨rfl, J2, hpre 1 _ (Or.inr ⟨w, hw4, hw, Or.inr ⟨hms, Or.inr ⟨p2, J2, hJ, Or.inl ⟨hpl, rfl⟩⟩⟩⟩), q2.2.2, i, hst.1⟩⟩
  refine rx_aload_n hE dX9_readClauses_0 (i := 0) rfl rfl ?_
  refine rx_getf hE dX9_readClauses_1 fl_X9_9_3 (xa_5 hM) rfl ?_
  refine rx_call0 (rx_callV (av := []) hE dX9_readClauses_4 lk_X9_15 (c_X8_begin (X := X) hM hN h1 hbt) (xa_1 hM) np_X8_begin rfl rfl (by decide) (Nat.le_of_ble_eq_true rfl) rfl ?_)
  rintro v M' ⟨rfl, V, rfl, hV⟩
  refine rx_iconst hE dX9_readClauses_7 (v := 0) (by decide) ?_
  refine rx_istore_n_1 hE dX9_readClauses_8 (by decide) rfl ?_
  exact l1 (N + 1) (sk T N 0) 0 j_zero _ (by omega) (by omega) (xg.r1 X V) ⟨hV, (sk_le (Nat.zero_le _)).2, hz4⟩ jv_zero (fun m r hm => ⟨m, hm⟩)
set_option maxRecDepth 100000 in
set_option maxHeartbeats 1000000 in
theorem c_X10_junction {n : Nat} {X : gX} {O : gO} {Q : gU} {G : gK} {S : gS} {L : gLg} (hM : 408 ≤ n) {T : Nat → Int32} {N : Nat} (hN : N ≤ 400) (h1 : X 1 0 1 = nI N) (hbt : X 1 1 = T) : SX 7 0 0 mX10_junction [.ref 16] (xm n X O Q G S L) (fun v M' => ∃ X', M' = xm n X' O Q G S L ∧ X' 1 0 1 = 0 ∧ X' 1 1 = T ∧ ((∃ g, v = some (.int (-2 - g)) ∧ ¬ g = 0 ∧ (∃ m, jlR T N m (sk T N 0) 0 j_zero (.error g)) ∧ ∀ r, r ≠ 1 → r ≠ 4 → X' r = X r) ∨ ∃ K, v = some (.int (K 9 2)) ∧ (∃ m, jlR T N m (sk T N 0) 0 j_zero (.ok K)) ∧ (∃ k, jv (k + 1) K) ∧ X' 2 = K ∧ X' 3 = K ∧ X' 29 = j_f (X 29) 3 0 ∧ X' 8 = j_f (X 8) 2 0 ∧ ∀ r, r ≠ 1 → r ≠ 2 → r ≠ 3 → r ≠ 4 → r ≠ 8 → r ≠ 29 → X' r = X r)) := by
  refine SX.intro [some (.ref 16), none] (by decide +kernel) (Nat.le_of_ble_eq_true rfl) rfl (fun E hE hQ => ?_)
  refine rx_aload_n hE dX10_junction_0 (i := 0) rfl rfl ?_
  refine rx_getf hE dX10_junction_1 fl_X10_26_9 (xa_0 hM) rfl ?_
  refine rx_call0 (rx_callV (av := []) hE dX10_junction_4 lk_X10_117 (x_forget xJ_4 hM rfl) (xa_j xJ_4 hM) np_X2_forget rfl rfl (by decide) (Nat.le_of_ble_eq_true rfl) rfl ?_)
  rintro v M' ⟨rfl, rfl⟩
  refine rx_aload_n hE dX10_junction_7 (i := 0) rfl rfl ?_
  refine rx_getf hE dX10_junction_8 fl_X10_34_9 (xa_0 hM) rfl ?_
  refine rx_call0 (rx_callU (av := []) hE dX10_junction_11 lkU_10_120 (c_X9_readJunction (X := (x_r X 4 j_zero)) hM hN h1 hbt rfl) (xa_5 hM) rfl rfl (by decide) (Nat.le_of_ble_eq_true rfl) rfl ?_)
  rintro v M' ⟨X2, rfl, f2, hT2, hv⟩
  rcases hv with ⟨g, rfl, hg, hm⟩ | ⟨rfl, K, hm, hK, hjv⟩
  · skip
    refine rx_istore_n_1 hE dX10_junction_14 (by decide) rfl ?_
    refine rx_aload_n hE dX10_junction_15 (i := 0) rfl rfl ?_
    refine rx_getf hE dX10_junction_16 fl_X10_10_9 (xa_0 hM) rfl ?_
    refine rx_iconst hE dX10_junction_19 (v := 0) (by decide) ?_
    refine rx_putN hE dX10_junction_20 fl_X10_110_8 fw_8_1 (xa_1 hM) (fun _ => rfl) (fun _ => rfl) (Nat.le_of_ble_eq_true rfl) ?_
    refine rx_mem (M' := xm n (x_r X2 1 (j_f (X2 1) 1 0)) O Q G S L) xw_1_f1 ?_
    refine rx_iload_n hE dX10_junction_23 (i := 1) rfl rfl ?_
    refine rx_if_eq (tgt := 32) hE dX10_junction_24 (by decide) (fun c24 => absurd c24 hg) (fun c24 => ?_)
    refine rx_bipush hE dX10_junction_27 (v := -2) (by decide) ?_
    refine rx_iload_n hE dX10_junction_29 (i := 1) rfl rfl ?_
    refine rx_isub hE dX10_junction_30 ?_
    exact rx_iret hE hQ rfl dX10_junction_31 ⟨(x_r X2 1 (j_f (X2 1) 1 0)), rfl, rfl, hT2, Or.inl ⟨g, rfl, hg, hm, fun r a1 a4 => by rw [x_r_ne _ _ a1, f2 r a1 a4, x_r_ne _ _ a4]⟩⟩
  · skip
    refine rx_istore_n_1 hE dX10_junction_14 (by decide) rfl ?_
    refine rx_aload_n hE dX10_junction_15 (i := 0) rfl rfl ?_
    refine rx_getf hE dX10_junction_16 fl_X10_10_9 (xa_0 hM) rfl ?_
    refine rx_iconst hE dX10_junction_19 (v := 0) (by decide) ?_
    refine rx_putN hE dX10_junction_20 fl_X10_110_8 fw_8_1 (xa_1 hM) (fun _ => rfl) (fun _ => rfl) (Nat.le_of_ble_eq_true rfl) ?_
    refine rx_mem (M' := xm n (x_r X2 1 (j_f (X2 1) 1 0)) O Q G S L) xw_1_f1 ?_
    refine rx_iload_n hE dX10_junction_23 (i := 1) rfl rfl ?_
    refine rx_if_eq (tgt := 32) hE dX10_junction_24 (by decide) (fun c24 => ?_) (fun c24 => absurd rfl c24)
    refine rx_aload_n hE dX10_junction_32 (i := 0) rfl rfl ?_
    refine rx_getf hE dX10_junction_33 fl_X10_23_9 (xa_0 hM) rfl ?_
    refine rx_aload_n hE dX10_junction_36 (i := 0) rfl rfl ?_
    refine rx_getf hE dX10_junction_37 fl_X10_26_9 (xa_0 hM) rfl ?_
    refine rx_call0 (rx_callV (av := [.ref 39]) hE dX10_junction_40 lk_X10_124 (x_copyFrom (X := (x_r X2 1 (j_f (X2 1) 1 0))) (J := K) xJ_3 xJ_4 (by decide) hM hK) (xa_j xJ_3 hM) np_X2_copyFrom rfl rfl (by decide) (Nat.le_of_ble_eq_true rfl) rfl ?_)
    rintro v M' ⟨rfl, rfl⟩
    refine rx_aload_n hE dX10_junction_43 (i := 0) rfl rfl ?_
    refine rx_getf hE dX10_junction_44 fl_X10_19_9 (xa_0 hM) rfl ?_
    refine rx_aload_n hE dX10_junction_47 (i := 0) rfl rfl ?_
    refine rx_getf hE dX10_junction_48 fl_X10_26_9 (xa_0 hM) rfl ?_
    refine rx_call0 (rx_callV (av := [.ref 39]) hE dX10_junction_51 lk_X10_124 (x_copyFrom (X := (x_r (x_r X2 1 (j_f (X2 1) 1 0)) 3 K)) (J := K) xJ_2 xJ_4 (by decide) hM hK) (xa_j xJ_2 hM) np_X2_copyFrom rfl rfl (by decide) (Nat.le_of_ble_eq_true rfl) rfl ?_)
    rintro v M' ⟨rfl, rfl⟩
    refine rx_aload_n hE dX10_junction_54 (i := 0) rfl rfl ?_
    refine rx_getf hE dX10_junction_55 fl_X10_63_9 (xa_0 hM) rfl ?_
    refine rx_iconst hE dX10_junction_58 (v := 0) (by decide) ?_
    refine rx_putN hE dX10_junction_59 fl_X10_128_4 fw_4_3 (xa_n0 (xN_29 hM)) (fun _ => rfl) (fun _ => rfl) (Nat.le_of_ble_eq_true rfl) ?_
    refine rx_mem (M' := xm n (x_r (x_r (x_r (x_r X2 1 (j_f (X2 1) 1 0)) 3 K) 2 K) 29 (j_f (X2 29) 3 0)) O Q G S L) (xw_n0 (xN_29 hM)) ?_
    refine rx_aload_n hE dX10_junction_62 (i := 0) rfl rfl ?_
    refine rx_getf hE dX10_junction_63 fl_X10_56_9 (xa_0 hM) rfl ?_
    refine rx_iconst hE dX10_junction_66 (v := 0) (by decide) ?_
    refine rx_putN hE dX10_junction_67 fl_X10_131_0 fw_0_2 (xa_8 hM) (fun _ => rfl) (fun _ => rfl) (Nat.le_of_ble_eq_true rfl) ?_
    refine rx_mem (M' := xm n (x_r (x_r (x_r (x_r (x_r X2 1 (j_f (X2 1) 1 0)) 3 K) 2 K) 29 (j_f (X2 29) 3 0)) 8 (j_f (X2 8) 2 0)) O Q G S L) xw_8_f2 ?_
    refine rx_aload_n hE dX10_junction_70 (i := 0) rfl rfl ?_
    refine rx_getf hE dX10_junction_71 fl_X10_19_9 (xa_0 hM) rfl ?_
    refine rx_getfN hE dX10_junction_74 fl_X10_132_2 (xa_j xJ_2 hM) rfl ?_
    refine rx_int _ (K 9 2) rfl ?_
    exact rx_iret hE hQ rfl dX10_junction_77 ⟨(x_r (x_r (x_r (x_r (x_r X2 1 (j_f (X2 1) 1 0)) 3 K) 2 K) 29 (j_f (X2 29) 3 0)) 8 (j_f (X2 8) 2 0)), rfl, rfl, hT2, Or.inr ⟨K, rfl, hm, hjv, rfl, rfl, by rw [x_r_ne _ _ (by decide), x_r_eq, f2 29 (by decide) (by decide), x_r_ne _ _ (by decide)], by rw [x_r_eq, f2 8 (by decide) (by decide), x_r_ne _ _ (by decide)], fun r a1 a2 a3 a4 a8 a29 => by rw [x_r_ne _ _ a8, x_r_ne _ _ a29, x_r_ne _ _ a2, x_r_ne _ _ a3, x_r_ne _ _ a1, f2 r a1 a4, x_r_ne _ _ a4]⟩⟩
