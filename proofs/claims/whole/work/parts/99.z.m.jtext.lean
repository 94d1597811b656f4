/-! ===== JunctionText ===== -/
theorem j_s3 (J : gJn) (f : Nat) (v v' : Nat → Int32) : j_s (j_s J f v) f v' = j_s J f v' := by
  funext i
  unfold j_s
  split <;> rfl
section CJ2
variable {n : Nat} {X : gX} {O : gO} {Q : gU} {G : gK} {S : gS} {L : gLg} {T : Nat → Int32} {N p : Nat} {J : gJn} {g : Int32}
theorem c_X8_failJ (hM : 408 ≤ n) (hN : N ≤ 400) (hq : cj X T N p J) {w : Nat} (hw : w ≤ 4) : SX 0 0 0 mX8_fail [.ref 17, .int (nI w)] (xm n X O Q G S L) (fun v M' => v = none ∧ ∃ X', M' = xm n X' O Q G S L ∧ xg X X' ∧ ctk (X' 1) T N p (fE p (nI w)) ∧ cje X' T N (fE p (nI w))) := by
  refine SX.weaken (c_X8_fail hM hN hq.2.1 hq.1 (nI w)) (fun v M' h => ?_)
  obtain ⟨rfl, V, rfl, hV⟩ := h
  have hp := hq.2.1
  rw [tfl_0] at hV
  exact ⟨rfl, _, rfl, xg.r1 _ _, hV, fE_ne (by omega) hw, p, hp, hV⟩
theorem c_X8_failK (hM : 408 ≤ n) (hN : N ≤ 400) (hp : p ≤ N) (h0 : ¬ g = 0) (hc : ctk (X 1) T N p g) (why : Int32) : SX 0 0 0 mX8_fail [.ref 17, .int why] (xm n X O Q G S L) (fun v M' => v = none ∧ ∃ X', M' = xm n X' O Q G S L ∧ xg X X' ∧ ctk (X' 1) T N p g) := by
  refine SX.weaken (c_X8_fail hM hN hp hc why) (fun v M' h => ?_)
  obtain ⟨rfl, V, rfl, hV⟩ := h
  rw [tfl_n h0] at hV
  exact ⟨rfl, _, rfl, xg.r1 _ _, hV⟩
theorem c_X8_nextJ (hM : 408 ≤ n) (hN : N ≤ 400) (hq : cj X T N p J) : SX 0 0 0 mX8_next [.ref 17] (xm n X O Q G S L) (fun v M' => v = none ∧ ∃ X', M' = xm n X' O Q G S L ∧ xg X X' ∧ cj X' T N (nx T N p) J) := by
  refine SX.weaken (c_X8_next hM hN (te_le hq.2.1).2.1 hq.1.1) (fun v M' h => ?_)
  obtain ⟨rfl, V, rfl, hV⟩ := h
  exact ⟨rfl, _, rfl, xg.r1 _ _, hV, (nx_le hq.2.1).2, hq.2.2⟩
theorem c_X8_takeSignJ (hM : 408 ≤ n) (hN : N ≤ 400) (hq : cj X T N p J) {k : Nat} (hk : k ∈ sgs) : SX 1 0 0 mX8_takeSign [.ref 17, .int (nI k)] (xm n X O Q G S L) (fun v M' => v = none ∧ ∃ X', M' = xm n X' O Q G S L ∧ xg X X' ∧ ((sgn T N p (nI k) ∧ cj X' T N (nx T N p) J) ∨ (¬ sgn T N p (nI k) ∧ cje X' T N (fE p 0)))) := by
  refine SX.weaken (c_X8_takeSign hM hN hq.2.1 hq.1 (nI k)) (fun v M' h => ?_)
  obtain ⟨rfl, V, rfl, hV⟩ := h
  have hp := hq.2.1
  refine ⟨rfl, _, rfl, xg.r1 _ _, ?_⟩
  by_cases h : qsg T N p (nI k) = 0
  · rw [if_pos h, if_pos h, tfl_0] at hV
    exact Or.inr ⟨(qsg_0 hk).mp h, fE_ne (w := 0) (by omega) (by decide), p, hp, hV⟩
  · rw [if_neg h, if_neg h] at hV
    exact Or.inl ⟨(qsg_1 hk).mp h, hV, (nx_le hp).2, hq.2.2⟩
end CJ2
set_option maxRecDepth 100000 in
set_option maxHeartbeats 1000000 in
theorem c_X3_readRoad {n : Nat} {X : gX} {O : gO} {Q : gU} {G : gK} {S : gS} {L : gLg} (hM : 408 ≤ n) {T : Nat → Int32} {N p : Nat} {J : gJn} (hN : N ≤ 400) (hq : cj X T N p J) {R : Nat} (hR : J 9 2 = nI R) (hR6 : R < 6) : SX 2 0 0 mX3_readRoad [.ref 49] (xm n X O Q G S L) (fun v M' => v = none ∧ ∃ X', M' = xm n X' O Q G S L ∧ xg X X' ∧ ((∃ g, jcF T N 1 p J = .error g ∧ cje X' T N g) ∨ ∃ p1 J1, jcF T N 1 p J = .ok (p1, J1) ∧ cj X' T N p1 J1)) := by
  refine SX.intro [some (.ref 49), none, none, none] (by decide +kernel) (Nat.le_of_ble_eq_true rfl) rfl (fun E hE hQ => ?_)
  refine rx_aload_n hE dX3_readRoad_0 (i := 0) rfl rfl ?_
  refine rx_getf hE dX3_readRoad_1 fl_X3_15_3 (xa_5 hM) rfl ?_
  refine rx_iconst hE dX3_readRoad_4 (v := 0) (by decide) ?_
  refine rx_bipush hE dX3_readRoad_5 (v := 30) (by decide) ?_
  refine rx_call0 (rx_callV (av := [.int 0, .int 30]) hE dX3_readRoad_7 lk_X3_41 (c_X8_numQ (X := X) hM hN hq 0 30) (xa_1 hM) np_X8_takeNumber rfl rfl (by decide) (Nat.le_of_ble_eq_true rfl) rfl ?_)
  rintro v M' ⟨X1, rfl, f1, _, hv⟩
  rcases hv with ⟨hg0, rfl, q1⟩ | ⟨hg0, rfl, hce, hje⟩
  · skip
    refine rx_istore_n_1 hE dX3_readRoad_10 (by decide) rfl ?_
    refine rx_aload_n hE dX3_readRoad_11 (i := 0) rfl rfl ?_
    refine rx_getf hE dX3_readRoad_12 fl_X3_15_3 (xa_5 hM) rfl ?_
    refine rx_iconst hE dX3_readRoad_15 (v := 1) (by decide) ?_
    refine rx_bipush hE dX3_readRoad_16 (v := 12) (by decide) ?_
    refine rx_call0 (rx_callV (av := [.int 1, .int 12]) hE dX3_readRoad_18 lk_X3_41 (c_X8_numQ (X := X1) hM hN q1 1 12) (xa_1 hM) np_X8_takeNumber rfl rfl (by decide) (Nat.le_of_ble_eq_true rfl) rfl ?_)
    rintro v M' ⟨X2, rfl, f2, _, hv⟩
    rcases hv with ⟨hg1, rfl, q2⟩ | ⟨hg1, rfl, hce, hje⟩
    · skip
      refine rx_istore_n_2 hE dX3_readRoad_21 (by decide) rfl ?_
      refine rx_aload_n hE dX3_readRoad_22 (i := 0) rfl rfl ?_
      refine rx_getf hE dX3_readRoad_23 fl_X3_15_3 (xa_5 hM) rfl ?_
      refine rx_iconst hE dX3_readRoad_26 (v := 0) (by decide) ?_
      refine rx_bipush hE dX3_readRoad_27 (v := 11) (by decide) ?_
      refine rx_call0 (rx_callV (av := [.int 0, .int 11]) hE dX3_readRoad_29 lk_X3_41 (c_X8_numQ (X := X2) hM hN q2 0 11) (xa_1 hM) np_X8_takeNumber rfl rfl (by decide) (Nat.le_of_ble_eq_true rfl) rfl ?_)
      rintro v M' ⟨X3, rfl, f3, _, hv⟩
      rcases hv with ⟨hg2, rfl, q3⟩ | ⟨hg2, rfl, hce, hje⟩
      · skip
        refine rx_istore_n_3 hE dX3_readRoad_32 (by decide) rfl ?_
        refine rx_aload_n hE dX3_readRoad_33 (i := 0) rfl rfl ?_
        refine rx_getf hE dX3_readRoad_34 fl_X3_15_3 (xa_5 hM) rfl ?_
        refine rx_getfN hE dX3_readRoad_37 fl_X3_60_8 (xa_1 hM) rfl ?_
        refine rx_int _ 0 q3.1.1.2.2.2 ?_
        refine rx_if_ne (tgt := 53) hE dX3_readRoad_40 (by decide) (fun c40 => absurd rfl c40) (fun c40 => ?_)
        refine rx_aload_n hE dX3_readRoad_43 (i := 0) rfl rfl ?_
        refine rx_getf hE dX3_readRoad_44 fl_X3_9_3 (xa_5 hM) rfl ?_
        refine rx_iload_n hE dX3_readRoad_47 (i := 1) rfl rfl ?_
        refine rx_iload_n hE dX3_readRoad_48 (i := 2) rfl rfl ?_
        refine rx_iload_n hE dX3_readRoad_49 (i := 3) rfl rfl ?_
        refine rx_call0 (rx_callV (av := [.int (tv T N p), .int (tv T N (nx T N p)), .int (tv T N (nx T N (nx T N p)))]) hE dX3_readRoad_50 lk_X3_63 (x_addRoad (X := X3) hM q3.2.2 hR hR6 _ _ _) (xa_j xJ_4 hM) np_X2_addRoad rfl rfl (by decide) (Nat.le_of_ble_eq_true rfl) rfl ?_)
        rintro v M' ⟨rfl, rfl⟩
        exact rx_vret hE hQ rfl dX3_readRoad_53 ⟨rfl, _, rfl, f1.trans (f2.trans (f3.trans (xg.r4 X3 _))), Or.inr ⟨_, jad J (tv T N p) (tv T N (nx T N p)) (tv T N (nx T N (nx T N p))), (by unfold jcF; rw [if_neg (by decide), if_pos rfl, if_pos hg0, if_pos hg1, if_pos hg2]), q3.1, q3.2.1, x_r_eq _ _ _⟩⟩
      · have hpe := q2.2.1
        refine rx_istore_n_3 hE dX3_readRoad_32 (by decide) rfl ?_
        refine rx_aload_n hE dX3_readRoad_33 (i := 0) rfl rfl ?_
        refine rx_getf hE dX3_readRoad_34 fl_X3_15_3 (xa_5 hM) rfl ?_
        refine rx_getfN hE dX3_readRoad_37 fl_X3_60_8 (xa_1 hM) rfl ?_
        refine rx_int _ _ hce.1.2.2.2 ?_
        refine rx_if_ne (tgt := 53) hE dX3_readRoad_40 (by decide) (fun c40 => ?_) (fun c40 => absurd c40 hje.1)
        exact rx_vret hE hQ rfl dX3_readRoad_53 ⟨rfl, X3, rfl, f1.trans (f2.trans (f3)), Or.inl ⟨_, (by unfold jcF; rw [if_neg (by decide), if_pos rfl, if_pos hg0, if_pos hg1, if_neg hg2]), hje.1, _, hpe, hce⟩⟩
    · have hpe := q1.2.1
      refine rx_istore_n_2 hE dX3_readRoad_21 (by decide) rfl ?_
      refine rx_aload_n hE dX3_readRoad_22 (i := 0) rfl rfl ?_
      refine rx_getf hE dX3_readRoad_23 fl_X3_15_3 (xa_5 hM) rfl ?_
      refine rx_iconst hE dX3_readRoad_26 (v := 0) (by decide) ?_
      refine rx_bipush hE dX3_readRoad_27 (v := 11) (by decide) ?_
      refine rx_call0 (rx_callV (av := [.int 0, .int 11]) hE dX3_readRoad_29 lk_X3_41 (c_X8_numE hM hN hpe hje.1 hce 0 11) (xa_1 hM) np_X8_takeNumber rfl rfl (by decide) (Nat.le_of_ble_eq_true rfl) rfl ?_)
      rintro v M' ⟨rfl, XE1, rfl, fe1, hce⟩
      refine rx_istore_n_3 hE dX3_readRoad_32 (by decide) rfl ?_
      refine rx_aload_n hE dX3_readRoad_33 (i := 0) rfl rfl ?_
      refine rx_getf hE dX3_readRoad_34 fl_X3_15_3 (xa_5 hM) rfl ?_
      refine rx_getfN hE dX3_readRoad_37 fl_X3_60_8 (xa_1 hM) rfl ?_
      refine rx_int _ _ hce.1.2.2.2 ?_
      refine rx_if_ne (tgt := 53) hE dX3_readRoad_40 (by decide) (fun c40 => ?_) (fun c40 => absurd c40 hje.1)
      exact rx_vret hE hQ rfl dX3_readRoad_53 ⟨rfl, XE1, rfl, f1.trans (f2.trans (fe1)), Or.inl ⟨_, (by unfold jcF; rw [if_neg (by decide), if_pos rfl, if_pos hg0, if_neg hg1]), hje.1, _, hpe, hce⟩⟩
  · have hpe := hq.2.1
    refine rx_istore_n_1 hE dX3_readRoad_10 (by decide) rfl ?_
    refine rx_aload_n hE dX3_readRoad_11 (i := 0) rfl rfl ?_
    refine rx_getf hE dX3_readRoad_12 fl_X3_15_3 (xa_5 hM) rfl ?_
    refine rx_iconst hE dX3_readRoad_15 (v := 1) (by decide) ?_
    refine rx_bipush hE dX3_readRoad_16 (v := 12) (by decide) ?_
    refine rx_call0 (rx_callV (av := [.int 1, .int 12]) hE dX3_readRoad_18 lk_X3_41 (c_X8_numE hM hN hpe hje.1 hce 1 12) (xa_1 hM) np_X8_takeNumber rfl rfl (by decide) (Nat.le_of_ble_eq_true rfl) rfl ?_)
    rintro v M' ⟨rfl, XE1, rfl, fe1, hce⟩
    refine rx_istore_n_2 hE dX3_readRoad_21 (by decide) rfl ?_
    refine rx_aload_n hE dX3_readRoad_22 (i := 0) rfl rfl ?_
    refine rx_getf hE dX3_readRoad_23 fl_X3_15_3 (xa_5 hM) rfl ?_
    refine rx_iconst hE dX3_readRoad_26 (v := 0) (by decide) ?_
    refine rx_bipush hE dX3_readRoad_27 (v := 11) (by decide) ?_
    refine rx_call0 (rx_callV (av := [.int 0, .int 11]) hE dX3_readRoad_29 lk_X3_41 (c_X8_numE hM hN hpe hje.1 hce 0 11) (xa_1 hM) np_X8_takeNumber rfl rfl (by decide) (Nat.le_of_ble_eq_true rfl) rfl ?_)
    rintro v M' ⟨rfl, XE2, rfl, fe2, hce⟩
    refine rx_istore_n_3 hE dX3_readRoad_32 (by decide) rfl ?_
    refine rx_aload_n hE dX3_readRoad_33 (i := 0) rfl rfl ?_
    refine rx_getf hE dX3_readRoad_34 fl_X3_15_3 (xa_5 hM) rfl ?_
    refine rx_getfN hE dX3_readRoad_37 fl_X3_60_8 (xa_1 hM) rfl ?_
    refine rx_int _ _ hce.1.2.2.2 ?_
    refine rx_if_ne (tgt := 53) hE dX3_readRoad_40 (by decide) (fun c40 => ?_) (fun c40 => absurd c40 hje.1)
    exact rx_vret hE hQ rfl dX3_readRoad_53 ⟨rfl, XE2, rfl, f1.trans (fe1.trans fe2), Or.inl ⟨_, (by unfold jcF; rw [if_neg (by decide), if_pos rfl, if_neg hg0]), hje.1, _, hpe, hce⟩⟩
set_option maxRecDepth 100000 in
set_option maxHeartbeats 1000000 in
theorem c_X3_readScore {n : Nat} {X : gX} {O : gO} {Q : gU} {G : gK} {S : gS} {L : gLg} (hM : 408 ≤ n) {T : Nat → Int32} {N p : Nat} {J : gJn} (hN : N ≤ 400) (hq : cj X T N p J) {R B : Nat} (hR : J 9 2 = nI R) (hR6 : R ≤ 6) (hB : J 9 0 = nI B) (hB12 : B ≤ 12) : SX 2 0 0 mX3_readScore [.ref 49] (xm n X O Q G S L) (fun v M' => v = none ∧ ∃ X', M' = xm n X' O Q G S L ∧ xg X X' ∧ ((∃ g, jcF T N 3 p J = .error g ∧ cje X' T N g) ∨ ∃ p1 J1, jcF T N 3 p J = .ok (p1, J1) ∧ cj X' T N p1 J1)) := by
  refine SX.intro [some (.ref 49), none, none] (by decide +kernel) (Nat.le_of_ble_eq_true rfl) rfl (fun E hE hQ => ?_)
  refine rx_aload_n hE dX3_readScore_0 (i := 0) rfl rfl ?_
  refine rx_getf hE dX3_readScore_1 fl_X3_15_3 (xa_5 hM) rfl ?_
  refine rx_iconst hE dX3_readScore_4 (v := 0) (by decide) ?_
  refine rx_aload_n hE dX3_readScore_5 (i := 0) rfl rfl ?_
  refine rx_getf hE dX3_readScore_6 fl_X3_9_3 (xa_5 hM) rfl ?_
  refine rx_getfN hE dX3_readScore_9 fl_X3_45_2 (xa_j xJ_4 hM) rfl ?_
  refine rx_int _ (J 9 0) (by rw [hq.2.2]) ?_
  refine rx_iconst hE dX3_readScore_12 (v := 1) (by decide) ?_
  refine rx_isub hE dX3_readScore_13 ?_
  refine rx_call0 (rx_callV (av := [.int 0, .int (J 9 0 - 1)]) hE dX3_readScore_14 lk_X3_41 (c_X8_numQ (X := X) hM hN hq 0 (J 9 0 - 1)) (xa_1 hM) np_X8_takeNumber rfl rfl (by decide) (Nat.le_of_ble_eq_true rfl) rfl ?_)
  rintro v M' ⟨X1, rfl, f1, _, hv⟩
  rcases hv with ⟨hg0, rfl, q1⟩ | ⟨hg0, rfl, hce, hje⟩
  · skip
    obtain ⟨b1, hb1l, hb1⟩ := tno_nI (h := B) (by omega) (by rw [← hB]; exact hg0)
    refine rx_istore_n_1 hE dX3_readScore_17 (by decide) rfl ?_
    refine rx_aload_n hE dX3_readScore_18 (i := 0) rfl rfl ?_
    refine rx_getf hE dX3_readScore_19 fl_X3_15_3 (xa_5 hM) rfl ?_
    refine rx_iconst hE dX3_readScore_22 (v := 0) (by decide) ?_
    refine rx_aload_n hE dX3_readScore_23 (i := 0) rfl rfl ?_
    refine rx_getf hE dX3_readScore_24 fl_X3_9_3 (xa_5 hM) rfl ?_
    refine rx_getfN hE dX3_readScore_27 fl_X3_31_2 (xa_j xJ_4 hM) rfl ?_
    refine rx_int _ (J 9 2) (by rw [q1.2.2]) ?_
    refine rx_iconst hE dX3_readScore_30 (v := 1) (by decide) ?_
    refine rx_isub hE dX3_readScore_31 ?_
    refine rx_call0 (rx_callV (av := [.int 0, .int (J 9 2 - 1)]) hE dX3_readScore_32 lk_X3_41 (c_X8_numQ (X := X1) hM hN q1 0 (J 9 2 - 1)) (xa_1 hM) np_X8_takeNumber rfl rfl (by decide) (Nat.le_of_ble_eq_true rfl) rfl ?_)
    rintro v M' ⟨X2, rfl, f2, _, hv⟩
    rcases hv with ⟨hg1, rfl, q2⟩ | ⟨hg1, rfl, hce, hje⟩
    · skip
      obtain ⟨r1, hr1l, hr1⟩ := tno_nI (h := R) (by omega) (by rw [← hR]; exact hg1)
      refine rx_istore_n_2 hE dX3_readScore_35 (by decide) rfl ?_
      refine rx_aload_n hE dX3_readScore_36 (i := 0) rfl rfl ?_
      refine rx_getf hE dX3_readScore_37 fl_X3_15_3 (xa_5 hM) rfl ?_
      refine rx_getfN hE dX3_readScore_40 fl_X3_60_8 (xa_1 hM) rfl ?_
      refine rx_int _ 0 q2.1.1.2.2.2 ?_
      refine rx_if_ne (tgt := 61) hE dX3_readScore_43 (by decide) (fun c43 => absurd rfl c43) (fun c43 => ?_)
      refine rx_aload_n hE dX3_readScore_46 (i := 0) rfl rfl ?_
      refine rx_getf hE dX3_readScore_47 fl_X3_9_3 (xa_5 hM) rfl ?_
      refine rx_getfN hE dX3_readScore_50 fl_X3_77_2 (xa_j xJ_4 hM) rfl ?_
      refine rx_iload_n hE dX3_readScore_53 (i := 1) rfl rfl ?_
      refine rx_int _ (nI b1) hb1 ?_
      refine rx_dup2 hE dX3_readScore_54 rfl rfl ?_
      refine rx_ialdN (i := b1) hE dX3_readScore_55 (xa_j9 xJ_4 hM) (by omega) (by decide) ?_
      refine rx_int _ (J 8 b1) (by rw [q2.2.2]) ?_
      refine rx_iconst hE dX3_readScore_56 (v := 1) (by decide) ?_
      refine rx_iload_n hE dX3_readScore_57 (i := 2) rfl rfl ?_
      refine rx_int _ (nI r1) hr1 ?_
      refine rx_ishl hE dX3_readScore_58 ?_
      refine rx_ior hE dX3_readScore_59 ?_
      refine rx_iastN (i := b1) hE dX3_readScore_60 (xa_j9 xJ_4 hM) (by omega) (by decide) ?_
      refine rx_mem (M' := xm n (x_r X2 4 (j_s J 8 (jor (J 8) b1 (nI r1)))) O Q G S L) (by rw [xw_j9 xJ_4, q2.2.2]; rfl) ?_
      exact rx_vret hE hQ rfl dX3_readScore_61 ⟨rfl, _, rfl, f1.trans (f2.trans (xg.r4 X2 _)), Or.inr ⟨_, _, (by unfold jcF; rw [if_neg (by decide), if_neg (by decide), if_neg (by decide), if_pos hg0, if_pos hg1]), q2.1, q2.2.1, (by unfold jsc; rw [hb1, hr1, nI_clamp (show b1 < 2 ^ 31 by omega)]; rfl)⟩⟩
    · have hpe := q1.2.1
      refine rx_istore_n_2 hE dX3_readScore_35 (by decide) rfl ?_
      refine rx_aload_n hE dX3_readScore_36 (i := 0) rfl rfl ?_
      refine rx_getf hE dX3_readScore_37 fl_X3_15_3 (xa_5 hM) rfl ?_
      refine rx_getfN hE dX3_readScore_40 fl_X3_60_8 (xa_1 hM) rfl ?_
      refine rx_int _ _ hce.1.2.2.2 ?_
      refine rx_if_ne (tgt := 61) hE dX3_readScore_43 (by decide) (fun c43 => ?_) (fun c43 => absurd c43 hje.1)
      exact rx_vret hE hQ rfl dX3_readScore_61 ⟨rfl, X2, rfl, f1.trans f2, Or.inl ⟨_, (by unfold jcF; rw [if_neg (by decide), if_neg (by decide), if_neg (by decide), if_pos hg0, if_neg hg1]), hje.1, _, hpe, hce⟩⟩
  · have hpe := hq.2.1
    refine rx_istore_n_1 hE dX3_readScore_17 (by decide) rfl ?_
    refine rx_aload_n hE dX3_readScore_18 (i := 0) rfl rfl ?_
    refine rx_getf hE dX3_readScore_19 fl_X3_15_3 (xa_5 hM) rfl ?_
    refine rx_iconst hE dX3_readScore_22 (v := 0) (by decide) ?_
    refine rx_aload_n hE dX3_readScore_23 (i := 0) rfl rfl ?_
    refine rx_getf hE dX3_readScore_24 fl_X3_9_3 (xa_5 hM) rfl ?_
    refine rx_getfN hE dX3_readScore_27 fl_X3_31_2 (xa_j xJ_4 hM) rfl ?_
    refine rx_int _ (X1 4 9 2) rfl ?_
    refine rx_iconst hE dX3_readScore_30 (v := 1) (by decide) ?_
    refine rx_isub hE dX3_readScore_31 ?_
    refine rx_call0 (rx_callV (av := [.int 0, .int (X1 4 9 2 - 1)]) hE dX3_readScore_32 lk_X3_41 (c_X8_numE hM hN hpe hje.1 hce 0 (X1 4 9 2 - 1)) (xa_1 hM) np_X8_takeNumber rfl rfl (by decide) (Nat.le_of_ble_eq_true rfl) rfl ?_)
    rintro v M' ⟨rfl, XE, rfl, fE_, hce⟩
    refine rx_istore_n_2 hE dX3_readScore_35 (by decide) rfl ?_
    refine rx_aload_n hE dX3_readScore_36 (i := 0) rfl rfl ?_
    refine rx_getf hE dX3_readScore_37 fl_X3_15_3 (xa_5 hM) rfl ?_
    refine rx_getfN hE dX3_readScore_40 fl_X3_60_8 (xa_1 hM) rfl ?_
    refine rx_int _ _ hce.1.2.2.2 ?_
    refine rx_if_ne (tgt := 61) hE dX3_readScore_43 (by decide) (fun c43 => ?_) (fun c43 => absurd c43 hje.1)
    exact rx_vret hE hQ rfl dX3_readScore_61 ⟨rfl, XE, rfl, f1.trans fE_, Or.inl ⟨_, (by unfold jcF; rw [if_neg (by decide), if_neg (by decide), if_neg (by decide), if_neg hg0]), hje.1, _, hpe, hce⟩⟩
set_option maxRecDepth 100000 in
set_option maxHeartbeats 1000000 in
theorem c_X3_readClash {n : Nat} {X : gX} {O : gO} {Q : gU} {G : gK} {S : gS} {L : gLg} (hM : 408 ≤ n) {T : Nat → Int32} {N p : Nat} {J : gJn} (hN : N ≤ 400) (hq : cj X T N p J) {R : Nat} (hR : J 9 2 = nI R) (hR6 : R ≤ 6) : SX 2 0 0 mX3_readClash [.ref 49] (xm n X O Q G S L) (fun v M' => v = none ∧ ∃ X', M' = xm n X' O Q G S L ∧ xg X X' ∧ ((∃ g, jcF T N 2 p J = .error g ∧ cje X' T N g) ∨ ∃ p1 J1, jcF T N 2 p J = .ok (p1, J1) ∧ cj X' T N p1 J1)) := by
  refine SX.intro [some (.ref 49), none, none] (by decide +kernel) (Nat.le_of_ble_eq_true rfl) rfl (fun E hE hQ => ?_)
  refine rx_aload_n hE dX3_readClash_0 (i := 0) rfl rfl ?_
  refine rx_getf hE dX3_readClash_1 fl_X3_15_3 (xa_5 hM) rfl ?_
  refine rx_iconst hE dX3_readClash_4 (v := 0) (by decide) ?_
  refine rx_aload_n hE dX3_readClash_5 (i := 0) rfl rfl ?_
  refine rx_getf hE dX3_readClash_6 fl_X3_9_3 (xa_5 hM) rfl ?_
  refine rx_getfN hE dX3_readClash_9 fl_X3_31_2 (xa_j xJ_4 hM) rfl ?_
  refine rx_int _ (J 9 2) (by rw [hq.2.2]) ?_
  refine rx_iconst hE dX3_readClash_12 (v := 1) (by decide) ?_
  refine rx_isub hE dX3_readClash_13 ?_
  refine rx_call0 (rx_callV (av := [.int 0, .int (J 9 2 - 1)]) hE dX3_readClash_14 lk_X3_41 (c_X8_numQ (X := X) hM hN hq 0 (J 9 2 - 1)) (xa_1 hM) np_X8_takeNumber rfl rfl (by decide) (Nat.le_of_ble_eq_true rfl) rfl ?_)
  rintro v M' ⟨X1, rfl, f1, _, hv⟩
  rcases hv with ⟨hg0, rfl, q1⟩ | ⟨hg0, rfl, hce, hje⟩
  · skip
    obtain ⟨x1, hx1l, hx1⟩ := tno_nI (h := R) (by omega) (by rw [← hR]; exact hg0)
    refine rx_int _ (nI x1) hx1 ?_
    have k48 : (tno T N (nx T N p) 0 (J 9 2 - 1) → ¬ tv T N (nx T N p) = tv T N p) → RX E mX3_readClash.2.2.1 0 0 48 [some (.ref 49), some (.int (nI x1)), none] [] (xm n X1 O Q G S L) := by
      intro hqn
      refine rx_aload_n hE dX3_readClash_48 (i := 0) rfl rfl ?_
      refine rx_getf hE dX3_readClash_49 fl_X3_15_3 (xa_5 hM) rfl ?_
      refine rx_iconst hE dX3_readClash_52 (v := 0) (by decide) ?_
      refine rx_aload_n hE dX3_readClash_53 (i := 0) rfl rfl ?_
      refine rx_getf hE dX3_readClash_54 fl_X3_9_3 (xa_5 hM) rfl ?_
      refine rx_getfN hE dX3_readClash_57 fl_X3_31_2 (xa_j xJ_4 hM) rfl ?_
      refine rx_int _ (J 9 2) (by rw [q1.2.2]) ?_
      refine rx_iconst hE dX3_readClash_60 (v := 1) (by decide) ?_
      refine rx_isub hE dX3_readClash_61 ?_
      refine rx_call0 (rx_callV (av := [.int 0, .int (J 9 2 - 1)]) hE dX3_readClash_62 lk_X3_41 (c_X8_numQ (X := X1) hM hN q1 0 (J 9 2 - 1)) (xa_1 hM) np_X8_takeNumber rfl rfl (by decide) (Nat.le_of_ble_eq_true rfl) rfl ?_)
      rintro v M' ⟨X2, rfl, f2, _, hv⟩
      rcases hv with ⟨hg1, rfl, q2⟩ | ⟨hg1, rfl, hce, hje⟩
      · skip
        obtain ⟨x2, hx2l, hx2⟩ := tno_nI (h := R) (by omega) (by rw [← hR]; exact hg1)
        refine rx_istore_n_2 hE dX3_readClash_65 (by decide) rfl ?_
        refine rx_aload_n hE dX3_readClash_66 (i := 0) rfl rfl ?_
        refine rx_getf hE dX3_readClash_67 fl_X3_15_3 (xa_5 hM) rfl ?_
        refine rx_getfN hE dX3_readClash_70 fl_X3_60_8 (xa_1 hM) rfl ?_
        refine rx_int _ 0 q2.1.1.2.2.2 ?_
        refine rx_if_ne (tgt := 106) hE dX3_readClash_73 (by decide) (fun c73 => absurd rfl c73) (fun c73 => ?_)
        refine rx_aload_n hE dX3_readClash_76 (i := 0) rfl rfl ?_
        refine rx_getf hE dX3_readClash_77 fl_X3_9_3 (xa_5 hM) rfl ?_
        refine rx_getfN hE dX3_readClash_80 fl_X3_73_2 (xa_j xJ_4 hM) rfl ?_
        refine rx_iload_n hE dX3_readClash_83 (i := 1) rfl rfl ?_
        refine rx_dup2 hE dX3_readClash_84 rfl rfl ?_
        refine rx_ialdN (i := x1) hE dX3_readClash_85 (xa_j4 xJ_4 hM) (by omega) (by decide) ?_
        refine rx_int _ (J 3 x1) (by rw [q2.2.2]) ?_
        refine rx_iconst hE dX3_readClash_86 (v := 1) (by decide) ?_
        refine rx_iload_n hE dX3_readClash_87 (i := 2) rfl rfl ?_
        refine rx_int _ (nI x2) hx2 ?_
        refine rx_ishl hE dX3_readClash_88 ?_
        refine rx_ior hE dX3_readClash_89 ?_
        refine rx_iastN (i := x1) hE dX3_readClash_90 (xa_j4 xJ_4 hM) (by omega) (by decide) ?_
        refine rx_mem (M' := xm n (x_r X2 4 (j_s J 3 (jor (J 3) x1 (nI x2)))) O Q G S L) (by rw [xw_j4 xJ_4, q2.2.2]; rfl) ?_
        refine rx_aload_n hE dX3_readClash_91 (i := 0) rfl rfl ?_
        refine rx_getf hE dX3_readClash_92 fl_X3_9_3 (xa_5 hM) rfl ?_
        refine rx_getfN hE dX3_readClash_95 fl_X3_73_2 (xa_j xJ_4 hM) rfl ?_
        refine rx_iload_n hE dX3_readClash_98 (i := 2) rfl rfl ?_
        refine rx_int _ (nI x2) hx2 ?_
        refine rx_dup2 hE dX3_readClash_99 rfl rfl ?_
        refine rx_ialdN (i := x2) hE dX3_readClash_100 (xa_j4 xJ_4 hM) (by omega) (by decide) ?_
        refine rx_int _ (jor (J 3) x1 (nI x2) x2) rfl ?_
        refine rx_iconst hE dX3_readClash_101 (v := 1) (by decide) ?_
        refine rx_iload_n hE dX3_readClash_102 (i := 1) rfl rfl ?_
        refine rx_ishl hE dX3_readClash_103 ?_
        refine rx_ior hE dX3_readClash_104 ?_
        refine rx_iastN (i := x2) hE dX3_readClash_105 (xa_j4 xJ_4 hM) (by omega) (by decide) ?_
        refine rx_mem (M' := xm n (x_r (x_r X2 4 (j_s J 3 (jor (J 3) x1 (nI x2)))) 4 (j_s J 3 (jor (jor (J 3) x1 (nI x2)) x2 (nI x1)))) O Q G S L) (by rw [xw_j4 xJ_4, x_r_eq, j_s3]; rfl) ?_
        exact rx_vret hE hQ rfl dX3_readClash_106 ⟨rfl, (x_r (x_r X2 4 (j_s J 3 (jor (J 3) x1 (nI x2)))) 4 (j_s J 3 (jor (jor (J 3) x1 (nI x2)) x2 (nI x1)))), rfl, f1.trans (f2.trans ((xg.r4 X2 _).trans (xg.r4 _ _))), Or.inr ⟨_, _, (by unfold jcF; rw [if_neg (by decide), if_neg (by decide), if_pos rfl, if_pos hg0, if_pos ⟨hg1, hqn hg1⟩]), q2.1, q2.2.1, (by unfold jcs; rw [hx1, hx2, nI_clamp (show x1 < 2 ^ 31 by omega), nI_clamp (show x2 < 2 ^ 31 by omega)]; exact x_r_eq _ _ _)⟩⟩
      · have hpe := q1.2.1
        refine rx_istore_n_2 hE dX3_readClash_65 (by decide) rfl ?_
        refine rx_aload_n hE dX3_readClash_66 (i := 0) rfl rfl ?_
        refine rx_getf hE dX3_readClash_67 fl_X3_15_3 (xa_5 hM) rfl ?_
        refine rx_getfN hE dX3_readClash_70 fl_X3_60_8 (xa_1 hM) rfl ?_
        refine rx_int _ _ hce.1.2.2.2 ?_
        refine rx_if_ne (tgt := 106) hE dX3_readClash_73 (by decide) (fun c73 => ?_) (fun c73 => absurd c73 hje.1)
        exact rx_vret hE hQ rfl dX3_readClash_106 ⟨rfl, X2, rfl, f1.trans f2, Or.inl ⟨_, (by unfold jcF; rw [if_neg (by decide), if_neg (by decide), if_pos rfl, if_pos hg0, if_neg (fun z => hg1 z.1)]), hje.1, _, hpe, hce⟩⟩
    refine rx_istore_n_1 hE dX3_readClash_17 (by decide) rfl ?_
    refine rx_aload_n hE dX3_readClash_18 (i := 0) rfl rfl ?_
    refine rx_getf hE dX3_readClash_19 fl_X3_15_3 (xa_5 hM) rfl ?_
    refine rx_getfN hE dX3_readClash_22 fl_X3_67_8 (xa_1 hM) rfl ?_
    refine rx_int _ (nI (tk T N (nx T N p))) q1.1.2.1 ?_
    refine rx_iconst hE dX3_readClash_25 (v := 2) (by decide) ?_
    refine rx_icmp_ne (tgt := 48) hE dX3_readClash_26 (by decide) (fun c26 => ?_) (fun c26 => ?_)
    · exact k48 (fun z => absurd ((tk_eq (k := 2) (by decide)).mpr z.1) c26)
    · refine rx_aload_n hE dX3_readClash_29 (i := 0) rfl rfl ?_
      refine rx_getf hE dX3_readClash_30 fl_X3_15_3 (xa_5 hM) rfl ?_
      refine rx_getfN hE dX3_readClash_33 fl_X3_70_8 (xa_1 hM) rfl ?_
      refine rx_int _ (tv T N (nx T N p)) (q1.1.2.2.2 (by rw [(tk_eq (k := 2) (by decide)).mp c26]; decide)) ?_
      refine rx_iload_n hE dX3_readClash_36 (i := 1) rfl rfl ?_
      refine rx_icmp_ne (tgt := 48) hE dX3_readClash_37 (by decide) (fun c37 => ?_) (fun c37 => ?_)
      · exact k48 (fun _ z => c37 (z.trans hx1))
      · refine rx_aload_n hE dX3_readClash_40 (i := 0) rfl rfl ?_
        refine rx_getf hE dX3_readClash_41 fl_X3_15_3 (xa_5 hM) rfl ?_
        refine rx_iconst hE dX3_readClash_44 (v := 1) (by decide) ?_
        refine rx_call0 (rx_callV (av := [.int (nI 1)]) hE dX3_readClash_45 lk_X3_27 (c_X8_failJ (X := X1) hM hN q1 (w := 1) (by decide)) (xa_1 hM) np_X8_fail rfl rfl (by decide) (Nat.le_of_ble_eq_true rfl) rfl ?_)
        rintro v M' ⟨rfl, XF, rfl, fF, hce, hje⟩
        have hpe := q1.2.1
        have hqe : tv T N (nx T N p) = tv T N p := c37.trans hx1.symm
        have ht2 : tk T N (nx T N p) = 2 := (tk_eq (k := 2) (by decide)).mp c26
        refine rx_aload_n hE dX3_readClash_48 (i := 0) rfl rfl ?_
        refine rx_getf hE dX3_readClash_49 fl_X3_15_3 (xa_5 hM) rfl ?_
        refine rx_iconst hE dX3_readClash_52 (v := 0) (by decide) ?_
        refine rx_aload_n hE dX3_readClash_53 (i := 0) rfl rfl ?_
        refine rx_getf hE dX3_readClash_54 fl_X3_9_3 (xa_5 hM) rfl ?_
        refine rx_getfN hE dX3_readClash_57 fl_X3_31_2 (xa_j xJ_4 hM) rfl ?_
        refine rx_int _ (XF 4 9 2) rfl ?_
        refine rx_iconst hE dX3_readClash_60 (v := 1) (by decide) ?_
        refine rx_isub hE dX3_readClash_61 ?_
        refine rx_call0 (rx_callV (av := [.int 0, .int (XF 4 9 2 - 1)]) hE dX3_readClash_62 lk_X3_41 (c_X8_numE hM hN hpe hje.1 hce 0 (XF 4 9 2 - 1)) (xa_1 hM) np_X8_takeNumber rfl rfl (by decide) (Nat.le_of_ble_eq_true rfl) rfl ?_)
        rintro v M' ⟨rfl, XE, rfl, fE_, hce⟩
        refine rx_istore_n_2 hE dX3_readClash_65 (by decide) rfl ?_
        refine rx_aload_n hE dX3_readClash_66 (i := 0) rfl rfl ?_
        refine rx_getf hE dX3_readClash_67 fl_X3_15_3 (xa_5 hM) rfl ?_
        refine rx_getfN hE dX3_readClash_70 fl_X3_60_8 (xa_1 hM) rfl ?_
        refine rx_int _ _ hce.1.2.2.2 ?_
        refine rx_if_ne (tgt := 106) hE dX3_readClash_73 (by decide) (fun c73 => ?_) (fun c73 => absurd c73 hje.1)
        exact rx_vret hE hQ rfl dX3_readClash_106 ⟨rfl, XE, rfl, f1.trans (fF.trans fE_), Or.inl ⟨_, (by unfold jcF; rw [if_neg (by decide), if_neg (by decide), if_pos rfl, if_pos hg0, if_neg (fun z => z.2 hqe)]; unfold jnE; rw [if_pos ht2]; rfl), hje.1, _, hpe, hce⟩⟩
  · have hpe := hq.2.1
    refine rx_istore_n_1 hE dX3_readClash_17 (by decide) rfl ?_
    refine rx_aload_n hE dX3_readClash_18 (i := 0) rfl rfl ?_
    refine rx_getf hE dX3_readClash_19 fl_X3_15_3 (xa_5 hM) rfl ?_
    refine rx_getfN hE dX3_readClash_22 fl_X3_67_8 (xa_1 hM) rfl ?_
    refine rx_int _ (nI (tk T N p)) hce.2.1 ?_
    refine rx_iconst hE dX3_readClash_25 (v := 2) (by decide) ?_
    refine rx_icmp_ne (tgt := 48) hE dX3_readClash_26 (by decide) (fun c26 => ?_) (fun c26 => ?_)
    · refine rx_aload_n hE dX3_readClash_48 (i := 0) rfl rfl ?_
      refine rx_getf hE dX3_readClash_49 fl_X3_15_3 (xa_5 hM) rfl ?_
      refine rx_iconst hE dX3_readClash_52 (v := 0) (by decide) ?_
      refine rx_aload_n hE dX3_readClash_53 (i := 0) rfl rfl ?_
      refine rx_getf hE dX3_readClash_54 fl_X3_9_3 (xa_5 hM) rfl ?_
      refine rx_getfN hE dX3_readClash_57 fl_X3_31_2 (xa_j xJ_4 hM) rfl ?_
      refine rx_int _ (X1 4 9 2) rfl ?_
      refine rx_iconst hE dX3_readClash_60 (v := 1) (by decide) ?_
      refine rx_isub hE dX3_readClash_61 ?_
      refine rx_call0 (rx_callV (av := [.int 0, .int (X1 4 9 2 - 1)]) hE dX3_readClash_62 lk_X3_41 (c_X8_numE hM hN hpe hje.1 hce 0 (X1 4 9 2 - 1)) (xa_1 hM) np_X8_takeNumber rfl rfl (by decide) (Nat.le_of_ble_eq_true rfl) rfl ?_)
      rintro v M' ⟨rfl, XE, rfl, fE_, hce⟩
      refine rx_istore_n_2 hE dX3_readClash_65 (by decide) rfl ?_
      refine rx_aload_n hE dX3_readClash_66 (i := 0) rfl rfl ?_
      refine rx_getf hE dX3_readClash_67 fl_X3_15_3 (xa_5 hM) rfl ?_
      refine rx_getfN hE dX3_readClash_70 fl_X3_60_8 (xa_1 hM) rfl ?_
      refine rx_int _ _ hce.1.2.2.2 ?_
      refine rx_if_ne (tgt := 106) hE dX3_readClash_73 (by decide) (fun c73 => ?_) (fun c73 => absurd c73 hje.1)
      exact rx_vret hE hQ rfl dX3_readClash_106 ⟨rfl, XE, rfl, f1.trans fE_, Or.inl ⟨_, (by unfold jcF; rw [if_neg (by decide), if_neg (by decide), if_pos rfl, if_neg hg0]), hje.1, _, hpe, hce⟩⟩
    · refine rx_aload_n hE dX3_readClash_29 (i := 0) rfl rfl ?_
      refine rx_getf hE dX3_readClash_30 fl_X3_15_3 (xa_5 hM) rfl ?_
      refine rx_getfN hE dX3_readClash_33 fl_X3_70_8 (xa_1 hM) rfl ?_
      refine rx_int _ (tv T N p) (hce.2.2.2 (by rw [(tk_eq (k := 2) (by decide)).mp c26]; decide)) ?_
      refine rx_iload_n hE dX3_readClash_36 (i := 1) rfl rfl ?_
      refine rx_icmp_ne (tgt := 48) hE dX3_readClash_37 (by decide) (fun c37 => ?_) (fun c37 => ?_)
      · refine rx_aload_n hE dX3_readClash_48 (i := 0) rfl rfl ?_
        refine rx_getf hE dX3_readClash_49 fl_X3_15_3 (xa_5 hM) rfl ?_
        refine rx_iconst hE dX3_readClash_52 (v := 0) (by decide) ?_
        refine rx_aload_n hE dX3_readClash_53 (i := 0) rfl rfl ?_
        refine rx_getf hE dX3_readClash_54 fl_X3_9_3 (xa_5 hM) rfl ?_
        refine rx_getfN hE dX3_readClash_57 fl_X3_31_2 (xa_j xJ_4 hM) rfl ?_
        refine rx_int _ (X1 4 9 2) rfl ?_
        refine rx_iconst hE dX3_readClash_60 (v := 1) (by decide) ?_
        refine rx_isub hE dX3_readClash_61 ?_
        refine rx_call0 (rx_callV (av := [.int 0, .int (X1 4 9 2 - 1)]) hE dX3_readClash_62 lk_X3_41 (c_X8_numE hM hN hpe hje.1 hce 0 (X1 4 9 2 - 1)) (xa_1 hM) np_X8_takeNumber rfl rfl (by decide) (Nat.le_of_ble_eq_true rfl) rfl ?_)
        rintro v M' ⟨rfl, XE, rfl, fE_, hce⟩
        refine rx_istore_n_2 hE dX3_readClash_65 (by decide) rfl ?_
        refine rx_aload_n hE dX3_readClash_66 (i := 0) rfl rfl ?_
        refine rx_getf hE dX3_readClash_67 fl_X3_15_3 (xa_5 hM) rfl ?_
        refine rx_getfN hE dX3_readClash_70 fl_X3_60_8 (xa_1 hM) rfl ?_
        refine rx_int _ _ hce.1.2.2.2 ?_
        refine rx_if_ne (tgt := 106) hE dX3_readClash_73 (by decide) (fun c73 => ?_) (fun c73 => absurd c73 hje.1)
        exact rx_vret hE hQ rfl dX3_readClash_106 ⟨rfl, XE, rfl, f1.trans fE_, Or.inl ⟨_, (by unfold jcF; rw [if_neg (by decide), if_neg (by decide), if_pos rfl, if_neg hg0]), hje.1, _, hpe, hce⟩⟩
      · refine rx_aload_n hE dX3_readClash_40 (i := 0) rfl rfl ?_
        refine rx_getf hE dX3_readClash_41 fl_X3_15_3 (xa_5 hM) rfl ?_
        refine rx_iconst hE dX3_readClash_44 (v := 1) (by decide) ?_
        refine rx_call0 (rx_callV (av := [.int 1]) hE dX3_readClash_45 lk_X3_27 (c_X8_failK hM hN hpe hje.1 hce 1) (xa_1 hM) np_X8_fail rfl rfl (by decide) (Nat.le_of_ble_eq_true rfl) rfl ?_)
        rintro v M' ⟨rfl, XF, rfl, fF, hce⟩
        refine rx_aload_n hE dX3_readClash_48 (i := 0) rfl rfl ?_
        refine rx_getf hE dX3_readClash_49 fl_X3_15_3 (xa_5 hM) rfl ?_
        refine rx_iconst hE dX3_readClash_52 (v := 0) (by decide) ?_
        refine rx_aload_n hE dX3_readClash_53 (i := 0) rfl rfl ?_
        refine rx_getf hE dX3_readClash_54 fl_X3_9_3 (xa_5 hM) rfl ?_
        refine rx_getfN hE dX3_readClash_57 fl_X3_31_2 (xa_j xJ_4 hM) rfl ?_
        refine rx_int _ (XF 4 9 2) rfl ?_
        refine rx_iconst hE dX3_readClash_60 (v := 1) (by decide) ?_
        refine rx_isub hE dX3_readClash_61 ?_
        refine rx_call0 (rx_callV (av := [.int 0, .int (XF 4 9 2 - 1)]) hE dX3_readClash_62 lk_X3_41 (c_X8_numE hM hN hpe hje.1 hce 0 (XF 4 9 2 - 1)) (xa_1 hM) np_X8_takeNumber rfl rfl (by decide) (Nat.le_of_ble_eq_true rfl) rfl ?_)
        rintro v M' ⟨rfl, XE, rfl, fE_, hce⟩
        refine rx_istore_n_2 hE dX3_readClash_65 (by decide) rfl ?_
        refine rx_aload_n hE dX3_readClash_66 (i := 0) rfl rfl ?_
        refine rx_getf hE dX3_readClash_67 fl_X3_15_3 (xa_5 hM) rfl ?_
        refine rx_getfN hE dX3_readClash_70 fl_X3_60_8 (xa_1 hM) rfl ?_
        refine rx_int _ _ hce.1.2.2.2 ?_
        refine rx_if_ne (tgt := 106) hE dX3_readClash_73 (by decide) (fun c73 => ?_) (fun c73 => absurd c73 hje.1)
        exact rx_vret hE hQ rfl dX3_readClash_106 ⟨rfl, XE, rfl, f1.trans (fF.trans fE_), Or.inl ⟨_, (by unfold jcF; rw [if_neg (by decide), if_neg (by decide), if_pos rfl, if_neg hg0]), hje.1, _, hpe, hce⟩⟩
