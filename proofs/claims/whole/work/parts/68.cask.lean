/-! ===== what is asked of the class ===== -/
def xq (X X' : gX) : Prop := ∀ r, r ≠ 4 → r ≠ 31 → r ≠ 32 → X' r = X r
theorem xq.refl (X : gX) : xq X X := fun _ _ _ _ => rfl
theorem xq.trans {X X' X'' : gX} (h : xq X X') (h' : xq X' X'') : xq X X'' := fun r a b c => (h' r a b c).trans (h r a b c)
theorem xq.r (X : gX) {s : Nat} (v : Nat → Nat → Int32) (hs : s = 4 ∨ s = 31 ∨ s = 32) : xq X (x_r X s v) := fun r a b c => x_r_ne X v (by omega)
theorem xq.t (X : gX) (v : Nat → Nat → Int32) : xq X (x_r X 4 v) := xq.r X v (Or.inl rfl)
/-- behind a question -/
def xD (n : Nat) (X : gX) (O : gO) (Q : gU) (S : gS) (L : gLg) (M' : gM) : Prop := ∃ (X' : gX) (G' : gK), M' = xm n X' O Q G' S L ∧ xq X X'
theorem xD.refl (n : Nat) (X : gX) (O : gO) (Q : gU) (G : gK) (S : gS) (L : gLg) : xD n X O Q S L (xm n X O Q G S L) := ⟨X, G, rfl, xq.refl X⟩
theorem xD.t (n : Nat) (X : gX) (O : gO) (Q : gU) (G : gK) (S : gS) (L : gLg) (J : gJn) : xD n X O Q S L (xm n (x_r X 4 J) O Q G S L) := ⟨_, G, rfl, xq.t X J⟩
def xk (J : gJn) : Prop := (jfit J ∧ jT J ≤ 999) ∨ (J 9 0 = 0 ∧ J 9 2 = 0)
theorem xk.told {J : gJn} (h : xk J) (hc : ¬ j_isTold J = 0) : jfit J ∧ jT J ≤ 999 := by
  rcases h with h | ⟨h, _⟩
  · exact h
  · exact absurd (by unfold j_isTold; rw [h]; decide) hc
theorem xk.road {J : gJn} (h : xk J) {x : Int32} (hc : ¬ j_hasRoad J x = 0) : jfit J ∧ jT J ≤ 999 ∧ ∃ r, r < jR J ∧ x = nI r := by
  unfold j_hasRoad at hc
  by_cases h0 : x < 0
  · rw [if_pos h0] at hc
    exact absurd rfl hc
  · rw [if_neg h0] at hc
    obtain ⟨r, hr, rfl⟩ := nI_of h0
    rcases h with ⟨hj, hT⟩ | ⟨_, h2⟩
    · refine ⟨hj, hT, r, ?_, rfl⟩
      rw [hj.1.1] at hc
      by_cases hl : r < jR J
      · exact hl
      · rw [if_pos (nI_le (by omega) hr)] at hc
        exact absurd rfl hc
    · rw [h2, if_pos (nI_pos' hr)] at hc
      exact absurd rfl hc
theorem xk.beat {J : gJn} (h : xk J) {x : Int32} (hc : ¬ j_hasBeat J x = 0) : jfit J ∧ jT J ≤ 999 ∧ ∃ r, r < jB J ∧ x = nI r := by
  unfold j_hasBeat at hc
  by_cases h0 : x < 0
  · rw [if_pos h0] at hc
    exact absurd rfl hc
  · rw [if_neg h0] at hc
    obtain ⟨r, hr, rfl⟩ := nI_of h0
    rcases h with ⟨hj, hT⟩ | ⟨h2, _⟩
    · refine ⟨hj, hT, r, ?_, rfl⟩
      rw [hj.1.2.2.2.1] at hc
      by_cases hl : r < jB J
      · exact hl
      · rw [if_pos (nI_le (by omega) hr)] at hc
        exact absurd rfl hc
    · rw [h2, if_pos (nI_pos' hr)] at hc
      exact absurd rfl hc
theorem jok.beatk {J J' : gJn} (h : jok J) (h' : jok J') {k : Nat} (e : jT J' = jT J + k) : J 9 3 + nI k = J' 9 3 := by
  rw [h.2.2.2.2.2.2.1, h'.2.2.2.2.2.2.1, e, nI_add]
theorem q_in_2 {what : Int32} (h : ¬ q_in what 0 2 = 0) (h2 : ¬ what = 2) : ¬ 2 ≤ what := by
  obtain ⟨w, hw0, hw2, rfl⟩ := q_in_of (a := 0) (b := 2) (by decide) h
  rcases (show w = 0 ∨ w = 1 ∨ w = 2 by omega) with rfl | rfl | rfl
  · decide
  · decide
  · exact absurd rfl h2
set_option maxRecDepth 100000 in
set_option maxHeartbeats 1000000 in
theorem c_X10_ahead {n : Nat} {X : gX} {O : gO} {Q : gU} {G : gK} {S : gS} {L : gLg} (hR : xR n X O Q) {J : gJn} (hJ : X 2 = J) (hk : xk J) {t : gJn → Nat → Int32 → Bool} (ht : xtf X Q (X 0 0 17) = t) (road n0 what : Int32) : SX 8 0 0 mX10_ahead [.ref 16, .int road, .int n0, .int what] (xm n X O Q G S L) (fun v M' => v = some (.int (q_ahead t J road n0 what)) ∧ xD n X O Q S L M') := by
  refine SX.intro [some (.ref 16), some (.int road), some (.int n0), some (.int what), none] (by decide +kernel) (Nat.le_of_ble_eq_true rfl) rfl (fun E hE hQ => ?_)
  have hM := hR.M
  refine rx_iload_n hE dX10_ahead_0 (i := 2) rfl rfl ?_
  refine rx_iconst hE dX10_ahead_1 (v := 0) (by decide) ?_
  refine rx_bipush hE dX10_ahead_2 (v := 100) (by decide) ?_
  refine rx_call0 (rx_callS (av := [.int _, .int _, .int _]) hE dX10_ahead_4 lk_X10_143 (c_X10_within _ _ _) np_X10_within rfl rfl (by decide) (Nat.le_of_ble_eq_true rfl) rfl ?_)
  rintro v M' ⟨rfl, rfl⟩
  refine rx_if_eq (tgt := 39) hE dX10_ahead_7 (by decide) (fun c7 => ?_) (fun c7 => ?_)
  · refine rx_iconst hE dX10_ahead_39 (v := 0) (by decide) ?_
    refine rx_istore_4 hE dX10_ahead_40 (by decide) rfl ?_
    refine rx_aload_n hE dX10_ahead_42 (i := 0) rfl rfl ?_
    refine rx_getf hE dX10_ahead_43 fl_X10_19_9 (xa_0 hM) rfl ?_
    refine rx_call0 (rx_callV (av := []) hE dX10_ahead_46 lk_X10_198 (x_isTold (X := X) xJ_2 hM (J := J) hJ) (xa_j xJ_2 hM) np_X2_isTold rfl rfl (by decide) (Nat.le_of_ble_eq_true rfl) rfl ?_)
    rintro v M' ⟨rfl, rfl⟩
    refine rx_if_eq (tgt := 57) hE dX10_ahead_49 (by decide) (fun c49 => ?_) (fun c49 => ?_)
    · refine rx_sipush hE dX10_ahead_57 (v := -10000) (by decide) ?_
      exact rx_iret hE hQ rfl dX10_ahead_60 ⟨by simp [q_ahead, *], xD.refl n X O Q G S L⟩
    · refine rx_iload hE dX10_ahead_52 rfl ?_
      refine rx_if_ne (tgt := 61) hE dX10_ahead_54 (by decide) (fun c54 => absurd rfl c54) (fun c54 => ?_)
      refine rx_sipush hE dX10_ahead_57 (v := -10000) (by decide) ?_
      exact rx_iret hE hQ rfl dX10_ahead_60 ⟨by simp [q_ahead, *], xD.refl n X O Q G S L⟩
  · refine rx_iload_n hE dX10_ahead_10 (i := 3) rfl rfl ?_
    refine rx_iconst hE dX10_ahead_11 (v := 0) (by decide) ?_
    refine rx_iconst hE dX10_ahead_12 (v := 2) (by decide) ?_
    refine rx_call0 (rx_callS (av := [.int _, .int _, .int _]) hE dX10_ahead_13 lk_X10_143 (c_X10_within _ _ _) np_X10_within rfl rfl (by decide) (Nat.le_of_ble_eq_true rfl) rfl ?_)
    rintro v M' ⟨rfl, rfl⟩
    refine rx_if_eq (tgt := 39) hE dX10_ahead_16 (by decide) (fun c16 => ?_) (fun c16 => ?_)
    · refine rx_iconst hE dX10_ahead_39 (v := 0) (by decide) ?_
      refine rx_istore_4 hE dX10_ahead_40 (by decide) rfl ?_
      refine rx_aload_n hE dX10_ahead_42 (i := 0) rfl rfl ?_
      refine rx_getf hE dX10_ahead_43 fl_X10_19_9 (xa_0 hM) rfl ?_
      refine rx_call0 (rx_callV (av := []) hE dX10_ahead_46 lk_X10_198 (x_isTold (X := X) xJ_2 hM (J := J) hJ) (xa_j xJ_2 hM) np_X2_isTold rfl rfl (by decide) (Nat.le_of_ble_eq_true rfl) rfl ?_)
      rintro v M' ⟨rfl, rfl⟩
      refine rx_if_eq (tgt := 57) hE dX10_ahead_49 (by decide) (fun c49 => ?_) (fun c49 => ?_)
      · refine rx_sipush hE dX10_ahead_57 (v := -10000) (by decide) ?_
        exact rx_iret hE hQ rfl dX10_ahead_60 ⟨by simp [q_ahead, *], xD.refl n X O Q G S L⟩
      · refine rx_iload hE dX10_ahead_52 rfl ?_
        refine rx_if_ne (tgt := 61) hE dX10_ahead_54 (by decide) (fun c54 => absurd rfl c54) (fun c54 => ?_)
        refine rx_sipush hE dX10_ahead_57 (v := -10000) (by decide) ?_
        exact rx_iret hE hQ rfl dX10_ahead_60 ⟨by simp [q_ahead, *], xD.refl n X O Q G S L⟩
    · refine rx_iload_n hE dX10_ahead_19 (i := 3) rfl rfl ?_
      refine rx_iconst hE dX10_ahead_20 (v := 2) (by decide) ?_
      refine rx_icmp_eq (tgt := 35) hE dX10_ahead_21 (by decide) (fun c21 => ?_) (fun c21 => ?_)
      · refine rx_iconst hE dX10_ahead_35 (v := 1) (by decide) ?_
        refine rx_goto (tgt := 40) hE dX10_ahead_36 (by decide) ?_
        refine rx_istore_4 hE dX10_ahead_40 (by decide) rfl ?_
        refine rx_aload_n hE dX10_ahead_42 (i := 0) rfl rfl ?_
        refine rx_getf hE dX10_ahead_43 fl_X10_19_9 (xa_0 hM) rfl ?_
        refine rx_call0 (rx_callV (av := []) hE dX10_ahead_46 lk_X10_198 (x_isTold (X := X) xJ_2 hM (J := J) hJ) (xa_j xJ_2 hM) np_X2_isTold rfl rfl (by decide) (Nat.le_of_ble_eq_true rfl) rfl ?_)
        rintro v M' ⟨rfl, rfl⟩
        refine rx_if_eq (tgt := 57) hE dX10_ahead_49 (by decide) (fun c49 => ?_) (fun c49 => ?_)
        · refine rx_sipush hE dX10_ahead_57 (v := -10000) (by decide) ?_
          exact rx_iret hE hQ rfl dX10_ahead_60 ⟨by subst c21; simp [q_ahead, *], xD.refl n X O Q G S L⟩
        · refine rx_iload hE dX10_ahead_52 rfl ?_
          refine rx_if_ne (tgt := 61) hE dX10_ahead_54 (by decide) (fun c54 => ?_) (fun c54 => absurd c54 (by decide))
          obtain ⟨hf, hT9⟩ := hk.told c49
          have hg : ¬ (j_isTold J = 0 ∨ q_in n0 0 100 = 0 ∨ q_in what 0 2 = 0 ∨ (¬ 2 ≤ what ∧ j_hasRoad J road = 0)) := by subst c21; simp [*]
          obtain ⟨N, hN0, hN, rfl⟩ := q_in_of (a := 0) (b := 100) (by decide) c7
          refine rx_aload_n hE dX10_ahead_61 (i := 0) rfl rfl ?_
          refine rx_getf hE dX10_ahead_62 fl_X10_26_9 (xa_0 hM) rfl ?_
          refine rx_aload_n hE dX10_ahead_65 (i := 0) rfl rfl ?_
          refine rx_getf hE dX10_ahead_66 fl_X10_19_9 (xa_0 hM) rfl ?_
          refine rx_call0 (rx_callV (av := [.ref _]) hE dX10_ahead_69 lk_X10_124 (x_copyFrom (X := X) xJ_4 xJ_2 (by decide) hM (J := J) hJ) (xa_j xJ_4 hM) np_X2_copyFrom rfl rfl (by decide) (Nat.le_of_ble_eq_true rfl) rfl ?_)
          rintro v M' ⟨rfl, rfl⟩
          refine rx_aload_n hE dX10_ahead_72 (i := 0) rfl rfl ?_
          refine rx_getf hE dX10_ahead_73 fl_X10_26_9 (xa_0 hM) rfl ?_
          refine rx_iload_n hE dX10_ahead_76 (i := 2) rfl rfl ?_
          refine rx_aload_n hE dX10_ahead_77 (i := 0) rfl rfl ?_
          refine rx_aload_n hE dX10_ahead_78 (i := 0) rfl rfl ?_
          refine rx_getf hE dX10_ahead_79 fl_X10_103_9 (xa_0 hM) rfl ?_
          refine rx_call0 (rx_callV (av := [.int _]) hE dX10_ahead_82 lk_X10_205 (c_X10_ruleOf (X := (x_r X 4 J)) hM (hR.eq rfl) _) (xa_0 hM) np_X10_ruleOf rfl rfl (by decide) (Nat.le_of_ble_eq_true rfl) rfl ?_)
          rintro v M' ⟨u, rfl, hu, rfl⟩
          have hu : xT Q n u t := by rw [← ht]; exact hu
          refine rx_call0 (rx_callV (av := [.int (nI N), u]) hE dX10_ahead_85 lk_X10_223 (x_goOn (X := (x_r X 4 J)) xJ_4 hM (J := J) rfl hf.1 hu (N := N) (by omega)) (xa_j xJ_4 hM) np_X2_goOn rfl rfl (by decide) (Nat.le_of_ble_eq_true rfl) rfl ?_)
          rintro v M' ⟨rfl, G1, rfl⟩
          rw [x_rr]
          refine rx_iload_n hE dX10_ahead_88 (i := 3) rfl rfl ?_
          refine rx_iconst hE dX10_ahead_89 (v := 2) (by decide) ?_
          refine rx_icmp_ne (tgt := 101) hE dX10_ahead_90 (by decide) (fun c90 => absurd c21 c90) (fun c90 => ?_)
          refine rx_aload_n hE dX10_ahead_93 (i := 0) rfl rfl ?_
          refine rx_getf hE dX10_ahead_94 fl_X10_26_9 (xa_0 hM) rfl ?_
          refine rx_getfN hE dX10_ahead_97 fl_X10_195_2 (xa_j xJ_4 hM) rfl ?_
          exact rx_iret hE hQ rfl dX10_ahead_100 ⟨by unfold q_ahead; rw [if_neg hg, nI_clamp (n := N) (by omega), if_neg (by rw [c21]; decide), if_neg (by rw [c21]; decide)]; rfl, xD.t n X O Q G1 S L _⟩
      · refine rx_aload_n hE dX10_ahead_24 (i := 0) rfl rfl ?_
        refine rx_getf hE dX10_ahead_25 fl_X10_19_9 (xa_0 hM) rfl ?_
        refine rx_iload_n hE dX10_ahead_28 (i := 1) rfl rfl ?_
        refine rx_call0 (rx_callV (av := [.int _]) hE dX10_ahead_29 lk_X10_147 (x_hasRoad (X := X) xJ_2 hM (J := J) hJ _) (xa_j xJ_2 hM) np_X2_hasRoad rfl rfl (by decide) (Nat.le_of_ble_eq_true rfl) rfl ?_)
        rintro v M' ⟨rfl, rfl⟩
        refine rx_if_eq (tgt := 39) hE dX10_ahead_32 (by decide) (fun c32 => ?_) (fun c32 => ?_)
        · refine rx_iconst hE dX10_ahead_39 (v := 0) (by decide) ?_
          refine rx_istore_4 hE dX10_ahead_40 (by decide) rfl ?_
          refine rx_aload_n hE dX10_ahead_42 (i := 0) rfl rfl ?_
          refine rx_getf hE dX10_ahead_43 fl_X10_19_9 (xa_0 hM) rfl ?_
          refine rx_call0 (rx_callV (av := []) hE dX10_ahead_46 lk_X10_198 (x_isTold (X := X) xJ_2 hM (J := J) hJ) (xa_j xJ_2 hM) np_X2_isTold rfl rfl (by decide) (Nat.le_of_ble_eq_true rfl) rfl ?_)
          rintro v M' ⟨rfl, rfl⟩
          refine rx_if_eq (tgt := 57) hE dX10_ahead_49 (by decide) (fun c49 => ?_) (fun c49 => ?_)
          · refine rx_sipush hE dX10_ahead_57 (v := -10000) (by decide) ?_
            exact rx_iret hE hQ rfl dX10_ahead_60 ⟨by have h2 := q_in_2 c16 c21; simp [q_ahead, *], xD.refl n X O Q G S L⟩
          · refine rx_iload hE dX10_ahead_52 rfl ?_
            refine rx_if_ne (tgt := 61) hE dX10_ahead_54 (by decide) (fun c54 => absurd rfl c54) (fun c54 => ?_)
            refine rx_sipush hE dX10_ahead_57 (v := -10000) (by decide) ?_
            exact rx_iret hE hQ rfl dX10_ahead_60 ⟨by have h2 := q_in_2 c16 c21; simp [q_ahead, *], xD.refl n X O Q G S L⟩
        · refine rx_iconst hE dX10_ahead_35 (v := 1) (by decide) ?_
          refine rx_goto (tgt := 40) hE dX10_ahead_36 (by decide) ?_
          refine rx_istore_4 hE dX10_ahead_40 (by decide) rfl ?_
          refine rx_aload_n hE dX10_ahead_42 (i := 0) rfl rfl ?_
          refine rx_getf hE dX10_ahead_43 fl_X10_19_9 (xa_0 hM) rfl ?_
          refine rx_call0 (rx_callV (av := []) hE dX10_ahead_46 lk_X10_198 (x_isTold (X := X) xJ_2 hM (J := J) hJ) (xa_j xJ_2 hM) np_X2_isTold rfl rfl (by decide) (Nat.le_of_ble_eq_true rfl) rfl ?_)
          rintro v M' ⟨rfl, rfl⟩
          refine rx_if_eq (tgt := 57) hE dX10_ahead_49 (by decide) (fun c49 => ?_) (fun c49 => ?_)
          · refine rx_sipush hE dX10_ahead_57 (v := -10000) (by decide) ?_
            exact rx_iret hE hQ rfl dX10_ahead_60 ⟨by simp [q_ahead, *], xD.refl n X O Q G S L⟩
          · refine rx_iload hE dX10_ahead_52 rfl ?_
            refine rx_if_ne (tgt := 61) hE dX10_ahead_54 (by decide) (fun c54 => ?_) (fun c54 => absurd c54 (by decide))
            obtain ⟨hf, hT9⟩ := hk.told c49
            have hg : ¬ (j_isTold J = 0 ∨ q_in n0 0 100 = 0 ∨ q_in what 0 2 = 0 ∨ (¬ 2 ≤ what ∧ j_hasRoad J road = 0)) := by simp [*]
            obtain ⟨_, _, r, hr, rfl⟩ := hk.road c32
            have hr6 := hf.1.2.1
            obtain ⟨N, hN0, hN, rfl⟩ := q_in_of (a := 0) (b := 100) (by decide) c7
            refine rx_aload_n hE dX10_ahead_61 (i := 0) rfl rfl ?_
            refine rx_getf hE dX10_ahead_62 fl_X10_26_9 (xa_0 hM) rfl ?_
            refine rx_aload_n hE dX10_ahead_65 (i := 0) rfl rfl ?_
            refine rx_getf hE dX10_ahead_66 fl_X10_19_9 (xa_0 hM) rfl ?_
            refine rx_call0 (rx_callV (av := [.ref _]) hE dX10_ahead_69 lk_X10_124 (x_copyFrom (X := X) xJ_4 xJ_2 (by decide) hM (J := J) hJ) (xa_j xJ_4 hM) np_X2_copyFrom rfl rfl (by decide) (Nat.le_of_ble_eq_true rfl) rfl ?_)
            rintro v M' ⟨rfl, rfl⟩
            refine rx_aload_n hE dX10_ahead_72 (i := 0) rfl rfl ?_
            refine rx_getf hE dX10_ahead_73 fl_X10_26_9 (xa_0 hM) rfl ?_
            refine rx_iload_n hE dX10_ahead_76 (i := 2) rfl rfl ?_
            refine rx_aload_n hE dX10_ahead_77 (i := 0) rfl rfl ?_
            refine rx_aload_n hE dX10_ahead_78 (i := 0) rfl rfl ?_
            refine rx_getf hE dX10_ahead_79 fl_X10_103_9 (xa_0 hM) rfl ?_
            refine rx_call0 (rx_callV (av := [.int _]) hE dX10_ahead_82 lk_X10_205 (c_X10_ruleOf (X := (x_r X 4 J)) hM (hR.eq rfl) _) (xa_0 hM) np_X10_ruleOf rfl rfl (by decide) (Nat.le_of_ble_eq_true rfl) rfl ?_)
            rintro v M' ⟨u, rfl, hu, rfl⟩
            have hu : xT Q n u t := by rw [← ht]; exact hu
            refine rx_call0 (rx_callV (av := [.int (nI N), u]) hE dX10_ahead_85 lk_X10_223 (x_goOn (X := (x_r X 4 J)) xJ_4 hM (J := J) rfl hf.1 hu (N := N) (by omega)) (xa_j xJ_4 hM) np_X2_goOn rfl rfl (by decide) (Nat.le_of_ble_eq_true rfl) rfl ?_)
            rintro v M' ⟨rfl, G1, rfl⟩
            rw [x_rr]
            refine rx_iload_n hE dX10_ahead_88 (i := 3) rfl rfl ?_
            refine rx_iconst hE dX10_ahead_89 (v := 2) (by decide) ?_
            refine rx_icmp_ne (tgt := 101) hE dX10_ahead_90 (by decide) (fun c90 => ?_) (fun c90 => absurd c90 c21)
            refine rx_iload_n hE dX10_ahead_101 (i := 3) rfl rfl ?_
            refine rx_if_ne (tgt := 117) hE dX10_ahead_102 (by decide) (fun c102 => ?_) (fun c102 => ?_)
            · have hw : what = 1 := by
                obtain ⟨w, hw0, hw2, rfl⟩ := q_in_of (a := 0) (b := 2) (by decide) c16
                rcases (show w = 0 ∨ w = 1 ∨ w = 2 by omega) with rfl | rfl | rfl
                · exact absurd rfl c102
                · rfl
                · exact absurd rfl c21
              refine rx_aload_n hE dX10_ahead_117 (i := 0) rfl rfl ?_
              refine rx_getf hE dX10_ahead_118 fl_X10_26_9 (xa_0 hM) rfl ?_
              refine rx_getfN hE dX10_ahead_121 fl_X10_163_2 (xa_j xJ_4 hM) rfl ?_
              refine rx_iload_n hE dX10_ahead_124 (i := 1) rfl rfl ?_
              refine rx_ialdN hE dX10_ahead_125 (xa_j5 xJ_4 hM) (by omega) (by decide) ?_
              exact rx_iret hE hQ rfl dX10_ahead_126 ⟨by unfold q_ahead; rw [if_neg hg, nI_clamp (n := N) (by omega), nI_clamp (n := r) (by omega), if_neg c102, if_pos hw]; rfl, xD.t n X O Q G1 S L _⟩
            · refine rx_aload_n hE dX10_ahead_105 (i := 0) rfl rfl ?_
              refine rx_getf hE dX10_ahead_106 fl_X10_26_9 (xa_0 hM) rfl ?_
              refine rx_getfN hE dX10_ahead_109 fl_X10_151_2 (xa_j xJ_4 hM) rfl ?_
              refine rx_iload_n hE dX10_ahead_112 (i := 1) rfl rfl ?_
              refine rx_ialdN hE dX10_ahead_113 (xa_j1 xJ_4 hM) (by omega) (by decide) ?_
              refine rx_goto (tgt := 126) hE dX10_ahead_114 (by decide) ?_
              exact rx_iret hE hQ rfl dX10_ahead_126 ⟨by unfold q_ahead; rw [if_neg hg, nI_clamp (n := N) (by omega), nI_clamp (n := r) (by omega), if_pos c102]; rfl, xD.t n X O Q G1 S L _⟩
def nsum (f : Nat → Nat) : Nat → Nat
  | 0 => 0
  | n + 1 => nsum f n + f n
theorem nsum_ge (f : Nat → Nat) {r : Nat} : ∀ n, r < n → f r ≤ nsum f n
  | 0, h => absurd h (Nat.not_lt_zero r)
  | n + 1, h => by
    show f r ≤ nsum f n + f n
    by_cases e : r = n
    · subst e; omega
    · have := nsum_ge f n (show r < n by omega)
      omega
theorem nsum_ge2 (f : Nat → Nat) {r i : Nat} (hri : i ≠ r) : ∀ n, r < n → i < n → f r + f i ≤ nsum f n
  | 0, h, _ => absurd h (Nat.not_lt_zero r)
  | n + 1, h, hi => by
    show f r + f i ≤ nsum f n + f n
    by_cases e : r = n
    · subst e
      have := nsum_ge f r (show i < r by omega)
      omega
    · by_cases e2 : i = n
      · subst e2
        have := nsum_ge f i (show r < i by omega)
        omega
      · have := nsum_ge2 f hri n (by omega) (by omega)
        omega
theorem nsum_one (f : Nat → Nat) {r : Nat} : ∀ n, r < n → (∀ i, i < n → i ≠ r → f i = 0) → nsum f n = f r
  | 0, h, _ => absurd h (Nat.not_lt_zero r)
  | n + 1, h, hz => by
    show nsum f n + f n = f r
    by_cases e : r = n
    · subst e
      have h0 : ∀ m, m ≤ r → nsum f m = 0 := by
        intro m
        induction m with
        | zero => intro _; rfl
        | succ m ih =>
          intro hm
          show nsum f m + f m = 0
          rw [ih (by omega), hz m (by omega) (by omega)]
      rw [h0 r (Nat.le_refl _)]
      omega
    · rw [nsum_one f n (by omega) (fun i hi hr => hz i (by omega) hr), hz n (by omega) (by omega)]
      omega
theorem nsum_le (f : Nat → Nat) {b : Nat} : ∀ n, (∀ i, i < n → f i ≤ b) → nsum f n ≤ n * b
  | 0, _ => by simp [nsum]
  | n + 1, h => by
    have := nsum_le f n (fun i hi => h i (by omega))
    have h2 := h n (by omega)
    show nsum f n + f n ≤ (n + 1) * b
    rw [Nat.succ_mul]
    omega
theorem jsum_n {h : Nat → Int32} {f : Nat → Nat} : ∀ n, (∀ i, i < n → h i = nI (f i)) → jsum h n = nI (nsum f n)
  | 0, _ => rfl
  | n + 1, e => by
    show jsum h n + h n = nI (nsum f n + f n)
    rw [jsum_n n (fun i hi => e i (by omega)), e n (by omega), nI_add]
theorem jw_fun {b R : Nat} (hb : b < 2 ^ 31) {h : Nat → Int32} (hw : ∀ i, i < R → jw b (h i)) : ∃ f : Nat → Nat, ∀ i, i < R → f i ≤ b ∧ h i = nI (f i) :=
  ⟨fun i => (h i).toNatClampNeg, fun i hi => by
    obtain ⟨w, hw, e⟩ := hw i hi
    show (h i).toNatClampNeg ≤ b ∧ h i = nI (h i).toNatClampNeg
    rw [e, nI_clamp (by omega)]
    exact ⟨hw, rfl⟩⟩
theorem jalF_ne {h : Nat → Int32} {r : Nat} : ∀ (n k : Nat), ¬ jalF h r k n = 0 ↔ ∀ i, k ≤ i → i < k + n → (nI i = nI r ↔ ¬ h i ≤ 0)
  | 0, k => by
    constructor
    · intro _ i h1 h2
      omega
    · intro _ q
      exact absurd (show (1 : Int32) = 0 from q) (by decide)
  | n + 1, k => by
    show ¬ (if (nI k = nI r ↔ ¬ h k ≤ 0) then jalF h r (k + 1) n else 0) = 0 ↔ _
    by_cases c : (nI k = nI r ↔ ¬ h k ≤ 0)
    · rw [if_pos c, jalF_ne n (k + 1)]
      constructor
      · intro q i h1 h2
        by_cases e : i = k
        · subst e; exact c
        · exact q i (by omega) (by omega)
      · intro q i h1 h2
        exact q i (by omega) (by omega)
    · rw [if_neg c]
      constructor
      · intro q
        exact absurd rfl q
      · intro q
        exact absurd (q k (Nat.le_refl _) (by omega)) c
theorem nI_inj {a b : Nat} (ha : a < 2 ^ 31) (hb : b < 2 ^ 31) (h : nI a = nI b) : a = b := by
  have := congrArg Int32.toNatClampNeg h
  rwa [nI_clamp ha, nI_clamp hb] at this
theorem nI_le0 {a : Nat} (ha : a < 2 ^ 31) : nI a ≤ 0 ↔ a = 0 := by
  constructor
  · intro h
    by_cases h0 : a = 0
    · exact h0
    · exact absurd h (nI_nle (by omega) ha)
  · intro h
    subst h
    decide
theorem jal_alone {h : Nat → Int32} {r R : Nat} (hr : r < R) (hR : R ≤ 6) (hw : ∀ i, i < R → jw 9 (h i)) : ¬ jalF h r 0 R = 0 ↔ (¬ h r ≤ 0 ∧ jsum h R = h r) := by
  obtain ⟨f, hf⟩ := jw_fun (by decide) hw
  have hs := jsum_n R (fun i hi => (hf i hi).2)
  have hle := nsum_le f R (fun i hi => (hf i hi).1)
  have h9 : nsum f R ≤ 54 := by
    have := Nat.mul_le_mul_right 9 hR
    omega
  rw [jalF_ne, hs, (hf r hr).2]
  have fr := (hf r hr).1
  constructor
  · intro q
    have q0 := (q r (Nat.zero_le _) (by omega)).mp rfl
    rw [(hf r hr).2] at q0
    refine ⟨q0, congrArg nI (nsum_one f R hr (fun i hi hir => ?_))⟩
    have qi := q i (Nat.zero_le _) (by omega)
    have fi := hf i hi
    rw [fi.2, nI_le0 (by omega)] at qi
    by_cases h0 : f i = 0
    · exact h0
    · exact absurd (nI_inj (by omega) (by omega) (qi.mpr h0)) hir
  · rintro ⟨q0, q1⟩ i _ hi
    have hi : i < R := by omega
    have fi := hf i hi
    rw [fi.2, nI_le0 (by omega)]
    rw [nI_le0 (by omega)] at q0
    have e1 := nI_inj (by omega) (by omega) q1
    constructor
    · intro e
      have := nI_inj (by omega) (by omega) e
      subst this
      exact q0
    · intro h0
      by_cases hir : i = r
      · rw [hir]
      · have := nsum_ge2 f hir R hr hi
        omega
set_option maxRecDepth 100000 in
set_option maxHeartbeats 1000000 in
theorem c_X10_clear {n : Nat} {X : gX} {O : gO} {Q : gU} {G : gK} {S : gS} {L : gLg} (hR : xR n X O Q) {J : gJn} (hJ : X 2 = J) (hk : xk J) {t : gJn → Nat → Int32 → Bool} (ht : xtf X Q (X 0 0 17) = t) (road : Int32) : SX 8 0 0 mX10_clear [.ref 16, .int road] (xm n X O Q G S L) (fun v M' => v = some (.int (q_clear t J road)) ∧ xD n X O Q S L M') := by
  refine SX.intro [some (.ref 16), some (.int road), none] (by decide +kernel) (Nat.le_of_ble_eq_true rfl) rfl (fun E hE hQ => ?_)
  have hM := hR.M
  refine rx_aload_n hE dX10_clear_0 (i := 0) rfl rfl ?_
  refine rx_getf hE dX10_clear_1 fl_X10_19_9 (xa_0 hM) rfl ?_
  refine rx_iload_n hE dX10_clear_4 (i := 1) rfl rfl ?_
  refine rx_call0 (rx_callV (av := [.int _]) hE dX10_clear_5 lk_X10_147 (x_hasRoad (X := X) xJ_2 hM (J := J) hJ _) (xa_j xJ_2 hM) np_X2_hasRoad rfl rfl (by decide) (Nat.le_of_ble_eq_true rfl) rfl ?_)
  rintro v M' ⟨rfl, rfl⟩
  refine rx_if_ne (tgt := 13) hE dX10_clear_8 (by decide) (fun c8 => ?_) (fun c8 => ?_)
  · obtain ⟨hf, hT9, r, hr, rfl⟩ := hk.road c8
    have hr6 := hf.1.2.1
    have loop : ∀ (m k : Nat) (G' : gK) (J' : gJn), k + m = 200 → jT J' = jT J + k → jfit J' → jR J = jR J' → qclr t r m J' = qclr t r 200 J → RX E mX10_clear.2.2.1 0 0 26 [some (.ref 16), some (.int (nI r)), some (.int (nI k))] [] (xm n (x_r X 4 J') O Q G' S L) := by
      intro m
      induction m with
      | zero =>
        intro k G' J' hk2 hT2 hf' hRR hF
        refine rx_iload_n hE dX10_clear_26 (i := 2) rfl rfl ?_
        refine rx_sipush hE dX10_clear_27 (v := 200) (by decide) ?_
        refine rx_icmp_ge (tgt := 77) hE dX10_clear_30 (by decide) (fun c30 => ?_) (fun c30 => absurd (show nI 200 ≤ nI k from nI_le (by omega) (by omega)) c30)
        refine rx_bipush hE dX10_clear_77 (v := -2) (by decide) ?_
        exact rx_iret hE hQ rfl dX10_clear_79 ⟨by unfold q_clear; rw [if_neg c8, nI_clamp (n := r) (by omega), ← hF]; rfl, xD.t n X O Q G' S L _⟩
      | succ m ih =>
        intro k G' J' hk2 hT2 hf' hRR hF
        refine rx_iload_n hE dX10_clear_26 (i := 2) rfl rfl ?_
        refine rx_sipush hE dX10_clear_27 (v := 200) (by decide) ?_
        refine rx_icmp_ge (tgt := 77) hE dX10_clear_30 (by decide) (fun c30 => absurd c30 (nI_ge (a := k) (b := 200) (by omega) (by omega))) (fun c30 => ?_)
        refine rx_aload_n hE dX10_clear_33 (i := 0) rfl rfl ?_
        refine rx_getf hE dX10_clear_34 fl_X10_26_9 (xa_0 hM) rfl ?_
        refine rx_aload_n hE dX10_clear_37 (i := 0) rfl rfl ?_
        refine rx_aload_n hE dX10_clear_38 (i := 0) rfl rfl ?_
        refine rx_getf hE dX10_clear_39 fl_X10_103_9 (xa_0 hM) rfl ?_
        refine rx_call0 (rx_callV (av := [.int _]) hE dX10_clear_42 lk_X10_205 (c_X10_ruleOf (X := (x_r X 4 J')) hM (hR.eq rfl) _) (xa_0 hM) np_X10_ruleOf rfl rfl (by decide) (Nat.le_of_ble_eq_true rfl) rfl ?_)
        rintro v M' ⟨u, rfl, hu, rfl⟩
        have hu : xT Q n u t := by rw [← ht]; exact hu
        refine rx_call0 (rx_callV (av := [u]) hE dX10_clear_45 lk_X10_209 (x_oneBeat (X := (x_r X 4 J')) xJ_4 hM (J := J') rfl hf'.1 hu) (xa_j xJ_4 hM) np_X2_oneBeat rfl rfl (by decide) (Nat.le_of_ble_eq_true rfl) rfl ?_)
        rintro v M' ⟨rfl, G1, rfl⟩
        rw [x_rr]
        refine rx_pop hE dX10_clear_48 rfl ?_
        refine rx_aload_n hE dX10_clear_49 (i := 0) rfl rfl ?_
        refine rx_getf hE dX10_clear_50 fl_X10_26_9 (xa_0 hM) rfl ?_
        refine rx_getfN hE dX10_clear_53 fl_X10_151_2 (xa_j xJ_4 hM) rfl ?_
        refine rx_iload_n hE dX10_clear_56 (i := 1) rfl rfl ?_
        refine rx_ialdN (i := r) hE dX10_clear_57 (xa_j1 xJ_4 hM) (by omega) (by decide) ?_
        refine rx_int _ (jone t J' 0 r) rfl ?_
        refine rx_if_ne (tgt := 71) hE dX10_clear_58 (by decide) (fun c58 => ?_) (fun c58 => ?_)
        · refine rx_iinc_2 hE dX10_clear_71 (v := 1) (by decide) (by decide) rfl ?_
          rw [nI_1]
          refine rx_goto (tgt := 26) hE dX10_clear_74 (by decide) ?_
          exact ih (k + 1) G1 (jone t J') (by omega) (by rw [jone_T t hf'.1]; omega) (hf'.one t (by omega)) (hRR.trans (jone_R t J').symm) (by rw [← hF]; show _ = (if jone t J' 0 r = 0 then J' 9 3 else _); rw [if_neg (c58)])
        · refine rx_aload_n hE dX10_clear_61 (i := 0) rfl rfl ?_
          refine rx_getf hE dX10_clear_62 fl_X10_19_9 (xa_0 hM) rfl ?_
          refine rx_getfN hE dX10_clear_65 fl_X10_185_2 (xa_j xJ_2 hM) rfl ?_
          refine rx_int _ (J 9 3) (congrFun (congrFun hJ 9) 3) ?_
          refine rx_iload_n hE dX10_clear_68 (i := 2) rfl rfl ?_
          refine rx_iadd hE dX10_clear_69 ?_
          exact rx_iret hE hQ rfl dX10_clear_70 ⟨by unfold q_clear; rw [if_neg c8, nI_clamp (n := r) (by omega), ← hF]; show _ = some (Value.int (if jone t J' 0 r = 0 then J' 9 3 else _)); rw [if_pos c58, hf.1.beatk hf'.1 hT2], xD.t n X O Q G1 S L _⟩
    refine rx_aload_n hE dX10_clear_13 (i := 0) rfl rfl ?_
    refine rx_getf hE dX10_clear_14 fl_X10_26_9 (xa_0 hM) rfl ?_
    refine rx_aload_n hE dX10_clear_17 (i := 0) rfl rfl ?_
    refine rx_getf hE dX10_clear_18 fl_X10_19_9 (xa_0 hM) rfl ?_
    refine rx_call0 (rx_callV (av := [.ref _]) hE dX10_clear_21 lk_X10_124 (x_copyFrom (X := X) xJ_4 xJ_2 (by decide) hM (J := J) hJ) (xa_j xJ_4 hM) np_X2_copyFrom rfl rfl (by decide) (Nat.le_of_ble_eq_true rfl) rfl ?_)
    rintro v M' ⟨rfl, rfl⟩
    refine rx_iconst hE dX10_clear_24 (v := 0) (by decide) ?_
    refine rx_istore_n_2 hE dX10_clear_25 (by decide) rfl ?_
    exact loop 200 0 G J (by omega) (by omega) hf rfl rfl
  · refine rx_iconst hE dX10_clear_11 (v := -1) (by decide) ?_
    exact rx_iret hE hQ rfl dX10_clear_12 ⟨by simp [q_clear, *], xD.refl n X O Q G S L⟩
set_option maxRecDepth 100000 in
set_option maxHeartbeats 1000000 in
theorem c_X10_cadenza {n : Nat} {X : gX} {O : gO} {Q : gU} {G : gK} {S : gS} {L : gLg} (hR : xR n X O Q) {J : gJn} (hJ : X 2 = J) (hk : xk J) {t : gJn → Nat → Int32 → Bool} (ht : xtf X Q (X 0 0 17) = t) (road : Int32) : SX 8 0 0 mX10_cadenza [.ref 16, .int road] (xm n X O Q G S L) (fun v M' => v = some (.int (q_cadenza t J road)) ∧ xD n X O Q S L M') := by
  refine SX.intro [some (.ref 16), some (.int road), none] (by decide +kernel) (Nat.le_of_ble_eq_true rfl) rfl (fun E hE hQ => ?_)
  have hM := hR.M
  refine rx_aload_n hE dX10_cadenza_0 (i := 0) rfl rfl ?_
  refine rx_getf hE dX10_cadenza_1 fl_X10_19_9 (xa_0 hM) rfl ?_
  refine rx_iload_n hE dX10_cadenza_4 (i := 1) rfl rfl ?_
  refine rx_call0 (rx_callV (av := [.int _]) hE dX10_cadenza_5 lk_X10_147 (x_hasRoad (X := X) xJ_2 hM (J := J) hJ _) (xa_j xJ_2 hM) np_X2_hasRoad rfl rfl (by decide) (Nat.le_of_ble_eq_true rfl) rfl ?_)
  rintro v M' ⟨rfl, rfl⟩
  refine rx_if_ne (tgt := 13) hE dX10_cadenza_8 (by decide) (fun c8 => ?_) (fun c8 => ?_)
  · obtain ⟨hf, hT9, r, hr, rfl⟩ := hk.road c8
    have hr6 := hf.1.2.1
    have loop : ∀ (m k : Nat) (G' : gK) (J' : gJn), k + m = 200 → jT J' = jT J + k → jfit J' → jR J = jR J' → qcad t r m J' = qcad t r 200 J → RX E mX10_cadenza.2.2.1 0 0 26 [some (.ref 16), some (.int (nI r)), some (.int (nI k))] [] (xm n (x_r X 4 J') O Q G' S L) := by
      intro m
      induction m with
      | zero =>
        intro k G' J' hk2 hT2 hf' hRR hF
        refine rx_iload_n hE dX10_cadenza_26 (i := 2) rfl rfl ?_
        refine rx_sipush hE dX10_cadenza_27 (v := 200) (by decide) ?_
        refine rx_icmp_ge (tgt := 103) hE dX10_cadenza_30 (by decide) (fun c30 => ?_) (fun c30 => absurd (show nI 200 ≤ nI k from nI_le (by omega) (by omega)) c30)
        refine rx_bipush hE dX10_cadenza_103 (v := -2) (by decide) ?_
        exact rx_iret hE hQ rfl dX10_cadenza_105 ⟨by unfold q_cadenza; rw [if_neg c8, nI_clamp (n := r) (by omega), ← hF]; rfl, xD.t n X O Q G' S L _⟩
      | succ m ih =>
        intro k G' J' hk2 hT2 hf' hRR hF
        refine rx_iload_n hE dX10_cadenza_26 (i := 2) rfl rfl ?_
        refine rx_sipush hE dX10_cadenza_27 (v := 200) (by decide) ?_
        refine rx_icmp_ge (tgt := 103) hE dX10_cadenza_30 (by decide) (fun c30 => absurd c30 (nI_ge (a := k) (b := 200) (by omega) (by omega))) (fun c30 => ?_)
        refine rx_aload_n hE dX10_cadenza_33 (i := 0) rfl rfl ?_
        refine rx_getf hE dX10_cadenza_34 fl_X10_26_9 (xa_0 hM) rfl ?_
        refine rx_aload_n hE dX10_cadenza_37 (i := 0) rfl rfl ?_
        refine rx_aload_n hE dX10_cadenza_38 (i := 0) rfl rfl ?_
        refine rx_getf hE dX10_cadenza_39 fl_X10_103_9 (xa_0 hM) rfl ?_
        refine rx_call0 (rx_callV (av := [.int _]) hE dX10_cadenza_42 lk_X10_205 (c_X10_ruleOf (X := (x_r X 4 J')) hM (hR.eq rfl) _) (xa_0 hM) np_X10_ruleOf rfl rfl (by decide) (Nat.le_of_ble_eq_true rfl) rfl ?_)
        rintro v M' ⟨u, rfl, hu, rfl⟩
        have hu : xT Q n u t := by rw [← ht]; exact hu
        refine rx_call0 (rx_callV (av := [u]) hE dX10_cadenza_45 lk_X10_209 (x_oneBeat (X := (x_r X 4 J')) xJ_4 hM (J := J') rfl hf'.1 hu) (xa_j xJ_4 hM) np_X2_oneBeat rfl rfl (by decide) (Nat.le_of_ble_eq_true rfl) rfl ?_)
        rintro v M' ⟨rfl, G1, rfl⟩
        rw [x_rr]
        refine rx_pop hE dX10_cadenza_48 rfl ?_
        have hal := jal_alone (h := jone t J' 7) (r := r) (R := jR J') (by omega) (by omega) (hf'.gone t)
        refine rx_aload_n hE dX10_cadenza_49 (i := 0) rfl rfl ?_
        refine rx_getf hE dX10_cadenza_50 fl_X10_26_9 (xa_0 hM) rfl ?_
        refine rx_getfN hE dX10_cadenza_53 fl_X10_275_2 (xa_j xJ_4 hM) rfl ?_
        refine rx_iload_n hE dX10_cadenza_56 (i := 1) rfl rfl ?_
        refine rx_ialdN (i := r) hE dX10_cadenza_57 (xa_j8 xJ_4 hM) (by omega) (by decide) ?_
        refine rx_int _ (jone t J' 7 r) rfl ?_
        refine rx_if_le (tgt := 97) hE dX10_cadenza_58 (by decide) (fun c58 => ?_) (fun c58 => ?_)
        · refine rx_iinc_2 hE dX10_cadenza_97 (v := 1) (by decide) (by decide) rfl ?_
          rw [nI_1]
          refine rx_goto (tgt := 26) hE dX10_cadenza_100 (by decide) ?_
          exact ih (k + 1) G1 (jone t J') (by omega) (by rw [jone_T t hf'.1]; omega) (hf'.one t (by omega)) (hRR.trans (jone_R t J').symm) (by rw [← hF]; show _ = (if ¬ jalF (jone t J' 7) r 0 (jR J') = 0 then J' 9 3 else _); rw [if_neg (fun q => absurd c58 (hal.mp q).1)])
        · refine rx_aload_n hE dX10_cadenza_61 (i := 0) rfl rfl ?_
          refine rx_getf hE dX10_cadenza_62 fl_X10_26_9 (xa_0 hM) rfl ?_
          refine rx_aload_n hE dX10_cadenza_65 (i := 0) rfl rfl ?_
          refine rx_getf hE dX10_cadenza_66 fl_X10_26_9 (xa_0 hM) rfl ?_
          refine rx_getfN hE dX10_cadenza_69 fl_X10_275_2 (xa_j xJ_4 hM) rfl ?_
          refine rx_call0 (rx_callV (av := [.ref _]) hE dX10_cadenza_72 lk_X10_191 (x_sumOf (X := (x_r X 4 (jone t J'))) xJ_4 hM (J := (jone t J')) rfl (hf'.1.one t (by omega)) (f := 7) (by decide)) (xa_j xJ_4 hM) np_X2_sumOf rfl rfl (by decide) (Nat.le_of_ble_eq_true rfl) rfl ?_)
          rintro v M' ⟨rfl, rfl⟩
          rw [jone_R]
          refine rx_aload_n hE dX10_cadenza_75 (i := 0) rfl rfl ?_
          refine rx_getf hE dX10_cadenza_76 fl_X10_26_9 (xa_0 hM) rfl ?_
          refine rx_getfN hE dX10_cadenza_79 fl_X10_275_2 (xa_j xJ_4 hM) rfl ?_
          refine rx_iload_n hE dX10_cadenza_82 (i := 1) rfl rfl ?_
          refine rx_ialdN (i := r) hE dX10_cadenza_83 (xa_j8 xJ_4 hM) (by omega) (by decide) ?_
          refine rx_int _ (jone t J' 7 r) rfl ?_
          refine rx_icmp_ne (tgt := 97) hE dX10_cadenza_84 (by decide) (fun c84 => ?_) (fun c84 => ?_)
          · refine rx_iinc_2 hE dX10_cadenza_97 (v := 1) (by decide) (by decide) rfl ?_
            rw [nI_1]
            refine rx_goto (tgt := 26) hE dX10_cadenza_100 (by decide) ?_
            exact ih (k + 1) G1 (jone t J') (by omega) (by rw [jone_T t hf'.1]; omega) (hf'.one t (by omega)) (hRR.trans (jone_R t J').symm) (by rw [← hF]; show _ = (if ¬ jalF (jone t J' 7) r 0 (jR J') = 0 then J' 9 3 else _); rw [if_neg (fun q => c84 (hal.mp q).2)])
          · refine rx_aload_n hE dX10_cadenza_87 (i := 0) rfl rfl ?_
            refine rx_getf hE dX10_cadenza_88 fl_X10_19_9 (xa_0 hM) rfl ?_
            refine rx_getfN hE dX10_cadenza_91 fl_X10_185_2 (xa_j xJ_2 hM) rfl ?_
            refine rx_int _ (J 9 3) (congrFun (congrFun hJ 9) 3) ?_
            refine rx_iload_n hE dX10_cadenza_94 (i := 2) rfl rfl ?_
            refine rx_iadd hE dX10_cadenza_95 ?_
            exact rx_iret hE hQ rfl dX10_cadenza_96 ⟨by unfold q_cadenza; rw [if_neg c8, nI_clamp (n := r) (by omega), ← hF]; show _ = some (Value.int (if ¬ jalF (jone t J' 7) r 0 (jR J') = 0 then J' 9 3 else _)); rw [if_pos (hal.mpr ⟨c58, c84⟩), hf.1.beatk hf'.1 hT2], xD.t n X O Q G1 S L _⟩
    refine rx_aload_n hE dX10_cadenza_13 (i := 0) rfl rfl ?_
    refine rx_getf hE dX10_cadenza_14 fl_X10_26_9 (xa_0 hM) rfl ?_
    refine rx_aload_n hE dX10_cadenza_17 (i := 0) rfl rfl ?_
    refine rx_getf hE dX10_cadenza_18 fl_X10_19_9 (xa_0 hM) rfl ?_
    refine rx_call0 (rx_callV (av := [.ref _]) hE dX10_cadenza_21 lk_X10_124 (x_copyFrom (X := X) xJ_4 xJ_2 (by decide) hM (J := J) hJ) (xa_j xJ_4 hM) np_X2_copyFrom rfl rfl (by decide) (Nat.le_of_ble_eq_true rfl) rfl ?_)
    rintro v M' ⟨rfl, rfl⟩
    refine rx_iconst hE dX10_cadenza_24 (v := 0) (by decide) ?_
    refine rx_istore_n_2 hE dX10_cadenza_25 (by decide) rfl ?_
    exact loop 200 0 G J (by omega) (by omega) hf rfl rfl
  · refine rx_iconst hE dX10_cadenza_11 (v := -1) (by decide) ?_
    exact rx_iret hE hQ rfl dX10_cadenza_12 ⟨by simp [q_cadenza, *], xD.refl n X O Q G S L⟩
