/-! ===== beats ===== -/
def xsh (R r : Nat) (b : gB1) (q : Option gB1) (x : Int32) (b' : gB1) : Prop := match q with
  | some f => x = 1 ∧ ∀ i, i < R → b' i = f i
  | none => x = 0 ∧ ∀ i, i < r → b' i = b i
theorem xsh.n {R r : Nat} {b b' : gB1} {q : Option gB1} {x : Int32} (h : xsh R r b q x b') (hx : x = 0) : q = none ∧ ∀ i, i < r → b' i = b i := by
  cases q with
  | none => exact ⟨rfl, h.2⟩
  | some f => exact absurd (h.1.symm.trans hx) (by decide)
theorem xsh.s {R r : Nat} {b b' : gB1} {q : Option gB1} {x : Int32} (h : xsh R r b q x b') (hx : ¬ x = 0) : ∃ f, q = some f ∧ ∀ i, i < R → b' i = f i := by
  cases q with
  | none => exact absurd h.1 hx
  | some f => exact ⟨f, rfl, h.2⟩
set_option maxRecDepth 100000 in
set_option maxHeartbeats 1000000 in
theorem c_X10_isFree {n : Nat} {X : gX} {O : gO} {Q : gU} {G : gK} {S : gS} {L : gLg} (hM : 408 ≤ n) {J : gJn} (hJ : X 2 = J) (hf : jfit J) {r : Nat} (hr : r < jR J) : SX 0 0 0 mX10_isFree [.ref 16, .int (nI r)] (xm n X O Q G S L) (fun v M' => v = some (.int (qfrF (X 32 0) (J 3 r) r 0 r)) ∧ M' = xm n X O Q G S L) := by
  refine SX.intro [some (.ref 16), some (.int (nI r)), none] (by decide +kernel) (Nat.le_of_ble_eq_true rfl) rfl (fun E hE hQ => ?_)
  have hr6 := hf.1.2.1
  have loop : ∀ (m k : Nat), k + m = r → qfrF (X 32 0) (J 3 r) r k m = qfrF (X 32 0) (J 3 r) r 0 r → RX E mX10_isFree.2.2.1 0 0 2 [some (.ref 16), some (.int (nI r)), some (.int (nI k))] [] (xm n X O Q G S L) := by
    intro m
    induction m with
    | zero =>
      intro k hk2 hF
      refine rx_iload_n hE dX10_isFree_2 (i := 2) rfl rfl ?_
      refine rx_iload_n hE dX10_isFree_3 (i := 1) rfl rfl ?_
      refine rx_icmp_ge (tgt := 47) hE dX10_isFree_4 (by decide) (fun c4 => ?_) (fun c4 => absurd (show nI r ≤ nI k from nI_le (by omega) (by omega)) c4)
      refine rx_iconst hE dX10_isFree_47 (v := 1) (by decide) ?_
      exact rx_tret hE hQ rfl rfl dX10_isFree_48 ⟨by rw [← hF]; rfl, rfl⟩
    | succ m ih =>
      intro k hk2 hF
      refine rx_iload_n hE dX10_isFree_2 (i := 2) rfl rfl ?_
      refine rx_iload_n hE dX10_isFree_3 (i := 1) rfl rfl ?_
      refine rx_icmp_ge (tgt := 47) hE dX10_isFree_4 (by decide) (fun c4 => absurd c4 (nI_ge (a := k) (b := r) (by omega) (by omega))) (fun c4 => ?_)
      refine rx_aload_n hE dX10_isFree_7 (i := 0) rfl rfl ?_
      refine rx_getf hE dX10_isFree_8 fl_X10_80_9 (xa_0 hM) rfl ?_
      refine rx_iload_n hE dX10_isFree_11 (i := 2) rfl rfl ?_
      refine rx_ialdN (i := k) hE dX10_isFree_12 (xa_32_0 hM) (by omega) (by decide) ?_
      refine rx_int _ (X 32 0 k) rfl ?_
      refine rx_aload_n hE dX10_isFree_13 (i := 0) rfl rfl ?_
      refine rx_getf hE dX10_isFree_14 fl_X10_80_9 (xa_0 hM) rfl ?_
      refine rx_iload_n hE dX10_isFree_17 (i := 1) rfl rfl ?_
      refine rx_ialdN (i := r) hE dX10_isFree_18 (xa_32_0 hM) (by omega) (by decide) ?_
      refine rx_int _ (X 32 0 r) rfl ?_
      refine rx_icmp_ne (tgt := 41) hE dX10_isFree_19 (by decide) (fun c19 => ?_) (fun c19 => ?_)
      · refine rx_iinc_2 hE dX10_isFree_41 (v := 1) (by decide) (by decide) rfl ?_
        rw [nI_1]
        refine rx_goto (tgt := 2) hE dX10_isFree_44 (by decide) ?_
        exact ih (k + 1) (by omega) (by rw [← hF]; exact (if_neg (fun q => c19 q.1)).symm)
      · refine rx_aload_n hE dX10_isFree_22 (i := 0) rfl rfl ?_
        refine rx_getf hE dX10_isFree_23 fl_X10_19_9 (xa_0 hM) rfl ?_
        refine rx_getfN hE dX10_isFree_26 fl_X10_160_2 (xa_j xJ_2 hM) rfl ?_
        refine rx_iload_n hE dX10_isFree_29 (i := 1) rfl rfl ?_
        refine rx_ialdN (i := r) hE dX10_isFree_30 (xa_j4 xJ_2 hM) (by omega) (by decide) ?_
        refine rx_int _ (J 3 r) (congrFun (congrFun hJ 3) r) ?_
        refine rx_iload_n hE dX10_isFree_31 (i := 2) rfl rfl ?_
        refine rx_ishr hE dX10_isFree_32 ?_
        refine rx_iconst hE dX10_isFree_33 (v := 1) (by decide) ?_
        refine rx_iand hE dX10_isFree_34 ?_
        refine rx_int _ (jbit (J 3 r) k) rfl ?_
        refine rx_iconst hE dX10_isFree_35 (v := 1) (by decide) ?_
        refine rx_icmp_ne (tgt := 41) hE dX10_isFree_36 (by decide) (fun c36 => ?_) (fun c36 => ?_)
        · refine rx_iinc_2 hE dX10_isFree_41 (v := 1) (by decide) (by decide) rfl ?_
          rw [nI_1]
          refine rx_goto (tgt := 2) hE dX10_isFree_44 (by decide) ?_
          exact ih (k + 1) (by omega) (by rw [← hF]; exact (if_neg (fun q => c36 q.2)).symm)
        · refine rx_iconst hE dX10_isFree_39 (v := 0) (by decide) ?_
          exact rx_tret hE hQ rfl rfl dX10_isFree_40 ⟨by rw [← hF]; exact congrArg (fun z => some (Value.int z)) (if_pos ⟨c19, c36⟩).symm, rfl⟩
  refine rx_iconst hE dX10_isFree_0 (v := 0) (by decide) ?_
  refine rx_istore_n_2 hE dX10_isFree_1 (by decide) rfl ?_
  exact loop r 0 (by omega) rfl
set_option maxRecDepth 100000 in
set_option maxHeartbeats 1000000 in
theorem c_X10_share {n : Nat} {O : gO} {Q : gU} {G : gK} {S : gS} {L : gLg} (hM : 408 ≤ n) {J : gJn} (hf : jfit J) {many : Nat} (hm : many ≤ 6) : ∀ (d r : Nat) (X : gX), r + d = jR J → X 2 = J → SX (d + 1) 0 0 mX10_share [.ref 16, .int (nI r), .int (nI many)] (xm n X O Q G S L) (fun v M' => ∃ (x : Int32) (b' : gB1), v = some (.int x) ∧ M' = xm n (x_r X 32 (j_s (X 32) 0 b')) O Q G S L ∧ xsh (jR J) r (X 32 0) (qsh (J 3) many d r (X 32 0)) x b') := by
  have hr6 := hf.1.2.1
  intro d
  induction d with
  | zero =>
    intro r X hrd hJ
    refine SX.intro [some (.ref 16), some (.int (nI r)), some (.int (nI many)), none] (by decide +kernel) (Nat.le_of_ble_eq_true rfl) rfl (fun E hE hQ => ?_)
    have h0 : j_hasRoad J (nI r) = 0 := by
      unfold j_hasRoad
      rw [if_neg (nI_pos (by omega)), hf.1.1, if_pos (nI_le (by omega) (by omega))]
    refine rx_aload_n hE dX10_share_0 (i := 0) rfl rfl ?_
    refine rx_getf hE dX10_share_1 fl_X10_19_9 (xa_0 hM) rfl ?_
    refine rx_iload_n hE dX10_share_4 (i := 1) rfl rfl ?_
    refine rx_call0 (rx_callV (av := [.int _]) hE dX10_share_5 lk_X10_147 (x_hasRoad (X := X) xJ_2 hM (J := J) hJ _) (xa_j xJ_2 hM) np_X2_hasRoad rfl rfl (by omega) (Nat.le_of_ble_eq_true rfl) rfl ?_)
    rintro v M' ⟨rfl, rfl⟩
    refine rx_if_ne (tgt := 13) hE dX10_share_8 (by decide) (fun c8 => absurd h0 c8) (fun c8 => ?_)
    refine rx_iconst hE dX10_share_11 (v := 1) (by decide) ?_
    exact rx_tret hE hQ rfl rfl dX10_share_12 ⟨1, X 32 0, rfl, by rw [j_s_id, x_r_id], rfl, fun i hi => rfl⟩
  | succ d ihd =>
    intro r X hrd hJ
    refine SX.intro [some (.ref 16), some (.int (nI r)), some (.int (nI many)), none] (by decide +kernel) (Nat.le_of_ble_eq_true rfl) rfl (fun E hE hQ => ?_)
    have hr : r < jR J := by omega
    have h1 : ¬ j_hasRoad J (nI r) = 0 := by
      unfold j_hasRoad
      rw [if_neg (nI_pos (by omega)), hf.1.1, if_neg (nI_ge hr (by omega))]
      decide
    have loop : ∀ (m k : Nat) (b : gB1), k + m = many → (∀ i, i < r → b i = X 32 0 i) → qshL (qsh (J 3) many d (r + 1)) (J 3 r) r m k (X 32 0) = qshL (qsh (J 3) many d (r + 1)) (J 3 r) r many 0 (X 32 0) → RX E mX10_share.2.2.1 0 0 15 [some (.ref 16), some (.int (nI r)), some (.int (nI many)), some (.int (nI k))] [] (xm n (x_r X 32 (j_s (X 32) 0 b)) O Q G S L) := by
      intro m
      induction m with
      | zero =>
        intro k b hk2 hb hF
        refine rx_iload_n hE dX10_share_15 (i := 3) rfl rfl ?_
        refine rx_iload_n hE dX10_share_16 (i := 2) rfl rfl ?_
        refine rx_icmp_ge (tgt := 54) hE dX10_share_17 (by decide) (fun c17 => ?_) (fun c17 => absurd (show nI many ≤ nI k from nI_le (by omega) (by omega)) c17)
        refine rx_iconst hE dX10_share_54 (v := 0) (by decide) ?_
        exact rx_tret hE hQ rfl rfl dX10_share_55 ⟨0, b, rfl, rfl, by show xsh (jR J) r (X 32 0) (qshL (qsh (J 3) many d (r + 1)) (J 3 r) r many 0 (X 32 0)) 0 b; rw [← hF]; exact ⟨rfl, hb⟩⟩
      | succ m ih =>
        intro k b hk2 hb hF
        refine rx_iload_n hE dX10_share_15 (i := 3) rfl rfl ?_
        refine rx_iload_n hE dX10_share_16 (i := 2) rfl rfl ?_
        refine rx_icmp_ge (tgt := 54) hE dX10_share_17 (by decide) (fun c17 => absurd c17 (nI_ge (a := k) (b := many) (by omega) (by omega))) (fun c17 => ?_)
        refine rx_aload_n hE dX10_share_20 (i := 0) rfl rfl ?_
        refine rx_getf hE dX10_share_21 fl_X10_80_9 (xa_0 hM) rfl ?_
        refine rx_iload_n hE dX10_share_24 (i := 1) rfl rfl ?_
        refine rx_iload_n hE dX10_share_25 (i := 3) rfl rfl ?_
        refine rx_iastN (i := r) hE dX10_share_26 (xa_32_0 hM) (by omega) (by decide) ?_
        refine rx_mem (M' := xm n (x_r X 32 (j_s (X 32) 0 (upd b r (nI k)))) O Q G S L) (xw_32_0.trans (by rw [x_rr, x_r_eq, j_ss]; rfl)) ?_
        refine rx_aload_n hE dX10_share_27 (i := 0) rfl rfl ?_
        refine rx_iload_n hE dX10_share_28 (i := 1) rfl rfl ?_
        refine rx_call0 (rx_callV (av := [.int (nI r)]) hE dX10_share_29 lk_X10_242 (c_X10_isFree (X := (x_r X 32 (j_s (X 32) 0 (upd b r (nI k))))) (J := J) hM hJ hf hr) (xa_0 hM) np_X10_isFree rfl rfl (by omega) (Nat.le_of_ble_eq_true rfl) rfl ?_)
        rintro v M' ⟨rfl, rfl⟩
        have hfc : qfrF (upd b r (nI k)) (J 3 r) r 0 r = qfrF (upd (X 32 0) r (nI k)) (J 3 r) r 0 r := qfrF_congr _ _ (fun i hi => upd_agree hb (nI k) i (by omega)) r 0 (by omega)
        refine rx_int _ (qfrF (upd (X 32 0) r (nI k)) (J 3 r) r 0 r) hfc ?_
        refine rx_if_eq (tgt := 48) hE dX10_share_32 (by decide) (fun c32 => ?_) (fun c32 => ?_)
        · refine rx_iinc_3 hE dX10_share_48 (v := 1) (by decide) (by decide) rfl ?_
          rw [nI_1]
          refine rx_goto (tgt := 15) hE dX10_share_51 (by decide) ?_
          exact ih (k + 1) (upd b r (nI k)) (by omega) (fun i hi => (upd_ne (by omega)).trans (hb i hi)) (by rw [← hF]; exact (if_pos c32).symm)
        · refine rx_aload_n hE dX10_share_35 (i := 0) rfl rfl ?_
          refine rx_iload_n hE dX10_share_36 (i := 1) rfl rfl ?_
          refine rx_iconst hE dX10_share_37 (v := 1) (by decide) ?_
          refine rx_iadd hE dX10_share_38 ?_
          refine rx_int _ (nI (r + 1)) (nI_add _ _) ?_
          refine rx_iload_n hE dX10_share_39 (i := 2) rfl rfl ?_
          refine rx_call0 (rx_callV (av := [.int (nI (r + 1)), .int (nI many)]) hE dX10_share_40 lk_X10_238 (ihd (r + 1) (x_r X 32 (j_s (X 32) 0 (upd b r (nI k)))) (by omega) hJ) (xa_0 hM) np_X10_share rfl rfl (by omega) (Nat.le_of_ble_eq_true rfl) rfl ?_)
          rintro v M' ⟨x, b1, rfl, rfl, hx⟩
          rw [x_rr, x_r_eq, j_ss]
          have hag := qsh_agree (J 3) many (jR J) d (r + 1) (upd b r (nI k)) (upd (X 32 0) r (nI k)) (by omega) (upd_agree hb (nI k))
          refine rx_if_eq (tgt := 48) hE dX10_share_43 (by decide) (fun c43 => ?_) (fun c43 => ?_)
          · refine rx_iinc_3 hE dX10_share_48 (v := 1) (by decide) (by decide) rfl ?_
            rw [nI_1]
            refine rx_goto (tgt := 15) hE dX10_share_51 (by decide) ?_
            obtain ⟨hn, hb2⟩ := hx.n c43
            have hn0 : qsh (J 3) many d (r + 1) (upd (X 32 0) r (nI k)) = none := (hn ▸ hag).none
            exact ih (k + 1) b1 (by omega) (fun i hi => ((hb2 i (by omega)).trans (upd_ne (by omega))).trans (hb i hi)) (by rw [← hF]; show _ = (if qfrF (upd (X 32 0) r (nI k)) (J 3 r) r 0 r = 0 then _ else match qsh (J 3) many d (r + 1) (upd (X 32 0) r (nI k)) with | some x => some x | none => qshL (qsh (J 3) many d (r + 1)) (J 3 r) r m (k + 1) (X 32 0)); rw [if_neg c32, hn0])
          · refine rx_iconst hE dX10_share_46 (v := 1) (by decide) ?_
            exact rx_tret hE hQ rfl rfl dX10_share_47 ⟨1, b1, rfl, rfl, by
              obtain ⟨f, hf1, hb1⟩ := hx.s c43
              obtain ⟨g, hg, hfg⟩ := (hf1 ▸ hag).some
              have e : qshL (qsh (J 3) many d (r + 1)) (J 3 r) r many 0 (X 32 0) = some g := by
                rw [← hF]
                show (if qfrF (upd (X 32 0) r (nI k)) (J 3 r) r 0 r = 0 then _ else match qsh (J 3) many d (r + 1) (upd (X 32 0) r (nI k)) with | some x => some x | none => qshL (qsh (J 3) many d (r + 1)) (J 3 r) r m (k + 1) (X 32 0)) = some g
                rw [if_neg c32, hg]
              show xsh (jR J) r (X 32 0) (qshL (qsh (J 3) many d (r + 1)) (J 3 r) r many 0 (X 32 0)) 1 b1
              rw [e]
              exact ⟨rfl, fun i hi => (hb1 i hi).trans (hfg i hi)⟩⟩
    refine rx_aload_n hE dX10_share_0 (i := 0) rfl rfl ?_
    refine rx_getf hE dX10_share_1 fl_X10_19_9 (xa_0 hM) rfl ?_
    refine rx_iload_n hE dX10_share_4 (i := 1) rfl rfl ?_
    refine rx_call0 (rx_callV (av := [.int _]) hE dX10_share_5 lk_X10_147 (x_hasRoad (X := X) xJ_2 hM (J := J) hJ _) (xa_j xJ_2 hM) np_X2_hasRoad rfl rfl (by omega) (Nat.le_of_ble_eq_true rfl) rfl ?_)
    rintro v M' ⟨rfl, rfl⟩
    refine rx_if_ne (tgt := 13) hE dX10_share_8 (by decide) (fun c8 => ?_) (fun c8 => absurd c8 h1)
    refine rx_iconst hE dX10_share_13 (v := 0) (by decide) ?_
    refine rx_istore_n_3 hE dX10_share_14 (by decide) rfl ?_
    refine rx_mem (M' := xm n (x_r X 32 (j_s (X 32) 0 (X 32 0))) O Q G S L) (by rw [j_s_id, x_r_id]) ?_
    exact loop many 0 (X 32 0) (by omega) (fun i hi => rfl) rfl
set_option maxRecDepth 100000 in
set_option maxHeartbeats 1000000 in
theorem c_X10_beats {n : Nat} {X : gX} {O : gO} {Q : gU} {G : gK} {S : gS} {L : gLg} (hR : xR n X O Q) {J : gJn} (hJ : X 2 = J) (hk : xk J) {t : gJn → Nat → Int32 → Bool} (ht : xtf X Q (X 0 0 17) = t) (what : Int32) : SX 9 0 0 mX10_beats [.ref 16, .int what] (xm n X O Q G S L) (fun v M' => v = some (.int (q_beats J what)) ∧ xD n X O Q S L M') := by
  refine SX.intro [some (.ref 16), some (.int what), none] (by decide +kernel) (Nat.le_of_ble_eq_true rfl) rfl (fun E hE hQ => ?_)
  have hM := hR.M
  refine rx_aload_n hE dX10_beats_0 (i := 0) rfl rfl ?_
  refine rx_getf hE dX10_beats_1 fl_X10_19_9 (xa_0 hM) rfl ?_
  refine rx_call0 (rx_callV (av := []) hE dX10_beats_4 lk_X10_198 (x_isTold (X := X) xJ_2 hM (J := J) hJ) (xa_j xJ_2 hM) np_X2_isTold rfl rfl (by decide) (Nat.le_of_ble_eq_true rfl) rfl ?_)
  rintro v M' ⟨rfl, rfl⟩
  refine rx_if_eq (tgt := 19) hE dX10_beats_7 (by decide) (fun c7 => ?_) (fun c7 => ?_)
  · refine rx_bipush hE dX10_beats_19 (v := -3) (by decide) ?_
    exact rx_iret hE hQ rfl dX10_beats_21 ⟨by simp [q_beats, *], xD.refl n X O Q G S L⟩
  · refine rx_iload_n hE dX10_beats_10 (i := 1) rfl rfl ?_
    refine rx_iconst hE dX10_beats_11 (v := -1) (by decide) ?_
    refine rx_iconst hE dX10_beats_12 (v := 5) (by decide) ?_
    refine rx_call0 (rx_callS (av := [.int _, .int _, .int _]) hE dX10_beats_13 lk_X10_143 (c_X10_within _ _ _) np_X10_within rfl rfl (by decide) (Nat.le_of_ble_eq_true rfl) rfl ?_)
    rintro v M' ⟨rfl, rfl⟩
    refine rx_if_ne (tgt := 22) hE dX10_beats_16 (by decide) (fun c16 => ?_) (fun c16 => ?_)
    · have hg : ¬ (j_isTold J = 0 ∨ q_in what (-1) 5 = 0) := by simp [*]
      obtain ⟨hf, hT9⟩ := hk.told c7
      have hr6 := hf.1.2.1
      have hv : q_beats J what = if what = -1 then nI (qbt (J 3) (jR J) (jR J) 0) else if j_hasRoad J what = 0 then -2 else ((qsh (J 3) (qbt (J 3) (jR J) (jR J) 0) (jR J) 0 (fun _ => 0)).getD (fun _ => 0)) what.toNatClampNeg := if_neg hg
      have fin : ∀ (k : Nat) (b : gB1), k = qbt (J 3) (jR J) (jR J) 0 → (∃ g, qsh (J 3) k (jR J) 0 (fun _ => 0) = some g ∧ ∀ i, i < jR J → b i = g i) → RX E mX10_beats.2.2.1 0 0 45 [some (.ref 16), some (.int what), some (.int (nI k))] [] (xm n (x_r X 32 (j_s (X 32) 0 b)) O Q G S L) := by
        intro k b hm hgb
        obtain ⟨g, hg1, hb1⟩ := hgb
        refine rx_iload_n hE dX10_beats_45 (i := 1) rfl rfl ?_
        refine rx_iconst hE dX10_beats_46 (v := -1) (by decide) ?_
        refine rx_icmp_ne (tgt := 52) hE dX10_beats_47 (by decide) (fun c47 => ?_) (fun c47 => ?_)
        · refine rx_aload_n hE dX10_beats_52 (i := 0) rfl rfl ?_
          refine rx_getf hE dX10_beats_53 fl_X10_19_9 (xa_0 hM) rfl ?_
          refine rx_iload_n hE dX10_beats_56 (i := 1) rfl rfl ?_
          refine rx_call0 (rx_callV (av := [.int _]) hE dX10_beats_57 lk_X10_147 (x_hasRoad (X := (x_r X 32 (j_s (X 32) 0 b))) xJ_2 hM (J := J) hJ _) (xa_j xJ_2 hM) np_X2_hasRoad rfl rfl (by decide) (Nat.le_of_ble_eq_true rfl) rfl ?_)
          rintro v M' ⟨rfl, rfl⟩
          refine rx_if_eq (tgt := 72) hE dX10_beats_60 (by decide) (fun c60 => ?_) (fun c60 => ?_)
          · refine rx_bipush hE dX10_beats_72 (v := -2) (by decide) ?_
            exact rx_iret hE hQ rfl dX10_beats_74 ⟨by rw [hv, if_neg c47, if_pos c60], _, G, rfl, xq.r X _ (Or.inr (Or.inr rfl))⟩
          · obtain ⟨_, _, j, hj, rfl⟩ := hk.road c60
            refine rx_aload_n hE dX10_beats_63 (i := 0) rfl rfl ?_
            refine rx_getf hE dX10_beats_64 fl_X10_80_9 (xa_0 hM) rfl ?_
            refine rx_iload_n hE dX10_beats_67 (i := 1) rfl rfl ?_
            refine rx_ialdN (i := j) hE dX10_beats_68 (xa_32_0 hM) (by omega) (by decide) ?_
            refine rx_int _ (b j) rfl ?_
            refine rx_goto (tgt := 74) hE dX10_beats_69 (by decide) ?_
            exact rx_iret hE hQ rfl dX10_beats_74 ⟨by rw [hv, if_neg c47, if_neg c60, nI_clamp (n := j) (by omega), ← hm, hg1]; show _ = some (Value.int (g j)); rw [hb1 j hj], _, G, rfl, xq.r X _ (Or.inr (Or.inr rfl))⟩
        · refine rx_iload_n hE dX10_beats_50 (i := 2) rfl rfl ?_
          exact rx_iret hE hQ rfl dX10_beats_51 ⟨by rw [hv, if_pos c47, hm], _, G, rfl, xq.r X _ (Or.inr (Or.inr rfl))⟩
      have loop : ∀ (m k : Nat) (b : gB1), k + m = jR J → qbt (J 3) (jR J) m k = qbt (J 3) (jR J) (jR J) 0 → RX E mX10_beats.2.2.1 0 0 24 [some (.ref 16), some (.int what), some (.int (nI k))] [] (xm n (x_r X 32 (j_s (X 32) 0 b)) O Q G S L) := by
        intro m
        induction m with
        | zero =>
          intro k b hk2 hF
          refine rx_aload_n hE dX10_beats_24 (i := 0) rfl rfl ?_
          refine rx_iconst hE dX10_beats_25 (v := 0) (by decide) ?_
          refine rx_iload_n hE dX10_beats_26 (i := 2) rfl rfl ?_
          refine rx_call0 (rx_callV (av := [.int (nI 0), .int (nI k)]) hE dX10_beats_27 lk_X10_238 ((c_X10_share hM hf (many := k) (by omega) (jR J) 0 (x_r X 32 (j_s (X 32) 0 b)) (by omega) hJ)) (xa_0 hM) np_X10_share rfl rfl (by omega) (Nat.le_of_ble_eq_true rfl) rfl ?_)
          rintro v M' ⟨x, b1, rfl, rfl, hx⟩
          rw [x_rr, x_r_eq, j_ss]
          have hag := qsh_agree (J 3) k (jR J) (jR J) 0 b (fun _ => 0) (by omega) (fun i hi => absurd hi (Nat.not_lt_zero i))
          refine rx_if_ne (tgt := 45) hE dX10_beats_30 (by decide) (fun c30 => ?_) (fun c30 => absurd ((hx.n c30).1 ▸ hag).none (qsh_so (J 3) hr6 (many := k) (by omega) (jR J) 0 (fun _ => 0) (by omega) (fun i hi => absurd hi (Nat.not_lt_zero i))))
          obtain ⟨f, hf1, hb1⟩ := hx.s c30
          obtain ⟨g, hg1, hfg⟩ := (hf1 ▸ hag).some
          exact fin k b1 (by rw [← hF]; rfl) ⟨g, hg1, fun i hi => (hb1 i hi).trans (hfg i hi)⟩
        | succ m ih =>
          intro k b hk2 hF
          refine rx_aload_n hE dX10_beats_24 (i := 0) rfl rfl ?_
          refine rx_iconst hE dX10_beats_25 (v := 0) (by decide) ?_
          refine rx_iload_n hE dX10_beats_26 (i := 2) rfl rfl ?_
          refine rx_call0 (rx_callV (av := [.int (nI 0), .int (nI k)]) hE dX10_beats_27 lk_X10_238 ((c_X10_share hM hf (many := k) (by omega) (jR J) 0 (x_r X 32 (j_s (X 32) 0 b)) (by omega) hJ)) (xa_0 hM) np_X10_share rfl rfl (by omega) (Nat.le_of_ble_eq_true rfl) rfl ?_)
          rintro v M' ⟨x, b1, rfl, rfl, hx⟩
          rw [x_rr, x_r_eq, j_ss]
          have hag := qsh_agree (J 3) k (jR J) (jR J) 0 b (fun _ => 0) (by omega) (fun i hi => absurd hi (Nat.not_lt_zero i))
          refine rx_if_ne (tgt := 45) hE dX10_beats_30 (by decide) (fun c30 => ?_) (fun c30 => ?_)
          · obtain ⟨f, hf1, hb1⟩ := hx.s c30
            obtain ⟨g, hg1, hfg⟩ := (hf1 ▸ hag).some
            exact fin k b1 (by rw [← hF]; exact (if_neg (by rw [hg1]; exact Bool.false_ne_true)).symm) ⟨g, hg1, fun i hi => (hb1 i hi).trans (hfg i hi)⟩
          · refine rx_iload_n hE dX10_beats_33 (i := 2) rfl rfl ?_
            refine rx_bipush hE dX10_beats_34 (v := 6) (by decide) ?_
            refine rx_icmp_ge (tgt := 45) hE dX10_beats_36 (by decide) (fun c36 => absurd c36 (nI_ge (a := k) (b := 6) (by omega) (by decide))) (fun c36 => ?_)
            refine rx_iinc_2 hE dX10_beats_39 (v := 1) (by decide) (by decide) rfl ?_
            rw [nI_1]
            refine rx_goto (tgt := 24) hE dX10_beats_42 (by decide) ?_
            have hn0 := ((hx.n c30).1 ▸ hag).none
            exact ih (k + 1) b1 (by omega) (by rw [← hF]; exact (if_pos (by rw [hn0]; rfl)).symm)
      refine rx_iconst hE dX10_beats_22 (v := 0) (by decide) ?_
      refine rx_istore_n_2 hE dX10_beats_23 (by decide) rfl ?_
      refine rx_mem (M' := xm n (x_r X 32 (j_s (X 32) 0 (X 32 0))) O Q G S L) (by rw [j_s_id, x_r_id]) ?_
      exact loop (jR J) 0 (X 32 0) (by omega) rfl
    · refine rx_bipush hE dX10_beats_19 (v := -3) (by decide) ?_
      exact rx_iret hE hQ rfl dX10_beats_21 ⟨by simp [q_beats, *], xD.refl n X O Q G S L⟩
