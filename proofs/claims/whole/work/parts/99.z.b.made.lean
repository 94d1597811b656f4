/-! ===== Arrays.copyOf, made ===== -/
theorem at_nw {M : gM} {x : Nat} {e c : va_E} (h : g_at M x e) : g_at (g_nw M c) x e := ⟨h.1, by show x < M.1 + 1; have := h.2.1; omega, by
  have h2 := h.2.1
  show (if x = M.1 then c else M.2 x) = e
  rw [if_neg (by omega)]
  exact h.2.2⟩
theorem at_nwn {M : gM} {c : va_E} (h : 16 ≤ M.1) : g_at (g_nw M c) M.1 c := ⟨h, Nat.lt_succ_self _, if_pos rfl⟩
theorem up_nw {M : gM} {c c' : va_E} : g_up (g_nw M c) M.1 c' = g_nw M c' := by
  refine Prod.ext rfl (funext fun k => ?_)
  show (if k = M.1 then c' else if k = M.1 then c else M.2 k) = if k = M.1 then c' else M.2 k
  by_cases h : k = M.1
  · rw [if_pos h, if_pos h]
  · rw [if_neg h, if_neg h, if_neg h]
set_option maxRecDepth 100000 in
theorem c_J7_copyOf {M : gM} {x n0 k : Nat} {f : Nat → Int32} (hM : 16 ≤ M.1) (hat : g_at M x (gI n0 f)) (hk : k < n0) (hn0 : n0 ≤ 10000) : SX 1 1 (0 + k) mJ7_copyOf_59c91 [.ref x, .int (nI k)] M (fun v M' => v = some (.ref M.1) ∧ M' = g_nw M (gI k (va_cpy f (fun _ => 0) 0 0 k))) := by
  have hz : ¬ nI k < 0 := Int32.not_lt.mpr (nI_le (a := 0) (b := k) (by omega) (by omega))
  have hc : (nI k).toNatClampNeg = k := nI_clamp (by omega)
  refine SX.intro [some (.ref x), some (.int (nI k)), none] (by decide +kernel) (Nat.le_of_ble_eq_true rfl) rfl (fun E hE hQ => ?_)
  refine rx_iload_n hE dJ7_copyOf_59c91_0 (i := 1) rfl rfl ?_
  refine rx_aload_n hE dJ7_copyOf_59c91_1 (i := 0) rfl rfl ?_
  refine rx_alenI hE dJ7_copyOf_59c91_2 hat ?_
  refine rx_icmp_ne (tgt := 14) hE dJ7_copyOf_59c91_3 (by decide) (fun _ => ?_) (fun c => absurd (nI_inj (a := k) (b := n0) (by omega) (by omega) c) (by omega))
  refine rx_iload_n hE dJ7_copyOf_59c91_14 (i := 1) rfl rfl ?_
  refine rx_newi (N := k) hE dJ7_copyOf_59c91_15 ak_int hz hc (by omega) ?_
  refine rx_astore_n_2 hE dJ7_copyOf_59c91_17 (by decide) rfl ?_
  refine rx_aload_n hE dJ7_copyOf_59c91_18 (i := 0) rfl rfl ?_
  refine rx_iconst hE dJ7_copyOf_59c91_19 (v := 0) (by decide) ?_
  refine rx_aload_n hE dJ7_copyOf_59c91_20 (i := 2) rfl rfl ?_
  refine rx_iconst hE dJ7_copyOf_59c91_21 (v := 0) (by decide) ?_
  refine rx_aload_n hE dJ7_copyOf_59c91_22 (i := 0) rfl rfl ?_
  refine rx_alenI hE dJ7_copyOf_59c91_23 (at_nw hat) ?_
  refine rx_iload_n hE dJ7_copyOf_59c91_24 (i := 1) rfl rfl ?_
  refine rx_mmin hE dJ7_copyOf_59c91_25 mm_J7_304 rfl (by decide) (Nat.le_of_ble_eq_true rfl) ?_
  refine rx_int _ (nI k) (if_pos (nI_lt (a := k) (b := n0) hk (by omega))) ?_
  refine rx_copyi hE dJ7_copyOf_59c91_28 ac_J7_150 rfl (by decide) (Nat.le_of_ble_eq_true rfl) (at_nw hat) (at_nwn hM) (by decide) (by decide) hz (by rw [hc]; show 0 + k ≤ n0; omega) (by rw [hc]; show 0 + k ≤ k; omega) ?_
  refine rx_mem (M' := g_nw M (gI k (va_cpy f (fun _ => 0) 0 0 k))) (by rw [up_nw, hc]; rfl) ?_
  refine rx_aload_n hE dJ7_copyOf_59c91_31 (i := 2) rfl rfl ?_
  exact rx_aret hE hQ (Or.inr ⟨_, rfl⟩) rfl dJ7_copyOf_59c91_32 ⟨rfl, rfl⟩
section MADE
variable {n : Nat} {X : gX} {O : gO} {Q : gU} {G : gK} {S : gS} {L : gLg}
def q_u (Q : gU) (i : Nat) (u : Nat × (Nat → Int32)) : gU := fun j => if j = i then u else Q j
theorem rp_new (i k : Nat) (f : Nat → Int32) (g : Nat → Int64) : rp (xm n X O Q G S L) (408 + 3 * i) k f g = xm n X O (q_u Q i (k, f)) (k_g G i g) S L := by
  have h : rp (rp (xm n X O Q G S L) (408 + 3 * i) (Q i).1 (Q i).2 (G i)) (408 + 3 * i) k f g = rp (xm n X O Q G S L) (408 + 3 * i) k f g := by rw [← xm_rp]
  have h2 := rp_xm (n := n) (X := X) (O := O) (Q := q_u Q i (k, f)) (G := G) (S := S) (L := L) i g
  have e : q_u Q i (k, f) i = (k, f) := if_pos rfl
  rw [e] at h2
  rw [← h2]
  refine Prod.ext rfl (funext fun q => ?_)
  show (if 408 + 3 * i ≤ q ∧ q < 408 + 3 * i + 3 then _ else (xm n X O Q G S L).2 q) = (if 408 + 3 * i ≤ q ∧ q < 408 + 3 * i + 3 then _ else (xm n X O (q_u Q i (k, f)) G S L).2 q)
  by_cases hq : 408 + 3 * i ≤ q ∧ q < 408 + 3 * i + 3
  · rw [if_pos hq, if_pos hq]
  · rw [if_neg hq, if_neg hq]
    show (if q < 16 then _ else xc X O Q G S L (zr q) (q - zb (zr q))) = (if q < 16 then _ else xc X O (q_u Q i (k, f)) G S L (zr q) (q - zb (zr q)))
    by_cases h16 : q < 16
    · rw [if_pos h16, if_pos h16]
    · rw [if_neg h16, if_neg h16]
      have hin := zr_in q (by omega)
      have hne : zr q ≠ 50 + i := fun z => by
        have e1 : zb (50 + i) = 408 + 3 * i := by
          unfold zb
          rw [if_neg (by omega), if_neg (by omega), if_neg (by omega), if_neg (by omega), if_neg (by omega), if_neg (by omega), if_neg (by omega), if_neg (by omega), if_neg (by omega), if_neg (by omega), if_neg (by omega), if_neg (by omega), if_neg (by omega), if_neg (by omega)]
          omega
        have e2 : zn (50 + i) = 3 := by
          unfold zn
          rw [if_neg (by omega), if_neg (by omega), if_neg (by omega), if_neg (by omega), if_neg (by omega), if_neg (by omega), if_neg (by omega), if_neg (by omega), if_neg (by omega), if_neg (by omega), if_neg (by omega), if_neg (by omega), if_neg (by omega), if_neg (by omega)]
        rw [z, e1, e2] at hin
        omega
      unfold xc
      by_cases h1 : zr q = 49
      · rw [if_pos h1, if_pos h1]
      rw [if_neg h1, if_neg h1]
      by_cases h2 : 50 ≤ zr q
      · rw [if_pos h2, if_pos h2]
        unfold q_u
        rw [if_neg (by omega)]
      · rw [if_neg h2, if_neg h2]
set_option maxRecDepth 100000 in
theorem c_X7_made (hM : 408 ≤ n) {k i : Nat} (hk : k < 400) (hn : n = 408 + 3 * i) (h2 : X 6 0 2 = nI k) : SX 2 3 (0 + 32 + (0 + k) + 2) mX7_made [.ref 50] (xm n X O Q G S L) (fun v M' => v = some (.ref n) ∧ M' = xm (n + 3) X O (q_u Q i (k, va_cpy (X 6 1) (fun _ => 0) 0 0 k)) (k_g G i (fun _ => 0)) S L) := by
  have hz : ¬ nI k < 0 := Int32.not_lt.mpr (nI_le (a := 0) (b := k) (by omega) (by omega))
  refine SX.intro [some (.ref 50)] (by decide +kernel) (Nat.le_of_ble_eq_true rfl) rfl (fun E hE hQ => ?_)
  refine rx_new hE dX7_made_0 nc_X7_22 (fun _ => rfl) ?_
  refine rx_dup hE dX7_made_3 rfl ?_
  refine rx_aload_n hE dX7_made_4 (i := 0) rfl rfl ?_
  refine rx_getf hE dX7_made_5 fl_X7_9_7 (at_nw (xa_6 hM)) rfl ?_
  refine rx_iconst hE dX7_made_8 (v := 0) (by decide) ?_
  refine rx_aload_n hE dX7_made_9 (i := 0) rfl rfl ?_
  refine rx_getf hE dX7_made_10 fl_X7_15_7 (at_nw (xa_6 hM)) rfl ?_
  refine rx_int _ (nI k) h2 ?_
  refine rx_mmax hE dX7_made_13 mm_X7_24 rfl (by decide) (Nat.le_of_ble_eq_true rfl) ?_
  refine rx_int _ (nI k) (by
    by_cases e : (0 : Int32) < nI k
    · rw [if_pos e]
    · rw [if_neg e]
      exact Int32.le_antisymm (Int32.not_lt.mp hz) (Int32.not_lt.mp e)) ?_
  refine rx_callS (av := [.ref 51, .int (nI k)]) hE dX7_made_16 lk_X7_30 (c_J7_copyOf (M := g_nw (xm n X O Q G S L) (.inr (6, [.null, .null]))) (by show 16 ≤ n + 1; omega) (at_nw (xa_6_1 hM)) hk (by decide)) np_J7_copyOf_59c91 rfl rfl (by decide) (Nat.le_of_ble_eq_true rfl) rfl ?_
  rintro v M' ⟨rfl, rfl⟩
  refine rx_mem (M' := g_up (n + 2, g_w (xm n X O Q G S L).2 (n + 1) (gI k (va_cpy (X 6 1) (fun _ => 0) 0 0 k))) n (.inr (6, [.null, .null]))) (by
    refine Prod.ext rfl (funext fun q => ?_)
    show (if q = n + 1 then _ else if q = n then _ else (xm n X O Q G S L).2 q) = (if q = n then _ else if q = n + 1 then _ else (xm n X O Q G S L).2 q)
    by_cases e : q = n + 1
    · rw [if_pos e, if_neg (by omega), if_pos e]
    · rw [if_neg e, if_neg e]) ?_
  refine rx_callI (av := [.ref (n + 1)]) hE dX7_made_19 lk_X7_36 (c_X6_init (F := g_w (xm n X O Q G S L).2 (n + 1) (gI k (va_cpy (X 6 1) (fun _ => 0) 0 0 k))) (n := n + 2) (q := n) (t := n + 1) (by omega) (by omega)) np_X6_init rfl rfl (by decide) (Nat.le_of_ble_eq_true rfl) rfl ?_
  rintro v M' ⟨rfl, rfl⟩
  refine rx_mem (M' := xm (n + 3) X O (q_u Q i (k, va_cpy (X 6 1) (fun _ => 0) 0 0 k)) (k_g G i (fun _ => 0)) S L) (by
    rw [← rp_new]
    refine Prod.ext rfl (funext fun q => ?_)
    show (if q = n then _ else if q = n + 2 then _ else if q = n + 1 then _ else (xm n X O Q G S L).2 q) = (if 408 + 3 * i ≤ q ∧ q < 408 + 3 * i + 3 then _ else (xm n X O Q G S L).2 q)
    rw [← hn]
    by_cases e0 : q = n
    · subst e0
      rw [if_pos rfl, if_pos ⟨by omega, by omega⟩, Nat.sub_self]
      rfl
    · rw [if_neg e0]
      by_cases e2 : q = n + 2
      · subst e2
        rw [if_pos rfl, if_pos ⟨by omega, by omega⟩, Nat.add_sub_cancel_left]
        rfl
      · rw [if_neg e2]
        by_cases e1 : q = n + 1
        · subst e1
          rw [if_pos rfl, if_pos ⟨by omega, by omega⟩, Nat.add_sub_cancel_left]
          rfl
        · rw [if_neg e1, if_neg (by omega)]) ?_
  exact rx_aret hE hQ (Or.inl ⟨_, rfl⟩) rfl dX7_made_22 ⟨rfl, rfl⟩
theorem xw_7 {O' : gO} : g_up (xm n X O Q G S L) 52 (gQ 4 6 O') = xm n X O' Q G S L := by
  unfold xm
  rw [show (52 : Nat) = zb 7 + 0 from rfl, zL_up 7 0 _ (by decide +kernel)]
  refine zL_ext (fun i j hj => ?_)
  unfold zs
  by_cases hi : i = 7
  · subst hi
    have hj0 : j = 0 := by
      have : zn 7 = 1 := by decide +kernel
      omega
    subst hj0
    rw [if_pos rfl, if_pos rfl]
    rfl
  · rw [if_neg hi]
    unfold xc
    by_cases h1 : i = 49
    · rw [if_pos h1, if_pos h1]
    rw [if_neg h1, if_neg h1]
    by_cases h2 : 50 ≤ i
    · rw [if_pos h2, if_pos h2]
    rw [if_neg h2, if_neg h2]
    by_cases h3 : xj i = true
    · rw [if_pos h3, if_pos h3]
    rw [if_neg h3, if_neg h3]
    by_cases h4 : xn i = true
    · rw [if_pos h4, if_pos h4]
    rw [if_neg h4, if_neg h4]
    by_cases h5 : xi i = true
    · rw [if_pos h5, if_pos h5]
    rw [if_neg h5, if_neg h5]
    by_cases h6 : i = 0
    · rw [if_pos h6, if_pos h6]
    rw [if_neg h6, if_neg h6]
    by_cases h7 : i = 1
    · rw [if_pos h7, if_pos h7]
    rw [if_neg h7, if_neg h7]
    by_cases h8 : i = 5
    · rw [if_pos h8, if_pos h8]
    rw [if_neg h8, if_neg h8]
    by_cases h9 : i = 6
    · rw [if_pos h9, if_pos h9]
    rw [if_neg h9, if_neg h9, if_neg hi, if_neg hi]
end MADE
/-! ===== rule() ===== -/
theorem sA_eq (k : Nat) : nI (k + 1) - 1 = nI k := by rw [← nI_1, Int32.add_sub_cancel]
set_option maxRecDepth 100000 in
set_option maxHeartbeats 1000000 in
theorem c_X10_ruleF {n : Nat} {X : gX} {O : gO} {Q : gU} {G : gK} {S : gS} {L : gLg} (hM : 408 ≤ n) {T : Nat → Int32} {N i : Nat} (hN : N ≤ 400) (hb : ∀ j, tb8 (T j)) (h1 : X 1 0 1 = nI N) (hbt : X 1 1 = T) (h16 : X 0 0 16 = nI i) (hi : i = 6) : SX 0 0 0 mX10_rule [.ref 16] (xm n X O Q G S L) (fun v M' => v = some (.int (-1)) ∧ M' = xm n X O Q G S L) := by
  refine SX.intro [some (.ref 16), none] (by decide +kernel) (Nat.le_of_ble_eq_true rfl) rfl (fun E hE hQ => ?_)
  refine rx_aload_n hE dX10_rule_0 (i := 0) rfl rfl ?_
  refine rx_getf hE dX10_rule_1 fl_X10_99_9 (xa_0 hM) rfl ?_
  refine rx_int _ (nI i) h16 ?_
  refine rx_bipush hE dX10_rule_4 (v := 6) (by decide) ?_
  refine rx_icmp_lt (tgt := 11) hE dX10_rule_6 (by decide) (fun c6 => absurd c6 (Int32.not_lt.mpr (nI_le (a := 6) (b := i) (by omega) (by omega)))) (fun c6 => ?_)
  refine rx_iconst hE dX10_rule_9 (v := -1) (by decide) ?_
  exact rx_iret hE hQ rfl dX10_rule_10 ⟨rfl, rfl⟩
set_option maxRecDepth 100000 in
set_option maxHeartbeats 1000000 in
theorem c_X10_ruleE {n : Nat} {X : gX} {O : gO} {Q : gU} {G : gK} {S : gS} {L : gLg} (hM : 408 ≤ n) {T : Nat → Int32} {N i : Nat} (hN : N ≤ 400) (hb : ∀ j, tb8 (T j)) (h1 : X 1 0 1 = nI N) (hbt : X 1 1 = T) (h16 : X 0 0 16 = nI i) (hi : i < 6) (hno : ∀ cl m, ¬ rlR T N m (sk T N 0) 0 0 [] (.ok cl)) : SX 31 0 0 mX10_rule [.ref 16] (xm n X O Q G S L) (fun v M' => ∃ g X', v = some (.int (-2 - g)) ∧ ¬ g = 0 ∧ (∃ m, rlR T N m (sk T N 0) 0 0 [] (.error g)) ∧ M' = xm n X' O Q G S L ∧ xf X X' ∧ X' 1 0 1 = 0 ∧ X' 1 1 = T) := by
  refine SX.intro [some (.ref 16), none] (by decide +kernel) (Nat.le_of_ble_eq_true rfl) rfl (fun E hE hQ => ?_)
  refine rx_aload_n hE dX10_rule_0 (i := 0) rfl rfl ?_
  refine rx_getf hE dX10_rule_1 fl_X10_99_9 (xa_0 hM) rfl ?_
  refine rx_int _ (nI i) h16 ?_
  refine rx_bipush hE dX10_rule_4 (v := 6) (by decide) ?_
  refine rx_icmp_lt (tgt := 11) hE dX10_rule_6 (by decide) (fun c6 => ?_) (fun c6 => absurd (nI_lt (a := i) (b := 6) hi (by decide)) c6)
  refine rx_aload_n hE dX10_rule_11 (i := 0) rfl rfl ?_
  refine rx_getf hE dX10_rule_12 fl_X10_43_9 (xa_0 hM) rfl ?_
  refine rx_call0 (rx_callV (av := []) hE dX10_rule_15 lk_X10_135 (c_X7_startOver hM) (xa_6 hM) np_X7_startOver rfl rfl (by decide) (Nat.le_of_ble_eq_true rfl) rfl ?_)
  rintro v M' ⟨rfl, rfl⟩
  refine rx_aload_n hE dX10_rule_18 (i := 0) rfl rfl ?_
  refine rx_getf hE dX10_rule_19 fl_X10_43_9 (xa_0 hM) rfl ?_
  refine rx_call0 (rx_callU (av := []) hE dX10_rule_22 lkU_10_138 (c_X9_readRules (X := (x_r X 6 (j_f (j_f (X 6) 2 0) 3 0))) hM hN hb h1 hbt rfl rfl) (xa_6 hM) rfl rfl (by decide) (Nat.le_of_ble_eq_true rfl) rfl ?_)
  rintro v M' ⟨X2, rfl, f2, hT2, hv⟩
  obtain ⟨g, rfl, hg, hm⟩ : ∃ g, v = some (.int g) ∧ ¬ g = 0 ∧ ∃ m, rlR T N m (sk T N 0) 0 0 [] (.error g) := by
    rcases hv with h | ⟨_, cl', ⟨m, hm⟩, _⟩
    · exact h
    · exact absurd hm (hno cl' m)
  refine rx_istore_n_1 hE dX10_rule_25 (by decide) rfl ?_
  refine rx_aload_n hE dX10_rule_26 (i := 0) rfl rfl ?_
  refine rx_getf hE dX10_rule_27 fl_X10_10_9 (xa_0 hM) rfl ?_
  refine rx_iconst hE dX10_rule_30 (v := 0) (by decide) ?_
  refine rx_putN hE dX10_rule_31 fl_X10_110_8 fw_8_1 (xa_1 hM) (fun _ => rfl) (fun _ => rfl) (Nat.le_of_ble_eq_true rfl) ?_
  refine rx_mem (M' := xm n (x_r X2 1 (j_f (X2 1) 1 0)) O Q G S L) xw_1_f1 ?_
  refine rx_iload_n hE dX10_rule_34 (i := 1) rfl rfl ?_
  refine rx_if_eq (tgt := 43) hE dX10_rule_35 (by decide) (fun c35 => absurd c35 hg) (fun c35 => ?_)
  refine rx_bipush hE dX10_rule_38 (v := -2) (by decide) ?_
  refine rx_iload_n hE dX10_rule_40 (i := 1) rfl rfl ?_
  refine rx_isub hE dX10_rule_41 ?_
  exact rx_iret hE hQ rfl dX10_rule_42 ⟨g, (x_r X2 1 (j_f (X2 1) 1 0)), rfl, hg, hm, rfl, (xf.r6 _ _).trans (f2.trans (xf.r1 _ _)), rfl, hT2⟩
set_option maxRecDepth 100000 in
set_option maxHeartbeats 1000000 in
theorem c_X10_ruleO {n : Nat} {X : gX} {O : gO} {Q : gU} {G : gK} {S : gS} {L : gLg} (hM : 408 ≤ n) {T : Nat → Int32} {N i : Nat} (hN : N ≤ 400) (hb : ∀ j, tb8 (T j)) (h1 : X 1 0 1 = nI N) (hbt : X 1 1 = T) (h16 : X 0 0 16 = nI i) (hi : i < 6) (hn : n = 408 + 3 * i) {cl : List gCl} {m : Nat} (hok : rlR T N m (sk T N 0) 0 0 [] (.ok cl)) : SX 31 (0 + 3) (0 + (0 + 32 + (0 + (csteps cl).length) + 2)) mX10_rule [.ref 16] (xm n X O Q G S L) (fun v M' => v = some (.int (nI i)) ∧ ∃ X' f, M' = xm (n + 3) X' (va_up O i (some n)) (q_u Q i ((csteps cl).length, f)) (k_g G i (fun _ => 0)) S L ∧ (∀ r, r ≠ 0 → r ≠ 1 → r ≠ 6 → X' r = X r) ∧ X' 0 = j_f (X 0) 16 (nI (i + 1)) ∧ X' 1 0 1 = 0 ∧ X' 1 1 = T ∧ crel f (csteps cl).length cl ∧ (csteps cl).length ≤ 400) := by
  refine SX.intro [some (.ref 16), none] (by decide +kernel) (Nat.le_of_ble_eq_true rfl) rfl (fun E hE hQ => ?_)
  refine rx_aload_n hE dX10_rule_0 (i := 0) rfl rfl ?_
  refine rx_getf hE dX10_rule_1 fl_X10_99_9 (xa_0 hM) rfl ?_
  refine rx_int _ (nI i) h16 ?_
  refine rx_bipush hE dX10_rule_4 (v := 6) (by decide) ?_
  refine rx_icmp_lt (tgt := 11) hE dX10_rule_6 (by decide) (fun c6 => ?_) (fun c6 => absurd (nI_lt (a := i) (b := 6) hi (by decide)) c6)
  refine rx_aload_n hE dX10_rule_11 (i := 0) rfl rfl ?_
  refine rx_getf hE dX10_rule_12 fl_X10_43_9 (xa_0 hM) rfl ?_
  refine rx_call0 (rx_callV (av := []) hE dX10_rule_15 lk_X10_135 (c_X7_startOver hM) (xa_6 hM) np_X7_startOver rfl rfl (by decide) (Nat.le_of_ble_eq_true rfl) rfl ?_)
  rintro v M' ⟨rfl, rfl⟩
  refine rx_aload_n hE dX10_rule_18 (i := 0) rfl rfl ?_
  refine rx_getf hE dX10_rule_19 fl_X10_43_9 (xa_0 hM) rfl ?_
  refine rx_call0 (rx_callU (av := []) hE dX10_rule_22 lkU_10_138 (c_X9_readRules (X := (x_r X 6 (j_f (j_f (X 6) 2 0) 3 0))) hM hN hb h1 hbt rfl rfl) (xa_6 hM) rfl rfl (by decide) (Nat.le_of_ble_eq_true rfl) rfl ?_)
  rintro v M' ⟨X2, rfl, f2, hT2, hv⟩
  obtain ⟨rfl, h62, h61, hlen, hkc⟩ : v = some (.int 0) ∧ X2 6 0 2 = nI (csteps cl).length ∧ (∀ j x, (csteps cl)[j]? = some x → X2 6 1 j = x) ∧ (csteps cl).length < 400 ∧ ∀ q ∈ cl, kct q := by
    rcases hv with ⟨g, _, _, m', hm'⟩ | ⟨h0, cl', ⟨m', hm'⟩, h1', h2', h3', h4'⟩
    · exact absurd (rlR_det _ _ _ _ _ _ _ _ hok hm') (by simp)
    · have e := rlR_det _ _ _ _ _ _ _ _ hok hm'
      injection e with e
      subst e
      exact ⟨h0, h1', h2', h3', h4'⟩
  refine rx_istore_n_1 hE dX10_rule_25 (by decide) rfl ?_
  refine rx_aload_n hE dX10_rule_26 (i := 0) rfl rfl ?_
  refine rx_getf hE dX10_rule_27 fl_X10_10_9 (xa_0 hM) rfl ?_
  refine rx_iconst hE dX10_rule_30 (v := 0) (by decide) ?_
  refine rx_putN hE dX10_rule_31 fl_X10_110_8 fw_8_1 (xa_1 hM) (fun _ => rfl) (fun _ => rfl) (Nat.le_of_ble_eq_true rfl) ?_
  refine rx_mem (M' := xm n (x_r X2 1 (j_f (X2 1) 1 0)) O Q G S L) xw_1_f1 ?_
  refine rx_iload_n hE dX10_rule_34 (i := 1) rfl rfl ?_
  refine rx_if_eq (tgt := 43) hE dX10_rule_35 (by decide) (fun c35 => ?_) (fun c35 => absurd rfl c35)
  refine rx_aload_n hE dX10_rule_43 (i := 0) rfl rfl ?_
  refine rx_getf hE dX10_rule_44 fl_X10_49_9 (xa_0 hM) rfl ?_
  refine rx_aload_n hE dX10_rule_47 (i := 0) rfl rfl ?_
  refine rx_getf hE dX10_rule_48 fl_X10_99_9 (xa_0 hM) rfl ?_
  refine rx_int _ (nI i) ((congrFun (congrFun (f2 0 (by decide) (by decide)) 0) 16).trans h16) ?_
  refine rx_aload_n hE dX10_rule_51 (i := 0) rfl rfl ?_
  refine rx_getf hE dX10_rule_52 fl_X10_43_9 (xa_0 hM) rfl ?_
  refine rx_callV (av := []) hE dX10_rule_55 lk_X10_139 (c_X7_made (X := (x_r X2 1 (j_f (X2 1) 1 0))) hM hlen hn h62) (xa_6 hM) np_X7_made rfl rfl (by decide) (Nat.le_of_ble_eq_true rfl) rfl ?_
  rintro v M' ⟨rfl, rfl⟩
  have hav1 : g_at (xm (n + 3) (x_r X2 1 (j_f (X2 1) 1 0)) O (q_u Q i ((csteps cl).length, va_cpy (X2 6 1) (fun _ => 0) 0 0 (csteps cl).length)) (k_g G i (fun _ => 0)) S L) n (.inr (6, [.ref (n + 1), .ref (n + 2)])) := by
    rw [← rp_new, ← hn]
    exact rp_at (k := 0) ⟨by omega, by show n + 3 ≤ n + 3; omega⟩ (by decide)
  refine rx_aast (t := 4) (n := 6) hE (by decide) rfl rfl dX10_rule_58 (xa_7 (show 408 ≤ n + 3 by omega)) hav1 (vp_in_nI (show i < 6 from hi) (by decide)) ?_
  refine rx_mem (M' := xm (n + 3) (x_r X2 1 (j_f (X2 1) 1 0)) (va_up O i (some n)) (q_u Q i ((csteps cl).length, va_cpy (X2 6 1) (fun _ => 0) 0 0 (csteps cl).length)) (k_g G i (fun _ => 0)) S L) (by rw [nI_clamp (show i < 2 ^ 31 by omega), xw_7]; rfl) ?_
  refine rx_aload_n hE dX10_rule_59 (i := 0) rfl rfl ?_
  refine rx_dup hE dX10_rule_60 rfl ?_
  refine rx_getf hE dX10_rule_61 fl_X10_99_9 (xa_0 (show 408 ≤ n + 3 by omega)) rfl ?_
  refine rx_int _ (nI i) ((congrFun (congrFun (f2 0 (by decide) (by decide)) 0) 16).trans h16) ?_
  refine rx_iconst hE dX10_rule_64 (v := 1) (by decide) ?_
  refine rx_iadd hE dX10_rule_65 ?_
  refine rx_int _ (nI (i + 1)) (nI_1 i) ?_
  refine rx_put hE dX10_rule_66 fl_X10_99_9 fw_9_16 (xa_0 (show 408 ≤ n + 3 by omega)) (fun _ => rfl) (fun _ => rfl) (Nat.le_of_ble_eq_true rfl) ?_
  refine rx_mem (M' := xm (n + 3) (x_r (x_r X2 1 (j_f (X2 1) 1 0)) 0 (j_f (X2 0) 16 (nI (i + 1)))) (va_up O i (some n)) (q_u Q i ((csteps cl).length, va_cpy (X2 6 1) (fun _ => 0) 0 0 (csteps cl).length)) (k_g G i (fun _ => 0)) S L) xw_0_f16 ?_
  refine rx_aload_n hE dX10_rule_69 (i := 0) rfl rfl ?_
  refine rx_getf hE dX10_rule_70 fl_X10_99_9 (xa_0 (show 408 ≤ n + 3 by omega)) rfl ?_
  refine rx_int _ (nI (i + 1)) rfl ?_
  refine rx_iconst hE dX10_rule_73 (v := 1) (by decide) ?_
  refine rx_isub hE dX10_rule_74 ?_
  refine rx_int _ (nI i) (sA_eq i) ?_
  refine rx_iret hE hQ rfl dX10_rule_75 ⟨rfl, (x_r (x_r X2 1 (j_f (X2 1) 1 0)) 0 (j_f (X2 0) 16 (nI (i + 1)))), _, rfl, fun r a0 a1 a6 => by rw [x_r_ne _ _ a0, x_r_ne _ _ a1, f2 r a1 a6, x_r_ne _ _ a6], by rw [x_r_eq, f2 0 (by decide) (by decide), x_r_ne _ _ (by decide)], rfl, hT2, ⟨rfl, fun j x hj => ?_, hkc⟩, by omega⟩
  show (if 0 ≤ j ∧ j < 0 + (csteps cl).length then X2 6 1 (0 + (j - 0)) else 0) = x
  have hl := (List.getElem?_eq_some_iff.mp hj).1
  rw [if_pos ⟨by omega, by omega⟩, Nat.zero_add, Nat.sub_zero]
  exact h61 j x hj
