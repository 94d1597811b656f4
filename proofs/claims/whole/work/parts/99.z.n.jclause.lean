/-! ===== JunctionText.readClause ===== -/
theorem tno_lh {T : Nat → Int32} {N p a b : Nat} (ha : a < 2 ^ 31) (hb : b < 2 ^ 31) (h : tno T N p (nI a) (nI b)) : ∃ x, a ≤ x ∧ x ≤ b ∧ tv T N p = nI x := by
  obtain ⟨x, hx, e⟩ := num5 h.1 h.2.1
  obtain ⟨_, _, h3, h4⟩ := h
  rw [e] at h3 h4
  refine ⟨x, Classical.byContradiction (fun z => h3 ?_), (nI_leI (by omega) hb).mp h4, e⟩
  exact nI_lt (by omega) ha
theorem ok_i {α β : Type} {a : Nat} {b : β} {x : Except α (Nat × β)} {p1 : Nat} {J1 : β} (e : x = .ok (a, b)) (h : x = .ok (p1, J1)) : a = p1 ∧ b = J1 := by
  rw [e] at h
  injection h with h
  injection h with h1 h2
  exact ⟨h1, h2⟩
def jv (k : Nat) (J : gJn) : Prop := (∃ R, R ≤ 6 ∧ J 9 2 = nI R ∧ ∀ i, i < R → ∃ e, 0 < e ∧ e ≤ 12 ∧ J 1 i = nI e) ∧ (∀ i, i < 6 → jw 30 (J 0 i)) ∧ (∀ i, i < 6 → jw 11 (J 2 i)) ∧ (∀ r, 4 ≤ r → r ≤ 7 → J r = j_zero r) ∧ (∀ i, 3 ≤ i → J 9 i = j_zero 9 i) ∧ (¬ k = 0 → (∃ b, 0 < b ∧ b ≤ 12 ∧ J 9 0 = nI b) ∧ ∃ m, 0 < m ∧ m ≤ 9 ∧ J 9 1 = nI m)
theorem jv_zero : jv 0 j_zero := by
  refine ⟨⟨0, by decide, rfl, fun i h => absurd h (Nat.not_lt_zero i)⟩, fun i _ => ⟨0, by decide, rfl⟩, fun i _ => ⟨0, by decide, rfl⟩, fun _ _ _ => rfl, fun _ _ => rfl, fun h => absurd rfl h⟩
theorem jc_f {J : gJn} {k i : Nat} {v : Int32} (h : i ≠ k) : j_c J k v 9 i = J 9 i := by
  show upd (J 9) k v i = _
  exact if_neg h
theorem jc_e {J : gJn} {k : Nat} {v : Int32} : j_c J k v 9 k = v := by
  show upd (J 9) k v k = _
  exact if_pos rfl
theorem jc_r {J : gJn} {k r : Nat} {v : Int32} (h : r ≠ 9) : j_c J k v r = J r := if_neg h
theorem js_r {J : gJn} {f r : Nat} {v : Nat → Int32} (h : r ≠ f) : j_s J f v r = J r := if_neg h
theorem js_e {J : gJn} {f : Nat} {v : Nat → Int32} : j_s J f v f = v := if_pos rfl
theorem jv_step {T : Nat → Int32} {N w p k p1 : Nat} {J J1 : gJn} (hp : p ≤ N) (hw : w < 4) (hv : jv k J) (hm : ¬ jms k w J) (h : jcF T N w p J = .ok (p1, J1)) : jv (k + 1) J1 ∧ p ≤ p1 := by
  obtain ⟨⟨R, hR6, hR, hev⟩, h0, h2, h47, h9, hb⟩ := hv
  have n1 := nx_le (T := T) hp
  have n2 := nx_le (T := T) n1.2
  have n3 := nx_le (T := T) n2.2
  have hkw : k = 0 ↔ w = 0 := Classical.byContradiction (fun z => hm (Or.inr (Or.inr z)))
  unfold jcF at h
  rcases (show w = 0 ∨ w = 1 ∨ w = 2 ∨ w = 3 by omega) with rfl | rfl | rfl | rfl
  · rw [if_pos rfl] at h
    by_cases g0 : tno T N p 1 12
    rotate_left 1
    · rw [if_neg g0] at h; exact absurd h (by simp)
    rw [if_pos g0] at h
    by_cases g1 : tno T N (nx T N p) 1 9
    rotate_left 1
    · rw [if_neg g1] at h; exact absurd h (by simp)
    rw [if_pos g1] at h
    obtain ⟨rfl, rfl⟩ := ok_i rfl h
    obtain ⟨x, hx1, hx2, hx⟩ := tno_lh (a := 1) (b := 12) (by decide) (by decide) g0
    obtain ⟨y, hy1, hy2, hy⟩ := tno_lh (a := 1) (b := 9) (by decide) (by decide) g1
    refine ⟨⟨⟨R, hR6, ?_, hev⟩, h0, h2, fun r a b => ?_, fun i hi => ?_, fun _ => ⟨⟨x, by omega, hx2, ?_⟩, y, by omega, hy2, ?_⟩⟩, by omega⟩
    · rw [jc_f (by decide), jc_f (by decide)]; exact hR
    · rw [jc_r (by omega), jc_r (by omega)]; exact h47 r a b
    · rw [jc_f (by omega), jc_f (by omega)]; exact h9 i hi
    · rw [jc_f (by decide), jc_e]; exact hx
    · rw [jc_e]; exact hy
  · rw [if_neg (by decide), if_pos rfl] at h
    by_cases g0 : tno T N p 0 30
    rotate_left 1
    · rw [if_neg g0] at h; exact absurd h (by simp)
    rw [if_pos g0] at h
    by_cases g1 : tno T N (nx T N p) 1 12
    rotate_left 1
    · rw [if_neg g1] at h; exact absurd h (by simp)
    rw [if_pos g1] at h
    by_cases g2 : tno T N (nx T N (nx T N p)) 0 11
    rotate_left 1
    · rw [if_neg g2] at h; exact absurd h (by simp)
    rw [if_pos g2] at h
    obtain ⟨rfl, rfl⟩ := ok_i rfl h
    obtain ⟨x, hx1, hx2, hx⟩ := tno_lh (a := 0) (b := 30) (by decide) (by decide) g0
    obtain ⟨y, hy1, hy2, hy⟩ := tno_lh (a := 1) (b := 12) (by decide) (by decide) g1
    obtain ⟨z, hz1, hz2, hz⟩ := tno_lh (a := 0) (b := 11) (by decide) (by decide) g2
    have hRl : R < 6 := Classical.byContradiction (fun q => hm (Or.inr (Or.inl ⟨rfl, by rw [hR]; exact fun t => absurd t (Int32.not_lt.mpr (nI_le (a := 6) (b := R) (by omega) (by omega)))⟩)))
    have hjR : jR J = R := by unfold jR; rw [hR, nI_clamp (by omega)]
    refine ⟨⟨⟨R + 1, by omega, ?_, fun i hi => ?_⟩, fun i hi => ?_, fun i hi => ?_, fun r a b => ?_, fun i hi => ?_, fun _ => ?_⟩, by omega⟩
    · unfold jad; rw [jc_e, hjR]
    · unfold jad
      rw [jc_r (by decide), js_r (by decide), js_e, hjR]
      show ∃ e, 0 < e ∧ e ≤ 12 ∧ upd (J 1) R _ i = nI e
      unfold upd
      by_cases e : i = R
      · rw [if_pos e]; exact ⟨y, by omega, hy2, hy⟩
      · rw [if_neg e]; exact hev i (by omega)
    · unfold jad
      rw [jc_r (by decide), js_r (by decide), js_r (by decide), js_e]
      unfold upd
      split
      · exact ⟨x, hx2, hx⟩
      · exact h0 i hi
    · unfold jad
      rw [jc_r (by decide), js_e]
      show jw 11 (upd (J 2) _ _ i)
      unfold upd
      split
      · exact ⟨z, hz2, hz⟩
      · exact h2 i hi
    · unfold jad
      rw [jc_r (by omega), js_r (by omega), js_r (by omega), js_r (by omega)]
      exact h47 r a b
    · unfold jad
      rw [jc_f (by omega)]
      exact h9 i hi
    · have := hb (fun z => absurd (hkw.mp z) (by decide))
      unfold jad
      rw [jc_f (by decide), jc_f (by decide)]
      exact this
  · rw [if_neg (by decide), if_neg (by decide), if_pos rfl] at h
    by_cases g0 : tno T N p 0 (J 9 2 - 1)
    rotate_left 1
    · rw [if_neg g0] at h; exact absurd h (by simp)
    rw [if_pos g0] at h
    by_cases g1 : tno T N (nx T N p) 0 (J 9 2 - 1) ∧ ¬ tv T N (nx T N p) = tv T N p
    rotate_left 1
    · rw [if_neg g1] at h; exact absurd h (by simp)
    rw [if_pos g1] at h
    obtain ⟨rfl, rfl⟩ := ok_i rfl h
    exact ⟨⟨⟨R, hR6, hR, hev⟩, h0, h2, fun r a b => (js_r (by omega)).trans (h47 r a b), h9, fun _ => hb (fun z => absurd (hkw.mp z) (by decide))⟩, by omega⟩
  · rw [if_neg (by decide), if_neg (by decide), if_neg (by decide)] at h
    by_cases g0 : tno T N p 0 (J 9 0 - 1)
    rotate_left 1
    · rw [if_neg g0] at h; exact absurd h (by simp)
    rw [if_pos g0] at h
    by_cases g1 : tno T N (nx T N p) 0 (J 9 2 - 1)
    rotate_left 1
    · rw [if_neg g1] at h; exact absurd h (by simp)
    rw [if_pos g1] at h
    obtain ⟨rfl, rfl⟩ := ok_i rfl h
    exact ⟨⟨⟨R, hR6, hR, hev⟩, h0, h2, fun r a b => (js_r (by omega)).trans (h47 r a b), h9, fun _ => hb (fun z => absurd (hkw.mp z) (by decide))⟩, by omega⟩
def jrP (T : Nat → Int32) (N p k : Nat) (J : gJn) (X' : gX) : Prop := (wjN T N p = -1 ∧ cje X' T N (fE p 0)) ∨ ∃ w, w < 4 ∧ wjN T N p = nI w ∧ ((jms k w J ∧ cje X' T N (fE p 4)) ∨ (¬ jms k w J ∧ ((∃ g, jcF T N w (nx T N p) J = .error g ∧ cje X' T N g) ∨ ∃ p1 J1, jcF T N w (nx T N p) J = .ok (p1, J1) ∧ cj X' T N p1 J1)))
set_option maxRecDepth 100000 in
set_option maxHeartbeats 1000000 in
theorem c_X3_readClause {n : Nat} {X : gX} {O : gO} {Q : gU} {G : gK} {S : gS} {L : gLg} (hM : 408 ≤ n) {T : Nat → Int32} {N p : Nat} {J : gJn} (hN : N ≤ 400) (hq : cj X T N p J) {R k : Nat} (hR : J 9 2 = nI R) (hR6 : R ≤ 6) (hk : k ≤ 400) (hB : ¬ k = 0 → ∃ B, B ≤ 12 ∧ J 9 0 = nI B) : SX 5 0 0 mX3_readClause [.ref 49, .int (nI k)] (xm n X O Q G S L) (fun v M' => v = none ∧ ∃ X', M' = xm n X' O Q G S L ∧ xg X X' ∧ jrP T N p k J X') := by
  refine SX.intro [some (.ref 49), some (.int (nI k)), none, none, none] (by decide +kernel) (Nat.le_of_ble_eq_true rfl) rfl (fun E hE hQ => ?_)
  refine rx_aload_n hE dX3_readClause_0 (i := 0) rfl rfl ?_
  refine rx_getf hE dX3_readClause_1 fl_X3_15_3 (xa_5 hM) rfl ?_
  refine rx_ldcS hE 0 (by decide) dX3_readClause_4 rfl rfl ?_
  refine rx_call0 (rx_callV (av := [.ref 3]) hE dX3_readClause_6 lk_X3_21 (c_X8_wordJ hM hN hq.2.1 hq.1) (xa_1 hM) np_X8_wordOf rfl rfl (by decide) (Nat.le_of_ble_eq_true rfl) rfl ?_)
  rintro v M' ⟨rfl, rfl⟩
  refine rx_int _ (wjN T N p) rfl ?_
  rcases wj_is T N p with hw | ⟨w, hw4, hw⟩
  · refine rx_int _ (-1) hw ?_
    refine rx_istore_n_2 hE dX3_readClause_9 (by decide) rfl ?_
    refine rx_iload_n hE dX3_readClause_10 (i := 2) rfl rfl ?_
    refine rx_iconst hE dX3_readClause_11 (v := -1) (by decide) ?_
    refine rx_icmp_ne (tgt := 24) hE dX3_readClause_12 (by decide) (fun c12 => absurd rfl c12) (fun c12 => ?_)
    refine rx_aload_n hE dX3_readClause_15 (i := 0) rfl rfl ?_
    refine rx_getf hE dX3_readClause_16 fl_X3_15_3 (xa_5 hM) rfl ?_
    refine rx_iconst hE dX3_readClause_19 (v := 0) (by decide) ?_
    refine rx_call0 (rx_callV (av := [.int (nI 0)]) hE dX3_readClause_20 lk_X3_27 (c_X8_failJ (X := X) hM hN hq (w := 0) (by decide)) (xa_1 hM) np_X8_fail rfl rfl (by decide) (Nat.le_of_ble_eq_true rfl) rfl ?_)
    rintro v M' ⟨rfl, X', rfl, hf, hce, he⟩
    exact rx_vret hE hQ rfl dX3_readClause_23 ⟨rfl, X', rfl, hf, Or.inl ⟨hw, he⟩⟩
  · rcases (show w = 0 ∨ w = 1 ∨ w = 2 ∨ w = 3 by omega) with rfl | rfl | rfl | rfl
    · refine rx_int _ 0 hw ?_
      refine rx_istore_n_2 hE dX3_readClause_9 (by decide) rfl ?_
      refine rx_iload_n hE dX3_readClause_10 (i := 2) rfl rfl ?_
      refine rx_iconst hE dX3_readClause_11 (v := -1) (by decide) ?_
      refine rx_icmp_ne (tgt := 24) hE dX3_readClause_12 (by decide) (fun c12 => ?_) (fun c12 => absurd c12 (by decide))
      refine rx_iload_n hE dX3_readClause_24 (i := 1) rfl rfl ?_
      refine rx_if_ne (tgt := 32) hE dX3_readClause_25 (by decide) (fun c25 => ?_) (fun c25 => ?_)
      · have hk0 : ¬ k = 0 := fun z => c25 (by rw [z]; rfl)
        refine rx_iconst hE dX3_readClause_32 (v := 0) (by decide) ?_
        refine rx_istore_n_3 hE dX3_readClause_33 (by decide) rfl ?_
        refine rx_iload_n hE dX3_readClause_34 (i := 1) rfl rfl ?_
        refine rx_bipush hE dX3_readClause_35 (v := 40) (by decide) ?_
        refine rx_icmp_ge (tgt := 57) hE dX3_readClause_37 (by decide) (fun c37 => ?_) (fun c37 => ?_)
        · have hk40 : 40 ≤ k := (nI_leI (a := 40) (by decide) (by omega)).mp c37
          refine rx_iconst hE dX3_readClause_57 (v := 1) (by decide) ?_
          refine rx_goto (tgt := 62) hE dX3_readClause_58 (by decide) ?_
          refine rx_istore_4 hE dX3_readClause_62 (by decide) rfl ?_
          refine rx_iload hE dX3_readClause_64 rfl ?_
          refine rx_if_ne (tgt := 82) hE dX3_readClause_66 (by decide) (fun c66 => ?_) (fun c66 => absurd c66 (by decide))
          refine rx_aload_n hE dX3_readClause_82 (i := 0) rfl rfl ?_
          refine rx_getf hE dX3_readClause_83 fl_X3_15_3 (xa_5 hM) rfl ?_
          refine rx_iconst hE dX3_readClause_86 (v := 4) (by decide) ?_
          refine rx_call0 (rx_callV (av := [.int (nI 4)]) hE dX3_readClause_87 lk_X3_27 (c_X8_failJ (X := X) hM hN hq (w := 4) (by decide)) (xa_1 hM) np_X8_fail rfl rfl (by decide) (Nat.le_of_ble_eq_true rfl) rfl ?_)
          rintro v M' ⟨rfl, X', rfl, hf, hce, he⟩
          exact rx_vret hE hQ rfl dX3_readClause_90 ⟨rfl, X', rfl, hf, Or.inr ⟨0, by decide, hw, Or.inl ⟨(Or.inl hk40), he⟩⟩⟩
        · have hk40 : ¬ 40 ≤ k := fun z => c37 (nI_le (a := 40) (b := k) z (by omega))
          refine rx_iload_n hE dX3_readClause_40 (i := 2) rfl rfl ?_
          refine rx_iconst hE dX3_readClause_41 (v := 1) (by decide) ?_
          refine rx_icmp_ne (tgt := 61) hE dX3_readClause_42 (by decide) (fun c42 => ?_) (fun c42 => absurd c42 (by decide))
          refine rx_iconst hE dX3_readClause_61 (v := 0) (by decide) ?_
          refine rx_istore_4 hE dX3_readClause_62 (by decide) rfl ?_
          refine rx_iload hE dX3_readClause_64 rfl ?_
          refine rx_if_ne (tgt := 82) hE dX3_readClause_66 (by decide) (fun c66 => absurd rfl c66) (fun c66 => ?_)
          refine rx_iload_n hE dX3_readClause_69 (i := 3) rfl rfl ?_
          refine rx_iload_n hE dX3_readClause_70 (i := 2) rfl rfl ?_
          refine rx_if_ne (tgt := 78) hE dX3_readClause_71 (by decide) (fun c71 => absurd rfl c71) (fun c71 => ?_)
          refine rx_iconst hE dX3_readClause_74 (v := 1) (by decide) ?_
          refine rx_goto (tgt := 79) hE dX3_readClause_75 (by decide) ?_
          refine rx_icmp_eq (tgt := 91) hE dX3_readClause_79 (by decide) (fun c79 => absurd c79 (by decide)) (fun c79 => ?_)
          refine rx_aload_n hE dX3_readClause_82 (i := 0) rfl rfl ?_
          refine rx_getf hE dX3_readClause_83 fl_X3_15_3 (xa_5 hM) rfl ?_
          refine rx_iconst hE dX3_readClause_86 (v := 4) (by decide) ?_
          refine rx_call0 (rx_callV (av := [.int (nI 4)]) hE dX3_readClause_87 lk_X3_27 (c_X8_failJ (X := X) hM hN hq (w := 4) (by decide)) (xa_1 hM) np_X8_fail rfl rfl (by decide) (Nat.le_of_ble_eq_true rfl) rfl ?_)
          rintro v M' ⟨rfl, X', rfl, hf, hce, he⟩
          exact rx_vret hE hQ rfl dX3_readClause_90 ⟨rfl, X', rfl, hf, Or.inr ⟨0, by decide, hw, Or.inl ⟨(Or.inr (Or.inr (fun z => hk0 (z.mpr rfl)))), he⟩⟩⟩
      · have hk0 : k = 0 := nI_inj (by omega) (by decide) c25
        refine rx_iconst hE dX3_readClause_28 (v := 1) (by decide) ?_
        refine rx_goto (tgt := 33) hE dX3_readClause_29 (by decide) ?_
        refine rx_istore_n_3 hE dX3_readClause_33 (by decide) rfl ?_
        refine rx_iload_n hE dX3_readClause_34 (i := 1) rfl rfl ?_
        refine rx_bipush hE dX3_readClause_35 (v := 40) (by decide) ?_
        refine rx_icmp_ge (tgt := 57) hE dX3_readClause_37 (by decide) (fun c37 => ?_) (fun c37 => ?_)
        · have hk40 : 40 ≤ k := (nI_leI (a := 40) (by decide) (by omega)).mp c37
          refine rx_iconst hE dX3_readClause_57 (v := 1) (by decide) ?_
          refine rx_goto (tgt := 62) hE dX3_readClause_58 (by decide) ?_
          refine rx_istore_4 hE dX3_readClause_62 (by decide) rfl ?_
          refine rx_iload hE dX3_readClause_64 rfl ?_
          refine rx_if_ne (tgt := 82) hE dX3_readClause_66 (by decide) (fun c66 => ?_) (fun c66 => absurd c66 (by decide))
          refine rx_aload_n hE dX3_readClause_82 (i := 0) rfl rfl ?_
          refine rx_getf hE dX3_readClause_83 fl_X3_15_3 (xa_5 hM) rfl ?_
          refine rx_iconst hE dX3_readClause_86 (v := 4) (by decide) ?_
          refine rx_call0 (rx_callV (av := [.int (nI 4)]) hE dX3_readClause_87 lk_X3_27 (c_X8_failJ (X := X) hM hN hq (w := 4) (by decide)) (xa_1 hM) np_X8_fail rfl rfl (by decide) (Nat.le_of_ble_eq_true rfl) rfl ?_)
          rintro v M' ⟨rfl, X', rfl, hf, hce, he⟩
          exact rx_vret hE hQ rfl dX3_readClause_90 ⟨rfl, X', rfl, hf, Or.inr ⟨0, by decide, hw, Or.inl ⟨(Or.inl hk40), he⟩⟩⟩
        · have hk40 : ¬ 40 ≤ k := fun z => c37 (nI_le (a := 40) (b := k) z (by omega))
          refine rx_iload_n hE dX3_readClause_40 (i := 2) rfl rfl ?_
          refine rx_iconst hE dX3_readClause_41 (v := 1) (by decide) ?_
          refine rx_icmp_ne (tgt := 61) hE dX3_readClause_42 (by decide) (fun c42 => ?_) (fun c42 => absurd c42 (by decide))
          refine rx_iconst hE dX3_readClause_61 (v := 0) (by decide) ?_
          refine rx_istore_4 hE dX3_readClause_62 (by decide) rfl ?_
          refine rx_iload hE dX3_readClause_64 rfl ?_
          refine rx_if_ne (tgt := 82) hE dX3_readClause_66 (by decide) (fun c66 => absurd rfl c66) (fun c66 => ?_)
          refine rx_iload_n hE dX3_readClause_69 (i := 3) rfl rfl ?_
          refine rx_iload_n hE dX3_readClause_70 (i := 2) rfl rfl ?_
          refine rx_if_ne (tgt := 78) hE dX3_readClause_71 (by decide) (fun c71 => absurd rfl c71) (fun c71 => ?_)
          refine rx_iconst hE dX3_readClause_74 (v := 1) (by decide) ?_
          refine rx_goto (tgt := 79) hE dX3_readClause_75 (by decide) ?_
          refine rx_icmp_eq (tgt := 91) hE dX3_readClause_79 (by decide) (fun c79 => ?_) (fun c79 => absurd rfl c79)
          refine rx_aload_n hE dX3_readClause_91 (i := 0) rfl rfl ?_
          refine rx_getf hE dX3_readClause_92 fl_X3_15_3 (xa_5 hM) rfl ?_
          have hms : ¬ jms k 0 J := fun z => z.elim (fun z => hk40 z) (fun z => z.elim (fun z => absurd z.1 (by decide)) (fun z => z ⟨fun _ => rfl, fun _ => hk0⟩))
          refine rx_call0 (rx_callV (av := []) hE dX3_readClause_95 lk_X3_37 (c_X8_nextJ (X := X) hM hN hq) (xa_1 hM) np_X8_next rfl rfl (by decide) (Nat.le_of_ble_eq_true rfl) rfl ?_)
          rintro v M' ⟨rfl, X2, rfl, f2, q2⟩
          refine rx_iload_n hE dX3_readClause_98 (i := 2) rfl rfl ?_
          refine rx_if_ne (tgt := 139) hE dX3_readClause_99 (by decide) (fun c99 => absurd rfl c99) (fun c99 => ?_)
          refine rx_aload_n hE dX3_readClause_102 (i := 0) rfl rfl ?_
          refine rx_getf hE dX3_readClause_103 fl_X3_9_3 (xa_5 hM) rfl ?_
          refine rx_aload_n hE dX3_readClause_106 (i := 0) rfl rfl ?_
          refine rx_getf hE dX3_readClause_107 fl_X3_15_3 (xa_5 hM) rfl ?_
          refine rx_iconst hE dX3_readClause_110 (v := 1) (by decide) ?_
          refine rx_bipush hE dX3_readClause_111 (v := 12) (by decide) ?_
          refine rx_call0 (rx_callV (av := [.int 1, .int 12]) hE dX3_readClause_113 lk_X3_41 (c_X8_numQ (X := X2) hM hN q2 1 12) (xa_1 hM) np_X8_takeNumber rfl rfl (by decide) (Nat.le_of_ble_eq_true rfl) rfl ?_)
          rintro v M' ⟨X3, rfl, f3, _, hv⟩
          rcases hv with ⟨hg3, rfl, q3⟩ | ⟨hg3, rfl, hce, hje⟩
          · skip
            refine rx_putN hE dX3_readClause_116 fl_X3_45_2 fw_2_9 (xa_j xJ_4 hM) (fun _ => rfl) (fun _ => rfl) (Nat.le_of_ble_eq_true rfl) ?_
            refine rx_mem (M' := xm n (x_r X3 4 (j_c J 0 (tv T N (nx T N p)))) O Q G S L) ((xw_jc0 xJ_4).trans (by rw [q3.2.2])) ?_
            have q4 : cj (x_r X3 4 (j_c J 0 (tv T N (nx T N p)))) T N (nx T N (nx T N p)) (j_c J 0 (tv T N (nx T N p))) := ⟨q3.1, q3.2.1, x_r_eq _ _ _⟩
            refine rx_aload_n hE dX3_readClause_119 (i := 0) rfl rfl ?_
            refine rx_getf hE dX3_readClause_120 fl_X3_9_3 (xa_5 hM) rfl ?_
            refine rx_aload_n hE dX3_readClause_123 (i := 0) rfl rfl ?_
            refine rx_getf hE dX3_readClause_124 fl_X3_15_3 (xa_5 hM) rfl ?_
            refine rx_iconst hE dX3_readClause_127 (v := 1) (by decide) ?_
            refine rx_bipush hE dX3_readClause_128 (v := 9) (by decide) ?_
            refine rx_call0 (rx_callV (av := [.int 1, .int 9]) hE dX3_readClause_130 lk_X3_41 (c_X8_numQ (X := (x_r X3 4 (j_c J 0 (tv T N (nx T N p))))) hM hN q4 1 9) (xa_1 hM) np_X8_takeNumber rfl rfl (by decide) (Nat.le_of_ble_eq_true rfl) rfl ?_)
            rintro v M' ⟨X5, rfl, f5, _, hv⟩
            rcases hv with ⟨hg5, rfl, q5⟩ | ⟨hg5, rfl, hce, hje⟩
            · skip
              refine rx_putN hE dX3_readClause_133 fl_X3_48_2 fw_2_10 (xa_j xJ_4 hM) (fun _ => rfl) (fun _ => rfl) (Nat.le_of_ble_eq_true rfl) ?_
              refine rx_mem (M' := xm n (x_r X5 4 (j_c (j_c J 0 (tv T N (nx T N p))) 1 (tv T N (nx T N (nx T N p))))) O Q G S L) ((xw_jc1 xJ_4).trans (by rw [q5.2.2])) ?_
              refine rx_goto (tgt := 167) hE dX3_readClause_136 (by decide) ?_
              exact rx_vret hE hQ rfl dX3_readClause_167 ⟨rfl, (x_r X5 4 (j_c (j_c J 0 (tv T N (nx T N p))) 1 (tv T N (nx T N (nx T N p))))), rfl, f2.trans (f3.trans ((xg.r4 X3 _).trans (f5.trans (xg.r4 X5 _)))), Or.inr ⟨0, by decide, hw, Or.inr ⟨hms, Or.inr ⟨_, (j_c (j_c J 0 (tv T N (nx T N p))) 1 (tv T N (nx T N (nx T N p)))), (by unfold jcF; rw [if_pos rfl, if_pos hg3, if_pos hg5]), q5.1, q5.2.1, x_r_eq _ _ _⟩⟩⟩⟩
            · have hpe := q4.2.1
              refine rx_putN hE dX3_readClause_133 fl_X3_48_2 fw_2_10 (xa_j xJ_4 hM) (fun _ => rfl) (fun _ => rfl) (Nat.le_of_ble_eq_true rfl) ?_
              refine rx_mem (xw_jc1 xJ_4) ?_
              refine rx_goto (tgt := 167) hE dX3_readClause_136 (by decide) ?_
              exact rx_vret hE hQ rfl dX3_readClause_167 ⟨rfl, _, rfl, f2.trans (f3.trans ((xg.r4 X3 _).trans (f5.trans (xg.r4 X5 _)))), Or.inr ⟨0, by decide, hw, Or.inr ⟨hms, Or.inl ⟨_, (by unfold jcF; rw [if_pos rfl, if_pos hg3, if_neg hg5]), hje.1, _, hpe, hce⟩⟩⟩⟩
          · have hpe := q2.2.1
            refine rx_putN hE dX3_readClause_116 fl_X3_45_2 fw_2_9 (xa_j xJ_4 hM) (fun _ => rfl) (fun _ => rfl) (Nat.le_of_ble_eq_true rfl) ?_
            refine rx_mem (xw_jc0 xJ_4) ?_
            refine rx_aload_n hE dX3_readClause_119 (i := 0) rfl rfl ?_
            refine rx_getf hE dX3_readClause_120 fl_X3_9_3 (xa_5 hM) rfl ?_
            refine rx_aload_n hE dX3_readClause_123 (i := 0) rfl rfl ?_
            refine rx_getf hE dX3_readClause_124 fl_X3_15_3 (xa_5 hM) rfl ?_
            refine rx_iconst hE dX3_readClause_127 (v := 1) (by decide) ?_
            refine rx_bipush hE dX3_readClause_128 (v := 9) (by decide) ?_
            refine rx_call0 (rx_callV (av := [.int 1, .int 9]) hE dX3_readClause_130 lk_X3_41 (c_X8_numE (X := (x_r X3 4 (j_c (X3 4) 0 0))) hM hN hpe hje.1 hce 1 9) (xa_1 hM) np_X8_takeNumber rfl rfl (by decide) (Nat.le_of_ble_eq_true rfl) rfl ?_)
            rintro v M' ⟨rfl, XE, rfl, fE_, hce⟩
            refine rx_putN hE dX3_readClause_133 fl_X3_48_2 fw_2_10 (xa_j xJ_4 hM) (fun _ => rfl) (fun _ => rfl) (Nat.le_of_ble_eq_true rfl) ?_
            refine rx_mem (xw_jc1 xJ_4) ?_
            refine rx_goto (tgt := 167) hE dX3_readClause_136 (by decide) ?_
            exact rx_vret hE hQ rfl dX3_readClause_167 ⟨rfl, _, rfl, f2.trans (f3.trans ((xg.r4 X3 _).trans (fE_.trans (xg.r4 XE _)))), Or.inr ⟨0, by decide, hw, Or.inr ⟨hms, Or.inl ⟨_, (by unfold jcF; rw [if_pos rfl, if_neg hg3]), hje.1, _, hpe, hce⟩⟩⟩⟩
    · refine rx_int _ 1 hw ?_
      refine rx_istore_n_2 hE dX3_readClause_9 (by decide) rfl ?_
      refine rx_iload_n hE dX3_readClause_10 (i := 2) rfl rfl ?_
      refine rx_iconst hE dX3_readClause_11 (v := -1) (by decide) ?_
      refine rx_icmp_ne (tgt := 24) hE dX3_readClause_12 (by decide) (fun c12 => ?_) (fun c12 => absurd c12 (by decide))
      refine rx_iload_n hE dX3_readClause_24 (i := 1) rfl rfl ?_
      refine rx_if_ne (tgt := 32) hE dX3_readClause_25 (by decide) (fun c25 => ?_) (fun c25 => ?_)
      · have hk0 : ¬ k = 0 := fun z => c25 (by rw [z]; rfl)
        refine rx_iconst hE dX3_readClause_32 (v := 0) (by decide) ?_
        refine rx_istore_n_3 hE dX3_readClause_33 (by decide) rfl ?_
        refine rx_iload_n hE dX3_readClause_34 (i := 1) rfl rfl ?_
        refine rx_bipush hE dX3_readClause_35 (v := 40) (by decide) ?_
        refine rx_icmp_ge (tgt := 57) hE dX3_readClause_37 (by decide) (fun c37 => ?_) (fun c37 => ?_)
        · have hk40 : 40 ≤ k := (nI_leI (a := 40) (by decide) (by omega)).mp c37
          refine rx_iconst hE dX3_readClause_57 (v := 1) (by decide) ?_
          refine rx_goto (tgt := 62) hE dX3_readClause_58 (by decide) ?_
          refine rx_istore_4 hE dX3_readClause_62 (by decide) rfl ?_
          refine rx_iload hE dX3_readClause_64 rfl ?_
          refine rx_if_ne (tgt := 82) hE dX3_readClause_66 (by decide) (fun c66 => ?_) (fun c66 => absurd c66 (by decide))
          refine rx_aload_n hE dX3_readClause_82 (i := 0) rfl rfl ?_
          refine rx_getf hE dX3_readClause_83 fl_X3_15_3 (xa_5 hM) rfl ?_
          refine rx_iconst hE dX3_readClause_86 (v := 4) (by decide) ?_
          refine rx_call0 (rx_callV (av := [.int (nI 4)]) hE dX3_readClause_87 lk_X3_27 (c_X8_failJ (X := X) hM hN hq (w := 4) (by decide)) (xa_1 hM) np_X8_fail rfl rfl (by decide) (Nat.le_of_ble_eq_true rfl) rfl ?_)
          rintro v M' ⟨rfl, X', rfl, hf, hce, he⟩
          exact rx_vret hE hQ rfl dX3_readClause_90 ⟨rfl, X', rfl, hf, Or.inr ⟨1, by decide, hw, Or.inl ⟨(Or.inl hk40), he⟩⟩⟩
        · have hk40 : ¬ 40 ≤ k := fun z => c37 (nI_le (a := 40) (b := k) z (by omega))
          refine rx_iload_n hE dX3_readClause_40 (i := 2) rfl rfl ?_
          refine rx_iconst hE dX3_readClause_41 (v := 1) (by decide) ?_
          refine rx_icmp_ne (tgt := 61) hE dX3_readClause_42 (by decide) (fun c42 => absurd rfl c42) (fun c42 => ?_)
          refine rx_aload_n hE dX3_readClause_45 (i := 0) rfl rfl ?_
          refine rx_getf hE dX3_readClause_46 fl_X3_9_3 (xa_5 hM) rfl ?_
          refine rx_getfN hE dX3_readClause_49 fl_X3_31_2 (xa_j xJ_4 hM) rfl ?_
          refine rx_int _ (J 9 2) (by rw [hq.2.2]) ?_
          refine rx_bipush hE dX3_readClause_52 (v := 6) (by decide) ?_
          refine rx_icmp_lt (tgt := 61) hE dX3_readClause_54 (by decide) (fun c54 => ?_) (fun c54 => ?_)
          · have hR6y : J 9 2 < 6 := c54
            refine rx_iconst hE dX3_readClause_61 (v := 0) (by decide) ?_
            refine rx_istore_4 hE dX3_readClause_62 (by decide) rfl ?_
            refine rx_iload hE dX3_readClause_64 rfl ?_
            refine rx_if_ne (tgt := 82) hE dX3_readClause_66 (by decide) (fun c66 => absurd rfl c66) (fun c66 => ?_)
            refine rx_iload_n hE dX3_readClause_69 (i := 3) rfl rfl ?_
            refine rx_iload_n hE dX3_readClause_70 (i := 2) rfl rfl ?_
            refine rx_if_ne (tgt := 78) hE dX3_readClause_71 (by decide) (fun c71 => ?_) (fun c71 => absurd c71 (by decide))
            refine rx_iconst hE dX3_readClause_78 (v := 0) (by decide) ?_
            refine rx_icmp_eq (tgt := 91) hE dX3_readClause_79 (by decide) (fun c79 => ?_) (fun c79 => absurd rfl c79)
            refine rx_aload_n hE dX3_readClause_91 (i := 0) rfl rfl ?_
            refine rx_getf hE dX3_readClause_92 fl_X3_15_3 (xa_5 hM) rfl ?_
            have hms : ¬ jms k 1 J := fun z => z.elim (fun z => hk40 z) (fun z => z.elim (fun z => z.2 hR6y) (fun z => z ⟨fun y => absurd y hk0, fun y => absurd y (by decide)⟩))
            refine rx_call0 (rx_callV (av := []) hE dX3_readClause_95 lk_X3_37 (c_X8_nextJ (X := X) hM hN hq) (xa_1 hM) np_X8_next rfl rfl (by decide) (Nat.le_of_ble_eq_true rfl) rfl ?_)
            rintro v M' ⟨rfl, X2, rfl, f2, q2⟩
            refine rx_iload_n hE dX3_readClause_98 (i := 2) rfl rfl ?_
            refine rx_if_ne (tgt := 139) hE dX3_readClause_99 (by decide) (fun c99 => ?_) (fun c99 => absurd c99 (by decide))
            refine rx_iload_n hE dX3_readClause_139 (i := 2) rfl rfl ?_
            refine rx_iconst hE dX3_readClause_140 (v := 1) (by decide) ?_
            refine rx_icmp_ne (tgt := 151) hE dX3_readClause_141 (by decide) (fun c141 => absurd rfl c141) (fun c141 => ?_)
            refine rx_aload_n hE dX3_readClause_144 (i := 0) rfl rfl ?_
            refine rx_call0 (rx_callV (av := []) hE dX3_readClause_145 lk_X3_51 (c_X3_readRoad (X := X2) hM hN q2 hR (by rw [hR] at hR6y; exact (nI_ltI (b := 6) (by omega) (by decide)).mp hR6y)) (xa_5 hM) np_X3_readRoad rfl rfl (by decide) (Nat.le_of_ble_eq_true rfl) rfl ?_)
            rintro v M' ⟨rfl, X3, rfl, f3, hv⟩
            refine rx_goto (tgt := 167) hE dX3_readClause_148 (by decide) ?_
            exact rx_vret hE hQ rfl dX3_readClause_167 ⟨rfl, X3, rfl, f2.trans f3, Or.inr ⟨1, by decide, hw, Or.inr ⟨hms, hv⟩⟩⟩
          · have hR6n : ¬ J 9 2 < 6 := c54
            refine rx_iconst hE dX3_readClause_57 (v := 1) (by decide) ?_
            refine rx_goto (tgt := 62) hE dX3_readClause_58 (by decide) ?_
            refine rx_istore_4 hE dX3_readClause_62 (by decide) rfl ?_
            refine rx_iload hE dX3_readClause_64 rfl ?_
            refine rx_if_ne (tgt := 82) hE dX3_readClause_66 (by decide) (fun c66 => ?_) (fun c66 => absurd c66 (by decide))
            refine rx_aload_n hE dX3_readClause_82 (i := 0) rfl rfl ?_
            refine rx_getf hE dX3_readClause_83 fl_X3_15_3 (xa_5 hM) rfl ?_
            refine rx_iconst hE dX3_readClause_86 (v := 4) (by decide) ?_
            refine rx_call0 (rx_callV (av := [.int (nI 4)]) hE dX3_readClause_87 lk_X3_27 (c_X8_failJ (X := X) hM hN hq (w := 4) (by decide)) (xa_1 hM) np_X8_fail rfl rfl (by decide) (Nat.le_of_ble_eq_true rfl) rfl ?_)
            rintro v M' ⟨rfl, X', rfl, hf, hce, he⟩
            exact rx_vret hE hQ rfl dX3_readClause_90 ⟨rfl, X', rfl, hf, Or.inr ⟨1, by decide, hw, Or.inl ⟨(Or.inr (Or.inl ⟨rfl, hR6n⟩)), he⟩⟩⟩
      · have hk0 : k = 0 := nI_inj (by omega) (by decide) c25
        refine rx_iconst hE dX3_readClause_28 (v := 1) (by decide) ?_
        refine rx_goto (tgt := 33) hE dX3_readClause_29 (by decide) ?_
        refine rx_istore_n_3 hE dX3_readClause_33 (by decide) rfl ?_
        refine rx_iload_n hE dX3_readClause_34 (i := 1) rfl rfl ?_
        refine rx_bipush hE dX3_readClause_35 (v := 40) (by decide) ?_
        refine rx_icmp_ge (tgt := 57) hE dX3_readClause_37 (by decide) (fun c37 => ?_) (fun c37 => ?_)
        · have hk40 : 40 ≤ k := (nI_leI (a := 40) (by decide) (by omega)).mp c37
          refine rx_iconst hE dX3_readClause_57 (v := 1) (by decide) ?_
          refine rx_goto (tgt := 62) hE dX3_readClause_58 (by decide) ?_
          refine rx_istore_4 hE dX3_readClause_62 (by decide) rfl ?_
          refine rx_iload hE dX3_readClause_64 rfl ?_
          refine rx_if_ne (tgt := 82) hE dX3_readClause_66 (by decide) (fun c66 => ?_) (fun c66 => absurd c66 (by decide))
          refine rx_aload_n hE dX3_readClause_82 (i := 0) rfl rfl ?_
          refine rx_getf hE dX3_readClause_83 fl_X3_15_3 (xa_5 hM) rfl ?_
          refine rx_iconst hE dX3_readClause_86 (v := 4) (by decide) ?_
          refine rx_call0 (rx_callV (av := [.int (nI 4)]) hE dX3_readClause_87 lk_X3_27 (c_X8_failJ (X := X) hM hN hq (w := 4) (by decide)) (xa_1 hM) np_X8_fail rfl rfl (by decide) (Nat.le_of_ble_eq_true rfl) rfl ?_)
          rintro v M' ⟨rfl, X', rfl, hf, hce, he⟩
          exact rx_vret hE hQ rfl dX3_readClause_90 ⟨rfl, X', rfl, hf, Or.inr ⟨1, by decide, hw, Or.inl ⟨(Or.inl hk40), he⟩⟩⟩
        · have hk40 : ¬ 40 ≤ k := fun z => c37 (nI_le (a := 40) (b := k) z (by omega))
          refine rx_iload_n hE dX3_readClause_40 (i := 2) rfl rfl ?_
          refine rx_iconst hE dX3_readClause_41 (v := 1) (by decide) ?_
          refine rx_icmp_ne (tgt := 61) hE dX3_readClause_42 (by decide) (fun c42 => absurd rfl c42) (fun c42 => ?_)
          refine rx_aload_n hE dX3_readClause_45 (i := 0) rfl rfl ?_
          refine rx_getf hE dX3_readClause_46 fl_X3_9_3 (xa_5 hM) rfl ?_
          refine rx_getfN hE dX3_readClause_49 fl_X3_31_2 (xa_j xJ_4 hM) rfl ?_
          refine rx_int _ (J 9 2) (by rw [hq.2.2]) ?_
          refine rx_bipush hE dX3_readClause_52 (v := 6) (by decide) ?_
          refine rx_icmp_lt (tgt := 61) hE dX3_readClause_54 (by decide) (fun c54 => ?_) (fun c54 => ?_)
          · have hR6y : J 9 2 < 6 := c54
            refine rx_iconst hE dX3_readClause_61 (v := 0) (by decide) ?_
            refine rx_istore_4 hE dX3_readClause_62 (by decide) rfl ?_
            refine rx_iload hE dX3_readClause_64 rfl ?_
            refine rx_if_ne (tgt := 82) hE dX3_readClause_66 (by decide) (fun c66 => absurd rfl c66) (fun c66 => ?_)
            refine rx_iload_n hE dX3_readClause_69 (i := 3) rfl rfl ?_
            refine rx_iload_n hE dX3_readClause_70 (i := 2) rfl rfl ?_
            refine rx_if_ne (tgt := 78) hE dX3_readClause_71 (by decide) (fun c71 => ?_) (fun c71 => absurd c71 (by decide))
            refine rx_iconst hE dX3_readClause_78 (v := 0) (by decide) ?_
            refine rx_icmp_eq (tgt := 91) hE dX3_readClause_79 (by decide) (fun c79 => absurd c79 (by decide)) (fun c79 => ?_)
            refine rx_aload_n hE dX3_readClause_82 (i := 0) rfl rfl ?_
            refine rx_getf hE dX3_readClause_83 fl_X3_15_3 (xa_5 hM) rfl ?_
            refine rx_iconst hE dX3_readClause_86 (v := 4) (by decide) ?_
            refine rx_call0 (rx_callV (av := [.int (nI 4)]) hE dX3_readClause_87 lk_X3_27 (c_X8_failJ (X := X) hM hN hq (w := 4) (by decide)) (xa_1 hM) np_X8_fail rfl rfl (by decide) (Nat.le_of_ble_eq_true rfl) rfl ?_)
            rintro v M' ⟨rfl, X', rfl, hf, hce, he⟩
            exact rx_vret hE hQ rfl dX3_readClause_90 ⟨rfl, X', rfl, hf, Or.inr ⟨1, by decide, hw, Or.inl ⟨(Or.inr (Or.inr (fun z => absurd (z.mp hk0) (by decide)))), he⟩⟩⟩
          · have hR6n : ¬ J 9 2 < 6 := c54
            refine rx_iconst hE dX3_readClause_57 (v := 1) (by decide) ?_
            refine rx_goto (tgt := 62) hE dX3_readClause_58 (by decide) ?_
            refine rx_istore_4 hE dX3_readClause_62 (by decide) rfl ?_
            refine rx_iload hE dX3_readClause_64 rfl ?_
            refine rx_if_ne (tgt := 82) hE dX3_readClause_66 (by decide) (fun c66 => ?_) (fun c66 => absurd c66 (by decide))
            refine rx_aload_n hE dX3_readClause_82 (i := 0) rfl rfl ?_
            refine rx_getf hE dX3_readClause_83 fl_X3_15_3 (xa_5 hM) rfl ?_
            refine rx_iconst hE dX3_readClause_86 (v := 4) (by decide) ?_
            refine rx_call0 (rx_callV (av := [.int (nI 4)]) hE dX3_readClause_87 lk_X3_27 (c_X8_failJ (X := X) hM hN hq (w := 4) (by decide)) (xa_1 hM) np_X8_fail rfl rfl (by decide) (Nat.le_of_ble_eq_true rfl) rfl ?_)
            rintro v M' ⟨rfl, X', rfl, hf, hce, he⟩
            exact rx_vret hE hQ rfl dX3_readClause_90 ⟨rfl, X', rfl, hf, Or.inr ⟨1, by decide, hw, Or.inl ⟨(Or.inr (Or.inl ⟨rfl, hR6n⟩)), he⟩⟩⟩
    · refine rx_int _ 2 hw ?_
      refine rx_istore_n_2 hE dX3_readClause_9 (by decide) rfl ?_
      refine rx_iload_n hE dX3_readClause_10 (i := 2) rfl rfl ?_
      refine rx_iconst hE dX3_readClause_11 (v := -1) (by decide) ?_
      refine rx_icmp_ne (tgt := 24) hE dX3_readClause_12 (by decide) (fun c12 => ?_) (fun c12 => absurd c12 (by decide))
      refine rx_iload_n hE dX3_readClause_24 (i := 1) rfl rfl ?_
      refine rx_if_ne (tgt := 32) hE dX3_readClause_25 (by decide) (fun c25 => ?_) (fun c25 => ?_)
      · have hk0 : ¬ k = 0 := fun z => c25 (by rw [z]; rfl)
        refine rx_iconst hE dX3_readClause_32 (v := 0) (by decide) ?_
        refine rx_istore_n_3 hE dX3_readClause_33 (by decide) rfl ?_
        refine rx_iload_n hE dX3_readClause_34 (i := 1) rfl rfl ?_
        refine rx_bipush hE dX3_readClause_35 (v := 40) (by decide) ?_
        refine rx_icmp_ge (tgt := 57) hE dX3_readClause_37 (by decide) (fun c37 => ?_) (fun c37 => ?_)
        · have hk40 : 40 ≤ k := (nI_leI (a := 40) (by decide) (by omega)).mp c37
          refine rx_iconst hE dX3_readClause_57 (v := 1) (by decide) ?_
          refine rx_goto (tgt := 62) hE dX3_readClause_58 (by decide) ?_
          refine rx_istore_4 hE dX3_readClause_62 (by decide) rfl ?_
          refine rx_iload hE dX3_readClause_64 rfl ?_
          refine rx_if_ne (tgt := 82) hE dX3_readClause_66 (by decide) (fun c66 => ?_) (fun c66 => absurd c66 (by decide))
          refine rx_aload_n hE dX3_readClause_82 (i := 0) rfl rfl ?_
          refine rx_getf hE dX3_readClause_83 fl_X3_15_3 (xa_5 hM) rfl ?_
          refine rx_iconst hE dX3_readClause_86 (v := 4) (by decide) ?_
          refine rx_call0 (rx_callV (av := [.int (nI 4)]) hE dX3_readClause_87 lk_X3_27 (c_X8_failJ (X := X) hM hN hq (w := 4) (by decide)) (xa_1 hM) np_X8_fail rfl rfl (by decide) (Nat.le_of_ble_eq_true rfl) rfl ?_)
          rintro v M' ⟨rfl, X', rfl, hf, hce, he⟩
          exact rx_vret hE hQ rfl dX3_readClause_90 ⟨rfl, X', rfl, hf, Or.inr ⟨2, by decide, hw, Or.inl ⟨(Or.inl hk40), he⟩⟩⟩
        · have hk40 : ¬ 40 ≤ k := fun z => c37 (nI_le (a := 40) (b := k) z (by omega))
          refine rx_iload_n hE dX3_readClause_40 (i := 2) rfl rfl ?_
          refine rx_iconst hE dX3_readClause_41 (v := 1) (by decide) ?_
          refine rx_icmp_ne (tgt := 61) hE dX3_readClause_42 (by decide) (fun c42 => ?_) (fun c42 => absurd c42 (by decide))
          refine rx_iconst hE dX3_readClause_61 (v := 0) (by decide) ?_
          refine rx_istore_4 hE dX3_readClause_62 (by decide) rfl ?_
          refine rx_iload hE dX3_readClause_64 rfl ?_
          refine rx_if_ne (tgt := 82) hE dX3_readClause_66 (by decide) (fun c66 => absurd rfl c66) (fun c66 => ?_)
          refine rx_iload_n hE dX3_readClause_69 (i := 3) rfl rfl ?_
          refine rx_iload_n hE dX3_readClause_70 (i := 2) rfl rfl ?_
          refine rx_if_ne (tgt := 78) hE dX3_readClause_71 (by decide) (fun c71 => ?_) (fun c71 => absurd c71 (by decide))
          refine rx_iconst hE dX3_readClause_78 (v := 0) (by decide) ?_
          refine rx_icmp_eq (tgt := 91) hE dX3_readClause_79 (by decide) (fun c79 => ?_) (fun c79 => absurd rfl c79)
          refine rx_aload_n hE dX3_readClause_91 (i := 0) rfl rfl ?_
          refine rx_getf hE dX3_readClause_92 fl_X3_15_3 (xa_5 hM) rfl ?_
          have hms : ¬ jms k 2 J := fun z => z.elim (fun z => hk40 z) (fun z => z.elim (fun z => absurd z.1 (by decide)) (fun z => z ⟨fun y => absurd y hk0, fun y => absurd y (by decide)⟩))
          refine rx_call0 (rx_callV (av := []) hE dX3_readClause_95 lk_X3_37 (c_X8_nextJ (X := X) hM hN hq) (xa_1 hM) np_X8_next rfl rfl (by decide) (Nat.le_of_ble_eq_true rfl) rfl ?_)
          rintro v M' ⟨rfl, X2, rfl, f2, q2⟩
          refine rx_iload_n hE dX3_readClause_98 (i := 2) rfl rfl ?_
          refine rx_if_ne (tgt := 139) hE dX3_readClause_99 (by decide) (fun c99 => ?_) (fun c99 => absurd c99 (by decide))
          refine rx_iload_n hE dX3_readClause_139 (i := 2) rfl rfl ?_
          refine rx_iconst hE dX3_readClause_140 (v := 1) (by decide) ?_
          refine rx_icmp_ne (tgt := 151) hE dX3_readClause_141 (by decide) (fun c141 => ?_) (fun c141 => absurd c141 (by decide))
          refine rx_iload_n hE dX3_readClause_151 (i := 2) rfl rfl ?_
          refine rx_iconst hE dX3_readClause_152 (v := 2) (by decide) ?_
          refine rx_icmp_ne (tgt := 163) hE dX3_readClause_153 (by decide) (fun c153 => absurd rfl c153) (fun c153 => ?_)
          refine rx_aload_n hE dX3_readClause_156 (i := 0) rfl rfl ?_
          refine rx_call0 (rx_callV (av := []) hE dX3_readClause_157 lk_X3_54 (c_X3_readClash (X := X2) hM hN q2 hR hR6) (xa_5 hM) np_X3_readClash rfl rfl (by decide) (Nat.le_of_ble_eq_true rfl) rfl ?_)
          rintro v M' ⟨rfl, X3, rfl, f3, hv⟩
          refine rx_goto (tgt := 167) hE dX3_readClause_160 (by decide) ?_
          exact rx_vret hE hQ rfl dX3_readClause_167 ⟨rfl, X3, rfl, f2.trans f3, Or.inr ⟨2, by decide, hw, Or.inr ⟨hms, hv⟩⟩⟩
      · have hk0 : k = 0 := nI_inj (by omega) (by decide) c25
        refine rx_iconst hE dX3_readClause_28 (v := 1) (by decide) ?_
        refine rx_goto (tgt := 33) hE dX3_readClause_29 (by decide) ?_
        refine rx_istore_n_3 hE dX3_readClause_33 (by decide) rfl ?_
        refine rx_iload_n hE dX3_readClause_34 (i := 1) rfl rfl ?_
        refine rx_bipush hE dX3_readClause_35 (v := 40) (by decide) ?_
        refine rx_icmp_ge (tgt := 57) hE dX3_readClause_37 (by decide) (fun c37 => ?_) (fun c37 => ?_)
        · have hk40 : 40 ≤ k := (nI_leI (a := 40) (by decide) (by omega)).mp c37
          refine rx_iconst hE dX3_readClause_57 (v := 1) (by decide) ?_
          refine rx_goto (tgt := 62) hE dX3_readClause_58 (by decide) ?_
          refine rx_istore_4 hE dX3_readClause_62 (by decide) rfl ?_
          refine rx_iload hE dX3_readClause_64 rfl ?_
          refine rx_if_ne (tgt := 82) hE dX3_readClause_66 (by decide) (fun c66 => ?_) (fun c66 => absurd c66 (by decide))
          refine rx_aload_n hE dX3_readClause_82 (i := 0) rfl rfl ?_
          refine rx_getf hE dX3_readClause_83 fl_X3_15_3 (xa_5 hM) rfl ?_
          refine rx_iconst hE dX3_readClause_86 (v := 4) (by decide) ?_
          refine rx_call0 (rx_callV (av := [.int (nI 4)]) hE dX3_readClause_87 lk_X3_27 (c_X8_failJ (X := X) hM hN hq (w := 4) (by decide)) (xa_1 hM) np_X8_fail rfl rfl (by decide) (Nat.le_of_ble_eq_true rfl) rfl ?_)
          rintro v M' ⟨rfl, X', rfl, hf, hce, he⟩
          exact rx_vret hE hQ rfl dX3_readClause_90 ⟨rfl, X', rfl, hf, Or.inr ⟨2, by decide, hw, Or.inl ⟨(Or.inl hk40), he⟩⟩⟩
        · have hk40 : ¬ 40 ≤ k := fun z => c37 (nI_le (a := 40) (b := k) z (by omega))
          refine rx_iload_n hE dX3_readClause_40 (i := 2) rfl rfl ?_
          refine rx_iconst hE dX3_readClause_41 (v := 1) (by decide) ?_
          refine rx_icmp_ne (tgt := 61) hE dX3_readClause_42 (by decide) (fun c42 => ?_) (fun c42 => absurd c42 (by decide))
          refine rx_iconst hE dX3_readClause_61 (v := 0) (by decide) ?_
          refine rx_istore_4 hE dX3_readClause_62 (by decide) rfl ?_
          refine rx_iload hE dX3_readClause_64 rfl ?_
          refine rx_if_ne (tgt := 82) hE dX3_readClause_66 (by decide) (fun c66 => absurd rfl c66) (fun c66 => ?_)
          refine rx_iload_n hE dX3_readClause_69 (i := 3) rfl rfl ?_
          refine rx_iload_n hE dX3_readClause_70 (i := 2) rfl rfl ?_
          refine rx_if_ne (tgt := 78) hE dX3_readClause_71 (by decide) (fun c71 => ?_) (fun c71 => absurd c71 (by decide))
          refine rx_iconst hE dX3_readClause_78 (v := 0) (by decide) ?_
          refine rx_icmp_eq (tgt := 91) hE dX3_readClause_79 (by decide) (fun c79 => absurd c79 (by decide)) (fun c79 => ?_)
          refine rx_aload_n hE dX3_readClause_82 (i := 0) rfl rfl ?_
          refine rx_getf hE dX3_readClause_83 fl_X3_15_3 (xa_5 hM) rfl ?_
          refine rx_iconst hE dX3_readClause_86 (v := 4) (by decide) ?_
          refine rx_call0 (rx_callV (av := [.int (nI 4)]) hE dX3_readClause_87 lk_X3_27 (c_X8_failJ (X := X) hM hN hq (w := 4) (by decide)) (xa_1 hM) np_X8_fail rfl rfl (by decide) (Nat.le_of_ble_eq_true rfl) rfl ?_)
          rintro v M' ⟨rfl, X', rfl, hf, hce, he⟩
          exact rx_vret hE hQ rfl dX3_readClause_90 ⟨rfl, X', rfl, hf, Or.inr ⟨2, by decide, hw, Or.inl ⟨(Or.inr (Or.inr (fun z => absurd (z.mp hk0) (by decide)))), he⟩⟩⟩
    · refine rx_int _ 3 hw ?_
      refine rx_istore_n_2 hE dX3_readClause_9 (by decide) rfl ?_
      refine rx_iload_n hE dX3_readClause_10 (i := 2) rfl rfl ?_
      refine rx_iconst hE dX3_readClause_11 (v := -1) (by decide) ?_
      refine rx_icmp_ne (tgt := 24) hE dX3_readClause_12 (by decide) (fun c12 => ?_) (fun c12 => absurd c12 (by decide))
      refine rx_iload_n hE dX3_readClause_24 (i := 1) rfl rfl ?_
      refine rx_if_ne (tgt := 32) hE dX3_readClause_25 (by decide) (fun c25 => ?_) (fun c25 => ?_)
      · have hk0 : ¬ k = 0 := fun z => c25 (by rw [z]; rfl)
        refine rx_iconst hE dX3_readClause_32 (v := 0) (by decide) ?_
        refine rx_istore_n_3 hE dX3_readClause_33 (by decide) rfl ?_
        refine rx_iload_n hE dX3_readClause_34 (i := 1) rfl rfl ?_
        refine rx_bipush hE dX3_readClause_35 (v := 40) (by decide) ?_
        refine rx_icmp_ge (tgt := 57) hE dX3_readClause_37 (by decide) (fun c37 => ?_) (fun c37 => ?_)
        · have hk40 : 40 ≤ k := (nI_leI (a := 40) (by decide) (by omega)).mp c37
          refine rx_iconst hE dX3_readClause_57 (v := 1) (by decide) ?_
          refine rx_goto (tgt := 62) hE dX3_readClause_58 (by decide) ?_
          refine rx_istore_4 hE dX3_readClause_62 (by decide) rfl ?_
          refine rx_iload hE dX3_readClause_64 rfl ?_
          refine rx_if_ne (tgt := 82) hE dX3_readClause_66 (by decide) (fun c66 => ?_) (fun c66 => absurd c66 (by decide))
          refine rx_aload_n hE dX3_readClause_82 (i := 0) rfl rfl ?_
          refine rx_getf hE dX3_readClause_83 fl_X3_15_3 (xa_5 hM) rfl ?_
          refine rx_iconst hE dX3_readClause_86 (v := 4) (by decide) ?_
          refine rx_call0 (rx_callV (av := [.int (nI 4)]) hE dX3_readClause_87 lk_X3_27 (c_X8_failJ (X := X) hM hN hq (w := 4) (by decide)) (xa_1 hM) np_X8_fail rfl rfl (by decide) (Nat.le_of_ble_eq_true rfl) rfl ?_)
          rintro v M' ⟨rfl, X', rfl, hf, hce, he⟩
          exact rx_vret hE hQ rfl dX3_readClause_90 ⟨rfl, X', rfl, hf, Or.inr ⟨3, by decide, hw, Or.inl ⟨(Or.inl hk40), he⟩⟩⟩
        · have hk40 : ¬ 40 ≤ k := fun z => c37 (nI_le (a := 40) (b := k) z (by omega))
          refine rx_iload_n hE dX3_readClause_40 (i := 2) rfl rfl ?_
          refine rx_iconst hE dX3_readClause_41 (v := 1) (by decide) ?_
          refine rx_icmp_ne (tgt := 61) hE dX3_readClause_42 (by decide) (fun c42 => ?_) (fun c42 => absurd c42 (by decide))
          refine rx_iconst hE dX3_readClause_61 (v := 0) (by decide) ?_
          refine rx_istore_4 hE dX3_readClause_62 (by decide) rfl ?_
          refine rx_iload hE dX3_readClause_64 rfl ?_
          refine rx_if_ne (tgt := 82) hE dX3_readClause_66 (by decide) (fun c66 => absurd rfl c66) (fun c66 => ?_)
          refine rx_iload_n hE dX3_readClause_69 (i := 3) rfl rfl ?_
          refine rx_iload_n hE dX3_readClause_70 (i := 2) rfl rfl ?_
          refine rx_if_ne (tgt := 78) hE dX3_readClause_71 (by decide) (fun c71 => ?_) (fun c71 => absurd c71 (by decide))
          refine rx_iconst hE dX3_readClause_78 (v := 0) (by decide) ?_
          refine rx_icmp_eq (tgt := 91) hE dX3_readClause_79 (by decide) (fun c79 => ?_) (fun c79 => absurd rfl c79)
          refine rx_aload_n hE dX3_readClause_91 (i := 0) rfl rfl ?_
          refine rx_getf hE dX3_readClause_92 fl_X3_15_3 (xa_5 hM) rfl ?_
          have hms : ¬ jms k 3 J := fun z => z.elim (fun z => hk40 z) (fun z => z.elim (fun z => absurd z.1 (by decide)) (fun z => z ⟨fun y => absurd y hk0, fun y => absurd y (by decide)⟩))
          refine rx_call0 (rx_callV (av := []) hE dX3_readClause_95 lk_X3_37 (c_X8_nextJ (X := X) hM hN hq) (xa_1 hM) np_X8_next rfl rfl (by decide) (Nat.le_of_ble_eq_true rfl) rfl ?_)
          rintro v M' ⟨rfl, X2, rfl, f2, q2⟩
          refine rx_iload_n hE dX3_readClause_98 (i := 2) rfl rfl ?_
          refine rx_if_ne (tgt := 139) hE dX3_readClause_99 (by decide) (fun c99 => ?_) (fun c99 => absurd c99 (by decide))
          refine rx_iload_n hE dX3_readClause_139 (i := 2) rfl rfl ?_
          refine rx_iconst hE dX3_readClause_140 (v := 1) (by decide) ?_
          refine rx_icmp_ne (tgt := 151) hE dX3_readClause_141 (by decide) (fun c141 => ?_) (fun c141 => absurd c141 (by decide))
          refine rx_iload_n hE dX3_readClause_151 (i := 2) rfl rfl ?_
          refine rx_iconst hE dX3_readClause_152 (v := 2) (by decide) ?_
          refine rx_icmp_ne (tgt := 163) hE dX3_readClause_153 (by decide) (fun c153 => ?_) (fun c153 => absurd c153 (by decide))
          refine rx_aload_n hE dX3_readClause_163 (i := 0) rfl rfl ?_
          obtain ⟨B, hB12, hBe⟩ := hB hk0
          refine rx_call0 (rx_callV (av := []) hE dX3_readClause_164 lk_X3_57 (c_X3_readScore (X := X2) hM hN q2 hR hR6 hBe hB12) (xa_5 hM) np_X3_readScore rfl rfl (by decide) (Nat.le_of_ble_eq_true rfl) rfl ?_)
          rintro v M' ⟨rfl, X3, rfl, f3, hv⟩
          exact rx_vret hE hQ rfl dX3_readClause_167 ⟨rfl, X3, rfl, f2.trans f3, Or.inr ⟨3, by decide, hw, Or.inr ⟨hms, hv⟩⟩⟩
      · have hk0 : k = 0 := nI_inj (by omega) (by decide) c25
        refine rx_iconst hE dX3_readClause_28 (v := 1) (by decide) ?_
        refine rx_goto (tgt := 33) hE dX3_readClause_29 (by decide) ?_
        refine rx_istore_n_3 hE dX3_readClause_33 (by decide) rfl ?_
        refine rx_iload_n hE dX3_readClause_34 (i := 1) rfl rfl ?_
        refine rx_bipush hE dX3_readClause_35 (v := 40) (by decide) ?_
        refine rx_icmp_ge (tgt := 57) hE dX3_readClause_37 (by decide) (fun c37 => ?_) (fun c37 => ?_)
        · have hk40 : 40 ≤ k := (nI_leI (a := 40) (by decide) (by omega)).mp c37
          refine rx_iconst hE dX3_readClause_57 (v := 1) (by decide) ?_
          refine rx_goto (tgt := 62) hE dX3_readClause_58 (by decide) ?_
          refine rx_istore_4 hE dX3_readClause_62 (by decide) rfl ?_
          refine rx_iload hE dX3_readClause_64 rfl ?_
          refine rx_if_ne (tgt := 82) hE dX3_readClause_66 (by decide) (fun c66 => ?_) (fun c66 => absurd c66 (by decide))
          refine rx_aload_n hE dX3_readClause_82 (i := 0) rfl rfl ?_
          refine rx_getf hE dX3_readClause_83 fl_X3_15_3 (xa_5 hM) rfl ?_
          refine rx_iconst hE dX3_readClause_86 (v := 4) (by decide) ?_
          refine rx_call0 (rx_callV (av := [.int (nI 4)]) hE dX3_readClause_87 lk_X3_27 (c_X8_failJ (X := X) hM hN hq (w := 4) (by decide)) (xa_1 hM) np_X8_fail rfl rfl (by decide) (Nat.le_of_ble_eq_true rfl) rfl ?_)
          rintro v M' ⟨rfl, X', rfl, hf, hce, he⟩
          exact rx_vret hE hQ rfl dX3_readClause_90 ⟨rfl, X', rfl, hf, Or.inr ⟨3, by decide, hw, Or.inl ⟨(Or.inl hk40), he⟩⟩⟩
        · have hk40 : ¬ 40 ≤ k := fun z => c37 (nI_le (a := 40) (b := k) z (by omega))
          refine rx_iload_n hE dX3_readClause_40 (i := 2) rfl rfl ?_
          refine rx_iconst hE dX3_readClause_41 (v := 1) (by decide) ?_
          refine rx_icmp_ne (tgt := 61) hE dX3_readClause_42 (by decide) (fun c42 => ?_) (fun c42 => absurd c42 (by decide))
          refine rx_iconst hE dX3_readClause_61 (v := 0) (by decide) ?_
          refine rx_istore_4 hE dX3_readClause_62 (by decide) rfl ?_
          refine rx_iload hE dX3_readClause_64 rfl ?_
          refine rx_if_ne (tgt := 82) hE dX3_readClause_66 (by decide) (fun c66 => absurd rfl c66) (fun c66 => ?_)
          refine rx_iload_n hE dX3_readClause_69 (i := 3) rfl rfl ?_
          refine rx_iload_n hE dX3_readClause_70 (i := 2) rfl rfl ?_
          refine rx_if_ne (tgt := 78) hE dX3_readClause_71 (by decide) (fun c71 => ?_) (fun c71 => absurd c71 (by decide))
          refine rx_iconst hE dX3_readClause_78 (v := 0) (by decide) ?_
          refine rx_icmp_eq (tgt := 91) hE dX3_readClause_79 (by decide) (fun c79 => absurd c79 (by decide)) (fun c79 => ?_)
          refine rx_aload_n hE dX3_readClause_82 (i := 0) rfl rfl ?_
          refine rx_getf hE dX3_readClause_83 fl_X3_15_3 (xa_5 hM) rfl ?_
          refine rx_iconst hE dX3_readClause_86 (v := 4) (by decide) ?_
          refine rx_call0 (rx_callV (av := [.int (nI 4)]) hE dX3_readClause_87 lk_X3_27 (c_X8_failJ (X := X) hM hN hq (w := 4) (by decide)) (xa_1 hM) np_X8_fail rfl rfl (by decide) (Nat.le_of_ble_eq_true rfl) rfl ?_)
          rintro v M' ⟨rfl, X', rfl, hf, hce, he⟩
          exact rx_vret hE hQ rfl dX3_readClause_90 ⟨rfl, X', rfl, hf, Or.inr ⟨3, by decide, hw, Or.inl ⟨(Or.inr (Or.inr (fun z => absurd (z.mp hk0) (by decide)))), he⟩⟩⟩
