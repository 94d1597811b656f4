/-! ===== choosing ===== -/
theorem sdN_tb6 {q : Nat → Bool} {N : Nat} (hN : N ≤ 6) {i : Nat} (hi : i < N) : (sdN q N).testBit i = q i := by
  have key : ∀ b0 b1 b2 b3 b4 b5 : Bool, ∀ N, N ≤ 6 → ∀ i, i < N → (sdN (fun j => if j = 0 then b0 else if j = 1 then b1 else if j = 2 then b2 else if j = 3 then b3 else if j = 4 then b4 else b5) N).testBit i = (if i = 0 then b0 else if i = 1 then b1 else if i = 2 then b2 else if i = 3 then b3 else if i = 4 then b4 else b5) := by decide +kernel
  have hq : ∀ i, i < N → q i = (if i = 0 then q 0 else if i = 1 then q 1 else if i = 2 then q 2 else if i = 3 then q 3 else if i = 4 then q 4 else q 5) := fun i hi => by
    rcases (show i = 0 ∨ i = 1 ∨ i = 2 ∨ i = 3 ∨ i = 4 ∨ i = 5 by omega) with rfl | rfl | rfl | rfl | rfl | rfl <;> rfl
  rw [sdN_ag N hq, key (q 0) (q 1) (q 2) (q 3) (q 4) (q 5) N hN i hi, ← hq i hi]
theorem rhc_ag {pn : Nat → Nat} {R : Nat} {h0 : Int32} {d d' : Nat → Nat} : ∀ k, (∀ i, i < k → d i = d' i) → rhc pn R h0 d k = rhc pn R h0 d' k
  | 0, _ => rfl
  | k + 1, h => by
    show j_heard (rhc pn R h0 d k) (jso pn (nI (d k)) R) = j_heard (rhc pn R h0 d' k) (jso pn (nI (d' k)) R)
    rw [rhc_ag k (fun i hi => h i (by omega)), h k (by omega)]
theorem tb_out {x R r : Nat} (hx : x < 2 ^ R) (hr : R ≤ r) : x.testBit r = false := Nat.testBit_lt_two_pow (Nat.lt_of_lt_of_le hx (Nat.pow_le_pow_right (by decide) hr))
set_option maxRecDepth 100000 in
set_option maxHeartbeats 1000000 in
theorem c_X5_choose {n : Nat} {O : gO} {Q : gU} {G : gK} {S : gS} {L : gLg} (hM : 408 ≤ n) {J : gJn} {e w vd : Nat → Nat} {m T0 R N C : Nat} {ps pn : Nat → Nat} {h0 : Int32} (hen : ∀ (f : Nat → g3 → g3) (s : g3), (∀ x s, jpcF J (nI x) 0 R = 0 → f x s = s) → foN f 0 (2 ^ R) s = foN (fun i => f (ps i)) 0 C s) (hpp : ∀ i, i < C → ¬ jpcF J (nI (ps i)) 0 R = 0) (hlb9 : ∀ k b, rlb e w vd m T0 R N k b ≤ 599994) (hB : (2 ^ R) ^ N < 2 ^ 31) : ∀ (n1 k b : Nat) (X : gX) (pk : Nat → Nat) (s : g3), k + n1 = N → xrs (X 31) e w vd m T0 R N C ps pn h0 → xpk (X 31) C pk k → (∀ i, i < k → qdg (2 ^ R) k b i = ps (pk i)) → b < (2 ^ R) ^ k → xrel (2 ^ R) N s (X 31) → SX (n1 + 3) 0 0 mX5_choose [.ref 260, .int (nI k)] (xm n X O Q G S L) (fun v M' => v = none ∧ ∃ T', M' = xm n (x_r X 31 T') O Q G S L ∧ xsam (X 31) T' ∧ (∀ i, i < k → T' 17 i = X 31 17 i) ∧ xrel (2 ^ R) N (rch (2 ^ R) (rLB e w vd m T0 R N) (rokb J e w vd m T0 R) (fun b => rhc pn R h0 (qdg (2 ^ R) N b) N) n1 k b s) T') := by
  intro n1
  induction n1 with
  | zero =>
    intro k b X pk s hk1 hs hp hdg hb hrel
    refine SX.intro [some (.ref 260), some (.int (nI k)), none, none, none] (by decide +kernel) (Nat.le_of_ble_eq_true rfl) rfl (fun E hE hQ => ?_)
    obtain ⟨t7, t8, t6, t9, hR6, hN3, hC, hps, htb⟩ := id hs
    have hp64 := pow6' hR6
    have hP0 : 0 < 2 ^ R := Nat.pow_pos (by decide)
    have hlbe : nsum (fun r => (rsF (e r) m T0 (fun i => if i < k then (ps (pk i)).testBit r else true) (w r, vd r) N).2) R = rlb e w vd m T0 R N k b := nsum_ag R (fun r hr => congrArg Prod.snd (rsF_ag N (fun i hi => by
      show (if i < k then (ps (pk i)).testBit r else true) = (if i < k then (qdg (2 ^ R) k b i).testBit r else true)
      by_cases h : i < k
      · rw [if_pos h, if_pos h, hdg i h]
      · rw [if_neg h, if_neg h])))
    have hkN : k = N := by omega
    have hhc : rhc pn R h0 (qdg (2 ^ R) N b) N = rhc pn R h0 (fun i => ps (pk i)) N := rhc_ag N (fun i hi => by rw [← hkN] at hi ⊢; exact hdg i hi)
    refine rx_aload_n hE dX5_choose_0 (i := 0) rfl rfl ?_
    refine rx_iload_n hE dX5_choose_1 (i := 1) rfl rfl ?_
    refine rx_call0 (rx_callV (av := [.int (nI k)]) hE dX5_choose_2 lk_X5_90 (c_X5_waitedAtLeast (X := X) hM (T := X 31) rfl hs hp (by omega)) (xa_31 hM) np_X5_waitedAtLeast rfl rfl (by omega) (Nat.le_of_ble_eq_true rfl) rfl ?_)
    rintro v M' ⟨rfl, rfl⟩
    refine rx_int _ (nI (rlb e w vd m T0 R N k b)) (congrArg nI hlbe) ?_
    refine rx_istore_n_2 hE dX5_choose_5 (by decide) rfl ?_
    refine rx_iload_n hE dX5_choose_6 (i := 2) rfl rfl ?_
    refine rx_aload_n hE dX5_choose_7 (i := 0) rfl rfl ?_
    refine rx_getf hE dX5_choose_8 fl_X5_47_5 (xa_31 hM) rfl ?_
    refine rx_int _ (X 31 0 10) rfl ?_
    refine rx_icmp_le (tgt := 15) hE dX5_choose_11 (by decide) (fun c11 => ?_) (fun c11 => ?_)
    · have hnp : ¬ (0 ≤ s.1 ∧ s.2.1 < nI (rlb e w vd m T0 R N k b)) := fun q => absurd ((hrel.prune hB (hlb9 k b)).mpr q) (Int32.not_lt.mpr c11)
      refine rx_iload_n hE dX5_choose_15 (i := 1) rfl rfl ?_
      refine rx_aload_n hE dX5_choose_16 (i := 0) rfl rfl ?_
      refine rx_getf hE dX5_choose_17 fl_X5_41_5 (xa_31 hM) rfl ?_
      refine rx_int _ (nI N) t8 ?_
      refine rx_icmp_lt (tgt := 29) hE dX5_choose_20 (by decide) (fun c20 => absurd c20 (nI_nlt (a := k) (b := N) (by omega) (by omega))) (fun c20 => ?_)
      refine rx_aload_n hE dX5_choose_23 (i := 0) rfl rfl ?_
      refine rx_iload_n hE dX5_choose_24 (i := 2) rfl rfl ?_
      refine rx_call0 (rx_callV (av := [.int (nI (rlb e w vd m T0 R N k b))]) hE dX5_choose_25 lk_X5_93 (c_X5_weigh (X := X) hM hs (pk := pk) (by rw [← hkN]; exact hp) hB hrel (lb := rlb e w vd m T0 R N k b) (b := b) (hlb9 k b) (by rw [← hkN]; exact hb) (by rw [← hkN]; exact hdg)) (xa_31 hM) np_X5_weigh rfl rfl (by omega) (Nat.le_of_ble_eq_true rfl) rfl ?_)
      rintro v M' ⟨rfl, T', rfl, hsm, h17, hr1⟩
      exact rx_vret hE hQ rfl dX5_choose_28 ⟨rfl, T', rfl, hsm, fun i hi => by rw [h17], by show xrel _ _ (if 0 ≤ s.1 ∧ s.2.1 < nI (rlb e w vd m T0 R N k b) then s else if 0 ≤ s.1 ∧ ¬ nI (rlb e w vd m T0 R N k b) < s.2.1 ∧ ¬ s.2.2 < rhc pn R h0 (qdg (2 ^ R) N b) N then s else (nI b, nI (rlb e w vd m T0 R N k b), rhc pn R h0 (qdg (2 ^ R) N b) N)) _; rw [if_neg hnp, hhc]; exact hr1⟩
    · have hpr := (hrel.prune hB (hlb9 k b)).mp (Int32.not_le.mp c11)
      exact rx_vret hE hQ rfl dX5_choose_14 ⟨rfl, X 31, by rw [x_r_id], xsam.refl _, fun i hi => rfl, by show xrel _ _ (if 0 ≤ s.1 ∧ s.2.1 < nI (rlb e w vd m T0 R N k b) then s else _) _; rw [if_pos hpr]; exact hrel⟩
  | succ n1 ihd =>
    intro k b X pk s hk1 hs hp hdg hb hrel
    refine SX.intro [some (.ref 260), some (.int (nI k)), none, none, none] (by decide +kernel) (Nat.le_of_ble_eq_true rfl) rfl (fun E hE hQ => ?_)
    obtain ⟨t7, t8, t6, t9, hR6, hN3, hC, hps, htb⟩ := id hs
    have hp64 := pow6' hR6
    have hP0 : 0 < 2 ^ R := Nat.pow_pos (by decide)
    have hlbe : nsum (fun r => (rsF (e r) m T0 (fun i => if i < k then (ps (pk i)).testBit r else true) (w r, vd r) N).2) R = rlb e w vd m T0 R N k b := nsum_ag R (fun r hr => congrArg Prod.snd (rsF_ag N (fun i hi => by
      show (if i < k then (ps (pk i)).testBit r else true) = (if i < k then (qdg (2 ^ R) k b i).testBit r else true)
      by_cases h : i < k
      · rw [if_pos h, if_pos h, hdg i h]
      · rw [if_neg h, if_neg h])))
    have hrw : ∀ r, rwt e w vd m T0 (qdg (2 ^ R) k b) k r = rar (e r) (T0 + k) (rsF (e r) m T0 (fun i => (ps (pk i)).testBit r) (w r, vd r) k).1 := fun r => by
      unfold rwt rW
      rw [rsF_ag k (b' := fun i => (ps (pk i)).testBit r) (fun i hi => by show (qdg (2 ^ R) k b i).testBit r = (ps (pk i)).testBit r; rw [hdg i hi])]
    have hid : ∀ x, x < 2 ^ R → (nI x &&& (nI (sdN (fun r => decide (0 < rar (e r) (T0 + k) (rsF (e r) m T0 (fun i => (ps (pk i)).testBit r) (w r, vd r) k).1)) R) ^^^ (-1)) = 0 ↔ ∀ r, r < R → x.testBit r = true → 0 < rwt e w vd m T0 (qdg (2 ^ R) k b) k r) := fun x hx => by
      have hy := sdN_lt (fun r => decide (0 < rar (e r) (T0 + k) (rsF (e r) m T0 (fun i => (ps (pk i)).testBit r) (w r, vd r) k).1)) R
      rw [idle_iff x (by omega) _ (by omega)]
      constructor
      · intro q r hr hb
        have h1 := q r (by omega) hb
        rw [sdN_tb6 hR6 hr] at h1
        rw [hrw]
        exact of_decide_eq_true h1
      · intro q r hr hb
        by_cases hrR : r < R
        · rw [sdN_tb6 hR6 hrR]
          exact decide_eq_true (by rw [← hrw]; exact q r hrR hb)
        · rw [tb_out hx (by omega)] at hb
          exact absurd hb (by decide)
    refine rx_aload_n hE dX5_choose_0 (i := 0) rfl rfl ?_
    refine rx_iload_n hE dX5_choose_1 (i := 1) rfl rfl ?_
    refine rx_call0 (rx_callV (av := [.int (nI k)]) hE dX5_choose_2 lk_X5_90 (c_X5_waitedAtLeast (X := X) hM (T := X 31) rfl hs hp (by omega)) (xa_31 hM) np_X5_waitedAtLeast rfl rfl (by omega) (Nat.le_of_ble_eq_true rfl) rfl ?_)
    rintro v M' ⟨rfl, rfl⟩
    refine rx_int _ (nI (rlb e w vd m T0 R N k b)) (congrArg nI hlbe) ?_
    refine rx_istore_n_2 hE dX5_choose_5 (by decide) rfl ?_
    refine rx_iload_n hE dX5_choose_6 (i := 2) rfl rfl ?_
    refine rx_aload_n hE dX5_choose_7 (i := 0) rfl rfl ?_
    refine rx_getf hE dX5_choose_8 fl_X5_47_5 (xa_31 hM) rfl ?_
    refine rx_int _ (X 31 0 10) rfl ?_
    refine rx_icmp_le (tgt := 15) hE dX5_choose_11 (by decide) (fun c11 => ?_) (fun c11 => ?_)
    · have hnp : ¬ (0 ≤ s.1 ∧ s.2.1 < nI (rlb e w vd m T0 R N k b)) := fun q => absurd ((hrel.prune hB (hlb9 k b)).mpr q) (Int32.not_lt.mpr c11)
      refine rx_iload_n hE dX5_choose_15 (i := 1) rfl rfl ?_
      refine rx_aload_n hE dX5_choose_16 (i := 0) rfl rfl ?_
      refine rx_getf hE dX5_choose_17 fl_X5_41_5 (xa_31 hM) rfl ?_
      refine rx_int _ (nI N) t8 ?_
      refine rx_icmp_lt (tgt := 29) hE dX5_choose_20 (by decide) (fun c20 => ?_) (fun c20 => absurd (nI_lt (a := k) (b := N) (by omega) (by omega)) c20)
      refine rx_aload_n hE dX5_choose_29 (i := 0) rfl rfl ?_
      refine rx_iload_n hE dX5_choose_30 (i := 1) rfl rfl ?_
      refine rx_call0 (rx_callV (av := [.int (nI k)]) hE dX5_choose_31 lk_X5_96 (c_X5_waitingRoads (X := X) hM (T := X 31) rfl hs hp (by omega)) (xa_31 hM) np_X5_waitingRoads rfl rfl (by omega) (Nat.le_of_ble_eq_true rfl) rfl ?_)
      rintro v M' ⟨rfl, rfl⟩
      refine rx_iconst hE dX5_choose_34 (v := -1) (by decide) ?_
      refine rx_ixor hE dX5_choose_35 ?_
      refine rx_istore_n_3 hE dX5_choose_36 (by decide) rfl ?_
      refine rx_iconst hE dX5_choose_37 (v := 0) (by decide) ?_
      refine rx_istore_4 hE dX5_choose_38 (by decide) rfl ?_
      have loop : ∀ (m1 i : Nat) (T1 : Nat → Nat → Int32) (s1 : g3), i + m1 = C → xsam (X 31) T1 → (∀ j, j < k → T1 17 j = X 31 17 j) → xrel (2 ^ R) N s1 T1 → foN (fun i s => if (rokb J e w vd m T0 R) k b (ps i) = true then rch (2 ^ R) (rLB e w vd m T0 R N) (rokb J e w vd m T0 R) (fun b => rhc pn R h0 (qdg (2 ^ R) N b) N) n1 (k + 1) (b * 2 ^ R + ps i) s else s) i m1 s1 = foN (fun i s => if (rokb J e w vd m T0 R) k b (ps i) = true then rch (2 ^ R) (rLB e w vd m T0 R N) (rokb J e w vd m T0 R) (fun b => rhc pn R h0 (qdg (2 ^ R) N b) N) n1 (k + 1) (b * 2 ^ R + ps i) s else s) 0 C s → RX E mX5_choose.2.2.1 0 0 40 [some (.ref 260), some (.int (nI k)), some (.int (nI (rlb e w vd m T0 R N k b))), some (.int (nI (sdN (fun r => decide (0 < rar (e r) (T0 + k) (rsF (e r) m T0 (fun i => (ps (pk i)).testBit r) (w r, vd r) k).1)) R) ^^^ (-1))), some (.int (nI i))] [] (xm n (x_r X 31 T1) O Q G S L) := by
        intro m1
        induction m1 with
        | zero =>
          intro i T1 s1 hk2 hsam1 hpk1 hrel1 hF
          have hs1 := hs.sam hsam1
          refine rx_iload hE dX5_choose_40 rfl ?_
          refine rx_aload_n hE dX5_choose_42 (i := 0) rfl rfl ?_
          refine rx_getf hE dX5_choose_43 fl_X5_34_5 (xa_31 hM) rfl ?_
          refine rx_int _ (nI C) (hs1.2.2.1) ?_
          refine rx_icmp_ge (tgt := 82) hE dX5_choose_46 (by decide) (fun c46 => ?_) (fun c46 => absurd (show nI C ≤ nI i from nI_le (by omega) (by omega)) c46)
          exact rx_vret hE hQ rfl dX5_choose_82 ⟨rfl, T1, rfl, hsam1, hpk1, by show xrel _ _ (if 0 ≤ s.1 ∧ s.2.1 < nI (rlb e w vd m T0 R N k b) then s else foN (fun x s => if (rokb J e w vd m T0 R) k b x = true then rch (2 ^ R) (rLB e w vd m T0 R N) (rokb J e w vd m T0 R) (fun b => rhc pn R h0 (qdg (2 ^ R) N b) N) n1 (k + 1) (b * 2 ^ R + x) s else s) 0 (2 ^ R) s) _; rw [if_neg hnp, hen _ _ (fun x s hx => if_neg (fun q => (rokb_iff.mp q).1 hx)), ← hF]; exact hrel1⟩
        | succ m1 ih =>
          intro i T1 s1 hk2 hsam1 hpk1 hrel1 hF
          have hs1 := hs.sam hsam1
          have hpsi := hps i (by omega)
          refine rx_iload hE dX5_choose_40 rfl ?_
          refine rx_aload_n hE dX5_choose_42 (i := 0) rfl rfl ?_
          refine rx_getf hE dX5_choose_43 fl_X5_34_5 (xa_31 hM) rfl ?_
          refine rx_int _ (nI C) (hs1.2.2.1) ?_
          refine rx_icmp_ge (tgt := 82) hE dX5_choose_46 (by decide) (fun c46 => absurd c46 (nI_ge (a := i) (b := C) (by omega) (by omega))) (fun c46 => ?_)
          refine rx_aload_n hE dX5_choose_49 (i := 0) rfl rfl ?_
          refine rx_getf hE dX5_choose_50 fl_X5_21_5 (xa_31 hM) rfl ?_
          refine rx_iload hE dX5_choose_53 rfl ?_
          refine rx_ialdN (i := i) hE dX5_choose_55 (xa_31_15 hM) (by omega) (by decide) ?_
          refine rx_int _ (nI (ps i)) ((congrFun (hsam1.1 15 (by decide) (by decide) (by decide)) i).trans hpsi.2.1) ?_
          refine rx_iload_n hE dX5_choose_56 (i := 3) rfl rfl ?_
          refine rx_iand hE dX5_choose_57 ?_
          refine rx_if_ne (tgt := 76) hE dX5_choose_58 (by decide) (fun c58 => ?_) (fun c58 => ?_)
          · refine rx_iinc_4 hE dX5_choose_76 (v := 1) (by decide) (by decide) rfl ?_
            rw [nI_1]
            refine rx_goto (tgt := 40) hE dX5_choose_79 (by decide) ?_
            exact ih (i + 1) T1 s1 (by omega) hsam1 hpk1 hrel1 (by rw [← hF]; show _ = foN (fun i s => if (rokb J e w vd m T0 R) k b (ps i) = true then rch (2 ^ R) (rLB e w vd m T0 R N) (rokb J e w vd m T0 R) (fun b => rhc pn R h0 (qdg (2 ^ R) N b) N) n1 (k + 1) (b * 2 ^ R + ps i) s else s) (i + 1) m1 ((fun i s => if (rokb J e w vd m T0 R) k b (ps i) = true then rch (2 ^ R) (rLB e w vd m T0 R N) (rokb J e w vd m T0 R) (fun b => rhc pn R h0 (qdg (2 ^ R) N b) N) n1 (k + 1) (b * 2 ^ R + ps i) s else s) i s1); rw [show (fun i s => if (rokb J e w vd m T0 R) k b (ps i) = true then rch (2 ^ R) (rLB e w vd m T0 R N) (rokb J e w vd m T0 R) (fun b => rhc pn R h0 (qdg (2 ^ R) N b) N) n1 (k + 1) (b * 2 ^ R + ps i) s else s) i s1 = s1 from if_neg (fun q => c58 ((hid (ps i) hpsi.1).mpr (rokb_iff.mp q).2))])
          · have hok : (rokb J e w vd m T0 R) k b (ps i) = true := rokb_iff.mpr ⟨hpp i (by omega), (hid (ps i) hpsi.1).mp c58⟩
            have hs12 : xsam T1 (j_s T1 17 (upd (T1 17) k (nI i))) := ⟨fun f _ f17 _ => if_neg f17, fun j _ _ => rfl⟩
            have hpk2 : xpk (j_s T1 17 (upd (T1 17) k (nI i))) C (fun j => if j = k then i else pk j) (k + 1) := fun j hj => by
              show (if j = k then i else pk j) < C ∧ upd (T1 17) k (nI i) j = nI (if j = k then i else pk j)
              by_cases h : j = k
              · rw [if_pos h, h, upd_eq]
                exact ⟨by omega, rfl⟩
              · rw [if_neg h, upd_ne h, hpk1 j (by omega)]
                exact hp j (by omega)
            have hd1 : (b * 2 ^ R + ps i) / (2 ^ R) ^ 1 = b := by rw [Nat.pow_one, Nat.add_comm, Nat.add_mul_div_right _ _ hP0, Nat.div_eq_of_lt hpsi.1, Nat.zero_add]
            have hdg2 : ∀ j, j < k + 1 → qdg (2 ^ R) (k + 1) (b * 2 ^ R + ps i) j = ps (if j = k then i else pk j) := fun j hj => by
              by_cases h : j = k
              · rw [if_pos h, h, qdg_l, Nat.add_comm, Nat.add_mul_mod_self_right, Nat.mod_eq_of_lt hpsi.1]
              · rw [if_neg h, qdg_pre hd1 (by omega)]
                exact hdg j (by omega)
            have hb2 : b * 2 ^ R + ps i < (2 ^ R) ^ (k + 1) := by
              rw [Nat.pow_succ]
              have h1 : (b + 1) * 2 ^ R ≤ (2 ^ R) ^ k * 2 ^ R := Nat.mul_le_mul_right _ hb
              rw [Nat.add_mul] at h1
              omega
            refine rx_aload_n hE dX5_choose_61 (i := 0) rfl rfl ?_
            refine rx_getf hE dX5_choose_62 fl_X5_28_5 (xa_31 hM) rfl ?_
            refine rx_iload_n hE dX5_choose_65 (i := 1) rfl rfl ?_
            refine rx_iload hE dX5_choose_66 rfl ?_
            refine rx_iastN (i := k) hE dX5_choose_68 (xa_31_17 hM) (by omega) (by decide) ?_
            refine rx_mem (M' := xm n (x_r X 31 (j_s T1 17 (upd (T1 17) k (nI i)))) O Q G S L) (xw_31_17.trans (by rw [x_rr, x_r_eq])) ?_
            refine rx_aload_n hE dX5_choose_69 (i := 0) rfl rfl ?_
            refine rx_iload_n hE dX5_choose_70 (i := 1) rfl rfl ?_
            refine rx_iconst hE dX5_choose_71 (v := 1) (by decide) ?_
            refine rx_iadd hE dX5_choose_72 ?_
            refine rx_int _ (nI (k + 1)) (nI_add _ _) ?_
            refine rx_call0 (rx_callV (av := [.int (nI (k + 1))]) hE dX5_choose_73 lk_X5_74 (ihd (k + 1) (b * 2 ^ R + ps i) (x_r X 31 (j_s T1 17 (upd (T1 17) k (nI i)))) (fun j => if j = k then i else pk j) s1 (by omega) (hs1.sam hs12) hpk2 hdg2 hb2 (hrel1.eq rfl rfl)) (xa_31 hM) np_X5_choose rfl rfl (by omega) (Nat.le_of_ble_eq_true rfl) rfl ?_)
            rintro v M' ⟨rfl, T3, rfl, hsam3, hpk3, hrel3⟩
            rw [x_rr]
            refine rx_iinc_4 hE dX5_choose_76 (v := 1) (by decide) (by decide) rfl ?_
            rw [nI_1]
            refine rx_goto (tgt := 40) hE dX5_choose_79 (by decide) ?_
            exact ih (i + 1) T3 _ (by omega) (hsam1.trans (hs12.trans hsam3)) (fun j hj => (hpk3 j (by omega)).trans ((upd_ne (by omega)).trans (hpk1 j hj))) hrel3 (by rw [← hF]; show _ = foN (fun i s => if (rokb J e w vd m T0 R) k b (ps i) = true then rch (2 ^ R) (rLB e w vd m T0 R N) (rokb J e w vd m T0 R) (fun b => rhc pn R h0 (qdg (2 ^ R) N b) N) n1 (k + 1) (b * 2 ^ R + ps i) s else s) (i + 1) m1 ((fun i s => if (rokb J e w vd m T0 R) k b (ps i) = true then rch (2 ^ R) (rLB e w vd m T0 R N) (rokb J e w vd m T0 R) (fun b => rhc pn R h0 (qdg (2 ^ R) N b) N) n1 (k + 1) (b * 2 ^ R + ps i) s else s) i s1); rw [show (fun i s => if (rokb J e w vd m T0 R) k b (ps i) = true then rch (2 ^ R) (rLB e w vd m T0 R N) (rokb J e w vd m T0 R) (fun b => rhc pn R h0 (qdg (2 ^ R) N b) N) n1 (k + 1) (b * 2 ^ R + ps i) s else s) i s1 = rch (2 ^ R) (rLB e w vd m T0 R N) (rokb J e w vd m T0 R) (fun b => rhc pn R h0 (qdg (2 ^ R) N b) N) n1 (k + 1) (b * 2 ^ R + ps i) s1 from if_pos hok])
      refine rx_mem (M' := xm n (x_r X 31 (X 31)) O Q G S L) (by rw [x_r_id]) ?_
      exact loop C 0 (X 31) s (by omega) (xsam.refl _) (fun j hj => rfl) hrel rfl
    · have hpr := (hrel.prune hB (hlb9 k b)).mp (Int32.not_le.mp c11)
      exact rx_vret hE hQ rfl dX5_choose_14 ⟨rfl, X 31, by rw [x_r_id], xsam.refl _, fun i hi => rfl, by show xrel _ _ (if 0 ≤ s.1 ∧ s.2.1 < nI (rlb e w vd m T0 R N k b) then s else _) _; rw [if_pos hpr]; exact hrel⟩
