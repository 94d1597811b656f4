/-! ===== readFact ===== -/
theorem mt_not {T : Nat → Int32} {N : Nat} : ∀ (m : Nat) (O : List Nat) (p : Nat) (l : gSg) (c : Nat) (r : gRs), mtR T N m true O p (l ++ [(11, 0)]) c r → mtR T N m true (11 :: O) p l c r
  | 0, _, _, _, _, _, h => h
  | m + 1, O, p, l, c, r, h => by
    have e1 : l ++ lyL 3 (11 :: O) = l ++ [(11, 0)] ++ lyL 3 O := by
      rw [List.append_assoc]
      rfl
    have e2 : lyR 3 (11 :: O) = lyR 3 O := rfl
    have e3 : 91 ∈ 11 :: O ↔ 91 ∈ O := by simp
    unfold mtR at h ⊢
    rw [e1, e2, e3]
    exact h
theorem aI_c {T : Nat → Int32} {N p : Nat} : aI (cmO T N p) = -1 ↔ cmO T N p = 0 := by
  by_cases h : cmO T N p = 0
  · rw [h]
    exact ⟨fun _ => rfl, fun _ => rfl⟩
  · have k := cmO_is h
    refine ⟨fun z => ?_, fun z => absurd z h⟩
    rcases (show cmO T N p = 6 ∨ cmO T N p = 7 ∨ cmO T N p = 8 ∨ cmO T N p = 9 ∨ cmO T N p = 10 by omega) with e | e | e | e | e <;> rw [e] at z <;> exact absurd z (by decide)
theorem cenc_c {T : Nat → Int32} {N p : Nat} (h : ¬ cmO T N p = 0) : cenc (cmO T N p, 0) = aI (cmO T N p) := by
  have k := cmO_is h
  rcases (show cmO T N p = 6 ∨ cmO T N p = 7 ∨ cmO T N p = 8 ∨ cmO T N p = 9 ∨ cmO T N p = 10 by omega) with e | e | e | e | e <;> rw [e] <;> decide
section TKS
variable {n : Nat} {X : gX} {O : gO} {Q : gU} {G : gK} {S : gS} {L : gLg} {T : Nat → Int32} {N p c : Nat} {st : List Int32} {g : Int32}
theorem c_X8_takeSignE (hM : 408 ≤ n) (hN : N ≤ 400) (hq : ce X T N g) (s : Int32) : SX 1 0 0 mX8_takeSign [.ref 17, .int s] (xm n X O Q G S L) (fun v M' => v = none ∧ ∃ X', M' = xm n X' O Q G S L ∧ xf X X' ∧ ce X' T N g) := by
  obtain ⟨h0, ⟨p, hp, h1⟩, k, hk, h2⟩ := hq
  refine SX.weaken (c_X8_takeSign hM hN hp h1 s) (fun v M' h => ?_)
  obtain ⟨rfl, V, rfl, hV⟩ := h
  refine ⟨rfl, _, rfl, xf.r1 _ _, h0, ⟨(if qsg T N p s = 0 then p else nx T N p), ?_, ?_⟩, k, hk, h2⟩
  · split
    · exact hp
    · exact (nx_le hp).2
  · rw [show (if qsg T N p s = 0 then tfl g p 0 else g) = g by rw [tfl_n h0]; split <;> rfl] at hV
    exact hV
theorem c_X8_takeSignQ (hM : 408 ≤ n) (hN : N ≤ 400) (hq : cq X T N p c st) (hl : st.length ≤ 400) {k : Nat} (hk : k ∈ sgs) : SX 1 0 0 mX8_takeSign [.ref 17, .int (nI k)] (xm n X O Q G S L) (fun v M' => v = none ∧ ∃ X', M' = xm n X' O Q G S L ∧ xf X X' ∧ ((sgn T N p (nI k) ∧ cq X' T N (nx T N p) c st) ∨ (¬ sgn T N p (nI k) ∧ ce X' T N (fE p 0)))) := by
  refine SX.weaken (c_X8_takeSign hM hN hq.2.1 hq.1 (nI k)) (fun v M' h => ?_)
  obtain ⟨rfl, V, rfl, hV⟩ := h
  have hp := hq.2.1
  refine ⟨rfl, _, rfl, xf.r1 _ _, ?_⟩
  by_cases h : qsg T N p (nI k) = 0
  · rw [if_pos h, if_pos h, tfl_0] at hV
    exact Or.inr ⟨(qsg_0 hk).mp h, fE_ne (w := 0) (by omega) (by decide), ⟨p, hp, hV⟩, st.length, hl, hq.2.2.1⟩
  · rw [if_neg h, if_neg h] at hV
    exact Or.inl ⟨(qsg_1 hk).mp h, hq.at hV (nx_le hp).2⟩
end TKS
set_option maxRecDepth 100000 in
set_option maxHeartbeats 1000000 in
theorem c_X7_readFact {n : Nat} {O : gO} {Q : gU} {G : gK} {S : gS} {L : gLg} (hM : 408 ≤ n) {T : Nat → Int32} {N dp d1 d2 dF : Nat} (hN : N ≤ 400) (hb : ∀ i, tb8 (T i)) (hdp : dp ≤ 10) (hd7 : 7 ≤ dF) (hd1 : d1 + 1 ≤ dF) (hd2 : d2 + 1 ≤ dF) (hF : dp < 10 → fcP n O Q G S L T N d1 (dp + 1)) (hT : dp < 10 → tsP n O Q G S L T N d2 (dp + 1)) : fcP n O Q G S L T N dF dp := by
  intro X p c st hq hl
  have hpN0 := hq.2.1
  have hc6 := hq.2.2.2.2.2
  refine SX.intro [some (.ref 50), some (.int (nI dp)), none, none] (by decide +kernel) (Nat.le_of_ble_eq_true rfl) rfl (fun E hE hQ => ?_)
  refine rx_aload_n hE dX7_readFact_0 (i := 0) rfl rfl ?_
  refine rx_getf hE dX7_readFact_1 fl_X7_39_7 (xa_6 hM) rfl ?_
  refine rx_ldcS hE 4 (by decide) dX7_readFact_4 rfl rfl ?_
  refine rx_call0 (rx_callV (av := [.ref 7]) hE dX7_readFact_6 lk_X7_45 (c_X8_wordNot hM hN hq.2.1 hq.1) (xa_1 hM) np_X8_wordOf rfl rfl (by omega) (Nat.le_of_ble_eq_true rfl) rfl ?_)
  rintro v M' ⟨rfl, rfl⟩
  by_cases hnt : qwd T N p 14836 = 0
  · refine rx_int _ (-1) (if_pos hnt) ?_
    refine rx_iconst hE dX7_readFact_9 (v := -1) (by decide) ?_
    refine rx_icmp_eq (tgt := 17) hE dX7_readFact_10 (by decide) (fun c10 => ?_) (fun c10 => absurd rfl c10)
    refine rx_iconst hE dX7_readFact_17 (v := 0) (by decide) ?_
    refine rx_istore_n_2 hE dX7_readFact_18 (by decide) rfl ?_
    refine rx_iload_n hE dX7_readFact_19 (i := 2) rfl rfl ?_
    refine rx_if_ne (tgt := 35) hE dX7_readFact_20 (by decide) (fun c20 => absurd rfl c20) (fun c20 => ?_)
    refine rx_aload_n hE dX7_readFact_23 (i := 0) rfl rfl ?_
    refine rx_getf hE dX7_readFact_24 fl_X7_39_7 (xa_6 hM) rfl ?_
    refine rx_bipush hE dX7_readFact_27 (v := 91) (by decide) ?_
    refine rx_call0 (rx_callV (av := [.int 91]) hE dX7_readFact_29 lk_X7_80 (c_X8_isSign hM hN hq.2.1 hq.1 91) (xa_1 hM) np_X8_isSign rfl rfl (by omega) (Nat.le_of_ble_eq_true rfl) rfl ?_)
    rintro v M' ⟨rfl, rfl⟩
    refine rx_if_eq (tgt := 94) hE dX7_readFact_32 (by decide) (fun c32 => ?_) (fun c32 => ?_)
    · have hb1 : ¬ sgn T N p 91 := (qsg_0 (k := 91) (by decide)).mp c32
      refine rx_aload_n hE dX7_readFact_94 (i := 0) rfl rfl ?_
      refine rx_call0 (rx_callV (av := []) hE dX7_readFact_95 lk_X7_59 (c_X7_readSum (X := X) hM hN hq hl) (xa_6 hM) np_X7_readSum rfl rfl (by omega) (Nat.le_of_ble_eq_true rfl) rfl ?_)
      rintro v M' ⟨rfl, X2, rfl, f2, hv⟩
      rcases hv with ⟨g, he, m1, hm1⟩ | ⟨p1, l1, c1, q2, m1, hm1⟩
      · obtain ⟨h0, ⟨pe, hpe, hce⟩, hk⟩ := id he
        refine rx_aload_n hE dX7_readFact_98 (i := 0) rfl rfl ?_
        refine rx_call0 (rx_callV (av := []) hE dX7_readFact_99 lk_X7_87 (c_X7_compareSign hM hN hpe hce hb) (xa_6 hM) np_X7_compareSign rfl rfl (by omega) (Nat.le_of_ble_eq_true rfl) rfl ?_)
        rintro v M' ⟨rfl, rfl⟩
        refine rx_istore_n_3 hE dX7_readFact_102 (by decide) rfl ?_
        refine rx_iload_n hE dX7_readFact_103 (i := 3) rfl rfl ?_
        refine rx_iconst hE dX7_readFact_104 (v := -1) (by decide) ?_
        refine rx_icmp_ne (tgt := 119) hE dX7_readFact_105 (by decide) (fun c105 => ?_) (fun c105 => ?_)
        · refine rx_aload_n hE dX7_readFact_119 (i := 0) rfl rfl ?_
          refine rx_getf hE dX7_readFact_120 fl_X7_19_7 (xa_6 hM) rfl ?_
          refine rx_bipush hE dX7_readFact_123 (v := 60) (by decide) ?_
          refine rx_icmp_lt (tgt := 139) hE dX7_readFact_125 (by decide) (fun c125 => ?_) (fun c125 => ?_)
          · refine rx_aload_n hE dX7_readFact_139 (i := 0) rfl rfl ?_
            refine rx_getf hE dX7_readFact_140 fl_X7_39_7 (xa_6 hM) rfl ?_
            refine rx_getfN hE dX7_readFact_143 fl_X7_62_8 (xa_1 hM) rfl ?_
            refine rx_int _ g hce.1.2.2.2 ?_
            refine rx_if_ne (tgt := 175) hE dX7_readFact_146 (by decide) (fun c146 => ?_) (fun c146 => absurd c146 h0)
            exact rx_vret hE hQ rfl dX7_readFact_175 ⟨rfl, X2, rfl, f2, Or.inl ⟨_, he, fun O l hO => ⟨1, Or.inr (Or.inr ⟨hnt, hb1, _, ⟨m1, _, hm1, Or.inl ⟨_, rfl, rfl⟩⟩, Or.inl ⟨_, rfl, rfl⟩⟩)⟩⟩⟩
          · refine rx_aload_n hE dX7_readFact_128 (i := 0) rfl rfl ?_
            refine rx_getf hE dX7_readFact_129 fl_X7_39_7 (xa_6 hM) rfl ?_
            refine rx_iconst hE dX7_readFact_132 (v := 3) (by decide) ?_
            refine rx_call0 (rx_callV (av := [.int 3]) hE dX7_readFact_133 lk_X7_51 (c_X8_failE (X := X2) hM hN he 3) (xa_1 hM) np_X8_fail rfl rfl (by omega) (Nat.le_of_ble_eq_true rfl) rfl ?_)
            rintro v M' ⟨rfl, X', rfl, hf, he4⟩
            refine rx_goto (tgt := 175) hE dX7_readFact_136 (by decide) ?_
            exact rx_vret hE hQ rfl dX7_readFact_175 ⟨rfl, X', rfl, f2.trans hf, Or.inl ⟨_, he4, fun O l hO => ⟨1, Or.inr (Or.inr ⟨hnt, hb1, _, ⟨m1, _, hm1, Or.inl ⟨_, rfl, rfl⟩⟩, Or.inl ⟨_, rfl, rfl⟩⟩)⟩⟩⟩
        · refine rx_aload_n hE dX7_readFact_108 (i := 0) rfl rfl ?_
          refine rx_getf hE dX7_readFact_109 fl_X7_39_7 (xa_6 hM) rfl ?_
          refine rx_iconst hE dX7_readFact_112 (v := 0) (by decide) ?_
          refine rx_call0 (rx_callV (av := [.int 0]) hE dX7_readFact_113 lk_X7_51 (c_X8_failE (X := X2) hM hN he 0) (xa_1 hM) np_X8_fail rfl rfl (by omega) (Nat.le_of_ble_eq_true rfl) rfl ?_)
          rintro v M' ⟨rfl, X', rfl, hf, he4⟩
          refine rx_goto (tgt := 175) hE dX7_readFact_116 (by decide) ?_
          exact rx_vret hE hQ rfl dX7_readFact_175 ⟨rfl, X', rfl, f2.trans hf, Or.inl ⟨_, he4, fun O l hO => ⟨1, Or.inr (Or.inr ⟨hnt, hb1, _, ⟨m1, _, hm1, Or.inl ⟨_, rfl, rfl⟩⟩, Or.inl ⟨_, rfl, rfl⟩⟩)⟩⟩⟩
      · obtain ⟨_, ez, _, e3, e4, e5, e6⟩ := smR_ty _ _ _ _ _ _ _ _ _ hm1 (Or.inl rfl) (Or.inl rfl) hq.2.1
        rw [List.nil_append] at ez
        subst ez
        have k0 : (opt 0).length = 0 := rfl
        refine rx_aload_n hE dX7_readFact_98 (i := 0) rfl rfl ?_
        refine rx_call0 (rx_callV (av := []) hE dX7_readFact_99 lk_X7_87 (c_X7_compareSign hM hN q2.2.1 q2.1 hb) (xa_6 hM) np_X7_compareSign rfl rfl (by omega) (Nat.le_of_ble_eq_true rfl) rfl ?_)
        rintro v M' ⟨rfl, rfl⟩
        refine rx_istore_n_3 hE dX7_readFact_102 (by decide) rfl ?_
        refine rx_iload_n hE dX7_readFact_103 (i := 3) rfl rfl ?_
        refine rx_iconst hE dX7_readFact_104 (v := -1) (by decide) ?_
        refine rx_icmp_ne (tgt := 119) hE dX7_readFact_105 (by decide) (fun c105 => ?_) (fun c105 => ?_)
        · have hcm : ¬ cmO T N p1 = 0 := fun z => c105 (aI_c.mpr z)
          refine rx_aload_n hE dX7_readFact_119 (i := 0) rfl rfl ?_
          refine rx_getf hE dX7_readFact_120 fl_X7_19_7 (xa_6 hM) rfl ?_
          refine rx_int _ (nI c1) q2.2.2.2.2.1 ?_
          refine rx_bipush hE dX7_readFact_123 (v := 60) (by decide) ?_
          refine rx_icmp_lt (tgt := 139) hE dX7_readFact_125 (by decide) (fun c125 => ?_) (fun c125 => ?_)
          · have hc60 : c1 < 60 := Classical.byContradiction (fun z => absurd c125 (Int32.not_lt.mpr (nI_le (a := 60) (b := c1) (by omega) (by omega))))
            refine rx_aload_n hE dX7_readFact_139 (i := 0) rfl rfl ?_
            refine rx_getf hE dX7_readFact_140 fl_X7_39_7 (xa_6 hM) rfl ?_
            refine rx_getfN hE dX7_readFact_143 fl_X7_62_8 (xa_1 hM) rfl ?_
            refine rx_int _ 0 q2.1.1.2.2.2 ?_
            refine rx_if_ne (tgt := 175) hE dX7_readFact_146 (by decide) (fun c146 => absurd rfl c146) (fun c146 => ?_)
            refine rx_aload_n hE dX7_readFact_149 (i := 0) rfl rfl ?_
            refine rx_dup hE dX7_readFact_150 rfl ?_
            refine rx_getf hE dX7_readFact_151 fl_X7_19_7 (xa_6 hM) rfl ?_
            refine rx_int _ (nI c1) q2.2.2.2.2.1 ?_
            refine rx_iconst hE dX7_readFact_154 (v := 1) (by decide) ?_
            refine rx_iadd hE dX7_readFact_155 ?_
            refine rx_int _ (nI (c1 + 1)) (nI_1 c1) ?_
            refine rx_put hE dX7_readFact_156 fl_X7_19_7 fw_7_3 (xa_6 hM) (fun _ => rfl) (fun _ => rfl) (Nat.le_of_ble_eq_true rfl) ?_
            refine rx_mem (M' := xm n (x_r X2 6 (j_f (X2 6) 3 (nI (c1 + 1)))) O Q G S L) xw_6_f3 ?_
            have q3 := q2.cnt hc60
            refine rx_aload_n hE dX7_readFact_159 (i := 0) rfl rfl ?_
            refine rx_getf hE dX7_readFact_160 fl_X7_39_7 (xa_6 hM) rfl ?_
            refine rx_call0 (rx_callV (av := []) hE dX7_readFact_163 lk_X7_55 (c_X8_nextQ (X := (x_r X2 6 (j_f (X2 6) 3 (nI (c1 + 1))))) hM hN q3) (xa_1 hM) np_X8_next rfl rfl (by omega) (Nat.le_of_ble_eq_true rfl) rfl ?_)
            rintro v M' ⟨rfl, X4, rfl, f4, q4⟩
            have hnx := nx_lt (T := T) (cmO_lt hcm)
            have hnx2 := q4.2.1
            refine rx_aload_n hE dX7_readFact_166 (i := 0) rfl rfl ?_
            refine rx_call0 (rx_callV (av := []) hE dX7_readFact_167 lk_X7_59 (c_X7_readSum (X := X4) hM hN q4 (by simp only [List.length_append, List.length_map]; omega)) (xa_6 hM) np_X7_readSum rfl rfl (by omega) (Nat.le_of_ble_eq_true rfl) rfl ?_)
            rintro v M' ⟨rfl, X5, rfl, f5, hv⟩
            rcases hv with ⟨g, he, m2, hm2⟩ | ⟨p2, l2, c2, q5, m2, hm2⟩
            · skip
              refine rx_aload_n hE dX7_readFact_170 (i := 0) rfl rfl ?_
              refine rx_iload_n hE dX7_readFact_171 (i := 3) rfl rfl ?_
              refine rx_call0 (rx_callV (av := [.int (aI (cmO T N p1))]) hE dX7_readFact_172 lk_X7_67 (c_X7_putE hM he (aI (cmO T N p1))) (xa_6 hM) np_X7_put rfl rfl (by omega) (Nat.le_of_ble_eq_true rfl) rfl ?_)
              rintro v M' ⟨rfl, rfl⟩
              exact rx_vret hE hQ rfl dX7_readFact_175 ⟨rfl, X5, rfl, f2.trans ((xf.r6 _ _).trans (f4.trans f5)), Or.inl ⟨_, he, fun O l hO => ⟨1, Or.inr (Or.inr ⟨hnt, hb1, _, ⟨m1, _, hm1, Or.inr ⟨p1, _, c1, rfl, Or.inr (Or.inr ⟨hcm, hc60, m2, _, hm2, Or.inl ⟨_, rfl, rfl⟩⟩)⟩⟩, Or.inl ⟨_, rfl, rfl⟩⟩)⟩⟩⟩
            · have hcp : cpR T N p c (.ok (p2, l1 ++ l2 ++ [(cmO T N p1, 0)], c2)) := ⟨m1, _, hm1, Or.inr ⟨p1, _, c1, rfl, Or.inr (Or.inr ⟨hcm, hc60, m2, _, hm2, Or.inr ⟨p2, _, c2, rfl, rfl⟩⟩)⟩⟩
              obtain ⟨g1, g2, g3, g4, g5⟩ := cpR_ty hcp hq.2.1
              have g2' : p + (l1.length + l2.length + 1) ≤ p2 := by
                rw [List.length_append, List.length_append] at g2
                exact g2
              refine rx_aload_n hE dX7_readFact_170 (i := 0) rfl rfl ?_
              refine rx_iload_n hE dX7_readFact_171 (i := 3) rfl rfl ?_
              refine rx_call0 (rx_callV (av := [.int (aI (cmO T N p1))]) hE dX7_readFact_172 lk_X7_67 (c_X7_putQ (X := X5) hM q5 (by simp only [List.length_append, List.length_map]; omega) (aI (cmO T N p1))) (xa_6 hM) np_X7_put rfl rfl (by omega) (Nat.le_of_ble_eq_true rfl) rfl ?_)
              rintro v M' ⟨rfl, X6, rfl, f6, q6⟩
              exact rx_vret hE hQ rfl dX7_readFact_175 ⟨rfl, X6, rfl, f2.trans ((xf.r6 _ _).trans (f4.trans (f5.trans f6))), Or.inr ⟨p2, l1 ++ l2 ++ [(cmO T N p1, 0)], c2, by rw [List.map_append, List.map_append, List.map_cons, List.map_nil, cenc_c hcm, ← List.append_assoc, ← List.append_assoc]; exact q6, ⟨fun O l m r hO hm => ⟨m + 1, Or.inr (Or.inr ⟨hnt, hb1, _, hcp, Or.inr ⟨p2, _, c2, rfl, hm⟩⟩)⟩, fun ts hts => g1 ts (by omega), g2, g3⟩⟩⟩
          · have hc60 : ¬ c1 < 60 := fun z => c125 (nI_lt (a := c1) (b := 60) z (by decide))
            refine rx_aload_n hE dX7_readFact_128 (i := 0) rfl rfl ?_
            refine rx_getf hE dX7_readFact_129 fl_X7_39_7 (xa_6 hM) rfl ?_
            refine rx_iconst hE dX7_readFact_132 (v := 3) (by decide) ?_
            refine rx_call0 (rx_callV (av := [.int 3]) hE dX7_readFact_133 lk_X7_51 (c_X8_failQ (X := X2) hM hN q2 (by simp only [List.length_append, List.length_map]; omega) (w := 3) (by decide)) (xa_1 hM) np_X8_fail rfl rfl (by omega) (Nat.le_of_ble_eq_true rfl) rfl ?_)
            rintro v M' ⟨rfl, X', rfl, hf, he⟩
            refine rx_goto (tgt := 175) hE dX7_readFact_136 (by decide) ?_
            exact rx_vret hE hQ rfl dX7_readFact_175 ⟨rfl, X', rfl, f2.trans hf, Or.inl ⟨_, he, fun O l hO => ⟨1, Or.inr (Or.inr ⟨hnt, hb1, _, ⟨m1, _, hm1, Or.inr ⟨p1, _, c1, rfl, Or.inr (Or.inl ⟨hcm, by omega, rfl⟩)⟩⟩, Or.inl ⟨_, rfl, rfl⟩⟩)⟩⟩⟩
        · have hcm : cmO T N p1 = 0 := aI_c.mp c105
          refine rx_aload_n hE dX7_readFact_108 (i := 0) rfl rfl ?_
          refine rx_getf hE dX7_readFact_109 fl_X7_39_7 (xa_6 hM) rfl ?_
          refine rx_iconst hE dX7_readFact_112 (v := 0) (by decide) ?_
          refine rx_call0 (rx_callV (av := [.int 0]) hE dX7_readFact_113 lk_X7_51 (c_X8_failQ (X := X2) hM hN q2 (by simp only [List.length_append, List.length_map]; omega) (w := 0) (by decide)) (xa_1 hM) np_X8_fail rfl rfl (by omega) (Nat.le_of_ble_eq_true rfl) rfl ?_)
          rintro v M' ⟨rfl, X', rfl, hf, he⟩
          refine rx_goto (tgt := 175) hE dX7_readFact_116 (by decide) ?_
          exact rx_vret hE hQ rfl dX7_readFact_175 ⟨rfl, X', rfl, f2.trans hf, Or.inl ⟨_, he, fun O l hO => ⟨1, Or.inr (Or.inr ⟨hnt, hb1, _, ⟨m1, _, hm1, Or.inr ⟨p1, _, c1, rfl, Or.inl ⟨hcm, rfl⟩⟩⟩, Or.inl ⟨_, rfl, rfl⟩⟩)⟩⟩⟩
    · have hb1 : sgn T N p 91 := (qsg_1 (k := 91) (by decide)).mp c32
      have hpN1 := hb1.1
      refine rx_iload_n hE dX7_readFact_35 (i := 1) rfl rfl ?_
      refine rx_bipush hE dX7_readFact_36 (v := 10) (by decide) ?_
      refine rx_icmp_lt (tgt := 50) hE dX7_readFact_38 (by decide) (fun c38 => ?_) (fun c38 => ?_)
      · have hd10 : dp < 10 := Classical.byContradiction (fun z => absurd c38 (Int32.not_lt.mpr (nI_le (a := 10) (b := dp) (by omega) (by omega))))
        refine rx_aload_n hE dX7_readFact_50 (i := 0) rfl rfl ?_
        refine rx_getf hE dX7_readFact_51 fl_X7_39_7 (xa_6 hM) rfl ?_
        refine rx_call0 (rx_callV (av := []) hE dX7_readFact_54 lk_X7_55 (c_X8_nextQ (X := X) hM hN hq) (xa_1 hM) np_X8_next rfl rfl (by omega) (Nat.le_of_ble_eq_true rfl) rfl ?_)
        rintro v M' ⟨rfl, X2, rfl, f2, q2⟩
        have hnx := nx_lt (T := T) hpN1
        have hnx2 := q2.2.1
        refine rx_iload_n hE dX7_readFact_57 (i := 2) rfl rfl ?_
        refine rx_if_eq (tgt := 77) hE dX7_readFact_58 (by decide) (fun c58 => ?_) (fun c58 => absurd rfl c58)
        refine rx_aload_n hE dX7_readFact_77 (i := 0) rfl rfl ?_
        refine rx_iload_n hE dX7_readFact_78 (i := 1) rfl rfl ?_
        refine rx_iconst hE dX7_readFact_79 (v := 1) (by decide) ?_
        refine rx_iadd hE dX7_readFact_80 ?_
        refine rx_int _ (nI (dp + 1)) (nI_add _ _) ?_
        refine rx_call0 (rx_callV (av := [.int (nI (dp + 1))]) hE dX7_readFact_81 lk_X7_70 (hT hd10 X2 (nx T N p) c st q2 (by omega)) (xa_6 hM) np_X7_readTest rfl rfl (by omega) (Nat.le_of_ble_eq_true rfl) rfl ?_)
        rintro v M' ⟨rfl, X3, rfl, f3, hv⟩
        rcases hv with ⟨g, he, hv⟩ | ⟨p', l', c', q3, hv⟩
        · skip
          refine rx_aload_n hE dX7_readFact_84 (i := 0) rfl rfl ?_
          refine rx_getf hE dX7_readFact_85 fl_X7_39_7 (xa_6 hM) rfl ?_
          refine rx_bipush hE dX7_readFact_88 (v := 93) (by decide) ?_
          refine rx_call0 (rx_callV (av := [.int 93]) hE dX7_readFact_90 lk_X7_84 (c_X8_takeSignE (X := X3) hM hN he 93) (xa_1 hM) np_X8_takeSign rfl rfl (by omega) (Nat.le_of_ble_eq_true rfl) rfl ?_)
          rintro v M' ⟨rfl, X4, rfl, f4, he4⟩
          exact rx_vret hE hQ rfl dX7_readFact_93 ⟨rfl, X4, rfl, f2.trans (f3.trans f4), Or.inl ⟨g, he4, fun O l hO => by
            obtain ⟨m, hm⟩ := hv (91 :: O) l ⟨by show 1 + dpO O = dp + 1; omega, Or.inr ⟨O, rfl⟩⟩
            exact ⟨m + 1, Or.inr (Or.inl ⟨hnt, hb1, Or.inr ⟨by omega, hm⟩⟩)⟩⟩⟩
        · have hv3 := hv.2.2.2.2
          have hp3 := q3.2.1
          refine rx_aload_n hE dX7_readFact_84 (i := 0) rfl rfl ?_
          refine rx_getf hE dX7_readFact_85 fl_X7_39_7 (xa_6 hM) rfl ?_
          refine rx_bipush hE dX7_readFact_88 (v := 93) (by decide) ?_
          refine rx_call0 (rx_callV (av := [.int 93]) hE dX7_readFact_90 lk_X7_84 (c_X8_takeSignQ (X := X3) hM hN q3 (by simp only [List.length_append, List.length_map]; omega) (k := 93) (by decide)) (xa_1 hM) np_X8_takeSign rfl rfl (by omega) (Nat.le_of_ble_eq_true rfl) rfl ?_)
          rintro v M' ⟨rfl, X4, rfl, f4, h4⟩
          exact rx_vret hE hQ rfl dX7_readFact_93 (by
            rcases h4 with ⟨hs, q4⟩ | ⟨hs, he4⟩
            · have hnx3 := nx_lt (T := T) hs.1
              exact ⟨rfl, X4, rfl, f2.trans (f3.trans f4), Or.inr ⟨nx T N p', l', c', q4, ⟨fun O l m r hO hm => by
                obtain ⟨m', hm'⟩ := hv.2.1 O l m r ⟨by show 1 + dpO O = dp + 1; omega, Or.inr ⟨O, rfl⟩⟩ hs hm
                exact ⟨m' + 1, Or.inr (Or.inl ⟨hnt, hb1, Or.inr ⟨by omega, hm'⟩⟩)⟩, fun ts hts => hv.2.2.2.1 ts (by omega), by omega, by omega⟩⟩⟩
            · exact ⟨rfl, X4, rfl, f2.trans (f3.trans f4), Or.inl ⟨_, he4, fun O l hO => by
                obtain ⟨m, hm⟩ := hv.2.2.1 O l ⟨by show 1 + dpO O = dp + 1; omega, Or.inr ⟨O, rfl⟩⟩ hs
                exact ⟨m + 1, Or.inr (Or.inl ⟨hnt, hb1, Or.inr ⟨by omega, hm⟩⟩)⟩⟩⟩)
      · have hd10 : dp = 10 := Classical.byContradiction (fun z => c38 (nI_lt (a := dp) (b := 10) (by omega) (by decide)))
        refine rx_aload_n hE dX7_readFact_41 (i := 0) rfl rfl ?_
        refine rx_getf hE dX7_readFact_42 fl_X7_39_7 (xa_6 hM) rfl ?_
        refine rx_iconst hE dX7_readFact_45 (v := 2) (by decide) ?_
        refine rx_call0 (rx_callV (av := [.int 2]) hE dX7_readFact_46 lk_X7_51 (c_X8_failQ (X := X) hM hN hq (by omega) (w := 2) (by decide)) (xa_1 hM) np_X8_fail rfl rfl (by omega) (Nat.le_of_ble_eq_true rfl) rfl ?_)
        rintro v M' ⟨rfl, X', rfl, hf, he⟩
        exact rx_vret hE hQ rfl dX7_readFact_49 ⟨rfl, X', rfl, hf, Or.inl ⟨_, he, fun O l hO => ⟨1, Or.inr (Or.inl ⟨hnt, hb1, Or.inl ⟨by omega, rfl⟩⟩)⟩⟩⟩
  · refine rx_int _ 0 (if_neg hnt) ?_
    have hpN1 := (wd_te hq.2.1 hnt).1
    refine rx_iconst hE dX7_readFact_9 (v := -1) (by decide) ?_
    refine rx_icmp_eq (tgt := 17) hE dX7_readFact_10 (by decide) (fun c10 => absurd c10 (by decide)) (fun c10 => ?_)
    refine rx_iconst hE dX7_readFact_13 (v := 1) (by decide) ?_
    refine rx_goto (tgt := 18) hE dX7_readFact_14 (by decide) ?_
    refine rx_istore_n_2 hE dX7_readFact_18 (by decide) rfl ?_
    refine rx_iload_n hE dX7_readFact_19 (i := 2) rfl rfl ?_
    refine rx_if_ne (tgt := 35) hE dX7_readFact_20 (by decide) (fun c20 => ?_) (fun c20 => absurd c20 (by decide))
    refine rx_iload_n hE dX7_readFact_35 (i := 1) rfl rfl ?_
    refine rx_bipush hE dX7_readFact_36 (v := 10) (by decide) ?_
    refine rx_icmp_lt (tgt := 50) hE dX7_readFact_38 (by decide) (fun c38 => ?_) (fun c38 => ?_)
    · have hd10 : dp < 10 := Classical.byContradiction (fun z => absurd c38 (Int32.not_lt.mpr (nI_le (a := 10) (b := dp) (by omega) (by omega))))
      refine rx_aload_n hE dX7_readFact_50 (i := 0) rfl rfl ?_
      refine rx_getf hE dX7_readFact_51 fl_X7_39_7 (xa_6 hM) rfl ?_
      refine rx_call0 (rx_callV (av := []) hE dX7_readFact_54 lk_X7_55 (c_X8_nextQ (X := X) hM hN hq) (xa_1 hM) np_X8_next rfl rfl (by omega) (Nat.le_of_ble_eq_true rfl) rfl ?_)
      rintro v M' ⟨rfl, X2, rfl, f2, q2⟩
      have hnx := nx_lt (T := T) hpN1
      have hnx2 := q2.2.1
      refine rx_iload_n hE dX7_readFact_57 (i := 2) rfl rfl ?_
      refine rx_if_eq (tgt := 77) hE dX7_readFact_58 (by decide) (fun c58 => absurd c58 (by decide)) (fun c58 => ?_)
      refine rx_aload_n hE dX7_readFact_61 (i := 0) rfl rfl ?_
      refine rx_iload_n hE dX7_readFact_62 (i := 1) rfl rfl ?_
      refine rx_iconst hE dX7_readFact_63 (v := 1) (by decide) ?_
      refine rx_iadd hE dX7_readFact_64 ?_
      refine rx_int _ (nI (dp + 1)) (nI_add _ _) ?_
      refine rx_call0 (rx_callV (av := [.int (nI (dp + 1))]) hE dX7_readFact_65 lk_X7_73 (hF hd10 X2 (nx T N p) c st q2 (by omega)) (xa_6 hM) np_X7_readFact rfl rfl (by omega) (Nat.le_of_ble_eq_true rfl) rfl ?_)
      rintro v M' ⟨rfl, X3, rfl, f3, hv⟩
      rcases hv with ⟨g, he, hv⟩ | ⟨p', l', c', q3, hv⟩
      · skip
        refine rx_aload_n hE dX7_readFact_68 (i := 0) rfl rfl ?_
        refine rx_bipush hE dX7_readFact_69 (v := -32) (by decide) ?_
        refine rx_call0 (rx_callV (av := [.int (-32)]) hE dX7_readFact_71 lk_X7_67 (c_X7_putE hM he (-32)) (xa_6 hM) np_X7_put rfl rfl (by omega) (Nat.le_of_ble_eq_true rfl) rfl ?_)
        rintro v M' ⟨rfl, rfl⟩
        refine rx_goto (tgt := 93) hE dX7_readFact_74 (by decide) ?_
        exact rx_vret hE hQ rfl dX7_readFact_93 ⟨rfl, X3, rfl, f2.trans f3, Or.inl ⟨g, he, fun O l hO => by
          obtain ⟨m, hm⟩ := hv (11 :: O) l (by show 1 + dpO O = dp + 1; omega)
          exact ⟨m + 1, Or.inl ⟨hnt, Or.inr ⟨by omega, hm⟩⟩⟩⟩⟩
      · have hv3 := hv.2.2
        have hp3 := q3.2.1
        refine rx_aload_n hE dX7_readFact_68 (i := 0) rfl rfl ?_
        refine rx_bipush hE dX7_readFact_69 (v := -32) (by decide) ?_
        refine rx_call0 (rx_callV (av := [.int (-32)]) hE dX7_readFact_71 lk_X7_67 (c_X7_putQ (X := X3) hM q3 (by simp only [List.length_append, List.length_map]; omega) (-32)) (xa_6 hM) np_X7_put rfl rfl (by omega) (Nat.le_of_ble_eq_true rfl) rfl ?_)
        rintro v M' ⟨rfl, X4, rfl, f4, q4⟩
        refine rx_goto (tgt := 93) hE dX7_readFact_74 (by decide) ?_
        exact rx_vret hE hQ rfl dX7_readFact_93 ⟨rfl, X4, rfl, f2.trans (f3.trans f4), Or.inr ⟨p', l' ++ [(11, 0)], c', by rw [List.map_append, ← List.append_assoc]; exact q4, ⟨fun O l m r hO hm => by
          obtain ⟨m', hm'⟩ := hv.1 (11 :: O) l m r (by show 1 + dpO O = dp + 1; omega) (mt_not m O p' (l ++ l') c' r (by rw [List.append_assoc]; exact hm))
          exact ⟨m' + 1, Or.inl ⟨hnt, Or.inr ⟨by omega, hm'⟩⟩⟩, fun ts hts => by
          rw [kty_app _ _ _ _ (hv.2.1 ts (by omega))]
          rfl, (by rw [List.length_append]; show p + (l'.length + 1) ≤ p'; omega), by omega⟩⟩⟩
    · have hd10 : dp = 10 := Classical.byContradiction (fun z => c38 (nI_lt (a := dp) (b := 10) (by omega) (by decide)))
      refine rx_aload_n hE dX7_readFact_41 (i := 0) rfl rfl ?_
      refine rx_getf hE dX7_readFact_42 fl_X7_39_7 (xa_6 hM) rfl ?_
      refine rx_iconst hE dX7_readFact_45 (v := 2) (by decide) ?_
      refine rx_call0 (rx_callV (av := [.int 2]) hE dX7_readFact_46 lk_X7_51 (c_X8_failQ (X := X) hM hN hq (by omega) (w := 2) (by decide)) (xa_1 hM) np_X8_fail rfl rfl (by omega) (Nat.le_of_ble_eq_true rfl) rfl ?_)
      rintro v M' ⟨rfl, X', rfl, hf, he⟩
      exact rx_vret hE hQ rfl dX7_readFact_49 ⟨rfl, X', rfl, hf, Or.inl ⟨_, he, fun O l hO => ⟨1, Or.inl ⟨hnt, Or.inl ⟨by omega, rfl⟩⟩⟩⟩⟩
theorem c_X7_deep {n : Nat} {O : gO} {Q : gU} {G : gK} {S : gS} {L : gLg} (hM : 408 ≤ n) {T : Nat → Int32} {N : Nat} (hN : N ≤ 400) (hb : ∀ i, tb8 (T i)) : ∀ (j dp : Nat), dp + j = 10 → fcP n O Q G S L T N (7 + 2 * j) dp ∧ tsP n O Q G S L T N (8 + 2 * j) dp
  | 0, dp, h => by
    have h1 : fcP n O Q G S L T N 7 dp := c_X7_readFact hM hN hb (by omega) (Nat.le_refl 7) (d1 := 0) (d2 := 0) (by omega) (by omega) (fun z => absurd z (by omega)) (fun z => absurd z (by omega))
    exact ⟨h1, c_X7_readTest hM hN (Nat.le_refl 7) h1⟩
  | j + 1, dp, h => by
    obtain ⟨i1, i2⟩ := c_X7_deep hM hN hb j (dp + 1) (by omega)
    have h1 : fcP n O Q G S L T N (7 + 2 * (j + 1)) dp := c_X7_readFact hM hN hb (by omega) (by omega) (d1 := 7 + 2 * j) (d2 := 8 + 2 * j) (by omega) (by omega) (fun _ => i1) (fun _ => i2)
    refine ⟨h1, ?_⟩
    have h2 := c_X7_readTest hM hN (by omega) h1
    rw [show 7 + 2 * (j + 1) + 1 = 8 + 2 * (j + 1) by omega] at h2
    exact h2
theorem c_X7_test0 {n : Nat} {O : gO} {Q : gU} {G : gK} {S : gS} {L : gLg} (hM : 408 ≤ n) {T : Nat → Int32} {N : Nat} (hN : N ≤ 400) (hb : ∀ i, tb8 (T i)) : tsP n O Q G S L T N 28 0 := (c_X7_deep hM hN hb 10 0 (by omega)).2
