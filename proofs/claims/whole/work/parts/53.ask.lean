def qmo1 (t : gJn → Nat → Int32 → Bool) (p R : Nat) (s : gJn × Nat) : gJn × Nat := if qdv s.2 100 < p ∧ 0 < R then (jone t (j_addw s.1 (qdv (qdx s.2) R) 3), qdx (qdx s.2)) else (jone t s.1, qdx s.2)
def qit (f : gJn × Nat → gJn × Nat) : Nat → gJn × Nat → gJn × Nat
  | 0, s => s
  | n + 1, s => qit f n (f s)
theorem qit_s (f : gJn × Nat → gJn × Nat) (n : Nat) (s : gJn × Nat) : qit f (n + 1) s = qit f n (f s) := rfl
def qmoB (t : gJn → Nat → Int32 → Bool) (p R n : Nat) (s : gJn × Nat) : gJn × Nat := qit (qmo1 t p R) n s
def qmoM (t : gJn → Nat → Int32 → Bool) (p R N : Nat) (J : gJn) : Nat → Int32 × Int32 × Nat → Int32 × Int32 × Nat
  | 0, s => s
  | m + 1, s => qmoM t p R N J m (s.1 + (jsum ((qmoB t p R N (J, s.2.2)).1 4) R - jsum (J 4) R), s.2.1 + ((qmoB t p R N (J, s.2.2)).1 9 4 - J 9 4), (qmoB t p R N (J, s.2.2)).2)
def q_mornings (t : gJn → Nat → Int32 → Bool) (J : gJn) (x : Nat) (m n p what : Int32) : Int32 := if j_isTold J = 0 ∨ q_in m 1 10 = 0 ∨ q_in n 1 60 = 0 ∨ q_in p 0 100 = 0 ∨ q_in what 0 1 = 0 then -100000 else if what = 0 then (qmoM t p.toNatClampNeg (jR J) n.toNatClampNeg J m.toNatClampNeg (0, 0, x)).1 else (qmoM t p.toNatClampNeg (jR J) n.toNatClampNeg J m.toNatClampNeg (0, 0, x)).2.1
theorem kIp.L0 {S S' : gS} {L L' : gLg} (h : kIp S L S' L') : L' 0 = L 0 := by
  obtain ⟨_, _, q⟩ := h
  exact q
theorem qmoB_s (t : gJn → Nat → Int32 → Bool) (p R n : Nat) (s : gJn × Nat) : qmoB t p R (n + 1) s = qmoB t p R n (qmo1 t p R s) := qit_s _ n s
theorem qmo1_p {t : gJn → Nat → Int32 → Bool} {p R x : Nat} {J : gJn} (h : qdv x 100 < p ∧ 0 < R) : qmo1 t p R (J, x) = (jone t (j_addw J (qdv (qdx x) R) 3), qdx (qdx x)) := if_pos h
theorem qmo1_n {t : gJn → Nat → Int32 → Bool} {p R x : Nat} {J : gJn} (h : ¬ (qdv x 100 < p ∧ 0 < R)) : qmo1 t p R (J, x) = (jone t J, qdx x) := if_neg h
theorem k_x_0 (L : gLg) (v : Int64) : k_x L v 0 0 = v := rfl
theorem j_addw_s7 (J : gJn) (g : Nat → Int32) (r : Nat) (m : Int32) : j_addw (j_s J 7 g) r m = j_s (j_addw J r m) 7 g := j_s_s7 J g (by decide) _
theorem jfit.addw {J : gJn} (h : jfit J) {r m : Nat} (hr : r < 6) (hm : m ≤ 1000) : jfit (j_addw J r (nI m)) := ⟨h.1, h.2.addw hr hm⟩
theorem jfit.add3 {J : gJn} (h : jfit J) {r : Nat} (hr : r < 6) : jfit (j_addw J r 3) := h.addw (m := 3) hr (by decide)
set_option maxRecDepth 100000 in
set_option maxHeartbeats 4000000 in
theorem c_X11_mornings {M : gM} {S : gS} {L : gLg} {J : gJn} {g : Nat → Int32} (hM : 408 ≤ M.1) {t : gJn → Nat → Int32 → Bool} (hk : kok S J t) {x : Nat} (hxf : S 0 22 = nI x) (hx0 : x < 2147483648) (m n p what : Int32) : SX 8 0 0 mX11_mornings [.ref 384, .int m, .int n, .int p, .int what] (kp M (kput S (j_s J 7 g)) L) (fun v M' => v = some (.int (q_mornings t J x m n p what)) ∧ kD M S J M') := by
  refine SX.intro [some (.ref 384), some (.int m), some (.int n), some (.int p), some (.int what), none, none, none, none, none] (by decide +kernel) (Nat.le_of_ble_eq_true rfl) rfl (fun E hE hQ => ?_)
  refine rx_aload_n hE dX11_mornings_0 (i := 0) rfl rfl ?_
  refine rx_call0 (rx_callV (av := []) hE dX11_mornings_1 lk_X11_294 (c_X11_isJunction hM) (kp_o hM) np_X11_isJunction rfl rfl (by decide) (Nat.le_of_ble_eq_true rfl) rfl ?_)
  rintro v M' ⟨rfl, rfl⟩
  refine rx_int _ (j_isTold J) hk.isJ ?_
  refine rx_if_eq (tgt := 54) hE dX11_mornings_4 (by decide) (fun c4 => ?_) (fun c4 => ?_)
  · refine rx_ldcw hE dX11_mornings_54 k_X11_471 ?_
    exact rx_iret hE hQ rfl dX11_mornings_57 ⟨by simp [q_mornings, *], kD.refl M S L J g⟩
  · refine rx_iload_n hE dX11_mornings_7 (i := 1) rfl rfl ?_
    refine rx_i2l hE dX11_mornings_8 ?_
    refine rx_lconst hE dX11_mornings_9 (v := 1) (by decide) ?_
    refine rx_ldc2 hE dX11_mornings_10 kl_X11_469 ?_
    refine rx_call0 (rx_callS (av := [.long _, .long _, .long _]) hE dX11_mornings_13 lk_X11_130 (c_X11_in _ _ _) np_X11_in rfl rfl (by decide) (Nat.le_of_ble_eq_true rfl) rfl ?_)
    rintro v M' ⟨rfl, rfl⟩
    refine rx_int _ (q_in _ (1) (10)) (k_in_eq _ _ _ (by decide) (by decide)) ?_
    refine rx_if_eq (tgt := 54) hE dX11_mornings_16 (by decide) (fun c16 => ?_) (fun c16 => ?_)
    · refine rx_ldcw hE dX11_mornings_54 k_X11_471 ?_
      exact rx_iret hE hQ rfl dX11_mornings_57 ⟨by simp [q_mornings, *], kD.refl M S L J g⟩
    · refine rx_iload_n hE dX11_mornings_19 (i := 2) rfl rfl ?_
      refine rx_i2l hE dX11_mornings_20 ?_
      refine rx_lconst hE dX11_mornings_21 (v := 1) (by decide) ?_
      refine rx_ldc2 hE dX11_mornings_22 kl_X11_419 ?_
      refine rx_call0 (rx_callS (av := [.long _, .long _, .long _]) hE dX11_mornings_25 lk_X11_130 (c_X11_in _ _ _) np_X11_in rfl rfl (by decide) (Nat.le_of_ble_eq_true rfl) rfl ?_)
      rintro v M' ⟨rfl, rfl⟩
      refine rx_int _ (q_in _ (1) (60)) (k_in_eq _ _ _ (by decide) (by decide)) ?_
      refine rx_if_eq (tgt := 54) hE dX11_mornings_28 (by decide) (fun c28 => ?_) (fun c28 => ?_)
      · refine rx_ldcw hE dX11_mornings_54 k_X11_471 ?_
        exact rx_iret hE hQ rfl dX11_mornings_57 ⟨by simp [q_mornings, *], kD.refl M S L J g⟩
      · refine rx_iload_n hE dX11_mornings_31 (i := 3) rfl rfl ?_
        refine rx_i2l hE dX11_mornings_32 ?_
        refine rx_lconst hE dX11_mornings_33 (v := 0) (by decide) ?_
        refine rx_ldc2 hE dX11_mornings_34 kl_X11_372 ?_
        refine rx_call0 (rx_callS (av := [.long _, .long _, .long _]) hE dX11_mornings_37 lk_X11_130 (c_X11_in _ _ _) np_X11_in rfl rfl (by decide) (Nat.le_of_ble_eq_true rfl) rfl ?_)
        rintro v M' ⟨rfl, rfl⟩
        refine rx_int _ (q_in _ (0) (100)) (k_in_eq _ _ _ (by decide) (by decide)) ?_
        refine rx_if_eq (tgt := 54) hE dX11_mornings_40 (by decide) (fun c40 => ?_) (fun c40 => ?_)
        · refine rx_ldcw hE dX11_mornings_54 k_X11_471 ?_
          exact rx_iret hE hQ rfl dX11_mornings_57 ⟨by simp [q_mornings, *], kD.refl M S L J g⟩
        · refine rx_iload hE dX11_mornings_43 rfl ?_
          refine rx_i2l hE dX11_mornings_45 ?_
          refine rx_lconst hE dX11_mornings_46 (v := 0) (by decide) ?_
          refine rx_lconst hE dX11_mornings_47 (v := 1) (by decide) ?_
          refine rx_call0 (rx_callS (av := [.long _, .long _, .long _]) hE dX11_mornings_48 lk_X11_130 (c_X11_in _ _ _) np_X11_in rfl rfl (by decide) (Nat.le_of_ble_eq_true rfl) rfl ?_)
          rintro v M' ⟨rfl, rfl⟩
          refine rx_int _ (q_in _ (0) (1)) (k_in_eq _ _ _ (by decide) (by decide)) ?_
          refine rx_if_ne (tgt := 58) hE dX11_mornings_51 (by decide) (fun c51 => ?_) (fun c51 => ?_)
          · have hg : ¬ (j_isTold J = 0 ∨ q_in m 1 10 = 0 ∨ q_in n 1 60 = 0 ∨ q_in p 0 100 = 0 ∨ q_in what 0 1 = 0) := by simp [*]
            obtain ⟨hb, hf, hT9⟩ := hk.told c4
            obtain ⟨m, hm0, hm, rfl⟩ := q_in_of (a := 1) (b := 10) (by decide) c16
            obtain ⟨N, hN0, hN, rfl⟩ := q_in_of (a := 1) (b := 60) (by decide) c28
            obtain ⟨p, hp0, hp, rfl⟩ := q_in_of (a := 0) (b := 100) (by decide) c40
            have hr6 := hf.1.2.1
            have fin : ∀ (S' : gS) (L' : gLg) (g' : Nat → Int32) (s : Int32 × Int32 × Nat) (y : Int32) (l9 : Option Value), kq S S' → s = qmoM t p (jR J) N J m (0, 0, x) → RX E mX11_mornings.2.2.1 0 0 190 [some (.ref 384), some (.int (nI m)), some (.int (nI N)), some (.int (nI p)), some (.int what), some (.int s.1), some (.int s.2.1), some (.int (jsum (J 4) (jR J))), some (.int y), l9] [] (kp M (kput S' (j_s J 7 g')) L') := by
              intro S' L' g' s y l9 hz hs
              have hv : q_mornings t J x (nI m) (nI N) (nI p) what = if what = 0 then s.1 else s.2.1 := by rw [hs]; unfold q_mornings; rw [if_neg hg, nI_clamp (n := m) (by omega), nI_clamp (n := N) (by omega), nI_clamp (n := p) (by omega)]
              refine rx_iload hE dX11_mornings_190 rfl ?_
              refine rx_if_ne (tgt := 200) hE dX11_mornings_192 (by decide) (fun c192 => ?_) (fun c192 => ?_)
              · refine rx_iload hE dX11_mornings_200 rfl ?_
                exact rx_iret hE hQ rfl dX11_mornings_202 ⟨by rw [hv]; rw [if_neg c192], S', L', g', rfl, hz⟩
              · refine rx_iload hE dX11_mornings_195 rfl ?_
                refine rx_goto (tgt := 202) hE dX11_mornings_197 (by decide) ?_
                exact rx_iret hE hQ rfl dX11_mornings_202 ⟨by rw [hv]; rw [if_pos c192], S', L', g', rfl, hz⟩
            have outer : ∀ (n y : Nat) (S' : gS) (L' : gLg) (g' : Nat → Int32) (s : Int32 × Int32 × Nat) (l9 : Option Value), y + n = m → kz S t J S' → L' 0 0 = lN s.2.2 → s.2.2 < 2147483648 → qmoM t p (jR J) N J n s = qmoM t p (jR J) N J m (0, 0, x) → RX E mX11_mornings.2.2.1 0 0 87 [some (.ref 384), some (.int (nI m)), some (.int (nI N)), some (.int (nI p)), some (.int what), some (.int s.1), some (.int s.2.1), some (.int (jsum (J 4) (jR J))), some (.int (nI y)), l9] [] (kp M (kput S' (j_s J 7 g')) L') := by
              intro n
              induction n with
              | zero =>
                intro y S' L' g' s l9 hk2 hz hL hx hF
                refine rx_iload hE dX11_mornings_87 rfl ?_
                refine rx_iload_n hE dX11_mornings_89 (i := 1) rfl rfl ?_
                refine rx_icmp_ge (tgt := 190) hE dX11_mornings_90 (by decide) (fun c90 => ?_) (fun c90 => absurd (show nI m ≤ nI y from nI_le (by omega) (by omega)) c90)
                exact fin S' L' g' s _ _ hz.2.2 (by rw [← hF]; rfl)
              | succ n ih =>
                intro y S' L' g' s l9 hk2 hz hL hx hF
                have inner : ∀ (n' k : Nat) (S' : gS) (L' : gLg) (g' : Nat → Int32) (J' : gJn) (x : Nat), k + n' = N → jT J' = jT J + k → kz S t J S' → L' 0 0 = lN x → x < 2147483648 → jst J' J → jfit J' → qmoB t p (jR J) n' (J', x) = qmoB t p (jR J) N (J, s.2.2) → RX E mX11_mornings.2.2.1 0 0 96 [some (.ref 384), some (.int (nI m)), some (.int (nI N)), some (.int (nI p)), some (.int what), some (.int s.1), some (.int s.2.1), some (.int (jsum (J 4) (jR J))), some (.int (nI y)), some (.int (nI k))] [] (kp M (kput S' (j_s J' 7 g')) L') := by
                  intro n'
                  induction n' with
                  | zero =>
                    intro k S' L' g' J' x hk3 hT2 hz hL hx hs hf' hIn
                    have hR' : J' 9 2 = nI (jR J) := by rw [hs.2.2 2 (by decide) (by decide)]; exact hf.1.1
                    have hd100 : qdv x 100 < 100 := Nat.mod_lt _ (by decide)
                    refine rx_iload hE dX11_mornings_96 rfl ?_
                    refine rx_iload_n hE dX11_mornings_98 (i := 2) rfl rfl ?_
                    refine rx_icmp_ge (tgt := 147) hE dX11_mornings_99 (by decide) (fun c99 => ?_) (fun c99 => absurd (show nI N ≤ nI k from nI_le (by omega) (by omega)) c99)
                    refine rx_iload hE dX11_mornings_147 rfl ?_
                    refine rx_aload_n hE dX11_mornings_149 (i := 0) rfl rfl ?_
                    refine rx_iconst hE dX11_mornings_150 (v := 2) (by decide) ?_
                    refine rx_call0 (rx_callV (av := [.int 2]) hE dX11_mornings_151 lk_X11_340 (c_X11_sumOver (m := 2) (R := jR J) hM (hR') hr6 (by decide)) (kp_o hM) np_X11_sumOver rfl rfl (by decide) (Nat.le_of_ble_eq_true rfl) rfl ?_)
                    rintro v M' ⟨rfl, rfl⟩
                    refine rx_int _ (jsum (J' 4) (jR J)) rfl ?_
                    refine rx_iload hE dX11_mornings_154 rfl ?_
                    refine rx_isub hE dX11_mornings_156 ?_
                    refine rx_iadd hE dX11_mornings_157 ?_
                    refine rx_istore_5 hE dX11_mornings_158 (by decide) rfl ?_
                    refine rx_iload hE dX11_mornings_160 rfl ?_
                    refine rx_aload_n hE dX11_mornings_162 (i := 0) rfl rfl ?_
                    refine rx_getf hE dX11_mornings_163 fl_X11_39_10 (kp_o hM) rfl ?_
                    refine rx_bipush hE dX11_mornings_166 (v := 53) (by decide) ?_
                    refine rx_ialdN (i := 53) hE dX11_mornings_168 (kp_10 hM) (by omega) (by decide) ?_
                    refine rx_int _ _ kr_c4 ?_
                    refine rx_int _ (J' 9 4) rfl ?_
                    refine rx_aload_n hE dX11_mornings_169 (i := 0) rfl rfl ?_
                    refine rx_getf hE dX11_mornings_170 fl_X11_58_10 (kp_o hM) rfl ?_
                    refine rx_bipush hE dX11_mornings_173 (v := 43) (by decide) ?_
                    refine rx_ialdN (i := 43) hE dX11_mornings_175 (kp_13 hM) (by omega) (by decide) ?_
                    refine rx_int _ _ (kr_a (by decide) (by decide) (by decide)) ?_
                    refine rx_int _ (J 9 4) (by show S' 13 43 = _; rw [hz.2.1 43 (by decide), krow_val _ (by decide)]; rfl) ?_
                    refine rx_isub hE dX11_mornings_176 ?_
                    refine rx_iadd hE dX11_mornings_177 ?_
                    refine rx_istore_6 hE dX11_mornings_178 (by decide) rfl ?_
                    refine rx_aload_n hE dX11_mornings_180 (i := 0) rfl rfl ?_
                    refine rx_call0 (rx_callV (av := []) hE dX11_mornings_181 lk_X11_382 (c_X11_laysBack hM hz.2.1) (kp_o hM) np_X11_laysBack rfl rfl (by decide) (Nat.le_of_ble_eq_true rfl) rfl ?_)
                    rintro v M' ⟨rfl, rfl⟩
                    rw [hs.back g']
                    refine rx_iinc_8 hE dX11_mornings_184 (v := 1) (by decide) (by decide) rfl ?_
                    rw [nI_1]
                    refine rx_goto (tgt := 87) hE dX11_mornings_187 (by decide) ?_
                    exact ih (y + 1) S' L' g' (s.1 + (jsum (J' 4) (jR J) - jsum (J 4) (jR J)), s.2.1 + (J' 9 4 - J 9 4), x) _ (by omega) hz hL hx (by rw [← hF]; show _ = qmoM t p (jR J) N J n (s.1 + (jsum ((qmoB t p (jR J) N (J, s.2.2)).1 4) (jR J) - jsum (J 4) (jR J)), s.2.1 + ((qmoB t p (jR J) N (J, s.2.2)).1 9 4 - J 9 4), (qmoB t p (jR J) N (J, s.2.2)).2); rw [← show (J', x) = qmoB t p (jR J) N (J, s.2.2) from hIn])
                  | succ n' ihn =>
                    intro k S' L' g' J' x hk3 hT2 hz hL hx hs hf' hIn
                    have hR' : J' 9 2 = nI (jR J) := by rw [hs.2.2 2 (by decide) (by decide)]; exact hf.1.1
                    have hd100 : qdv x 100 < 100 := Nat.mod_lt _ (by decide)
                    refine rx_iload hE dX11_mornings_96 rfl ?_
                    refine rx_iload_n hE dX11_mornings_98 (i := 2) rfl rfl ?_
                    refine rx_icmp_ge (tgt := 147) hE dX11_mornings_99 (by decide) (fun c99 => absurd c99 (nI_ge (a := k) (b := N) (by omega) (by omega))) (fun c99 => ?_)
                    refine rx_aload_n hE dX11_mornings_102 (i := 0) rfl rfl ?_
                    refine rx_bipush hE dX11_mornings_103 (v := 100) (by decide) ?_
                    refine rx_call0 (rx_callV (av := [.int (nI 100)]) hE dX11_mornings_105 lk_X11_472 (c_X11_draw hM (x := x) (k := 100) hL hx (by decide) (by decide)) (kp_o hM) np_X11_draw rfl rfl (by decide) (Nat.le_of_ble_eq_true rfl) rfl ?_)
                    rintro v M' ⟨rfl, rfl⟩
                    refine rx_iload_n hE dX11_mornings_108 (i := 3) rfl rfl ?_
                    refine rx_icmp_ge (tgt := 136) hE dX11_mornings_109 (by decide) (fun c109 => ?_) (fun c109 => ?_)
                    · refine rx_aload_n hE dX11_mornings_136 (i := 0) rfl rfl ?_
                      refine rx_call0 (rx_callV (av := []) hE dX11_mornings_137 lk_X11_362 (c_X11_passg (J := J') hM hz.1.1 hz.1.2.1 hz.1.2.2 hf') (kp_o hM) np_X11_passes rfl rfl (by decide) (Nat.le_of_ble_eq_true rfl) rfl ?_)
                      rintro v M' ⟨rfl, S1, L1, g1, rfl, hI, hg1⟩
                      have hz1 := hz.ip hI
                      have hL1 := hI.L0
                      clear hI
                      refine rx_pop hE dX11_mornings_140 rfl ?_
                      refine rx_iinc_9 hE dX11_mornings_141 (v := 1) (by decide) (by decide) rfl ?_
                      rw [nI_1]
                      refine rx_goto (tgt := 96) hE dX11_mornings_144 (by decide) ?_
                      exact ihn (k + 1) S1 L1 g1 (jone t J') (qdx x) (by omega) (by rw [jone_T t hf'.1]; omega) hz1 (by rw [hL1]; exact k_x_0 _ _) (qdx_lt _) (hs.trans (jst.one t J')) (hf'.one t (by omega)) (by rw [← hIn, qmoB_s, qmo1_n (fun q => absurd q.1 (by have := (nI_leI (by omega) (by omega)).mp c109; omega))])
                    · refine rx_aload_n hE dX11_mornings_112 (i := 0) rfl rfl ?_
                      refine rx_getf hE dX11_mornings_113 fl_X11_39_10 (kp_o hM) rfl ?_
                      refine rx_iconst hE dX11_mornings_116 (v := 3) (by decide) ?_
                      refine rx_ialdN (i := 3) hE dX11_mornings_117 (kp_10 hM) (by omega) (by decide) ?_
                      refine rx_int _ _ kr_c2 ?_
                      refine rx_int _ (nI (jR J)) hR' ?_
                      refine rx_if_le (tgt := 136) hE dX11_mornings_118 (by decide) (fun c118 => ?_) (fun c118 => ?_)
                      · refine rx_aload_n hE dX11_mornings_136 (i := 0) rfl rfl ?_
                        refine rx_call0 (rx_callV (av := []) hE dX11_mornings_137 lk_X11_362 (c_X11_passg (J := J') hM hz.1.1 hz.1.2.1 hz.1.2.2 hf') (kp_o hM) np_X11_passes rfl rfl (by decide) (Nat.le_of_ble_eq_true rfl) rfl ?_)
                        rintro v M' ⟨rfl, S1, L1, g1, rfl, hI, hg1⟩
                        have hz1 := hz.ip hI
                        have hL1 := hI.L0
                        clear hI
                        refine rx_pop hE dX11_mornings_140 rfl ?_
                        refine rx_iinc_9 hE dX11_mornings_141 (v := 1) (by decide) (by decide) rfl ?_
                        rw [nI_1]
                        refine rx_goto (tgt := 96) hE dX11_mornings_144 (by decide) ?_
                        exact ihn (k + 1) S1 L1 g1 (jone t J') (qdx x) (by omega) (by rw [jone_T t hf'.1]; omega) hz1 (by rw [hL1]; exact k_x_0 _ _) (qdx_lt _) (hs.trans (jst.one t J')) (hf'.one t (by omega)) (by rw [← hIn, qmoB_s, qmo1_n (fun q => absurd c118 (nI_nle q.2 (by omega)))])
                      · have hR0 : 0 < jR J := by rcases Nat.eq_zero_or_pos (jR J) with q | q; exact absurd (by rw [q]; decide) c118; exact q
                        have hq6 : qdv (qdx x) (jR J) < 6 := Nat.lt_of_lt_of_le (Nat.mod_lt _ hR0) hr6
                        refine rx_aload_n hE dX11_mornings_121 (i := 0) rfl rfl ?_
                        refine rx_aload_n hE dX11_mornings_122 (i := 0) rfl rfl ?_
                        refine rx_aload_n hE dX11_mornings_123 (i := 0) rfl rfl ?_
                        refine rx_getf hE dX11_mornings_124 fl_X11_39_10 (kp_o hM) rfl ?_
                        refine rx_iconst hE dX11_mornings_127 (v := 3) (by decide) ?_
                        refine rx_ialdN (i := 3) hE dX11_mornings_128 (kp_10 hM) (by omega) (by decide) ?_
                        refine rx_int _ _ kr_c2 ?_
                        refine rx_int _ (nI (jR J)) hR' ?_
                        refine rx_call0 (rx_callV (av := [.int (nI (jR J))]) hE dX11_mornings_129 lk_X11_472 (c_X11_draw hM (x := (qdx x)) (k := (jR J)) (k_x_0 _ _) (qdx_lt x) hR0 (by omega)) (kp_o hM) np_X11_draw rfl rfl (by decide) (Nat.le_of_ble_eq_true rfl) rfl ?_)
                        rintro v M' ⟨rfl, rfl⟩
                        refine rx_iconst hE dX11_mornings_132 (v := 3) (by decide) ?_
                        refine rx_call0 (rx_callV (av := [.int (nI (qdv (qdx x) (jR J))), .int 3]) hE dX11_mornings_133 lk_X11_350 (c_X11_comes hM 3 (r := qdv (qdx x) (jR J)) (by omega)) (kp_o hM) np_X11_comes rfl rfl (by decide) (Nat.le_of_ble_eq_true rfl) rfl ?_)
                        rintro v M' ⟨rfl, rfl⟩
                        rw [j_addw_s7]
                        refine rx_aload_n hE dX11_mornings_136 (i := 0) rfl rfl ?_
                        refine rx_call0 (rx_callV (av := []) hE dX11_mornings_137 lk_X11_362 (c_X11_passg (J := j_addw J' (qdv (qdx x) (jR J)) 3) hM hz.1.1 hz.1.2.1 hz.1.2.2 (hf'.add3 (by omega))) (kp_o hM) np_X11_passes rfl rfl (by decide) (Nat.le_of_ble_eq_true rfl) rfl ?_)
                        rintro v M' ⟨rfl, S1, L1, g1, rfl, hI, hg1⟩
                        have hz1 := hz.ip hI
                        have hL1 := hI.L0
                        clear hI
                        refine rx_pop hE dX11_mornings_140 rfl ?_
                        refine rx_iinc_9 hE dX11_mornings_141 (v := 1) (by decide) (by decide) rfl ?_
                        rw [nI_1]
                        refine rx_goto (tgt := 96) hE dX11_mornings_144 (by decide) ?_
                        exact ihn (k + 1) S1 L1 g1 (jone t (j_addw J' (qdv (qdx x) (jR J)) 3)) (qdx (qdx x)) (by omega) (by rw [jone_T t (hf'.add3 (r := qdv (qdx x) (jR J)) (by omega)).1, show jT (j_addw J' (qdv (qdx x) (jR J)) 3) = jT J' from rfl]; omega) hz1 (by rw [hL1]; exact k_x_0 _ _) (qdx_lt _) (hs.trans ((show jst (j_addw J' (qdv (qdx x) (jR J)) 3) J' from ⟨rfl, rfl, fun _ _ _ => rfl⟩).trans (jst.one t _))) ((hf'.add3 (r := qdv (qdx x) (jR J)) (by omega)).one t (by show jT J' + 1 < _; omega)) (by rw [← hIn, qmoB_s, qmo1_p ⟨Nat.lt_of_not_le (fun q => c109 ((nI_leI (by omega) (by omega)).mpr q)), hR0⟩])
                refine rx_iload hE dX11_mornings_87 rfl ?_
                refine rx_iload_n hE dX11_mornings_89 (i := 1) rfl rfl ?_
                refine rx_icmp_ge (tgt := 190) hE dX11_mornings_90 (by decide) (fun c90 => absurd c90 (nI_ge (a := y) (b := m) (by omega) (by omega))) (fun c90 => ?_)
                refine rx_iconst hE dX11_mornings_93 (v := 0) (by decide) ?_
                refine rx_istore_9 hE dX11_mornings_94 (by decide) rfl ?_
                exact inner N 0 S' L' g' J s.2.2 (by omega) (by omega) hz hL hx (jst.refl J) hf rfl
            refine rx_aload_n hE dX11_mornings_58 (i := 0) rfl rfl ?_
            refine rx_aload_n hE dX11_mornings_59 (i := 0) rfl rfl ?_
            refine rx_getf hE dX11_mornings_60 fl_X11_454_10 (kp_o hM) rfl ?_
            refine rx_int _ _ (kr_f (by decide)) ?_
            refine rx_int _ (nI x) hxf ?_
            refine rx_i2l hE dX11_mornings_63 ?_
            refine rx_lng _ (lN x) (nI_l (by omega)) ?_
            refine rx_put hE dX11_mornings_64 fl_X11_457_10 fw_10_37 (kp_o hM) (fun _ => rfl) (fun _ => rfl) (Nat.le_of_ble_eq_true rfl) ?_
            refine rx_mem (M' := kp M (kput S (j_s J 7 g)) (k_x L (lN x))) kw_c37 ?_
            refine rx_iconst hE dX11_mornings_67 (v := 0) (by decide) ?_
            refine rx_istore_5 hE dX11_mornings_68 (by decide) rfl ?_
            refine rx_iconst hE dX11_mornings_70 (v := 0) (by decide) ?_
            refine rx_istore_6 hE dX11_mornings_71 (by decide) rfl ?_
            refine rx_aload_n hE dX11_mornings_73 (i := 0) rfl rfl ?_
            refine rx_iconst hE dX11_mornings_74 (v := 2) (by decide) ?_
            refine rx_call0 (rx_callV (av := [.int 2]) hE dX11_mornings_75 lk_X11_340 (c_X11_sumOver (m := 2) (R := jR J) hM (hf.1.1) hr6 (by decide)) (kp_o hM) np_X11_sumOver rfl rfl (by decide) (Nat.le_of_ble_eq_true rfl) rfl ?_)
            rintro v M' ⟨rfl, rfl⟩
            refine rx_int _ (jsum (J 4) (jR J)) rfl ?_
            refine rx_istore_7 hE dX11_mornings_78 (by decide) rfl ?_
            refine rx_aload_n hE dX11_mornings_80 (i := 0) rfl rfl ?_
            refine rx_call0 (rx_callV (av := []) hE dX11_mornings_81 lk_X11_376 (c_X11_keeps hM) (kp_o hM) np_X11_keeps rfl rfl (by decide) (Nat.le_of_ble_eq_true rfl) rfl ?_)
            rintro v M' ⟨rfl, rfl⟩
            have hz := kz.keep hb J g
            refine rx_iconst hE dX11_mornings_84 (v := 0) (by decide) ?_
            refine rx_istore_8 hE dX11_mornings_85 (by decide) rfl ?_
            exact outer m 0 _ _ g (0, 0, x) _ (by omega) hz (k_x_0 _ _) hx0 rfl
          · refine rx_ldcw hE dX11_mornings_54 k_X11_471 ?_
            exact rx_iret hE hQ rfl dX11_mornings_57 ⟨by simp [q_mornings, *], kD.refl M S L J g⟩
