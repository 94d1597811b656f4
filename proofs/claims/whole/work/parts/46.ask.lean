abbrev g3 : Type := Int32 × Int32 × Int32
def qloI (f : Nat → Int32) (b : Int32) : Nat → Nat → g3 → g3
  | _, 0, s => s
  | k, n + 1, s => qloI f b (k + 1) n (if s.1 < f k then (f k, b, nI k) else s)
def qlo (t : gJn → Nat → Int32 → Bool) (R : Nat) : Nat → gJn → g3 → g3
  | 0, _, s => s
  | n + 1, J, s => qlo t R n (jone t J) (qloI (jone t J 0) (J 9 3) 0 R s)
def q3 (what : Int32) (x y z : Int32) : Int32 := if what = 0 then x else if what = 1 then y else z
def q_longest (t : gJn → Nat → Int32 → Bool) (J : gJn) (n what : Int32) : Int32 := if j_isTold J = 0 ∨ q_in n 1 100 = 0 ∨ q_in what 0 2 = 0 then -1 else q3 what (if 0 ≤ (qlo t (jR J) n.toNatClampNeg J (-1, -2, -2)).1 then (qlo t (jR J) n.toNatClampNeg J (-1, -2, -2)).1 else 0) (qlo t (jR J) n.toNatClampNeg J (-1, -2, -2)).2.1 (qlo t (jR J) n.toNatClampNeg J (-1, -2, -2)).2.2
set_option maxRecDepth 100000 in
set_option maxHeartbeats 4000000 in
theorem c_X11_longest {M : gM} {S : gS} {L : gLg} {J : gJn} {g : Nat → Int32} (hM : 408 ≤ M.1) {t : gJn → Nat → Int32 → Bool} (hk : kok S J t) (n what : Int32) : SX 7 0 0 mX11_longest [.ref 384, .int n, .int what] (kp M (kput S (j_s J 7 g)) L) (fun v M' => v = some (.int (q_longest t J n what)) ∧ kD M S J M') := by
  refine SX.intro [some (.ref 384), some (.int n), some (.int what), none, none, none, none, none] (by decide +kernel) (Nat.le_of_ble_eq_true rfl) rfl (fun E hE hQ => ?_)
  refine rx_aload_n hE dX11_longest_0 (i := 0) rfl rfl ?_
  refine rx_call0 (rx_callV (av := []) hE dX11_longest_1 lk_X11_294 (c_X11_isJunction hM) (kp_o hM) np_X11_isJunction rfl rfl (by decide) (Nat.le_of_ble_eq_true rfl) rfl ?_)
  rintro v M' ⟨rfl, rfl⟩
  refine rx_int _ (j_isTold J) hk.isJ ?_
  refine rx_if_eq (tgt := 31) hE dX11_longest_4 (by decide) (fun c4 => ?_) (fun c4 => ?_)
  · refine rx_iconst hE dX11_longest_31 (v := -1) (by decide) ?_
    exact rx_iret hE hQ rfl dX11_longest_32 ⟨by simp [q_longest, *], kD.refl M S L J g⟩
  · refine rx_iload_n hE dX11_longest_7 (i := 1) rfl rfl ?_
    refine rx_i2l hE dX11_longest_8 ?_
    refine rx_lconst hE dX11_longest_9 (v := 1) (by decide) ?_
    refine rx_ldc2 hE dX11_longest_10 kl_X11_372 ?_
    refine rx_call0 (rx_callS (av := [.long _, .long _, .long _]) hE dX11_longest_13 lk_X11_130 (c_X11_in _ _ _) np_X11_in rfl rfl (by decide) (Nat.le_of_ble_eq_true rfl) rfl ?_)
    rintro v M' ⟨rfl, rfl⟩
    refine rx_int _ (q_in _ (1) (100)) (k_in_eq _ _ _ (by decide) (by decide)) ?_
    refine rx_if_eq (tgt := 31) hE dX11_longest_16 (by decide) (fun c16 => ?_) (fun c16 => ?_)
    · refine rx_iconst hE dX11_longest_31 (v := -1) (by decide) ?_
      exact rx_iret hE hQ rfl dX11_longest_32 ⟨by simp [q_longest, *], kD.refl M S L J g⟩
    · refine rx_iload_n hE dX11_longest_19 (i := 2) rfl rfl ?_
      refine rx_i2l hE dX11_longest_20 ?_
      refine rx_lconst hE dX11_longest_21 (v := 0) (by decide) ?_
      refine rx_ldc2 hE dX11_longest_22 kl_X11_374 ?_
      refine rx_call0 (rx_callS (av := [.long _, .long _, .long _]) hE dX11_longest_25 lk_X11_130 (c_X11_in _ _ _) np_X11_in rfl rfl (by decide) (Nat.le_of_ble_eq_true rfl) rfl ?_)
      rintro v M' ⟨rfl, rfl⟩
      refine rx_int _ (q_in _ (0) (2)) (k_in_eq _ _ _ (by decide) (by decide)) ?_
      refine rx_if_ne (tgt := 33) hE dX11_longest_28 (by decide) (fun c28 => ?_) (fun c28 => ?_)
      · have hg : ¬ (j_isTold J = 0 ∨ q_in n 1 100 = 0 ∨ q_in what 0 2 = 0) := by simp [*]
        obtain ⟨hb, hf, hT9⟩ := hk.told c4
        obtain ⟨N, hN0, hN, rfl⟩ := q_in_of (a := 1) (b := 100) (by decide) c16
        have hr6 := hf.1.2.1
        have fin : ∀ (S' : gS) (L' : gLg) (g' : Nat → Int32) (J' : gJn) (s : g3) (l6 l7 : Option Value), kz S t J S' → jst J' J → s = qlo t (jR J) N J (-1, -2, -2) → RX E mX11_longest.2.2.1 0 0 122 [some (.ref 384), some (.int (nI N)), some (.int what), some (.int s.1), some (.int s.2.1), some (.int s.2.2), l6, l7] [] (kp M (kput S' (j_s J' 7 g')) L') := by
          intro S' L' g' J' s l6 l7 hz hs hv
          have hv : q_longest t J (nI N) what = q3 what (if 0 ≤ s.1 then s.1 else 0) s.2.1 s.2.2 := by rw [hv]; unfold q_longest; rw [if_neg hg, nI_clamp (n := N) (by omega)]
          refine rx_aload_n hE dX11_longest_122 (i := 0) rfl rfl ?_
          refine rx_call0 (rx_callV (av := []) hE dX11_longest_123 lk_X11_382 (c_X11_laysBack hM hz.2.1) (kp_o hM) np_X11_laysBack rfl rfl (by decide) (Nat.le_of_ble_eq_true rfl) rfl ?_)
          rintro v M' ⟨rfl, rfl⟩
          refine rx_iload_n hE dX11_longest_126 (i := 2) rfl rfl ?_
          refine rx_if_ne (tgt := 142) hE dX11_longest_127 (by decide) (fun c127 => ?_) (fun c127 => ?_)
          · refine rx_iload_n hE dX11_longest_142 (i := 2) rfl rfl ?_
            refine rx_iconst hE dX11_longest_143 (v := 1) (by decide) ?_
            refine rx_icmp_ne (tgt := 152) hE dX11_longest_144 (by decide) (fun c144 => ?_) (fun c144 => ?_)
            · refine rx_iload hE dX11_longest_152 rfl ?_
              exact rx_iret hE hQ rfl dX11_longest_154 ⟨by rw [hv]; unfold q3; (first | rw [if_pos c127, if_pos c131] | rw [if_pos c127, if_neg c131] | rw [if_neg c127, if_pos c144] | rw [if_neg c127, if_neg c144]), S', L', _, by rw [hs.back g'], hz.2.2⟩
            · refine rx_iload hE dX11_longest_147 rfl ?_
              refine rx_goto (tgt := 154) hE dX11_longest_149 (by decide) ?_
              exact rx_iret hE hQ rfl dX11_longest_154 ⟨by rw [hv]; unfold q3; (first | rw [if_pos c127, if_pos c131] | rw [if_pos c127, if_neg c131] | rw [if_neg c127, if_pos c144] | rw [if_neg c127, if_neg c144]), S', L', _, by rw [hs.back g'], hz.2.2⟩
          · refine rx_iload_n hE dX11_longest_130 (i := 3) rfl rfl ?_
            refine rx_if_ge (tgt := 138) hE dX11_longest_131 (by decide) (fun c131 => ?_) (fun c131 => ?_)
            · refine rx_iload_n hE dX11_longest_138 (i := 3) rfl rfl ?_
              refine rx_goto (tgt := 154) hE dX11_longest_139 (by decide) ?_
              exact rx_iret hE hQ rfl dX11_longest_154 ⟨by rw [hv]; unfold q3; (first | rw [if_pos c127, if_pos c131] | rw [if_pos c127, if_neg c131] | rw [if_neg c127, if_pos c144] | rw [if_neg c127, if_neg c144]), S', L', _, by rw [hs.back g'], hz.2.2⟩
            · refine rx_iconst hE dX11_longest_134 (v := 0) (by decide) ?_
              refine rx_goto (tgt := 154) hE dX11_longest_135 (by decide) ?_
              exact rx_iret hE hQ rfl dX11_longest_154 ⟨by rw [hv]; unfold q3; (first | rw [if_pos c127, if_pos c131] | rw [if_pos c127, if_neg c131] | rw [if_neg c127, if_pos c144] | rw [if_neg c127, if_neg c144]), S', L', _, by rw [hs.back g'], hz.2.2⟩
        have outer : ∀ (n k : Nat) (S' : gS) (L' : gLg) (g' : Nat → Int32) (J' : gJn) (s : g3) (l7 : Option Value), k + n = N → jT J' = jT J + k → kz S t J S' → jst J' J → jfit J' → qlo t (jR J) n J' s = qlo t (jR J) N J (-1, -2, -2) → RX E mX11_longest.2.2.1 0 0 50 [some (.ref 384), some (.int (nI N)), some (.int what), some (.int s.1), some (.int s.2.1), some (.int s.2.2), some (.int (nI k)), l7] [] (kp M (kput S' (j_s J' 7 g')) L') := by
          intro n
          induction n with
          | zero =>
            intro k S' L' g' J' s l7 hk2 hT2 hz hs hf' hF
            refine rx_iload hE dX11_longest_50 rfl ?_
            refine rx_iload_n hE dX11_longest_52 (i := 1) rfl rfl ?_
            refine rx_icmp_ge (tgt := 122) hE dX11_longest_53 (by decide) (fun c53 => ?_) (fun c53 => absurd (show nI N ≤ nI k from nI_le (by omega) (by omega)) c53)
            exact fin S' L' g' J' s _ _ hz hs (by rw [← hF]; rfl)
          | succ n ih =>
            intro k S' L' g' J' s l7 hk2 hT2 hz hs hf' hF
            have hR1 : jone t J' 9 2 = nI (jR J) := by rw [jone_9 t J' (by decide) (by decide), hs.2.2 2 (by decide) (by decide)]; exact hf.1.1
            refine rx_iload hE dX11_longest_50 rfl ?_
            refine rx_iload_n hE dX11_longest_52 (i := 1) rfl rfl ?_
            refine rx_icmp_ge (tgt := 122) hE dX11_longest_53 (by decide) (fun c53 => absurd c53 (nI_ge (a := k) (b := N) (by omega) (by omega))) (fun c53 => ?_)
            refine rx_aload_n hE dX11_longest_56 (i := 0) rfl rfl ?_
            refine rx_call0 (rx_callV (av := []) hE dX11_longest_57 lk_X11_362 (c_X11_passg hM hz.1.1 hz.1.2.1 hz.1.2.2 hf') (kp_o hM) np_X11_passes rfl rfl (by decide) (Nat.le_of_ble_eq_true rfl) rfl ?_)
            rintro v M' ⟨rfl, S1, L1, g1, rfl, hI, hg1⟩
            have hz1 := hz.ip hI
            clear hI
            refine rx_pop hE dX11_longest_60 rfl ?_
            refine rx_iconst hE dX11_longest_61 (v := 0) (by decide) ?_
            refine rx_istore_7 hE dX11_longest_62 (by decide) rfl ?_
            have inner : ∀ (n' r : Nat) (s' : g3), r + n' = jR J → qloI (jone t J' 0) (J' 9 3) r n' s' = qloI (jone t J' 0) (J' 9 3) 0 (jR J) s → RX E mX11_longest.2.2.1 0 0 64 [some (.ref 384), some (.int (nI N)), some (.int what), some (.int s'.1), some (.int s'.2.1), some (.int s'.2.2), some (.int (nI k)), some (.int (nI r))] [] (kp M (kput S1 (j_s (jone t J') 7 g1)) L1) := by
              intro n'
              induction n' with
              | zero =>
                intro r s' hk3 hIn
                refine rx_iload hE dX11_longest_64 rfl ?_
                refine rx_aload_n hE dX11_longest_66 (i := 0) rfl rfl ?_
                refine rx_getf hE dX11_longest_67 fl_X11_39_10 (kp_o hM) rfl ?_
                refine rx_iconst hE dX11_longest_70 (v := 3) (by decide) ?_
                refine rx_ialdN (i := 3) hE dX11_longest_71 (kp_10 hM) (by omega) (by decide) ?_
                refine rx_int _ _ kr_c2 ?_
                refine rx_icmp_ge (tgt := 116) hE dX11_longest_72 (by decide) (fun c72 => ?_) (fun c72 => absurd (show jone t J' 9 2 ≤ nI r from by rw [hR1]; exact nI_le (by omega) (by omega)) c72)
                refine rx_iinc_6 hE dX11_longest_116 (v := 1) (by decide) (by decide) rfl ?_
                rw [nI_1]
                refine rx_goto (tgt := 50) hE dX11_longest_119 (by decide) ?_
                exact ih (k + 1) S1 L1 g1 (jone t J') s' _ (by omega) (by rw [jone_T t hf'.1]; omega) hz1 (hs.trans (jst.one t J')) (hf'.one t (by omega)) (by rw [← hF, show s' = qloI (jone t J' 0) (J' 9 3) 0 (jR J) s from hIn]; rfl)
              | succ n' ihn =>
                intro r s' hk3 hIn
                refine rx_iload hE dX11_longest_64 rfl ?_
                refine rx_aload_n hE dX11_longest_66 (i := 0) rfl rfl ?_
                refine rx_getf hE dX11_longest_67 fl_X11_39_10 (kp_o hM) rfl ?_
                refine rx_iconst hE dX11_longest_70 (v := 3) (by decide) ?_
                refine rx_ialdN (i := 3) hE dX11_longest_71 (kp_10 hM) (by omega) (by decide) ?_
                refine rx_int _ _ kr_c2 ?_
                refine rx_icmp_ge (tgt := 116) hE dX11_longest_72 (by decide) (fun c72 => absurd (show nI (jR J) ≤ nI r from by rw [← hR1]; exact c72) (nI_ge (by omega) (by omega))) (fun c72 => ?_)
                refine rx_aload_n hE dX11_longest_75 (i := 0) rfl rfl ?_
                refine rx_iload hE dX11_longest_76 rfl ?_
                refine rx_call0 (rx_callV (av := [.int (nI r)]) hE dX11_longest_78 lk_X11_312 (c_X11_waitOn hM (r := r) (by omega)) (kp_o hM) np_X11_waitOn rfl rfl (by decide) (Nat.le_of_ble_eq_true rfl) rfl ?_)
                rintro v M' ⟨rfl, rfl⟩
                refine rx_int _ (jone t J' 0 r) rfl ?_
                refine rx_iload_n hE dX11_longest_81 (i := 3) rfl rfl ?_
                refine rx_icmp_gt (tgt := 88) hE dX11_longest_82 (by decide) (fun c82 => ?_) (fun c82 => ?_)
                · refine rx_aload_n hE dX11_longest_88 (i := 0) rfl rfl ?_
                  refine rx_iload hE dX11_longest_89 rfl ?_
                  refine rx_call0 (rx_callV (av := [.int (nI r)]) hE dX11_longest_91 lk_X11_312 (c_X11_waitOn hM (r := r) (by omega)) (kp_o hM) np_X11_waitOn rfl rfl (by decide) (Nat.le_of_ble_eq_true rfl) rfl ?_)
                  rintro v M' ⟨rfl, rfl⟩
                  refine rx_int _ (jone t J' 0 r) rfl ?_
                  refine rx_istore_n_3 hE dX11_longest_94 (by decide) rfl ?_
                  refine rx_aload_n hE dX11_longest_95 (i := 0) rfl rfl ?_
                  refine rx_getf hE dX11_longest_96 fl_X11_39_10 (kp_o hM) rfl ?_
                  refine rx_bipush hE dX11_longest_99 (v := 10) (by decide) ?_
                  refine rx_ialdN (i := 10) hE dX11_longest_101 (kp_10 hM) (by omega) (by decide) ?_
                  refine rx_int _ _ kr_c3 ?_
                  refine rx_iconst hE dX11_longest_102 (v := 1) (by decide) ?_
                  refine rx_isub hE dX11_longest_103 ?_
                  refine rx_int _ (J' 9 3) (jok.m1 t J') ?_
                  refine rx_istore_4 hE dX11_longest_104 (by decide) rfl ?_
                  refine rx_iload hE dX11_longest_106 rfl ?_
                  refine rx_istore_5 hE dX11_longest_108 (by decide) rfl ?_
                  refine rx_iinc_7 hE dX11_longest_110 (v := 1) (by decide) (by decide) rfl ?_
                  rw [nI_1]
                  refine rx_goto (tgt := 64) hE dX11_longest_113 (by decide) ?_
                  exact ihn (r + 1) (jone t J' 0 r, J' 9 3, nI r) (by omega) (by rw [← hIn]; show _ = qloI (jone t J' 0) (J' 9 3) (r + 1) n' (if s'.1 < jone t J' 0 r then (jone t J' 0 r, J' 9 3, nI r) else s'); rw [if_pos c82])
                · refine rx_goto (tgt := 110) hE dX11_longest_85 (by decide) ?_
                  refine rx_iinc_7 hE dX11_longest_110 (v := 1) (by decide) (by decide) rfl ?_
                  rw [nI_1]
                  refine rx_goto (tgt := 64) hE dX11_longest_113 (by decide) ?_
                  exact ihn (r + 1) s' (by omega) (by rw [← hIn]; show _ = qloI (jone t J' 0) (J' 9 3) (r + 1) n' (if s'.1 < jone t J' 0 r then (jone t J' 0 r, J' 9 3, nI r) else s'); rw [if_neg c82])
            exact inner (jR J) 0 s (by omega) rfl
        refine rx_iconst hE dX11_longest_33 (v := -1) (by decide) ?_
        refine rx_istore_n_3 hE dX11_longest_34 (by decide) rfl ?_
        refine rx_bipush hE dX11_longest_35 (v := -2) (by decide) ?_
        refine rx_istore_4 hE dX11_longest_37 (by decide) rfl ?_
        refine rx_bipush hE dX11_longest_39 (v := -2) (by decide) ?_
        refine rx_istore_5 hE dX11_longest_41 (by decide) rfl ?_
        refine rx_aload_n hE dX11_longest_43 (i := 0) rfl rfl ?_
        refine rx_call0 (rx_callV (av := []) hE dX11_longest_44 lk_X11_376 (c_X11_keeps hM) (kp_o hM) np_X11_keeps rfl rfl (by decide) (Nat.le_of_ble_eq_true rfl) rfl ?_)
        rintro v M' ⟨rfl, rfl⟩
        have hz := kz.keep hb J g
        refine rx_iconst hE dX11_longest_47 (v := 0) (by decide) ?_
        refine rx_istore_6 hE dX11_longest_48 (by decide) rfl ?_
        exact outer N 0 _ _ g J (-1, -2, -2) _ (by omega) (by omega) hz (jst.refl J) hf rfl
      · refine rx_iconst hE dX11_longest_31 (v := -1) (by decide) ?_
        exact rx_iret hE hQ rfl dX11_longest_32 ⟨by simp [q_longest, *], kD.refl M S L J g⟩
theorem jback_st {J J' : gJn} (h : jst J' J) (g : Nat → Int32) (J0 : gJn) : jback (j_s J' 7 g) J0 = jback (j_s J 7 g) J0 := by
  funext f
  unfold jback
  by_cases a9 : f = 9
  · subst a9
    rw [if_pos rfl, if_pos rfl]
    funext i
    show (if i = 3 ∨ i = 4 then J0 9 i else J' 9 i) = (if i = 3 ∨ i = 4 then J0 9 i else J 9 i)
    by_cases hi : i = 3 ∨ i = 4
    · rw [if_pos hi, if_pos hi]
    · rw [if_neg hi, if_neg hi, h.2.2 i (by omega) (by omega)]
  · rw [if_neg a9, if_neg a9]
    by_cases a1 : f = 1 ∨ f = 3 ∨ f = 7
    · rw [if_pos a1, if_pos a1]
      rcases a1 with rfl | rfl | rfl
      · exact h.1
      · exact h.2.1
      · rfl
    · rw [if_neg a1, if_neg a1]
set_option maxRecDepth 100000 in
set_option maxHeartbeats 4000000 in
theorem c_X11_waitedBy {M : gM} {S0 S : gS} {L : gLg} {J J0 : gJn} {g : Nat → Int32} (hM : 408 ≤ M.1) {N : Nat} {t : gJn → Nat → Int32 → Bool} (hz : kz S0 t J0 S) (hf : jfit J) (hN : jT J + N < 1000000) : SX 8 0 0 mX11_waitedBy [.ref 384, .int (nI N)] (kp M (kput S (j_s J 7 g)) L) (fun v M' => v = some (.int (jsum (jmanyF t N J 5) (jR J))) ∧ ∃ (S' : gS) (L' : gLg) (g' : Nat → Int32), M' = kp M (kput S' (jback (j_s J 7 g') J0)) L' ∧ kz S0 t J0 S') := by
  refine SX.intro [some (.ref 384), some (.int (nI N)), none] (by decide +kernel) (Nat.le_of_ble_eq_true rfl) rfl (fun E hE hQ => ?_)
  refine rx_aload_n hE dX11_waitedBy_0 (i := 0) rfl rfl ?_
  refine rx_iload_n hE dX11_waitedBy_1 (i := 1) rfl rfl ?_
  refine rx_call0 (rx_callV (av := [.int (nI N)]) hE dX11_waitedBy_2 lk_X11_379 (c_X11_passesAll hM hz.1.1 hz.1.2.1 hz.1.2.2 hf hN) (kp_o hM) np_X11_passesAll rfl rfl (by decide) (Nat.le_of_ble_eq_true rfl) rfl ?_)
  rintro v M' ⟨rfl, S1, L1, g1, rfl, hI⟩
  have hz1 := hz.ip hI
  clear hI
  refine rx_aload_n hE dX11_waitedBy_5 (i := 0) rfl rfl ?_
  refine rx_iconst hE dX11_waitedBy_6 (v := 3) (by decide) ?_
  refine rx_call0 (rx_callV (av := [.int 3]) hE dX11_waitedBy_7 lk_X11_340 (c_X11_sumOver (m := 3) (R := jR J) hM (by show jmanyF t N J 9 2 = _; rw [(jst.many t N J).2.2 2 (by decide) (by decide)]; exact hf.1.1) hf.1.2.1 (by decide)) (kp_o hM) np_X11_sumOver rfl rfl (by decide) (Nat.le_of_ble_eq_true rfl) rfl ?_)
  rintro v M' ⟨rfl, rfl⟩
  refine rx_istore_n_2 hE dX11_waitedBy_10 (by decide) rfl ?_
  refine rx_aload_n hE dX11_waitedBy_11 (i := 0) rfl rfl ?_
  refine rx_call0 (rx_callV (av := []) hE dX11_waitedBy_12 lk_X11_382 (c_X11_laysBack hM hz1.2.1) (kp_o hM) np_X11_laysBack rfl rfl (by decide) (Nat.le_of_ble_eq_true rfl) rfl ?_)
  rintro v M' ⟨rfl, rfl⟩
  refine rx_iload_n hE dX11_waitedBy_15 (i := 2) rfl rfl ?_
  exact rx_iret hE hQ rfl dX11_waitedBy_16 ⟨rfl, S1, L1, g1, by rw [jback_st (jst.many t N J)], hz1⟩
def qbj (J : gJn) (b k : Nat) : gJn := j_s J 8 (upd (J 8) b (J 8 b ^^^ (1 : Int32) <<< (nI k &&& 31)))
def qbI (t : gJn → Nat → Int32 → Bool) (R N : Nat) (J : gJn) (b : Nat) : Nat → Nat → g3 → g3
  | _, 0, s => s
  | k, n + 1, s => qbI t R N J b (k + 1) n (if jsum (jmanyF t N (qbj J b k) 5) R < s.1 then (jsum (jmanyF t N (qbj J b k) 5) R, nI b, nI k) else s)
def qbO (t : gJn → Nat → Int32 → Bool) (R N : Nat) (J : gJn) : Nat → Nat → g3 → g3
  | _, 0, s => s
  | b, n + 1, s => qbO t R N J (b + 1) n (qbI t R N J b 0 R s)
def q_bestScore (t : gJn → Nat → Int32 → Bool) (J : gJn) (n what : Int32) : Int32 := if j_isTold J = 0 ∨ q_in n 1 30 = 0 ∨ q_in what 0 2 = 0 then -1 else q3 what (qbO t (jR J) n.toNatClampNeg J 0 (jB J) (jsum (jmanyF t n.toNatClampNeg J 5) (jR J), -2, -2)).1 (qbO t (jR J) n.toNatClampNeg J 0 (jB J) (jsum (jmanyF t n.toNatClampNeg J 5) (jR J), -2, -2)).2.1 (qbO t (jR J) n.toNatClampNeg J 0 (jB J) (jsum (jmanyF t n.toNatClampNeg J 5) (jR J), -2, -2)).2.2
set_option maxRecDepth 100000 in
set_option maxHeartbeats 4000000 in
theorem c_X11_bestScore {M : gM} {S : gS} {L : gLg} {J : gJn} {g : Nat → Int32} (hM : 408 ≤ M.1) {t : gJn → Nat → Int32 → Bool} (hk : kok S J t) (n what : Int32) : SX 9 0 0 mX11_bestScore [.ref 384, .int n, .int what] (kp M (kput S (j_s J 7 g)) L) (fun v M' => v = some (.int (q_bestScore t J n what)) ∧ kD M S J M') := by
  refine SX.intro [some (.ref 384), some (.int n), some (.int what), none, none, none, none, none, none] (by decide +kernel) (Nat.le_of_ble_eq_true rfl) rfl (fun E hE hQ => ?_)
  refine rx_aload_n hE dX11_bestScore_0 (i := 0) rfl rfl ?_
  refine rx_call0 (rx_callV (av := []) hE dX11_bestScore_1 lk_X11_294 (c_X11_isJunction hM) (kp_o hM) np_X11_isJunction rfl rfl (by decide) (Nat.le_of_ble_eq_true rfl) rfl ?_)
  rintro v M' ⟨rfl, rfl⟩
  refine rx_int _ (j_isTold J) hk.isJ ?_
  refine rx_if_eq (tgt := 31) hE dX11_bestScore_4 (by decide) (fun c4 => ?_) (fun c4 => ?_)
  · refine rx_iconst hE dX11_bestScore_31 (v := -1) (by decide) ?_
    exact rx_iret hE hQ rfl dX11_bestScore_32 ⟨by simp [q_bestScore, *], kD.refl M S L J g⟩
  · refine rx_iload_n hE dX11_bestScore_7 (i := 1) rfl rfl ?_
    refine rx_i2l hE dX11_bestScore_8 ?_
    refine rx_lconst hE dX11_bestScore_9 (v := 1) (by decide) ?_
    refine rx_ldc2 hE dX11_bestScore_10 kl_X11_398 ?_
    refine rx_call0 (rx_callS (av := [.long _, .long _, .long _]) hE dX11_bestScore_13 lk_X11_130 (c_X11_in _ _ _) np_X11_in rfl rfl (by decide) (Nat.le_of_ble_eq_true rfl) rfl ?_)
    rintro v M' ⟨rfl, rfl⟩
    refine rx_int _ (q_in _ (1) (30)) (k_in_eq _ _ _ (by decide) (by decide)) ?_
    refine rx_if_eq (tgt := 31) hE dX11_bestScore_16 (by decide) (fun c16 => ?_) (fun c16 => ?_)
    · refine rx_iconst hE dX11_bestScore_31 (v := -1) (by decide) ?_
      exact rx_iret hE hQ rfl dX11_bestScore_32 ⟨by simp [q_bestScore, *], kD.refl M S L J g⟩
    · refine rx_iload_n hE dX11_bestScore_19 (i := 2) rfl rfl ?_
      refine rx_i2l hE dX11_bestScore_20 ?_
      refine rx_lconst hE dX11_bestScore_21 (v := 0) (by decide) ?_
      refine rx_ldc2 hE dX11_bestScore_22 kl_X11_374 ?_
      refine rx_call0 (rx_callS (av := [.long _, .long _, .long _]) hE dX11_bestScore_25 lk_X11_130 (c_X11_in _ _ _) np_X11_in rfl rfl (by decide) (Nat.le_of_ble_eq_true rfl) rfl ?_)
      rintro v M' ⟨rfl, rfl⟩
      refine rx_int _ (q_in _ (0) (2)) (k_in_eq _ _ _ (by decide) (by decide)) ?_
      refine rx_if_ne (tgt := 33) hE dX11_bestScore_28 (by decide) (fun c28 => ?_) (fun c28 => ?_)
      · have hg : ¬ (j_isTold J = 0 ∨ q_in n 1 30 = 0 ∨ q_in what 0 2 = 0) := by simp [*]
        obtain ⟨hb, hf, hT9⟩ := hk.told c4
        obtain ⟨N, hN0, hN, rfl⟩ := q_in_of (a := 1) (b := 30) (by decide) c16
        have hr6 := hf.1.2.1
        have fin : ∀ (S' : gS) (L' : gLg) (g' : Nat → Int32) (s : g3) (l6 l7 l8 : Option Value), kz S t J S' → s = qbO t (jR J) N J 0 (jB J) (jsum (jmanyF t N J 5) (jR J), -2, -2) → RX E mX11_bestScore.2.2.1 0 0 136 [some (.ref 384), some (.int (nI N)), some (.int what), some (.int s.2.1), some (.int s.2.2), some (.int s.1), l6, l7, l8] [] (kp M (kput S' (j_s J 7 g')) L') := by
          intro S' L' g' s l6 l7 l8 hz hv
          have hv : q_bestScore t J (nI N) what = q3 what s.1 s.2.1 s.2.2 := by rw [hv]; unfold q_bestScore; rw [if_neg hg, nI_clamp (n := N) (by omega)]
          refine rx_iload_n hE dX11_bestScore_136 (i := 2) rfl rfl ?_
          refine rx_if_ne (tgt := 145) hE dX11_bestScore_137 (by decide) (fun c137 => ?_) (fun c137 => ?_)
          · refine rx_iload_n hE dX11_bestScore_145 (i := 2) rfl rfl ?_
            refine rx_iconst hE dX11_bestScore_146 (v := 1) (by decide) ?_
            refine rx_icmp_ne (tgt := 154) hE dX11_bestScore_147 (by decide) (fun c147 => ?_) (fun c147 => ?_)
            · refine rx_iload hE dX11_bestScore_154 rfl ?_
              exact rx_iret hE hQ rfl dX11_bestScore_156 ⟨by rw [hv]; unfold q3; (first | rw [if_pos c137] | rw [if_neg c137, if_pos c147] | rw [if_neg c137, if_neg c147]), S', L', g', rfl, hz.2.2⟩
            · refine rx_iload_n hE dX11_bestScore_150 (i := 3) rfl rfl ?_
              refine rx_goto (tgt := 156) hE dX11_bestScore_151 (by decide) ?_
              exact rx_iret hE hQ rfl dX11_bestScore_156 ⟨by rw [hv]; unfold q3; (first | rw [if_pos c137] | rw [if_neg c137, if_pos c147] | rw [if_neg c137, if_neg c147]), S', L', g', rfl, hz.2.2⟩
          · refine rx_iload hE dX11_bestScore_140 rfl ?_
            refine rx_goto (tgt := 156) hE dX11_bestScore_142 (by decide) ?_
            exact rx_iret hE hQ rfl dX11_bestScore_156 ⟨by rw [hv]; unfold q3; (first | rw [if_pos c137] | rw [if_neg c137, if_pos c147] | rw [if_neg c137, if_neg c147]), S', L', g', rfl, hz.2.2⟩
        have outer : ∀ (n b : Nat) (S' : gS) (L' : gLg) (g' : Nat → Int32) (s : g3) (l7 l8 : Option Value), b + n = jB J → kz S t J S' → qbO t (jR J) N J b n s = qbO t (jR J) N J 0 (jB J) (jsum (jmanyF t N J 5) (jR J), -2, -2) → RX E mX11_bestScore.2.2.1 0 0 54 [some (.ref 384), some (.int (nI N)), some (.int what), some (.int s.2.1), some (.int s.2.2), some (.int s.1), some (.int (nI b)), l7, l8] [] (kp M (kput S' (j_s J 7 g')) L') := by
          intro n
          induction n with
          | zero =>
            intro b S' L' g' s l7 l8 hk2 hz hF
            have hB12 := hf.1.2.2.2.2.2.1
            refine rx_iload hE dX11_bestScore_54 rfl ?_
            refine rx_aload_n hE dX11_bestScore_56 (i := 0) rfl rfl ?_
            refine rx_getf hE dX11_bestScore_57 fl_X11_39_10 (kp_o hM) rfl ?_
            refine rx_iconst hE dX11_bestScore_60 (v := 1) (by decide) ?_
            refine rx_ialdN (i := 1) hE dX11_bestScore_61 (kp_10 hM) (by omega) (by decide) ?_
            refine rx_int _ _ kr_c0 ?_
            refine rx_icmp_ge (tgt := 136) hE dX11_bestScore_62 (by decide) (fun c62 => ?_) (fun c62 => absurd (show J 9 0 ≤ nI b from by rw [hf.1.2.2.2.1]; exact nI_le (by omega) (by omega)) c62)
            exact fin S' L' g' s _ _ _ hz (by rw [← hF]; rfl)
          | succ n ih =>
            intro b S' L' g' s l7 l8 hk2 hz hF
            have hB12 := hf.1.2.2.2.2.2.1
            refine rx_iload hE dX11_bestScore_54 rfl ?_
            refine rx_aload_n hE dX11_bestScore_56 (i := 0) rfl rfl ?_
            refine rx_getf hE dX11_bestScore_57 fl_X11_39_10 (kp_o hM) rfl ?_
            refine rx_iconst hE dX11_bestScore_60 (v := 1) (by decide) ?_
            refine rx_ialdN (i := 1) hE dX11_bestScore_61 (kp_10 hM) (by omega) (by decide) ?_
            refine rx_int _ _ kr_c0 ?_
            refine rx_icmp_ge (tgt := 136) hE dX11_bestScore_62 (by decide) (fun c62 => absurd (show nI (jB J) ≤ nI b from by rw [← hf.1.2.2.2.1]; exact c62) (nI_ge (by omega) (by omega))) (fun c62 => ?_)
            refine rx_iconst hE dX11_bestScore_65 (v := 0) (by decide) ?_
            refine rx_istore_7 hE dX11_bestScore_66 (by decide) rfl ?_
            have inner : ∀ (n' r : Nat) (S' : gS) (L' : gLg) (g' : Nat → Int32) (s' : g3) (l8 : Option Value), r + n' = jR J → kz S t J S' → qbI t (jR J) N J b r n' s' = qbI t (jR J) N J b 0 (jR J) s → RX E mX11_bestScore.2.2.1 0 0 68 [some (.ref 384), some (.int (nI N)), some (.int what), some (.int s'.2.1), some (.int s'.2.2), some (.int s'.1), some (.int (nI b)), some (.int (nI r)), l8] [] (kp M (kput S' (j_s J 7 g')) L') := by
              intro n'
              induction n' with
              | zero =>
                intro r S' L' g' s' l8 hk3 hz hIn
                refine rx_iload hE dX11_bestScore_68 rfl ?_
                refine rx_aload_n hE dX11_bestScore_70 (i := 0) rfl rfl ?_
                refine rx_getf hE dX11_bestScore_71 fl_X11_39_10 (kp_o hM) rfl ?_
                refine rx_iconst hE dX11_bestScore_74 (v := 3) (by decide) ?_
                refine rx_ialdN (i := 3) hE dX11_bestScore_75 (kp_10 hM) (by omega) (by decide) ?_
                refine rx_int _ _ kr_c2 ?_
                refine rx_icmp_ge (tgt := 130) hE dX11_bestScore_76 (by decide) (fun c76 => ?_) (fun c76 => absurd (show J 9 2 ≤ nI r from by rw [hf.1.1]; exact nI_le (by omega) (by omega)) c76)
                refine rx_iinc_6 hE dX11_bestScore_130 (v := 1) (by decide) (by decide) rfl ?_
                rw [nI_1]
                refine rx_goto (tgt := 54) hE dX11_bestScore_133 (by decide) ?_
                exact ih (b + 1) S' L' g' s' _ _ (by omega) hz (by rw [← hF, show s' = qbI t (jR J) N J b 0 (jR J) s from hIn]; rfl)
              | succ n' ihn =>
                intro r S' L' g' s' l8 hk3 hz hIn
                refine rx_iload hE dX11_bestScore_68 rfl ?_
                refine rx_aload_n hE dX11_bestScore_70 (i := 0) rfl rfl ?_
                refine rx_getf hE dX11_bestScore_71 fl_X11_39_10 (kp_o hM) rfl ?_
                refine rx_iconst hE dX11_bestScore_74 (v := 3) (by decide) ?_
                refine rx_ialdN (i := 3) hE dX11_bestScore_75 (kp_10 hM) (by omega) (by decide) ?_
                refine rx_int _ _ kr_c2 ?_
                refine rx_icmp_ge (tgt := 130) hE dX11_bestScore_76 (by decide) (fun c76 => absurd (show nI (jR J) ≤ nI r from by rw [← hf.1.1]; exact c76) (nI_ge (by omega) (by omega))) (fun c76 => ?_)
                refine rx_aload_n hE dX11_bestScore_79 (i := 0) rfl rfl ?_
                refine rx_getf hE dX11_bestScore_80 fl_X11_39_10 (kp_o hM) rfl ?_
                refine rx_bipush hE dX11_bestScore_83 (v := 41) (by decide) ?_
                refine rx_iload hE dX11_bestScore_85 rfl ?_
                refine rx_iadd hE dX11_bestScore_87 ?_
                refine rx_int _ (nI (41 + b)) (nI_add _ _) ?_
                refine rx_dup2 hE dX11_bestScore_88 rfl rfl ?_
                refine rx_ialdN (i := 41 + b) hE dX11_bestScore_89 (kp_10 hM) (by omega) (by decide) ?_
                refine rx_int _ _ (kr_8 (by omega)) ?_
                refine rx_iconst hE dX11_bestScore_90 (v := 1) (by decide) ?_
                refine rx_iload hE dX11_bestScore_91 rfl ?_
                refine rx_ishl hE dX11_bestScore_93 ?_
                refine rx_ixor hE dX11_bestScore_94 ?_
                refine rx_iastN (i := 41 + b) hE dX11_bestScore_95 (kp_10 hM) (by omega) (by decide) ?_
                refine rx_mem (M' := kp M (kput S' (j_s (qbj J b r) 7 g')) L') (by rw [kx_8 (by omega), j_s_s7 _ _ (by decide)]; rfl) ?_
                refine rx_aload_n hE dX11_bestScore_96 (i := 0) rfl rfl ?_
                refine rx_iload_n hE dX11_bestScore_97 (i := 1) rfl rfl ?_
                refine rx_call0 (rx_callV (av := [.int (nI N)]) hE dX11_bestScore_98 lk_X11_400 (c_X11_waitedBy (J := qbj J b r) hM hz (hf.s8 _) (by show jT J + N < _; omega)) (kp_o hM) np_X11_waitedBy rfl rfl (by decide) (Nat.le_of_ble_eq_true rfl) rfl ?_)
                rintro v M' ⟨rfl, S1, L1, g1, rfl, hz1⟩
                rw [jst.back2 (J := J) (J1 := J) (J' := qbj J b r) ⟨rfl, rfl, fun _ _ _ => rfl⟩ ⟨fun _ _ _ _ _ => rfl, rfl, rfl⟩ g1]
                refine rx_int _ (jsum (jmanyF t N (qbj J b r) 5) (jR J)) rfl ?_
                refine rx_istore_8 hE dX11_bestScore_101 (by decide) rfl ?_
                refine rx_iload hE dX11_bestScore_103 rfl ?_
                refine rx_iload hE dX11_bestScore_105 rfl ?_
                refine rx_icmp_lt (tgt := 113) hE dX11_bestScore_107 (by decide) (fun c107 => ?_) (fun c107 => ?_)
                · refine rx_iload hE dX11_bestScore_113 rfl ?_
                  refine rx_istore_n_3 hE dX11_bestScore_115 (by decide) rfl ?_
                  refine rx_iload hE dX11_bestScore_116 rfl ?_
                  refine rx_istore_4 hE dX11_bestScore_118 (by decide) rfl ?_
                  refine rx_iload hE dX11_bestScore_120 rfl ?_
                  refine rx_istore_5 hE dX11_bestScore_122 (by decide) rfl ?_
                  refine rx_iinc_7 hE dX11_bestScore_124 (v := 1) (by decide) (by decide) rfl ?_
                  rw [nI_1]
                  refine rx_goto (tgt := 68) hE dX11_bestScore_127 (by decide) ?_
                  exact ihn (r + 1) S1 L1 g1 (jsum (jmanyF t N (qbj J b r) 5) (jR J), nI b, nI r) _ (by omega) hz1 (by rw [← hIn]; show _ = qbI t (jR J) N J b (r + 1) n' (if jsum (jmanyF t N (qbj J b r) 5) (jR J) < s'.1 then (jsum (jmanyF t N (qbj J b r) 5) (jR J), nI b, nI r) else s'); rw [if_pos c107])
                · refine rx_goto (tgt := 124) hE dX11_bestScore_110 (by decide) ?_
                  refine rx_iinc_7 hE dX11_bestScore_124 (v := 1) (by decide) (by decide) rfl ?_
                  rw [nI_1]
                  refine rx_goto (tgt := 68) hE dX11_bestScore_127 (by decide) ?_
                  exact ihn (r + 1) S1 L1 g1 s' _ (by omega) hz1 (by rw [← hIn]; show _ = qbI t (jR J) N J b (r + 1) n' (if jsum (jmanyF t N (qbj J b r) 5) (jR J) < s'.1 then (jsum (jmanyF t N (qbj J b r) 5) (jR J), nI b, nI r) else s'); rw [if_neg c107])
            exact inner (jR J) 0 S' L' g' s _ (by omega) hz rfl
        refine rx_aload_n hE dX11_bestScore_33 (i := 0) rfl rfl ?_
        refine rx_call0 (rx_callV (av := []) hE dX11_bestScore_34 lk_X11_376 (c_X11_keeps hM) (kp_o hM) np_X11_keeps rfl rfl (by decide) (Nat.le_of_ble_eq_true rfl) rfl ?_)
        rintro v M' ⟨rfl, rfl⟩
        have hz := kz.keep hb J g
        refine rx_bipush hE dX11_bestScore_37 (v := -2) (by decide) ?_
        refine rx_istore_n_3 hE dX11_bestScore_39 (by decide) rfl ?_
        refine rx_bipush hE dX11_bestScore_40 (v := -2) (by decide) ?_
        refine rx_istore_4 hE dX11_bestScore_42 (by decide) rfl ?_
        refine rx_aload_n hE dX11_bestScore_44 (i := 0) rfl rfl ?_
        refine rx_iload_n hE dX11_bestScore_45 (i := 1) rfl rfl ?_
        refine rx_call0 (rx_callV (av := [.int (nI N)]) hE dX11_bestScore_46 lk_X11_400 (c_X11_waitedBy (J := J) hM hz hf (by omega)) (kp_o hM) np_X11_waitedBy rfl rfl (by decide) (Nat.le_of_ble_eq_true rfl) rfl ?_)
        rintro v M' ⟨rfl, S1, L1, g1, rfl, hz1⟩
        rw [(jst.refl J).back g1]
        refine rx_istore_5 hE dX11_bestScore_49 (by decide) rfl ?_
        refine rx_iconst hE dX11_bestScore_51 (v := 0) (by decide) ?_
        refine rx_istore_6 hE dX11_bestScore_52 (by decide) rfl ?_
        exact outer (jB J) 0 S1 L1 g1 (jsum (jmanyF t N J 5) (jR J), -2, -2) _ _ (by omega) hz1 rfl
      · refine rx_iconst hE dX11_bestScore_31 (v := -1) (by decide) ?_
        exact rx_iret hE hQ rfl dX11_bestScore_32 ⟨by simp [q_bestScore, *], kD.refl M S L J g⟩
def qsj (J : gJn) (r : Nat) : gJn := j_s (j_s (j_c J 5 (nI r)) 0 (upd (J 0) r 0)) 5 (upd (J 5) r 0)
theorem jfit.qsj {J : gJn} (h : jfit J) (r : Nat) : jfit (qsj J r) := ⟨h.1, h.2.1, upd_all h.2.2.1 ⟨0, by decide, rfl⟩, upd_all h.2.2.2.1 ⟨0, by decide, rfl⟩, h.2.2.2.2⟩
abbrev g2 : Type := Int32 × Int32
def qshF (t : gJn → Nat → Int32 → Bool) (R N : Nat) (J : gJn) : Nat → Nat → g2 → g2
  | _, 0, s => s
  | k, n + 1, s => qshF t R N J (k + 1) n (if jsum (jmanyF t N (qsj J k) 5) R < s.1 then (jsum (jmanyF t N (qsj J k) 5) R, nI k) else s)
def q_shut (t : gJn → Nat → Int32 → Bool) (J : gJn) (n what : Int32) : Int32 := if j_isTold J = 0 ∨ q_in n 1 60 = 0 ∨ q_in what 0 1 = 0 then -2 else if what = 0 then (qshF t (jR J) n.toNatClampNeg J 0 (jR J) (jsum (jmanyF t n.toNatClampNeg J 5) (jR J), -1)).2 else (qshF t (jR J) n.toNatClampNeg J 0 (jR J) (jsum (jmanyF t n.toNatClampNeg J 5) (jR J), -1)).1
set_option maxRecDepth 100000 in
set_option maxHeartbeats 4000000 in
theorem c_X11_shut {M : gM} {S : gS} {L : gLg} {J : gJn} {g : Nat → Int32} (hM : 408 ≤ M.1) {t : gJn → Nat → Int32 → Bool} (hk : kok S J t) (hsh : J 9 5 = -1) (n what : Int32) : SX 9 0 0 mX11_shut [.ref 384, .int n, .int what] (kp M (kput S (j_s J 7 g)) L) (fun v M' => v = some (.int (q_shut t J n what)) ∧ kD M S J M') := by
  refine SX.intro [some (.ref 384), some (.int n), some (.int what), none, none, none, none] (by decide +kernel) (Nat.le_of_ble_eq_true rfl) rfl (fun E hE hQ => ?_)
  refine rx_aload_n hE dX11_shut_0 (i := 0) rfl rfl ?_
  refine rx_call0 (rx_callV (av := []) hE dX11_shut_1 lk_X11_294 (c_X11_isJunction hM) (kp_o hM) np_X11_isJunction rfl rfl (by decide) (Nat.le_of_ble_eq_true rfl) rfl ?_)
  rintro v M' ⟨rfl, rfl⟩
  refine rx_int _ (j_isTold J) hk.isJ ?_
  refine rx_if_eq (tgt := 29) hE dX11_shut_4 (by decide) (fun c4 => ?_) (fun c4 => ?_)
  · refine rx_bipush hE dX11_shut_29 (v := -2) (by decide) ?_
    exact rx_iret hE hQ rfl dX11_shut_31 ⟨by simp [q_shut, *], kD.refl M S L J g⟩
  · refine rx_iload_n hE dX11_shut_7 (i := 1) rfl rfl ?_
    refine rx_i2l hE dX11_shut_8 ?_
    refine rx_lconst hE dX11_shut_9 (v := 1) (by decide) ?_
    refine rx_ldc2 hE dX11_shut_10 kl_X11_419 ?_
    refine rx_call0 (rx_callS (av := [.long _, .long _, .long _]) hE dX11_shut_13 lk_X11_130 (c_X11_in _ _ _) np_X11_in rfl rfl (by decide) (Nat.le_of_ble_eq_true rfl) rfl ?_)
    rintro v M' ⟨rfl, rfl⟩
    refine rx_int _ (q_in _ (1) (60)) (k_in_eq _ _ _ (by decide) (by decide)) ?_
    refine rx_if_eq (tgt := 29) hE dX11_shut_16 (by decide) (fun c16 => ?_) (fun c16 => ?_)
    · refine rx_bipush hE dX11_shut_29 (v := -2) (by decide) ?_
      exact rx_iret hE hQ rfl dX11_shut_31 ⟨by simp [q_shut, *], kD.refl M S L J g⟩
    · refine rx_iload_n hE dX11_shut_19 (i := 2) rfl rfl ?_
      refine rx_i2l hE dX11_shut_20 ?_
      refine rx_lconst hE dX11_shut_21 (v := 0) (by decide) ?_
      refine rx_lconst hE dX11_shut_22 (v := 1) (by decide) ?_
      refine rx_call0 (rx_callS (av := [.long _, .long _, .long _]) hE dX11_shut_23 lk_X11_130 (c_X11_in _ _ _) np_X11_in rfl rfl (by decide) (Nat.le_of_ble_eq_true rfl) rfl ?_)
      rintro v M' ⟨rfl, rfl⟩
      refine rx_int _ (q_in _ (0) (1)) (k_in_eq _ _ _ (by decide) (by decide)) ?_
      refine rx_if_ne (tgt := 32) hE dX11_shut_26 (by decide) (fun c26 => ?_) (fun c26 => ?_)
      · have hg : ¬ (j_isTold J = 0 ∨ q_in n 1 60 = 0 ∨ q_in what 0 1 = 0) := by simp [*]
        obtain ⟨hb, hf, hT9⟩ := hk.told c4
        obtain ⟨N, hN0, hN, rfl⟩ := q_in_of (a := 1) (b := 60) (by decide) c16
        have hr6 := hf.1.2.1
        have fin : ∀ (S' : gS) (L' : gLg) (g' : Nat → Int32) (m : Int32) (s : g2) (l5 l6 : Option Value), kz S t J S' → s = qshF t (jR J) N J 0 (jR J) (jsum (jmanyF t N J 5) (jR J), -1) → RX E mX11_shut.2.2.1 0 0 123 [some (.ref 384), some (.int (nI N)), some (.int what), some (.int s.2), some (.int s.1), l5, l6] [] (kp M (kput S' (j_s (j_c J 5 m) 7 g')) L') := by
          intro S' L' g' m s l5 l6 hz hv
          have hv : q_shut t J (nI N) what = if what = 0 then s.2 else s.1 := by rw [hv]; unfold q_shut; rw [if_neg hg, nI_clamp (n := N) (by omega)]
          refine rx_aload_n hE dX11_shut_123 (i := 0) rfl rfl ?_
          refine rx_iconst hE dX11_shut_124 (v := -1) (by decide) ?_
          refine rx_put hE dX11_shut_125 fl_X11_46_10 fw_10_23 (kp_o hM) (fun _ => rfl) (fun _ => rfl) (Nat.le_of_ble_eq_true rfl) ?_
          refine rx_mem (M' := kp M (kput S' (j_s J 7 g')) L') (kw_c23.trans (kx_s.trans (by rw [j_c_s7, j_c_c, ← hsh, j_c_id]))) ?_
          refine rx_iload_n hE dX11_shut_128 (i := 2) rfl rfl ?_
          refine rx_if_ne (tgt := 136) hE dX11_shut_129 (by decide) (fun c129 => ?_) (fun c129 => ?_)
          · refine rx_iload hE dX11_shut_136 rfl ?_
            exact rx_iret hE hQ rfl dX11_shut_138 ⟨by rw [hv]; (first | rw [if_pos c129] | rw [if_neg c129]), S', L', g', rfl, hz.2.2⟩
          · refine rx_iload_n hE dX11_shut_132 (i := 3) rfl rfl ?_
            refine rx_goto (tgt := 138) hE dX11_shut_133 (by decide) ?_
            exact rx_iret hE hQ rfl dX11_shut_138 ⟨by rw [hv]; (first | rw [if_pos c129] | rw [if_neg c129]), S', L', g', rfl, hz.2.2⟩
        have loop : ∀ (n r : Nat) (S' : gS) (L' : gLg) (g' : Nat → Int32) (m : Int32) (s : g2) (l6 : Option Value), r + n = jR J → kz S t J S' → qshF t (jR J) N J r n s = qshF t (jR J) N J 0 (jR J) (jsum (jmanyF t N J 5) (jR J), -1) → RX E mX11_shut.2.2.1 0 0 48 [some (.ref 384), some (.int (nI N)), some (.int what), some (.int s.2), some (.int s.1), some (.int (nI r)), l6] [] (kp M (kput S' (j_s (j_c J 5 m) 7 g')) L') := by
          intro n
          induction n with
          | zero =>
            intro r S' L' g' m s l6 hk2 hz hF
            refine rx_iload hE dX11_shut_48 rfl ?_
            refine rx_aload_n hE dX11_shut_50 (i := 0) rfl rfl ?_
            refine rx_getf hE dX11_shut_51 fl_X11_39_10 (kp_o hM) rfl ?_
            refine rx_iconst hE dX11_shut_54 (v := 3) (by decide) ?_
            refine rx_ialdN (i := 3) hE dX11_shut_55 (kp_10 hM) (by omega) (by decide) ?_
            refine rx_int _ _ kr_c2 ?_
            refine rx_icmp_ge (tgt := 123) hE dX11_shut_56 (by decide) (fun c56 => ?_) (fun c56 => absurd (show J 9 2 ≤ nI r from by rw [hf.1.1]; exact nI_le (by omega) (by omega)) c56)
            exact fin S' L' g' m s _ _ hz (by rw [← hF]; rfl)
          | succ n ih =>
            intro r S' L' g' m s l6 hk2 hz hF
            refine rx_iload hE dX11_shut_48 rfl ?_
            refine rx_aload_n hE dX11_shut_50 (i := 0) rfl rfl ?_
            refine rx_getf hE dX11_shut_51 fl_X11_39_10 (kp_o hM) rfl ?_
            refine rx_iconst hE dX11_shut_54 (v := 3) (by decide) ?_
            refine rx_ialdN (i := 3) hE dX11_shut_55 (kp_10 hM) (by omega) (by decide) ?_
            refine rx_int _ _ kr_c2 ?_
            refine rx_icmp_ge (tgt := 123) hE dX11_shut_56 (by decide) (fun c56 => absurd (show nI (jR J) ≤ nI r from by rw [← hf.1.1]; exact c56) (nI_ge (by omega) (by omega))) (fun c56 => ?_)
            refine rx_aload_n hE dX11_shut_59 (i := 0) rfl rfl ?_
            refine rx_iload hE dX11_shut_60 rfl ?_
            refine rx_put hE dX11_shut_62 fl_X11_46_10 fw_10_23 (kp_o hM) (fun _ => rfl) (fun _ => rfl) (Nat.le_of_ble_eq_true rfl) ?_
            refine rx_mem (M' := kp M (kput S' (j_s (j_c J 5 (nI r)) 7 g')) L') (kw_c23.trans (kx_s.trans (by rw [j_c_s7, j_c_c]))) ?_
            refine rx_aload_n hE dX11_shut_65 (i := 0) rfl rfl ?_
            refine rx_getf hE dX11_shut_66 fl_X11_39_10 (kp_o hM) rfl ?_
            refine rx_bipush hE dX11_shut_69 (v := 11) (by decide) ?_
            refine rx_iconst hE dX11_shut_71 (v := 5) (by decide) ?_
            refine rx_iload hE dX11_shut_72 rfl ?_
            refine rx_imul hE dX11_shut_74 ?_
            refine rx_int _ (nI (5 * r)) (pk_mul _ _) ?_
            refine rx_iadd hE dX11_shut_75 ?_
            refine rx_int _ (nI (11 + 5 * r)) (nI_add _ _) ?_
            refine rx_iconst hE dX11_shut_76 (v := 0) (by decide) ?_
            refine rx_iastN (i := 11 + 5 * r) hE dX11_shut_77 (kp_10 hM) (by omega) (by decide) ?_
            refine rx_mem (M' := kp M (kput S' (j_s (j_s (j_c J 5 (nI r)) 0 (upd (J 0) r 0)) 7 g')) L') (by rw [kx_0 (by omega), j_s_s7 _ _ (by decide)]; rfl) ?_
            refine rx_aload_n hE dX11_shut_78 (i := 0) rfl rfl ?_
            refine rx_getf hE dX11_shut_79 fl_X11_39_10 (kp_o hM) rfl ?_
            refine rx_bipush hE dX11_shut_82 (v := 11) (by decide) ?_
            refine rx_iconst hE dX11_shut_84 (v := 5) (by decide) ?_
            refine rx_iload hE dX11_shut_85 rfl ?_
            refine rx_imul hE dX11_shut_87 ?_
            refine rx_int _ (nI (5 * r)) (pk_mul _ _) ?_
            refine rx_iadd hE dX11_shut_88 ?_
            refine rx_int _ (nI (11 + 5 * r)) (nI_add _ _) ?_
            refine rx_iconst hE dX11_shut_89 (v := 3) (by decide) ?_
            refine rx_iadd hE dX11_shut_90 ?_
            refine rx_int _ (nI (11 + 5 * r + 3)) (nI_add _ _) ?_
            refine rx_iconst hE dX11_shut_91 (v := 0) (by decide) ?_
            refine rx_iastN (i := 11 + 5 * r + 3) hE dX11_shut_92 (kp_10 hM) (by omega) (by decide) ?_
            refine rx_mem (M' := kp M (kput S' (j_s (qsj J r) 7 g')) L') (by rw [kx_5 (by omega), j_s_s7 _ _ (by decide)]; rfl) ?_
            refine rx_aload_n hE dX11_shut_93 (i := 0) rfl rfl ?_
            refine rx_iload_n hE dX11_shut_94 (i := 1) rfl rfl ?_
            refine rx_call0 (rx_callV (av := [.int (nI N)]) hE dX11_shut_95 lk_X11_400 (c_X11_waitedBy (J := qsj J r) hM hz (hf.qsj r) (by show jT J + N < _; omega)) (kp_o hM) np_X11_waitedBy rfl rfl (by decide) (Nat.le_of_ble_eq_true rfl) rfl ?_)
            rintro v M' ⟨rfl, S1, L1, g1, rfl, hz1⟩
            rw [jst.back2 (J := J) (J1 := j_c J 5 (nI r)) (J' := qsj J r) ⟨rfl, rfl, fun _ _ _ => rfl⟩ ⟨fun f _ _ _ d => if_neg d, rfl, rfl⟩ g1]
            refine rx_int _ (jsum (jmanyF t N (qsj J r) 5) (jR J)) rfl ?_
            refine rx_istore_6 hE dX11_shut_98 (by decide) rfl ?_
            refine rx_iload hE dX11_shut_100 rfl ?_
            refine rx_iload hE dX11_shut_102 rfl ?_
            refine rx_icmp_lt (tgt := 110) hE dX11_shut_104 (by decide) (fun c104 => ?_) (fun c104 => ?_)
            · refine rx_iload hE dX11_shut_110 rfl ?_
              refine rx_istore_n_3 hE dX11_shut_112 (by decide) rfl ?_
              refine rx_iload hE dX11_shut_113 rfl ?_
              refine rx_istore_4 hE dX11_shut_115 (by decide) rfl ?_
              refine rx_iinc_5 hE dX11_shut_117 (v := 1) (by decide) (by decide) rfl ?_
              rw [nI_1]
              refine rx_goto (tgt := 48) hE dX11_shut_120 (by decide) ?_
              exact ih (r + 1) S1 L1 g1 (nI r) (jsum (jmanyF t N (qsj J r) 5) (jR J), nI r) _ (by omega) hz1 (by rw [← hF]; show _ = qshF t (jR J) N J (r + 1) n (if jsum (jmanyF t N (qsj J r) 5) (jR J) < s.1 then (jsum (jmanyF t N (qsj J r) 5) (jR J), nI r) else s); rw [if_pos c104])
            · refine rx_goto (tgt := 117) hE dX11_shut_107 (by decide) ?_
              refine rx_iinc_5 hE dX11_shut_117 (v := 1) (by decide) (by decide) rfl ?_
              rw [nI_1]
              refine rx_goto (tgt := 48) hE dX11_shut_120 (by decide) ?_
              exact ih (r + 1) S1 L1 g1 (nI r) s _ (by omega) hz1 (by rw [← hF]; show _ = qshF t (jR J) N J (r + 1) n (if jsum (jmanyF t N (qsj J r) 5) (jR J) < s.1 then (jsum (jmanyF t N (qsj J r) 5) (jR J), nI r) else s); rw [if_neg c104])
        refine rx_aload_n hE dX11_shut_32 (i := 0) rfl rfl ?_
        refine rx_call0 (rx_callV (av := []) hE dX11_shut_33 lk_X11_376 (c_X11_keeps hM) (kp_o hM) np_X11_keeps rfl rfl (by decide) (Nat.le_of_ble_eq_true rfl) rfl ?_)
        rintro v M' ⟨rfl, rfl⟩
        have hz := kz.keep hb J g
        refine rx_iconst hE dX11_shut_36 (v := -1) (by decide) ?_
        refine rx_istore_n_3 hE dX11_shut_37 (by decide) rfl ?_
        refine rx_aload_n hE dX11_shut_38 (i := 0) rfl rfl ?_
        refine rx_iload_n hE dX11_shut_39 (i := 1) rfl rfl ?_
        refine rx_call0 (rx_callV (av := [.int (nI N)]) hE dX11_shut_40 lk_X11_400 (c_X11_waitedBy (J := J) hM hz hf (by omega)) (kp_o hM) np_X11_waitedBy rfl rfl (by decide) (Nat.le_of_ble_eq_true rfl) rfl ?_)
        rintro v M' ⟨rfl, S1, L1, g1, rfl, hz1⟩
        rw [(jst.refl J).back g1]
        refine rx_istore_4 hE dX11_shut_43 (by decide) rfl ?_
        refine rx_iconst hE dX11_shut_45 (v := 0) (by decide) ?_
        refine rx_istore_5 hE dX11_shut_46 (by decide) rfl ?_
        refine rx_mem (M' := kp M (kput S1 (j_s (j_c J 5 (J 9 5)) 7 g1)) L1) (by rw [j_c_id]) ?_
        exact loop (jR J) 0 S1 L1 g1 (J 9 5) (jsum (jmanyF t N J 5) (jR J), -1) _ (by omega) hz1 rfl
      · refine rx_bipush hE dX11_shut_29 (v := -2) (by decide) ?_
        exact rx_iret hE hQ rfl dX11_shut_31 ⟨by simp [q_shut, *], kD.refl M S L J g⟩
