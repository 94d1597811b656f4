theorem shl18 : ∀ q, q ≤ 18 → (1 : Int32) <<< (nI q &&& 31) = nI (2 ^ q) := by decide
def qro1 (J : gJn) (N code : Nat) (s : g3) : g3 := if qfpF J (jR J) (2 ^ jR J) N code N = 0 then s else if 0 ≤ s.1 ∧ (s.2.1 < jsum (qpl (qdg (2 ^ jR J) N code) 0 N J 5) (jR J) ∨ (jsum (qpl (qdg (2 ^ jR J) N code) 0 N J 5) (jR J) = s.2.1 ∧ ¬ s.2.2 < qpl (qdg (2 ^ jR J) N code) 0 N J 9 4)) then s else (nI code, jsum (qpl (qdg (2 ^ jR J) N code) 0 N J 5) (jR J), qpl (qdg (2 ^ jR J) N code) 0 N J 9 4)
def qitN (f : Nat → g3 → g3) : Nat → Nat → g3 → g3
  | _, 0, s => s
  | c, n + 1, s => qitN f (c + 1) n (f c s)
theorem qitN_s (f : Nat → g3 → g3) (c n : Nat) (s : g3) : qitN f c (n + 1) s = qitN f (c + 1) n (f c s) := rfl
def qro (J : gJn) (N : Nat) : g3 := qitN (qro1 J N) 0 (2 ^ (N * jR J)) (-1, 0, 0)
def q_row (J : gJn) (n what : Int32) : Int32 := if j_isTold J = 0 ∨ q_in n 1 3 = 0 ∨ q_in what 0 4 = 0 then -10000 else if what = 0 then (qro J n.toNatClampNeg).2.1 else if what = 1 then (qro J n.toNatClampNeg).2.2 else if n ≤ what - 2 then -2 else nI (qdg (2 ^ jR J) n.toNatClampNeg (qro J n.toNatClampNeg).1.toNatClampNeg (what - 2).toNatClampNeg)
theorem qfpF_s7 (J : gJn) (g : Nat → Int32) (R P n code : Nat) : ∀ m, qfpF (j_s J 7 g) R P n code m = qfpF J R P n code m
  | 0 => rfl
  | m + 1 => by
    show (if jpcF (j_s J 7 g) (nI (qdg P n code m)) 0 R = 0 then 0 else qfpF (j_s J 7 g) R P n code m) = (if jpcF J (nI (qdg P n code m)) 0 R = 0 then 0 else qfpF J R P n code m)
    rw [jpcF_s7, qfpF_s7 J g R P n code m]
theorem jpcF_0 (J : gJn) : ∀ (n k : Nat), k + n ≤ 6 → jpcF J (nI 0) k n = 1
  | 0, _, _ => rfl
  | n + 1, k, h => by
    have hb : ∀ k, k < 6 → ¬ jbit (nI 0) k = 1 := by decide
    unfold jpcF
    rw [jpcF_0 J n (k + 1) (by omega)]
    simp [hb k (by omega)]
theorem qfpF_0 (J : gJn) {R P n : Nat} (hR : R ≤ 6) (hP : 0 < P) : ∀ m, qfpF J R P n 0 m = 1
  | 0 => rfl
  | m + 1 => by
    show (if jpcF J (nI (qdg P n 0 m)) 0 R = 0 then 0 else qfpF J R P n 0 m) = 1
    rw [show qdg P n 0 m = 0 by unfold qdg; rw [Nat.zero_div, Nat.zero_mod], jpcF_0 J R 0 (by omega), if_neg (by decide), qfpF_0 J hR hP m]
theorem kz.we {S0 S : gS} {t : gJn → Nat → Int32 → Bool} {J0 : gJn} (h : kz S0 t J0 S) (h1 : S0 0 24 = -1) (w v : Int32) : kz S0 t J0 (kwe S w v) := by
  have e : kq S0 (kwe S w v) := ⟨fun k hk => by
    rw [show kwe S w v k = S k from by unfold kwe k_f; rw [if_neg (by omega), if_neg (by omega), if_neg (by omega)]]
    exact h.2.2.1 k hk, fun i hi => by
    rcases hi with rfl | rfl | rfl | rfl | rfl | rfl
    · exact h.2.2.2 1 (by decide)
    · exact h.2.2.2 2 (by decide)
    · exact h.2.2.2 21 (by decide)
    · exact h.2.2.2 22 (by decide)
    · exact h1.symm
    · exact h.2.2.2 27 (by decide)⟩
  refine ⟨⟨h.1.1, by show (-1 : Int32) < 0; decide, kT_eq (S := S) (S' := kwe S w v) rfl rfl rfl rfl h.1.2.2⟩, h.2.1, e⟩
set_option maxRecDepth 100000 in
set_option maxHeartbeats 4000000 in
theorem c_X11_row {M : gM} {S : gS} {L : gLg} {J : gJn} {g : Nat → Int32} (hM : 408 ≤ M.1) {t : gJn → Nat → Int32 → Bool} (hk : kok S J t) (hp1 : S 0 24 = -1) (n what : Int32) : SX 8 0 0 mX11_row [.ref 384, .int n, .int what] (kp M (kput S (j_s J 7 g)) L) (fun v M' => v = some (.int (q_row J n what)) ∧ kD M S J M') := by
  refine SX.intro [some (.ref 384), some (.int n), some (.int what), none, none, none, none] (by decide +kernel) (Nat.le_of_ble_eq_true rfl) rfl (fun E hE hQ => ?_)
  refine rx_aload_n hE dX11_row_0 (i := 0) rfl rfl ?_
  refine rx_call0 (rx_callV (av := []) hE dX11_row_1 lk_X11_294 (c_X11_isJunction hM) (kp_o hM) np_X11_isJunction rfl rfl (by decide) (Nat.le_of_ble_eq_true rfl) rfl ?_)
  rintro v M' ⟨rfl, rfl⟩
  refine rx_int _ (j_isTold J) hk.isJ ?_
  refine rx_if_eq (tgt := 31) hE dX11_row_4 (by decide) (fun c4 => ?_) (fun c4 => ?_)
  · refine rx_sipush hE dX11_row_31 (v := -10000) (by decide) ?_
    exact rx_iret hE hQ rfl dX11_row_34 ⟨by simp [q_row, *], kD.refl M S L J g⟩
  · refine rx_iload_n hE dX11_row_7 (i := 1) rfl rfl ?_
    refine rx_i2l hE dX11_row_8 ?_
    refine rx_lconst hE dX11_row_9 (v := 1) (by decide) ?_
    refine rx_ldc2 hE dX11_row_10 kl_X11_409 ?_
    refine rx_call0 (rx_callS (av := [.long _, .long _, .long _]) hE dX11_row_13 lk_X11_130 (c_X11_in _ _ _) np_X11_in rfl rfl (by decide) (Nat.le_of_ble_eq_true rfl) rfl ?_)
    rintro v M' ⟨rfl, rfl⟩
    refine rx_int _ (q_in _ (1) (3)) (k_in_eq _ _ _ (by decide) (by decide)) ?_
    refine rx_if_eq (tgt := 31) hE dX11_row_16 (by decide) (fun c16 => ?_) (fun c16 => ?_)
    · refine rx_sipush hE dX11_row_31 (v := -10000) (by decide) ?_
      exact rx_iret hE hQ rfl dX11_row_34 ⟨by simp [q_row, *], kD.refl M S L J g⟩
    · refine rx_iload_n hE dX11_row_19 (i := 2) rfl rfl ?_
      refine rx_i2l hE dX11_row_20 ?_
      refine rx_lconst hE dX11_row_21 (v := 0) (by decide) ?_
      refine rx_ldc2 hE dX11_row_22 kl_X11_411 ?_
      refine rx_call0 (rx_callS (av := [.long _, .long _, .long _]) hE dX11_row_25 lk_X11_130 (c_X11_in _ _ _) np_X11_in rfl rfl (by decide) (Nat.le_of_ble_eq_true rfl) rfl ?_)
      rintro v M' ⟨rfl, rfl⟩
      refine rx_int _ (q_in _ (0) (4)) (k_in_eq _ _ _ (by decide) (by decide)) ?_
      refine rx_if_ne (tgt := 35) hE dX11_row_28 (by decide) (fun c28 => ?_) (fun c28 => ?_)
      · have hg : ¬ (j_isTold J = 0 ∨ q_in n 1 3 = 0 ∨ q_in what 0 4 = 0) := by simp [*]
        obtain ⟨hb, hf, hT9⟩ := hk.told c4
        obtain ⟨N, hN0, hN, rfl⟩ := q_in_of (a := 1) (b := 3) (by decide) c16
        have hr6 := hf.1.2.1
        have hp6 := pow6 _ hr6
        have hNR : N * jR J ≤ 18 := Nat.le_trans (Nat.mul_le_mul hN hr6) (by decide)
        have hT18 : 2 ^ (N * jR J) ≤ 2 ^ 18 := Nat.pow_le_pow_right (by decide) hNR
        have hTp : 0 < 2 ^ (N * jR J) := Nat.pow_pos (by decide)
        have fin : ∀ (S' : gS) (L' : gLg) (g' : Nat → Int32) (s : g3) (cb : Nat) (x : Int32), kz S t J S' → s.1 = nI cb → cb < 2 ^ (N * jR J) → ¬ qfpF J (jR J) (2 ^ jR J) N cb N = 0 → s = qro J N → RX E mX11_row.2.2.1 0 0 138 [some (.ref 384), some (.int (nI N)), some (.int what), some (.int s.1), some (.int s.2.1), some (.int s.2.2), some (.int x)] [] (kp M (kput S' (j_s J 7 g')) L') := by
          intro S' L' g' s cb x hz hcb hcbt hpk hs
          have hv : q_row J (nI N) what = if what = 0 then s.2.1 else if what = 1 then s.2.2 else if nI N ≤ what - 2 then -2 else nI (qdg (2 ^ jR J) N s.1.toNatClampNeg (what - 2).toNatClampNeg) := by rw [hs]; unfold q_row; rw [if_neg hg, nI_clamp (n := N) (by omega)]
          rw [hcb]
          refine rx_aload_n hE dX11_row_138 (i := 0) rfl rfl ?_
          refine rx_iload_n hE dX11_row_139 (i := 3) rfl rfl ?_
          refine rx_iload_n hE dX11_row_140 (i := 1) rfl rfl ?_
          refine rx_call0 (rx_callV (av := [.int (nI cb), .int (nI N)]) hE dX11_row_141 lk_X11_413 (c_X11_fillsRow (R := jR J) (N := N) (code := cb) hM hf.1.1 hr6 (by omega) hN (by omega)) (kp_o hM) np_X11_fillsRow rfl rfl (by decide) (Nat.le_of_ble_eq_true rfl) rfl ?_)
          rintro v M' ⟨rfl, b1, rfl, hb1⟩
          rw [qfpF_s7] at hb1
          refine rx_int _ (qfpF J (jR J) (2 ^ jR J) N cb N) (qfpF_s7 _ _ _ _ _ _ _) ?_
          refine rx_pop hE dX11_row_144 rfl ?_
          refine rx_iload_n hE dX11_row_145 (i := 2) rfl rfl ?_
          refine rx_if_ne (tgt := 154) hE dX11_row_146 (by decide) (fun c146 => ?_) (fun c146 => ?_)
          · refine rx_iload_n hE dX11_row_154 (i := 2) rfl rfl ?_
            refine rx_iconst hE dX11_row_155 (v := 1) (by decide) ?_
            refine rx_icmp_ne (tgt := 164) hE dX11_row_156 (by decide) (fun c156 => ?_) (fun c156 => ?_)
            · obtain ⟨w, hw0, hw, rfl⟩ := q_in_of (a := 0) (b := 4) (by decide) c28
              have hw2 : 2 ≤ w := by
                rcases (show w = 0 ∨ w = 1 ∨ 2 ≤ w by omega) with q | q | q
                · exact absurd (by rw [q]; rfl) c146
                · exact absurd (by rw [q]; rfl) c156
                · exact q
              obtain ⟨j, hj⟩ : ∃ j, j = w - 2 := ⟨_, rfl⟩
              have he : nI w - 2 = nI j := by rw [hj]; exact pk_sub (a := w) (b := 2) hw2
              refine rx_iload_n hE dX11_row_164 (i := 2) rfl rfl ?_
              refine rx_iconst hE dX11_row_165 (v := 2) (by decide) ?_
              refine rx_isub hE dX11_row_166 ?_
              refine rx_int _ (nI w - 2) rfl ?_
              refine rx_iload_n hE dX11_row_167 (i := 1) rfl rfl ?_
              refine rx_icmp_ge (tgt := 182) hE dX11_row_168 (by decide) (fun c168 => ?_) (fun c168 => ?_)
              · refine rx_bipush hE dX11_row_182 (v := -2) (by decide) ?_
                exact rx_iret hE hQ rfl dX11_row_184 ⟨by rw [hv, if_neg c146, if_neg c156, if_pos c168], _, L', g', rfl, hz.2.2.trans (kq.s S' (c := 15) _ (by decide))⟩
              · have hjN : j < N := by
                  have := c168
                  rw [he] at this
                  exact Nat.lt_of_not_le (fun q => this (nI_le q (by omega)))
                refine rx_aload_n hE dX11_row_171 (i := 0) rfl rfl ?_
                refine rx_getf hE dX11_row_172 fl_X11_64_10 (kp_o hM) rfl ?_
                refine rx_iload_n hE dX11_row_175 (i := 2) rfl rfl ?_
                refine rx_iconst hE dX11_row_176 (v := 2) (by decide) ?_
                refine rx_isub hE dX11_row_177 ?_
                refine rx_int _ (nI j) he ?_
                refine rx_ialdN (i := j) hE dX11_row_178 (kp_15 hM) (by omega) (by decide) ?_
                refine rx_int _ (nI (qdg (2 ^ jR J) N cb j)) (hb1 hpk j (by omega)) ?_
                refine rx_goto (tgt := 184) hE dX11_row_179 (by decide) ?_
                exact rx_iret hE hQ rfl dX11_row_184 ⟨by rw [hv, if_neg c146, if_neg c156, if_neg c168, he, nI_clamp (n := j) (by omega), hcb, nI_clamp (n := cb) (by omega)], _, L', g', rfl, hz.2.2.trans (kq.s S' (c := 15) _ (by decide))⟩
            · refine rx_iload hE dX11_row_159 rfl ?_
              refine rx_goto (tgt := 184) hE dX11_row_161 (by decide) ?_
              exact rx_iret hE hQ rfl dX11_row_184 ⟨by rw [hv, if_neg c146, if_pos c156], _, L', g', rfl, hz.2.2.trans (kq.s S' (c := 15) _ (by decide))⟩
          · refine rx_iload hE dX11_row_149 rfl ?_
            refine rx_goto (tgt := 184) hE dX11_row_151 (by decide) ?_
            exact rx_iret hE hQ rfl dX11_row_184 ⟨by rw [hv, if_pos c146], _, L', g', rfl, hz.2.2.trans (kq.s S' (c := 15) _ (by decide))⟩
        have loop : ∀ (n code : Nat) (S' : gS) (L' : gLg) (g' : Nat → Int32) (s : g3), code + n = 2 ^ (N * jR J) → kz S t J S' → ((code = 0 ∧ s = (-1, 0, 0)) ∨ ∃ cb, s.1 = nI cb ∧ cb < 2 ^ (N * jR J) ∧ ¬ qfpF J (jR J) (2 ^ jR J) N cb N = 0) → qitN (qro1 J N) code n s = qro J N → RX E mX11_row.2.2.1 0 0 50 [some (.ref 384), some (.int (nI N)), some (.int what), some (.int s.1), some (.int s.2.1), some (.int s.2.2), some (.int (nI code))] [] (kp M (kput S' (j_s J 7 g')) L') := by
          intro n
          induction n with
          | zero =>
            intro code S' L' g' s hk2 hz hI hF
            refine rx_iload hE dX11_row_50 rfl ?_
            refine rx_iconst hE dX11_row_52 (v := 1) (by decide) ?_
            refine rx_iload_n hE dX11_row_53 (i := 1) rfl rfl ?_
            refine rx_aload_n hE dX11_row_54 (i := 0) rfl rfl ?_
            refine rx_getf hE dX11_row_55 fl_X11_39_10 (kp_o hM) rfl ?_
            refine rx_iconst hE dX11_row_58 (v := 3) (by decide) ?_
            refine rx_ialdN (i := 3) hE dX11_row_59 (kp_10 hM) (by omega) (by decide) ?_
            refine rx_int _ _ kr_c2 ?_
            refine rx_int _ (nI (jR J)) hf.1.1 ?_
            refine rx_imul hE dX11_row_60 ?_
            refine rx_int _ (nI (N * jR J)) (pk_mul N _) ?_
            refine rx_ishl hE dX11_row_61 ?_
            refine rx_int _ (nI (2 ^ (N * jR J))) (shl18 _ hNR) ?_
            refine rx_icmp_ge (tgt := 138) hE dX11_row_62 (by decide) (fun c62 => ?_) (fun c62 => absurd (show nI (2 ^ (N * jR J)) ≤ nI code from nI_le (by omega) (by omega)) c62)
            rcases hI with ⟨q, _⟩ | ⟨cb, h1, h2, h3⟩
            · omega
            · exact fin S' L' g' s cb _ hz h1 h2 h3 hF
          | succ n ih =>
            intro code S' L' g' s hk2 hz hI hF
            refine rx_iload hE dX11_row_50 rfl ?_
            refine rx_iconst hE dX11_row_52 (v := 1) (by decide) ?_
            refine rx_iload_n hE dX11_row_53 (i := 1) rfl rfl ?_
            refine rx_aload_n hE dX11_row_54 (i := 0) rfl rfl ?_
            refine rx_getf hE dX11_row_55 fl_X11_39_10 (kp_o hM) rfl ?_
            refine rx_iconst hE dX11_row_58 (v := 3) (by decide) ?_
            refine rx_ialdN (i := 3) hE dX11_row_59 (kp_10 hM) (by omega) (by decide) ?_
            refine rx_int _ _ kr_c2 ?_
            refine rx_int _ (nI (jR J)) hf.1.1 ?_
            refine rx_imul hE dX11_row_60 ?_
            refine rx_int _ (nI (N * jR J)) (pk_mul N _) ?_
            refine rx_ishl hE dX11_row_61 ?_
            refine rx_int _ (nI (2 ^ (N * jR J))) (shl18 _ hNR) ?_
            refine rx_icmp_ge (tgt := 138) hE dX11_row_62 (by decide) (fun c62 => absurd c62 (nI_ge (a := code) (b := 2 ^ (N * jR J)) (by omega) (by omega))) (fun c62 => ?_)
            refine rx_aload_n hE dX11_row_65 (i := 0) rfl rfl ?_
            refine rx_iload hE dX11_row_66 rfl ?_
            refine rx_iload_n hE dX11_row_68 (i := 1) rfl rfl ?_
            refine rx_call0 (rx_callV (av := [.int (nI code), .int (nI N)]) hE dX11_row_69 lk_X11_413 (c_X11_fillsRow (R := jR J) (N := N) (code := code) hM hf.1.1 hr6 (by omega) hN (by omega)) (kp_o hM) np_X11_fillsRow rfl rfl (by decide) (Nat.le_of_ble_eq_true rfl) rfl ?_)
            rintro v M' ⟨rfl, b1, rfl, hb1⟩
            rw [qfpF_s7] at hb1
            refine rx_int _ (qfpF J (jR J) (2 ^ jR J) N code N) (qfpF_s7 _ _ _ _ _ _ _) ?_
            refine rx_if_ne (tgt := 78) hE dX11_row_72 (by decide) (fun c72 => ?_) (fun c72 => ?_)
            · refine rx_aload_n hE dX11_row_78 (i := 0) rfl rfl ?_
              refine rx_iload_n hE dX11_row_79 (i := 1) rfl rfl ?_
              refine rx_call0 (rx_callV (av := [.int (nI N)]) hE dX11_row_80 lk_X11_416 (c_X11_weighsRow (N := N) (d := qdg (2 ^ jR J) N code) hM hf hT9 hN hz.2.1 (fun k hk => ⟨hb1 c72 k hk, Nat.lt_of_lt_of_le (Nat.mod_lt _ hp6.1) hp6.2⟩)) (kp_o hM) np_X11_weighsRow rfl rfl (by decide) (Nat.le_of_ble_eq_true rfl) rfl ?_)
              rintro v M' ⟨rfl, g1, rfl⟩
              have hz2 := kz.we (hz.s (c := 15) b1 (by decide) (by decide)) hp1 (jsum (qpl (qdg (2 ^ jR J) N code) 0 N J 5) (jR J)) (qpl (qdg (2 ^ jR J) N code) 0 N J 9 4)
              refine rx_iload_n hE dX11_row_83 (i := 3) rfl rfl ?_
              refine rx_if_lt (tgt := 117) hE dX11_row_84 (by decide) (fun c84 => ?_) (fun c84 => ?_)
              · refine rx_iload hE dX11_row_117 rfl ?_
                refine rx_istore_n_3 hE dX11_row_119 (by decide) rfl ?_
                refine rx_aload_n hE dX11_row_120 (i := 0) rfl rfl ?_
                refine rx_getf hE dX11_row_121 fl_X11_403_10 (kp_o hM) rfl ?_
                refine rx_int _ _ (kr_f (by decide)) ?_
                refine rx_int _ (jsum (qpl (qdg (2 ^ jR J) N code) 0 N J 5) (jR J)) rfl ?_
                refine rx_istore_4 hE dX11_row_124 (by decide) rfl ?_
                refine rx_aload_n hE dX11_row_126 (i := 0) rfl rfl ?_
                refine rx_getf hE dX11_row_127 fl_X11_406_10 (kp_o hM) rfl ?_
                refine rx_int _ _ (kr_f (by decide)) ?_
                refine rx_int _ (qpl (qdg (2 ^ jR J) N code) 0 N J 9 4) rfl ?_
                refine rx_istore_5 hE dX11_row_130 (by decide) rfl ?_
                refine rx_iinc_6 hE dX11_row_132 (v := 1) (by decide) (by decide) rfl ?_
                rw [nI_1]
                refine rx_goto (tgt := 50) hE dX11_row_135 (by decide) ?_
                exact ih (code + 1) (kwe (k_s S' 15 b1) (jsum (qpl (qdg (2 ^ jR J) N code) 0 N J 5) (jR J)) (qpl (qdg (2 ^ jR J) N code) 0 N J 9 4)) L' g1 (nI code, (jsum (qpl (qdg (2 ^ jR J) N code) 0 N J 5) (jR J)), (qpl (qdg (2 ^ jR J) N code) 0 N J 9 4)) (by omega) hz2 (Or.inr ⟨code, rfl, by omega, c72⟩) (by rw [← hF, qitN_s]; exact congrArg (qitN (qro1 J N) (code + 1) n) (by unfold qro1; rw [if_neg c72, if_neg (fun q => absurd c84 (Int32.not_lt.mpr q.1))]))
              · refine rx_aload_n hE dX11_row_87 (i := 0) rfl rfl ?_
                refine rx_getf hE dX11_row_88 fl_X11_403_10 (kp_o hM) rfl ?_
                refine rx_int _ _ (kr_f (by decide)) ?_
                refine rx_int _ (jsum (qpl (qdg (2 ^ jR J) N code) 0 N J 5) (jR J)) rfl ?_
                refine rx_iload hE dX11_row_91 rfl ?_
                refine rx_icmp_gt (tgt := 132) hE dX11_row_93 (by decide) (fun c93 => ?_) (fun c93 => ?_)
                · refine rx_iinc_6 hE dX11_row_132 (v := 1) (by decide) (by decide) rfl ?_
                  rw [nI_1]
                  refine rx_goto (tgt := 50) hE dX11_row_135 (by decide) ?_
                  exact ih (code + 1) (kwe (k_s S' 15 b1) (jsum (qpl (qdg (2 ^ jR J) N code) 0 N J 5) (jR J)) (qpl (qdg (2 ^ jR J) N code) 0 N J 9 4)) L' g1 s (by omega) hz2 (by
                    rcases hI with ⟨_, q⟩ | h
                    · exact absurd (show s.1 < 0 by rw [q]; decide) c84
                    · exact Or.inr h) (by rw [← hF, qitN_s]; exact congrArg (qitN (qro1 J N) (code + 1) n) (by unfold qro1; rw [if_neg c72, if_pos ⟨Int32.not_lt.mp c84, Or.inl c93⟩]))
                · refine rx_aload_n hE dX11_row_96 (i := 0) rfl rfl ?_
                  refine rx_getf hE dX11_row_97 fl_X11_403_10 (kp_o hM) rfl ?_
                  refine rx_int _ _ (kr_f (by decide)) ?_
                  refine rx_int _ (jsum (qpl (qdg (2 ^ jR J) N code) 0 N J 5) (jR J)) rfl ?_
                  refine rx_iload hE dX11_row_100 rfl ?_
                  refine rx_icmp_ne (tgt := 117) hE dX11_row_102 (by decide) (fun c102 => ?_) (fun c102 => ?_)
                  · refine rx_iload hE dX11_row_117 rfl ?_
                    refine rx_istore_n_3 hE dX11_row_119 (by decide) rfl ?_
                    refine rx_aload_n hE dX11_row_120 (i := 0) rfl rfl ?_
                    refine rx_getf hE dX11_row_121 fl_X11_403_10 (kp_o hM) rfl ?_
                    refine rx_int _ _ (kr_f (by decide)) ?_
                    refine rx_int _ (jsum (qpl (qdg (2 ^ jR J) N code) 0 N J 5) (jR J)) rfl ?_
                    refine rx_istore_4 hE dX11_row_124 (by decide) rfl ?_
                    refine rx_aload_n hE dX11_row_126 (i := 0) rfl rfl ?_
                    refine rx_getf hE dX11_row_127 fl_X11_406_10 (kp_o hM) rfl ?_
                    refine rx_int _ _ (kr_f (by decide)) ?_
                    refine rx_int _ (qpl (qdg (2 ^ jR J) N code) 0 N J 9 4) rfl ?_
                    refine rx_istore_5 hE dX11_row_130 (by decide) rfl ?_
                    refine rx_iinc_6 hE dX11_row_132 (v := 1) (by decide) (by decide) rfl ?_
                    rw [nI_1]
                    refine rx_goto (tgt := 50) hE dX11_row_135 (by decide) ?_
                    exact ih (code + 1) (kwe (k_s S' 15 b1) (jsum (qpl (qdg (2 ^ jR J) N code) 0 N J 5) (jR J)) (qpl (qdg (2 ^ jR J) N code) 0 N J 9 4)) L' g1 (nI code, (jsum (qpl (qdg (2 ^ jR J) N code) 0 N J 5) (jR J)), (qpl (qdg (2 ^ jR J) N code) 0 N J 9 4)) (by omega) hz2 (Or.inr ⟨code, rfl, by omega, c72⟩) (by rw [← hF, qitN_s]; exact congrArg (qitN (qro1 J N) (code + 1) n) (by unfold qro1; rw [if_neg c72, if_neg (fun q => q.2.elim c93 (fun z => c102 z.1))]))
                  · refine rx_aload_n hE dX11_row_105 (i := 0) rfl rfl ?_
                    refine rx_getf hE dX11_row_106 fl_X11_406_10 (kp_o hM) rfl ?_
                    refine rx_int _ _ (kr_f (by decide)) ?_
                    refine rx_int _ (qpl (qdg (2 ^ jR J) N code) 0 N J 9 4) rfl ?_
                    refine rx_iload hE dX11_row_109 rfl ?_
                    refine rx_icmp_gt (tgt := 117) hE dX11_row_111 (by decide) (fun c111 => ?_) (fun c111 => ?_)
                    · refine rx_iload hE dX11_row_117 rfl ?_
                      refine rx_istore_n_3 hE dX11_row_119 (by decide) rfl ?_
                      refine rx_aload_n hE dX11_row_120 (i := 0) rfl rfl ?_
                      refine rx_getf hE dX11_row_121 fl_X11_403_10 (kp_o hM) rfl ?_
                      refine rx_int _ _ (kr_f (by decide)) ?_
                      refine rx_int _ (jsum (qpl (qdg (2 ^ jR J) N code) 0 N J 5) (jR J)) rfl ?_
                      refine rx_istore_4 hE dX11_row_124 (by decide) rfl ?_
                      refine rx_aload_n hE dX11_row_126 (i := 0) rfl rfl ?_
                      refine rx_getf hE dX11_row_127 fl_X11_406_10 (kp_o hM) rfl ?_
                      refine rx_int _ _ (kr_f (by decide)) ?_
                      refine rx_int _ (qpl (qdg (2 ^ jR J) N code) 0 N J 9 4) rfl ?_
                      refine rx_istore_5 hE dX11_row_130 (by decide) rfl ?_
                      refine rx_iinc_6 hE dX11_row_132 (v := 1) (by decide) (by decide) rfl ?_
                      rw [nI_1]
                      refine rx_goto (tgt := 50) hE dX11_row_135 (by decide) ?_
                      exact ih (code + 1) (kwe (k_s S' 15 b1) (jsum (qpl (qdg (2 ^ jR J) N code) 0 N J 5) (jR J)) (qpl (qdg (2 ^ jR J) N code) 0 N J 9 4)) L' g1 (nI code, (jsum (qpl (qdg (2 ^ jR J) N code) 0 N J 5) (jR J)), (qpl (qdg (2 ^ jR J) N code) 0 N J 9 4)) (by omega) hz2 (Or.inr ⟨code, rfl, by omega, c72⟩) (by rw [← hF, qitN_s]; exact congrArg (qitN (qro1 J N) (code + 1) n) (by unfold qro1; rw [if_neg c72, if_neg (fun q => q.2.elim c93 (fun z => z.2 c111))]))
                    · refine rx_goto (tgt := 132) hE dX11_row_114 (by decide) ?_
                      refine rx_iinc_6 hE dX11_row_132 (v := 1) (by decide) (by decide) rfl ?_
                      rw [nI_1]
                      refine rx_goto (tgt := 50) hE dX11_row_135 (by decide) ?_
                      exact ih (code + 1) (kwe (k_s S' 15 b1) (jsum (qpl (qdg (2 ^ jR J) N code) 0 N J 5) (jR J)) (qpl (qdg (2 ^ jR J) N code) 0 N J 9 4)) L' g1 s (by omega) hz2 (by
                        rcases hI with ⟨_, q⟩ | h
                        · exact absurd (show s.1 < 0 by rw [q]; decide) c84
                        · exact Or.inr h) (by rw [← hF, qitN_s]; exact congrArg (qitN (qro1 J N) (code + 1) n) (by unfold qro1; rw [if_neg c72, if_pos ⟨Int32.not_lt.mp c84, Or.inr ⟨c102, c111⟩⟩]))
            · refine rx_goto (tgt := 132) hE dX11_row_75 (by decide) ?_
              refine rx_iinc_6 hE dX11_row_132 (v := 1) (by decide) (by decide) rfl ?_
              rw [nI_1]
              refine rx_goto (tgt := 50) hE dX11_row_135 (by decide) ?_
              exact ih (code + 1) _ L' g' s (by omega) (hz.s (c := 15) b1 (by decide) (by decide)) (by
                rcases hI with ⟨q, _⟩ | h
                · subst q
                  exact absurd c72 (by rw [qfpF_0 J hr6 hp6.1]; decide)
                · exact Or.inr h) (by rw [← hF, qitN_s]; exact congrArg (qitN (qro1 J N) (code + 1) n) (by unfold qro1; rw [if_pos c72]))
        refine rx_iconst hE dX11_row_35 (v := -1) (by decide) ?_
        refine rx_istore_n_3 hE dX11_row_36 (by decide) rfl ?_
        refine rx_iconst hE dX11_row_37 (v := 0) (by decide) ?_
        refine rx_istore_4 hE dX11_row_38 (by decide) rfl ?_
        refine rx_iconst hE dX11_row_40 (v := 0) (by decide) ?_
        refine rx_istore_5 hE dX11_row_41 (by decide) rfl ?_
        refine rx_aload_n hE dX11_row_43 (i := 0) rfl rfl ?_
        refine rx_call0 (rx_callV (av := []) hE dX11_row_44 lk_X11_376 (c_X11_keeps hM) (kp_o hM) np_X11_keeps rfl rfl (by decide) (Nat.le_of_ble_eq_true rfl) rfl ?_)
        rintro v M' ⟨rfl, rfl⟩
        have hz := kz.keep hb J g
        refine rx_iconst hE dX11_row_47 (v := 0) (by decide) ?_
        refine rx_istore_6 hE dX11_row_48 (by decide) rfl ?_
        exact loop (2 ^ (N * jR J)) 0 _ _ g (-1, 0, 0) (by omega) hz (Or.inl ⟨rfl, rfl⟩) rfl
      · refine rx_sipush hE dX11_row_31 (v := -10000) (by decide) ?_
        exact rx_iret hE hQ rfl dX11_row_34 ⟨by simp [q_row, *], kD.refl M S L J g⟩
