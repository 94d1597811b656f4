def kaS (s : Int32) (k : Nat) (J : gJn) : gJn := if jbit s k = 1 then j_s (j_s (j_leave J k) 7 (upd (J 7) k (j_many J k))) 6 (upd (J 6) k (J 9 3)) else j_s J 7 (upd (J 7) k 0)
def kaF (s : Int32) : Nat → Nat → gJn → gJn
  | _, 0, J => J
  | k, n + 1, J => kaF s (k + 1) n (kaS s k J)
def kbF : Nat → Nat → gJn → gJn
  | _, 0, J => J
  | k, n + 1, J => kbF (k + 1) n (jgt2 k J)
def ksn (pn : Nat → Nat) (R : Nat) (J : gJn) : gJn := j_c J 4 (j_heard (J 9 4) (kso pn (kgsF J 0 R 0) R))
def kps (pn : Nat → Nat) (R : Nat) (s : Int32) (J : gJn) : gJn := j_c (kbF 0 R (ksn pn R (kaF s 0 R J))) 3 ((kbF 0 R (ksn pn R (kaF s 0 R J))) 9 3 + 1)
theorem kaS_f (s : Int32) (k : Nat) (J : gJn) {f : Nat} (h0 : f ≠ 0) (h4 : f ≠ 4) (h6 : f ≠ 6) (h7 : f ≠ 7) : kaS s k J f = J f := by
  unfold kaS
  split
  · simp only [j_s, j_leave, if_neg h0, if_neg h4, if_neg h6, if_neg h7]
  · simp only [j_s, if_neg h7]
theorem kaF_f (s : Int32) {f : Nat} (h0 : f ≠ 0) (h4 : f ≠ 4) (h6 : f ≠ 6) (h7 : f ≠ 7) : ∀ (n k : Nat) (J : gJn), kaF s k n J f = J f
  | 0, _, _ => rfl
  | n + 1, k, J => by
    show kaF s (k + 1) n (kaS s k J) f = J f
    rw [kaF_f s h0 h4 h6 h7 n, kaS_f s k J h0 h4 h6 h7]
theorem kbF_f {f : Nat} (h5 : f ≠ 5) : ∀ (n k : Nat) (J : gJn), kbF k n J f = J f
  | 0, _, _ => rfl
  | n + 1, k, J => by
    show kbF (k + 1) n (jgt2 k J) f = J f
    rw [kbF_f h5 n]
    exact if_neg h5
set_option maxRecDepth 100000 in
set_option maxHeartbeats 4000000 in
theorem c_X11_passes {M : gM} {S : gS} {L : gLg} {J : gJn} (hM : 408 ≤ M.1) {R m : Nat} {pn : Nat → Nat} {I : gS → gLg → Prop} (hR : J 9 2 = nI R) (hR6 : R ≤ 6) (hp : jpt J pn) (hev : ∀ i, i < R → ¬ J 1 i ≤ 0) (hlet : SX 5 0 0 mX11_letIn [.ref 384] (kp M (kput S (jarF 0 R J)) L) (fun v M' => v = some (.int (nI m)) ∧ ∃ (S' : gS) (L' : gLg), M' = kp M (kput S' (jarF 0 R J)) L' ∧ I S' L')) : SX 6 0 0 mX11_passes [.ref 384] (kp M (kput S J) L) (fun v M' => v = some (.int (nI m)) ∧ ∃ (S' : gS) (L' : gLg), M' = kp M (kput S' (kps pn R (nI m) (jarF 0 R J))) L' ∧ I S' L') := by
  refine SX.intro [some (.ref 384), none, none, none] (by decide +kernel) (Nat.le_of_ble_eq_true rfl) rfl (fun E hE hQ => ?_)
  have hR1 : (kaF (nI m) 0 R (jarF 0 R J)) 9 2 = nI R := by rw [kaF_f _ (by decide) (by decide) (by decide) (by decide), jarF_f (by decide)]; exact hR
  have loopB : ∀ (n k : Nat) (S' : gS) (L' : gLg) (J' : gJn) (l3 : Option Value), k + n = R → I S' L' → J' 9 2 = nI R → kbF k n J' = kbF 0 R (ksn pn R (kaF (nI m) 0 R (jarF 0 R J))) → RX E mX11_passes.2.2.1 0 0 132 [some (.ref 384), some (.int (nI m)), some (.int (nI k)), l3] [] (kp M (kput S' J') L') := by
    intro n
    induction n with
    | zero =>
      intro k S' L' J' l3 hk hI hR' hF
      refine rx_iload_n hE dX11_passes_132 (i := 2) rfl rfl ?_
      refine rx_aload_n hE dX11_passes_133 (i := 0) rfl rfl ?_
      refine rx_getf hE dX11_passes_134 fl_X11_39_10 (kp_o hM) rfl ?_
      refine rx_iconst hE dX11_passes_137 (v := 3) (by decide) ?_
      refine rx_ialdN (i := 3) hE dX11_passes_138 (kp_10 hM) (by omega) (by decide) ?_
      refine rx_int _ _ kr_c2 ?_
      refine rx_icmp_ge (tgt := 185) hE dX11_passes_139 (by decide) (fun c139 => ?_) (fun c139 => absurd (by rw [hR']; exact nI_le (by omega) (by omega)) c139)
      refine rx_aload_n hE dX11_passes_185 (i := 0) rfl rfl ?_
      refine rx_getf hE dX11_passes_186 fl_X11_39_10 (kp_o hM) rfl ?_
      refine rx_bipush hE dX11_passes_189 (v := 10) (by decide) ?_
      refine rx_dup2 hE dX11_passes_191 rfl rfl ?_
      refine rx_ialdN (i := 10) hE dX11_passes_192 (kp_10 hM) (by omega) (by decide) ?_
      refine rx_int _ _ kr_c3 ?_
      refine rx_iconst hE dX11_passes_193 (v := 1) (by decide) ?_
      refine rx_iadd hE dX11_passes_194 ?_
      refine rx_iastN (i := 10) hE dX11_passes_195 (kp_10 hM) (by omega) (by decide) ?_
      refine rx_mem (kx_c 10 3 (by decide)) ?_
      refine rx_iload_n hE dX11_passes_196 (i := 1) rfl rfl ?_
      exact rx_iret hE hQ rfl dX11_passes_197 ⟨rfl, S', L', by rw [show kps pn R (nI m) (jarF 0 R J) = j_c J' 3 (J' 9 3 + 1) from by unfold kps; rw [← hF]; rfl], hI⟩
    | succ n ih =>
      intro k S' L' J' l3 hk hI hR' hF
      refine rx_iload_n hE dX11_passes_132 (i := 2) rfl rfl ?_
      refine rx_aload_n hE dX11_passes_133 (i := 0) rfl rfl ?_
      refine rx_getf hE dX11_passes_134 fl_X11_39_10 (kp_o hM) rfl ?_
      refine rx_iconst hE dX11_passes_137 (v := 3) (by decide) ?_
      refine rx_ialdN (i := 3) hE dX11_passes_138 (kp_10 hM) (by omega) (by decide) ?_
      refine rx_int _ _ kr_c2 ?_
      refine rx_icmp_ge (tgt := 185) hE dX11_passes_139 (by decide) (fun c139 => absurd (by rw [hR'] at c139; exact c139) (nI_ge (by omega) (by omega))) (fun c139 => ?_)
      refine rx_aload_n hE dX11_passes_142 (i := 0) rfl rfl ?_
      refine rx_iload_n hE dX11_passes_143 (i := 2) rfl rfl ?_
      refine rx_call0 (rx_callV (av := [.int (nI k)]) hE dX11_passes_144 lk_X11_318 (c_X11_waitedOn hM (r := k) (by omega)) (kp_o hM) np_X11_waitedOn rfl rfl (by decide) (Nat.le_of_ble_eq_true rfl) rfl ?_)
      rintro v M' ⟨rfl, rfl⟩
      refine rx_aload_n hE dX11_passes_147 (i := 0) rfl rfl ?_
      refine rx_iload_n hE dX11_passes_148 (i := 2) rfl rfl ?_
      refine rx_call0 (rx_callV (av := [.int (nI k)]) hE dX11_passes_149 lk_X11_312 (c_X11_waitOn hM (r := k) (by omega)) (kp_o hM) np_X11_waitOn rfl rfl (by decide) (Nat.le_of_ble_eq_true rfl) rfl ?_)
      rintro v M' ⟨rfl, rfl⟩
      refine rx_iadd hE dX11_passes_152 ?_
      refine rx_istore_n_3 hE dX11_passes_153 (by decide) rfl ?_
      refine rx_aload_n hE dX11_passes_154 (i := 0) rfl rfl ?_
      refine rx_getf hE dX11_passes_155 fl_X11_39_10 (kp_o hM) rfl ?_
      refine rx_bipush hE dX11_passes_158 (v := 11) (by decide) ?_
      refine rx_iconst hE dX11_passes_160 (v := 5) (by decide) ?_
      refine rx_iload_n hE dX11_passes_161 (i := 2) rfl rfl ?_
      refine rx_imul hE dX11_passes_162 ?_
      refine rx_int _ (nI (5 * k)) (pk_mul _ _) ?_
      refine rx_iadd hE dX11_passes_163 ?_
      refine rx_int _ (nI (11 + 5 * k)) (nI_add _ _) ?_
      refine rx_iconst hE dX11_passes_164 (v := 3) (by decide) ?_
      refine rx_iadd hE dX11_passes_165 ?_
      refine rx_int _ (nI (11 + 5 * k + 3)) (nI_add _ _) ?_
      refine rx_iload_n hE dX11_passes_166 (i := 3) rfl rfl ?_
      refine rx_ldc hE dX11_passes_167 k_X11_178 ?_
      refine rx_icmp_le (tgt := 177) hE dX11_passes_169 (by decide) (fun c169 => ?_) (fun c169 => ?_)
      · refine rx_iload_n hE dX11_passes_177 (i := 3) rfl rfl ?_
        refine rx_int _ (jmin 99999 (J' 5 k + J' 0 k)) (by rw [← k_min]; first | rw [if_pos c169] | rw [if_neg c169]) ?_
        refine rx_iastN (i := 11 + 5 * k + 3) hE dX11_passes_178 (kp_10 hM) (by omega) (by decide) ?_
        refine rx_mem (kx_5 (by omega)) ?_
        refine rx_iinc_2 hE dX11_passes_179 (v := 1) (by decide) (by decide) rfl ?_
        rw [nI_1]
        refine rx_goto (tgt := 132) hE dX11_passes_182 (by decide) ?_
        exact ih (k + 1) S' L' _ _ (by omega) hI (by rw [← hR']; rfl) hF
      · refine rx_ldc hE dX11_passes_172 k_X11_178 ?_
        refine rx_goto (tgt := 178) hE dX11_passes_174 (by decide) ?_
        refine rx_int _ (jmin 99999 (J' 5 k + J' 0 k)) (by rw [← k_min]; first | rw [if_pos c169] | rw [if_neg c169]) ?_
        refine rx_iastN (i := 11 + 5 * k + 3) hE dX11_passes_178 (kp_10 hM) (by omega) (by decide) ?_
        refine rx_mem (kx_5 (by omega)) ?_
        refine rx_iinc_2 hE dX11_passes_179 (v := 1) (by decide) (by decide) rfl ?_
        rw [nI_1]
        refine rx_goto (tgt := 132) hE dX11_passes_182 (by decide) ?_
        exact ih (k + 1) S' L' _ _ (by omega) hI (by rw [← hR']; rfl) hF
  have loopA : ∀ (n k : Nat) (S' : gS) (L' : gLg) (J' : gJn) (l3 : Option Value), k + n = R → I S' L' → (∀ f, f ≠ 0 → f ≠ 4 → f ≠ 6 → f ≠ 7 → J' f = jarF 0 R J f) → kaF (nI m) k n J' = kaF (nI m) 0 R (jarF 0 R J) → RX E mX11_passes.2.2.1 0 0 59 [some (.ref 384), some (.int (nI m)), some (.int (nI k)), l3] [] (kp M (kput S' J') L') := by
    intro n
    induction n with
    | zero =>
      intro k S' L' J' l3 hk hI hfr hF
      have hR2 : J' 9 2 = nI R := by rw [hfr 9 (by decide) (by decide) (by decide) (by decide), jarF_f (by decide)]; exact hR
      have hp2 : jpt J' pn := fun i hi => by rw [hfr 2 (by decide) (by decide) (by decide) (by decide), jarF_f (by decide)]; exact hp i hi
      refine rx_iload_n hE dX11_passes_59 (i := 2) rfl rfl ?_
      refine rx_aload_n hE dX11_passes_60 (i := 0) rfl rfl ?_
      refine rx_getf hE dX11_passes_61 fl_X11_39_10 (kp_o hM) rfl ?_
      refine rx_iconst hE dX11_passes_64 (v := 3) (by decide) ?_
      refine rx_ialdN (i := 3) hE dX11_passes_65 (kp_10 hM) (by omega) (by decide) ?_
      refine rx_int _ _ kr_c2 ?_
      refine rx_icmp_ge (tgt := 126) hE dX11_passes_66 (by decide) (fun c66 => ?_) (fun c66 => absurd (by rw [hR2]; exact nI_le (by omega) (by omega)) c66)
      refine rx_aload_n hE dX11_passes_126 (i := 0) rfl rfl ?_
      refine rx_call0 (rx_callV (av := []) hE dX11_passes_127 lk_X11_359 (c_X11_sounds hM hR2 hR6 hp2) (kp_o hM) np_X11_sounds rfl rfl (by decide) (Nat.le_of_ble_eq_true rfl) rfl ?_)
      rintro v M' ⟨rfl, rfl⟩
      refine rx_iconst hE dX11_passes_130 (v := 0) (by decide) ?_
      refine rx_istore_n_2 hE dX11_passes_131 (by decide) rfl ?_
      exact loopB R 0 S' L' (ksn pn R J') l3 (by omega) hI (by show J' 9 2 = _; exact hR2) (by rw [← hF]; rfl)
    | succ n ih =>
      intro k S' L' J' l3 hk hI hfr hF
      have hR2 : J' 9 2 = nI R := by rw [hfr 9 (by decide) (by decide) (by decide) (by decide), jarF_f (by decide)]; exact hR
      have hp2 : jpt J' pn := fun i hi => by rw [hfr 2 (by decide) (by decide) (by decide) (by decide), jarF_f (by decide)]; exact hp i hi
      refine rx_iload_n hE dX11_passes_59 (i := 2) rfl rfl ?_
      refine rx_aload_n hE dX11_passes_60 (i := 0) rfl rfl ?_
      refine rx_getf hE dX11_passes_61 fl_X11_39_10 (kp_o hM) rfl ?_
      refine rx_iconst hE dX11_passes_64 (v := 3) (by decide) ?_
      refine rx_ialdN (i := 3) hE dX11_passes_65 (kp_10 hM) (by omega) (by decide) ?_
      refine rx_int _ _ kr_c2 ?_
      refine rx_icmp_ge (tgt := 126) hE dX11_passes_66 (by decide) (fun c66 => absurd (by rw [hR2] at c66; exact c66) (nI_ge (by omega) (by omega))) (fun c66 => ?_)
      refine rx_aload_n hE dX11_passes_69 (i := 0) rfl rfl ?_
      refine rx_getf hE dX11_passes_70 fl_X11_52_10 (kp_o hM) rfl ?_
      refine rx_iload_n hE dX11_passes_73 (i := 2) rfl rfl ?_
      refine rx_iload_n hE dX11_passes_74 (i := 1) rfl rfl ?_
      refine rx_iload_n hE dX11_passes_75 (i := 2) rfl rfl ?_
      refine rx_call0 (rx_callS (av := [.int _, .int (nI k)]) hE dX11_passes_76 lk_X11_297 (c_X11_isOf _) np_X11_isOf rfl rfl (by decide) (Nat.le_of_ble_eq_true rfl) rfl ?_)
      rintro v M' ⟨rfl, rfl⟩
      refine rx_if_eq (tgt := 90) hE dX11_passes_79 (by decide) (fun c79 => ?_) (fun c79 => ?_)
      · have hc : ¬ jbit (nI m) k = 1 := k_of0 c79
        have hs : kaS (nI m) k J' = j_s J' 7 (upd (J' 7) k 0) := if_neg hc
        refine rx_iconst hE dX11_passes_90 (v := 0) (by decide) ?_
        refine rx_iastN (i := k) hE dX11_passes_91 (kp_11 hM) (by omega) (by decide) ?_
        refine rx_mem (kx_7 (by omega)) ?_
        refine rx_iload_n hE dX11_passes_92 (i := 1) rfl rfl ?_
        refine rx_iload_n hE dX11_passes_93 (i := 2) rfl rfl ?_
        refine rx_call0 (rx_callS (av := [.int _, .int (nI k)]) hE dX11_passes_94 lk_X11_297 (c_X11_isOf _) np_X11_isOf rfl rfl (by decide) (Nat.le_of_ble_eq_true rfl) rfl ?_)
        rintro v M' ⟨rfl, rfl⟩
        refine rx_if_eq (tgt := 120) hE dX11_passes_97 (by decide) (fun c97 => ?_) (fun c97 => ?_)
        · refine rx_iinc_2 hE dX11_passes_120 (v := 1) (by decide) (by decide) rfl ?_
          rw [nI_1]
          refine rx_goto (tgt := 59) hE dX11_passes_123 (by decide) ?_
          first
          | exact absurd (k_of1 c97) hc
          | exact absurd hc (k_of0 c97)
          | (refine rx_mem (M' := kp M (kput S' (kaS (nI m) k J')) L') (by rw [hs]; first | done | rfl) ?_
             exact ih (k + 1) S' L' _ _ (by omega) hI (fun f h0 h4 h6 h7 => (kaS_f _ _ _ h0 h4 h6 h7).trans (hfr f h0 h4 h6 h7)) hF)
        · refine rx_aload_n hE dX11_passes_100 (i := 0) rfl rfl ?_
          refine rx_getf hE dX11_passes_101 fl_X11_39_10 (kp_o hM) rfl ?_
          refine rx_bipush hE dX11_passes_104 (v := 11) (by decide) ?_
          refine rx_iconst hE dX11_passes_106 (v := 5) (by decide) ?_
          refine rx_iload_n hE dX11_passes_107 (i := 2) rfl rfl ?_
          refine rx_imul hE dX11_passes_108 ?_
          refine rx_int _ (nI (5 * k)) (pk_mul _ _) ?_
          refine rx_iadd hE dX11_passes_109 ?_
          refine rx_int _ (nI (11 + 5 * k)) (nI_add _ _) ?_
          refine rx_iconst hE dX11_passes_110 (v := 4) (by decide) ?_
          refine rx_iadd hE dX11_passes_111 ?_
          refine rx_int _ (nI (11 + 5 * k + 4)) (nI_add _ _) ?_
          refine rx_aload_n hE dX11_passes_112 (i := 0) rfl rfl ?_
          refine rx_getf hE dX11_passes_113 fl_X11_39_10 (kp_o hM) rfl ?_
          refine rx_bipush hE dX11_passes_116 (v := 10) (by decide) ?_
          refine rx_ialdN (i := 10) hE dX11_passes_118 (kp_10 hM) (by omega) (by decide) ?_
          refine rx_int _ _ kr_c3 ?_
          refine rx_iastN (i := 11 + 5 * k + 4) hE dX11_passes_119 (kp_10 hM) (by omega) (by decide) ?_
          refine rx_mem (kx_6 (by omega)) ?_
          refine rx_iinc_2 hE dX11_passes_120 (v := 1) (by decide) (by decide) rfl ?_
          rw [nI_1]
          refine rx_goto (tgt := 59) hE dX11_passes_123 (by decide) ?_
          first
          | exact absurd (k_of1 c97) hc
          | exact absurd hc (k_of0 c97)
          | (refine rx_mem (M' := kp M (kput S' (kaS (nI m) k J')) L') (by rw [hs]; first | done | rfl) ?_
             exact ih (k + 1) S' L' _ _ (by omega) hI (fun f h0 h4 h6 h7 => (kaS_f _ _ _ h0 h4 h6 h7).trans (hfr f h0 h4 h6 h7)) hF)
      · have hc : jbit (nI m) k = 1 := k_of1 c79
        have hs : kaS (nI m) k J' = j_s (j_s (j_leave J' k) 7 (upd (J' 7) k (j_many J' k))) 6 (upd (J' 6) k (J' 9 3)) := if_pos hc
        refine rx_aload_n hE dX11_passes_82 (i := 0) rfl rfl ?_
        refine rx_iload_n hE dX11_passes_83 (i := 2) rfl rfl ?_
        refine rx_call0 (rx_callV (av := [.int (nI k)]) hE dX11_passes_84 lk_X11_356 (c_X11_goes hM (r := k) (by omega)) (kp_o hM) np_X11_goes rfl rfl (by decide) (Nat.le_of_ble_eq_true rfl) rfl ?_)
        rintro v M' ⟨rfl, rfl⟩
        refine rx_goto (tgt := 91) hE dX11_passes_87 (by decide) ?_
        refine rx_iastN (i := k) hE dX11_passes_91 (kp_11 hM) (by omega) (by decide) ?_
        refine rx_mem (kx_7 (by omega)) ?_
        refine rx_iload_n hE dX11_passes_92 (i := 1) rfl rfl ?_
        refine rx_iload_n hE dX11_passes_93 (i := 2) rfl rfl ?_
        refine rx_call0 (rx_callS (av := [.int _, .int (nI k)]) hE dX11_passes_94 lk_X11_297 (c_X11_isOf _) np_X11_isOf rfl rfl (by decide) (Nat.le_of_ble_eq_true rfl) rfl ?_)
        rintro v M' ⟨rfl, rfl⟩
        refine rx_if_eq (tgt := 120) hE dX11_passes_97 (by decide) (fun c97 => ?_) (fun c97 => ?_)
        · refine rx_iinc_2 hE dX11_passes_120 (v := 1) (by decide) (by decide) rfl ?_
          rw [nI_1]
          refine rx_goto (tgt := 59) hE dX11_passes_123 (by decide) ?_
          first
          | exact absurd (k_of1 c97) hc
          | exact absurd hc (k_of0 c97)
          | (refine rx_mem (M' := kp M (kput S' (kaS (nI m) k J')) L') (by rw [hs]; first | done | rfl) ?_
             exact ih (k + 1) S' L' _ _ (by omega) hI (fun f h0 h4 h6 h7 => (kaS_f _ _ _ h0 h4 h6 h7).trans (hfr f h0 h4 h6 h7)) hF)
        · refine rx_aload_n hE dX11_passes_100 (i := 0) rfl rfl ?_
          refine rx_getf hE dX11_passes_101 fl_X11_39_10 (kp_o hM) rfl ?_
          refine rx_bipush hE dX11_passes_104 (v := 11) (by decide) ?_
          refine rx_iconst hE dX11_passes_106 (v := 5) (by decide) ?_
          refine rx_iload_n hE dX11_passes_107 (i := 2) rfl rfl ?_
          refine rx_imul hE dX11_passes_108 ?_
          refine rx_int _ (nI (5 * k)) (pk_mul _ _) ?_
          refine rx_iadd hE dX11_passes_109 ?_
          refine rx_int _ (nI (11 + 5 * k)) (nI_add _ _) ?_
          refine rx_iconst hE dX11_passes_110 (v := 4) (by decide) ?_
          refine rx_iadd hE dX11_passes_111 ?_
          refine rx_int _ (nI (11 + 5 * k + 4)) (nI_add _ _) ?_
          refine rx_aload_n hE dX11_passes_112 (i := 0) rfl rfl ?_
          refine rx_getf hE dX11_passes_113 fl_X11_39_10 (kp_o hM) rfl ?_
          refine rx_bipush hE dX11_passes_116 (v := 10) (by decide) ?_
          refine rx_ialdN (i := 10) hE dX11_passes_118 (kp_10 hM) (by omega) (by decide) ?_
          refine rx_int _ _ kr_c3 ?_
          refine rx_iastN (i := 11 + 5 * k + 4) hE dX11_passes_119 (kp_10 hM) (by omega) (by decide) ?_
          refine rx_mem (kx_6 (by omega)) ?_
          refine rx_iinc_2 hE dX11_passes_120 (v := 1) (by decide) (by decide) rfl ?_
          rw [nI_1]
          refine rx_goto (tgt := 59) hE dX11_passes_123 (by decide) ?_
          first
          | exact absurd (k_of1 c97) hc
          | exact absurd hc (k_of0 c97)
          | (refine rx_mem (M' := kp M (kput S' (kaS (nI m) k J')) L') (by rw [hs]; first | done | rfl) ?_
             exact ih (k + 1) S' L' _ _ (by omega) hI (fun f h0 h4 h6 h7 => (kaS_f _ _ _ h0 h4 h6 h7).trans (hfr f h0 h4 h6 h7)) hF)
  have loop1 : ∀ (n k : Nat) (J' : gJn) (l2 l3 : Option Value), k + n = R → J' 9 2 = nI R → J' 1 = J 1 → jarF k n J' = jarF 0 R J → RX E mX11_passes.2.2.1 0 0 2 [some (.ref 384), some (.int (nI k)), l2, l3] [] (kp M (kput S J') L) := by
    intro n
    induction n with
    | zero =>
      intro k J' l2 l3 hk hR' he1 hF
      refine rx_iload_n hE dX11_passes_2 (i := 1) rfl rfl ?_
      refine rx_aload_n hE dX11_passes_3 (i := 0) rfl rfl ?_
      refine rx_getf hE dX11_passes_4 fl_X11_39_10 (kp_o hM) rfl ?_
      refine rx_iconst hE dX11_passes_7 (v := 3) (by decide) ?_
      refine rx_ialdN (i := 3) hE dX11_passes_8 (kp_10 hM) (by omega) (by decide) ?_
      refine rx_int _ _ kr_c2 ?_
      refine rx_icmp_ge (tgt := 52) hE dX11_passes_9 (by decide) (fun c9 => ?_) (fun c9 => absurd (by rw [hR']; exact nI_le (by omega) (by omega)) c9)
      refine rx_aload_n hE dX11_passes_52 (i := 0) rfl rfl ?_
      have hJ : J' = jarF 0 R J := by rw [← hF]; rfl
      subst hJ
      refine rx_call0 (rx_callV (av := []) hE dX11_passes_53 lk_X11_353 hlet (kp_o hM) np_X11_letIn rfl rfl (by decide) (Nat.le_of_ble_eq_true rfl) rfl ?_)
      rintro v M' ⟨rfl, S', L', rfl, hI⟩
      refine rx_istore_n_1 hE dX11_passes_56 (by decide) rfl ?_
      refine rx_iconst hE dX11_passes_57 (v := 0) (by decide) ?_
      refine rx_istore_n_2 hE dX11_passes_58 (by decide) rfl ?_
      exact loopA R 0 S' L' (jarF 0 R J) l3 (by omega) hI (fun f h0 h4 h6 h7 => rfl) rfl
    | succ n ih =>
      intro k J' l2 l3 hk hR' he1 hF
      refine rx_iload_n hE dX11_passes_2 (i := 1) rfl rfl ?_
      refine rx_aload_n hE dX11_passes_3 (i := 0) rfl rfl ?_
      refine rx_getf hE dX11_passes_4 fl_X11_39_10 (kp_o hM) rfl ?_
      refine rx_iconst hE dX11_passes_7 (v := 3) (by decide) ?_
      refine rx_ialdN (i := 3) hE dX11_passes_8 (kp_10 hM) (by omega) (by decide) ?_
      refine rx_int _ _ kr_c2 ?_
      refine rx_icmp_ge (tgt := 52) hE dX11_passes_9 (by decide) (fun c9 => absurd (by rw [hR'] at c9; exact c9) (nI_ge (by omega) (by omega))) (fun c9 => ?_)
      refine rx_iload_n hE dX11_passes_12 (i := 1) rfl rfl ?_
      refine rx_aload_n hE dX11_passes_13 (i := 0) rfl rfl ?_
      refine rx_getf hE dX11_passes_14 fl_X11_46_10 (kp_o hM) rfl ?_
      refine rx_int _ _ kr_f23 ?_
      refine rx_icmp_eq (tgt := 46) hE dX11_passes_17 (by decide) (fun c17 => ?_) (fun c17 => ?_)
      · have hs : jarS k J' = J' := if_pos c17
        refine rx_iinc_1 hE dX11_passes_46 (v := 1) (by decide) (by decide) rfl ?_
        rw [nI_1]
        refine rx_goto (tgt := 2) hE dX11_passes_49 (by decide) ?_
        exact ih (k + 1) _ _ _ (by omega) (by first | exact hR' | (rw [← hR']; rfl)) (by first | exact he1 | (rw [← he1]; rfl)) (by rw [← hF]; show _ = jarF (k + 1) n (jarS k J'); rw [hs])
      · refine rx_aload_n hE dX11_passes_20 (i := 0) rfl rfl ?_
        refine rx_getf hE dX11_passes_21 fl_X11_39_10 (kp_o hM) rfl ?_
        refine rx_bipush hE dX11_passes_24 (v := 10) (by decide) ?_
        refine rx_ialdN (i := 10) hE dX11_passes_26 (kp_10 hM) (by omega) (by decide) ?_
        refine rx_int _ _ kr_c3 ?_
        refine rx_aload_n hE dX11_passes_27 (i := 0) rfl rfl ?_
        refine rx_getf hE dX11_passes_28 fl_X11_39_10 (kp_o hM) rfl ?_
        refine rx_bipush hE dX11_passes_31 (v := 54) (by decide) ?_
        refine rx_iload_n hE dX11_passes_33 (i := 1) rfl rfl ?_
        refine rx_iadd hE dX11_passes_34 ?_
        refine rx_int _ (nI (54 + k)) (nI_add _ _) ?_
        refine rx_ialdN (i := 54 + k) hE dX11_passes_35 (kp_10 hM) (by omega) (by decide) ?_
        refine rx_int _ _ (kr_1 (by omega)) ?_
        refine rx_irem hE dX11_passes_36 (fun h => hev k (by omega) (by rw [← he1, h]; decide)) ?_
        refine rx_if_ne (tgt := 46) hE dX11_passes_37 (by decide) (fun c37 => ?_) (fun c37 => ?_)
        · have hs : jarS k J' = J' := (if_neg c17).trans ((if_neg (by rw [he1]; exact hev k (by omega))).trans (if_neg c37))
          refine rx_iinc_1 hE dX11_passes_46 (v := 1) (by decide) (by decide) rfl ?_
          rw [nI_1]
          refine rx_goto (tgt := 2) hE dX11_passes_49 (by decide) ?_
          exact ih (k + 1) _ _ _ (by omega) (by first | exact hR' | (rw [← hR']; rfl)) (by first | exact he1 | (rw [← he1]; rfl)) (by rw [← hF]; show _ = jarF (k + 1) n (jarS k J'); rw [hs])
        · have hs : jarS k J' = j_addw J' k 1 := (if_neg c17).trans ((if_neg (by rw [he1]; exact hev k (by omega))).trans (if_pos c37))
          refine rx_aload_n hE dX11_passes_40 (i := 0) rfl rfl ?_
          refine rx_iload_n hE dX11_passes_41 (i := 1) rfl rfl ?_
          refine rx_iconst hE dX11_passes_42 (v := 1) (by decide) ?_
          refine rx_call0 (rx_callV (av := [.int (nI k), .int 1]) hE dX11_passes_43 lk_X11_350 (c_X11_comes hM 1 (r := k) (by omega)) (kp_o hM) np_X11_comes rfl rfl (by decide) (Nat.le_of_ble_eq_true rfl) rfl ?_)
          rintro v M' ⟨rfl, rfl⟩
          refine rx_iinc_1 hE dX11_passes_46 (v := 1) (by decide) (by decide) rfl ?_
          rw [nI_1]
          refine rx_goto (tgt := 2) hE dX11_passes_49 (by decide) ?_
          exact ih (k + 1) _ _ _ (by omega) (by first | exact hR' | (rw [← hR']; rfl)) (by first | exact he1 | (rw [← he1]; rfl)) (by rw [← hF]; show _ = jarF (k + 1) n (jarS k J'); rw [hs])
  refine rx_iconst hE dX11_passes_0 (v := 0) (by decide) ?_
  refine rx_istore_n_1 hE dX11_passes_1 (by decide) rfl ?_
  exact loop1 R 0 J none none (by omega) hR rfl rfl
