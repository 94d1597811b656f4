/-! ===== told anew; notes ===== -/
theorem kput_congr {S : gS} {J J' : gJn} (h : ∀ f, f < 8 → ∀ i, i < 6 → J f i = J' f i) (h8 : ∀ i, i < 12 → J 8 i = J' 8 i) (h9 : ∀ i, i < 6 → J 9 i = J' 9 i) : kput S J = kput S J' := by
  funext k
  unfold kput
  by_cases h10 : k = 10
  · rw [if_pos h10, if_pos h10]
    funext q
    unfold ksaid
    rw [h9 0 (by decide), h9 1 (by decide), h9 2 (by decide), h9 3 (by decide), h9 4 (by decide)]
    by_cases a1 : 11 ≤ q ∧ q < 41
    · rw [h (ktab ((q - 11) % 5)) (by rcases ktab_lt ((q - 11) % 5) with e | e | e | e | e <;> rw [e] <;> decide) ((q - 11) / 5) (by omega)]
      simp only [a1, and_self, if_true]
    · simp only [a1, if_false]
      by_cases a2 : 41 ≤ q ∧ q < 53
      · rw [h8 (q - 41) (by omega)]
        simp only [a2, and_self, if_true]
      · simp only [a2, if_false]
        by_cases a3 : 54 ≤ q ∧ q < 60
        · rw [h 1 (by decide) (q - 54) (by omega)]
          simp only [a3, and_self, if_true]
        · simp only [a3, if_false]
          by_cases a4 : 72 ≤ q ∧ q < 78
          · rw [h 3 (by decide) (q - 72) (by omega)]
          · simp only [a4, if_false]
  · rw [if_neg h10, if_neg h10]
    by_cases h11 : k = 11
    · rw [if_pos h11, if_pos h11]
      funext i
      by_cases hi : i < 6
      · rw [if_pos hi, if_pos hi, h 7 (by decide) i hi]
      · rw [if_neg hi, if_neg hi]
    · rw [if_neg h11, if_neg h11, h9 5 (by decide)]
theorem ksaid_d (d : Nat → Int32) (J : gJn) {q : Nat} (hq : (60 ≤ q ∧ q < 72) ∨ 78 ≤ q) : ksaid d J q = d q := by
  unfold ksaid
  rw [if_neg (show ¬ q = 1 by omega), if_neg (show ¬ q = 2 by omega), if_neg (show ¬ q = 3 by omega), if_neg (show ¬ q = 10 by omega), if_neg (show ¬ (11 ≤ q ∧ q < 41) by omega), if_neg (show ¬ (41 ≤ q ∧ q < 53) by omega), if_neg (show ¬ q = 53 by omega), if_neg (show ¬ (54 ≤ q ∧ q < 60) by omega), if_neg (show ¬ (72 ≤ q ∧ q < 78) by omega)]
theorem kput_d {S : gS} {J : gJn} {q : Nat} (hq : (60 ≤ q ∧ q < 72) ∨ 78 ≤ q) : kput S J 10 q = S 10 q := ksaid_d _ _ hq
/-- K is what was told, J how it is -/
def kth (S : gS) (J K : gJn) : Prop := (∀ i, i < 6 → S 10 (60 + i) = K 0 i ∧ S 10 (66 + i) = K 2 i ∧ K 4 i = 0 ∧ K 5 i = 0 ∧ K 6 i = -1) ∧ (∀ i, i < 12 → S 10 (78 + i) = K 8 i) ∧ K 9 3 = 0 ∧ K 9 4 = 0 ∧ jst K J
def jmix (K J : gJn) (k : Nat) : gJn := fun f => if f = 0 ∨ f = 2 ∨ f = 4 ∨ f = 5 ∨ f = 6 then (fun i => if i < k then K f i else J f i) else J f
theorem jmix_0 (K J : gJn) : jmix K J 0 = J := by
  funext f
  unfold jmix
  split
  · funext i
    exact if_neg (Nat.not_lt_zero i)
  · rfl
theorem jmix_s {K J : gJn} {k : Nat} {a b c d e : Int32} (ha : a = K 0 k) (hb : b = K 2 k) (hc : c = K 4 k) (hd : d = K 5 k) (he : e = K 6 k) : j_s (j_s (j_s (j_s (j_s (jmix K J k) 0 (upd (jmix K J k 0) k a)) 2 (upd (jmix K J k 2) k b)) 4 (upd (jmix K J k 4) k c)) 5 (upd (jmix K J k 5) k d)) 6 (upd (jmix K J k 6) k e) = jmix K J (k + 1) := by
  have hu : ∀ f, (f = 0 ∨ f = 2 ∨ f = 4 ∨ f = 5 ∨ f = 6) → upd (jmix K J k f) k (K f k) = jmix K J (k + 1) f := by
    intro f hf
    funext i
    unfold jmix upd
    rw [if_pos hf, if_pos hf]
    by_cases h : i = k
    · rw [if_pos h, if_pos (by omega), h]
    · rw [if_neg h]
      by_cases h2 : i < k
      · rw [if_pos h2, if_pos (by omega)]
      · rw [if_neg h2, if_neg (by omega)]
  subst ha hb hc hd he
  rw [hu 0 (by decide), hu 2 (by decide), hu 4 (by decide), hu 5 (by decide), hu 6 (by decide)]
  funext f
  unfold j_s
  by_cases h6 : f = 6
  · rw [if_pos h6, h6]
  · rw [if_neg h6]
    by_cases h5 : f = 5
    · rw [if_pos h5, h5]
    · rw [if_neg h5]
      by_cases h4 : f = 4
      · rw [if_pos h4, h4]
      · rw [if_neg h4]
        by_cases h2 : f = 2
        · rw [if_pos h2, h2]
        · rw [if_neg h2]
          by_cases h0 : f = 0
          · rw [if_pos h0, h0]
          · rw [if_neg h0]
            unfold jmix
            rw [if_neg (by omega), if_neg (by omega)]
def jmi8 (K J : gJn) (k : Nat) : gJn := j_s J 8 (fun i => if i < k then K 8 i else J 8 i)
theorem jmi8_0 (K J : gJn) : jmi8 K J 0 = J := by
  unfold jmi8
  rw [show (fun i => if i < 0 then K 8 i else J 8 i) = J 8 from funext fun i => if_neg (Nat.not_lt_zero i), j_s_id]
theorem jmi8_s (K J : gJn) (k : Nat) : j_s (jmi8 K J k) 8 (upd (jmi8 K J k 8) k (K 8 k)) = jmi8 K J (k + 1) := by
  unfold jmi8
  rw [j_ss]
  congr 1
  funext i
  show (if i = k then K 8 k else if i < k then K 8 i else J 8 i) = _
  by_cases h : i = k
  · rw [if_pos h, if_pos (by omega), h]
  · rw [if_neg h]
    by_cases h2 : i < k
    · rw [if_pos h2, if_pos (by omega)]
    · rw [if_neg h2, if_neg (by omega)]
theorem kth.all {S : gS} {J K : gJn} (h : kth S J K) (g : Nat → Int32) : kput S (jmi8 K (jmix K (j_c (j_c (j_s J 7 g) 3 0) 4 0) 6) 12) = kput S (j_s K 7 g) := by
  obtain ⟨h1, h2, h3, h4, h5⟩ := h
  refine kput_congr (fun f hf i hi => ?_) (fun i hi => ?_) (fun i hi => ?_)
  · have e8 : (jmi8 K (jmix K (j_c (j_c (j_s J 7 g) 3 0) 4 0) 6) 12) f = jmix K (j_c (j_c (j_s J 7 g) 3 0) 4 0) 6 f := if_neg (by omega)
    rw [e8]
    unfold jmix
    by_cases h : f = 0 ∨ f = 2 ∨ f = 4 ∨ f = 5 ∨ f = 6
    · rw [if_pos h, if_pos hi]
      show K f i = (if f = 7 then g else K f) i
      rw [if_neg (by omega)]
    · rw [if_neg h]
      rcases (show f = 1 ∨ f = 3 ∨ f = 7 by omega) with rfl | rfl | rfl
      · exact congrFun h5.1.symm i
      · exact congrFun h5.2.1.symm i
      · rfl
  · show (if i < 12 then K 8 i else _) = K 8 i
    rw [if_pos hi]
  · rcases (show i = 3 ∨ i = 4 ∨ (i ≠ 3 ∧ i ≠ 4) by omega) with rfl | rfl | ⟨h6, h7⟩
    · exact h3.symm
    · exact h4.symm
    · have e : (jmi8 K (jmix K (j_c (j_c (j_s J 7 g) 3 0) 4 0) 6) 12) 9 i = J 9 i := by
        show upd (upd (J 9) 3 0) 4 0 i = J 9 i
        rw [upd_ne h7, upd_ne h6]
      rw [e]
      exact (h5.2.2 i h6 h7).symm
set_option maxRecDepth 100000 in
set_option maxHeartbeats 4000000 in
theorem c_X11_begins {M : gM} {S : gS} {L : gLg} {J : gJn} {g : Nat → Int32} (hM : 408 ≤ M.1) {K : gJn} (h : kth S J K) : SX 0 0 0 mX11_begins [.ref 384] (kp M (kput S (j_s J 7 g)) L) (fun v M' => v = none ∧ M' = kp M (kput S (j_s K 7 g)) L) := by
  refine SX.intro [some (.ref 384), none, none] (by decide +kernel) (Nat.le_of_ble_eq_true rfl) rfl (fun E hE hQ => ?_)
  have loop2 : ∀ (n k : Nat) (l2 : Option Value), k + n = 12 → RX E mX11_begins.2.2.1 0 0 98 [some (.ref 384), some (.int (nI k)), l2] [] (kp M (kput S (jmi8 K (jmix K (j_c (j_c (j_s J 7 g) 3 0) 4 0) 6) k)) L) := by
    intro n
    induction n with
    | zero =>
      intro k l2 hk2
      refine rx_iload_n hE dX11_begins_98 (i := 1) rfl rfl ?_
      refine rx_bipush hE dX11_begins_99 (v := 12) (by decide) ?_
      refine rx_icmp_ge (tgt := 128) hE dX11_begins_101 (by decide) (fun c101 => ?_) (fun c101 => absurd (show nI 12 ≤ nI k from nI_le (by omega) (by omega)) c101)
      exact rx_vret hE hQ rfl dX11_begins_128 ⟨rfl, by rw [show k = 12 by omega, h.all]⟩
    | succ n ih =>
      intro k l2 hk2
      refine rx_iload_n hE dX11_begins_98 (i := 1) rfl rfl ?_
      refine rx_bipush hE dX11_begins_99 (v := 12) (by decide) ?_
      refine rx_icmp_ge (tgt := 128) hE dX11_begins_101 (by decide) (fun c101 => absurd c101 (nI_ge (a := k) (b := 12) (by omega) (by omega))) (fun c101 => ?_)
      refine rx_aload_n hE dX11_begins_104 (i := 0) rfl rfl ?_
      refine rx_getf hE dX11_begins_105 fl_X11_39_10 (kp_o hM) rfl ?_
      refine rx_bipush hE dX11_begins_108 (v := 41) (by decide) ?_
      refine rx_iload_n hE dX11_begins_110 (i := 1) rfl rfl ?_
      refine rx_iadd hE dX11_begins_111 ?_
      refine rx_int _ (nI (41 + k)) (nI_add _ _) ?_
      refine rx_aload_n hE dX11_begins_112 (i := 0) rfl rfl ?_
      refine rx_getf hE dX11_begins_113 fl_X11_39_10 (kp_o hM) rfl ?_
      refine rx_bipush hE dX11_begins_116 (v := 78) (by decide) ?_
      refine rx_iload_n hE dX11_begins_118 (i := 1) rfl rfl ?_
      refine rx_iadd hE dX11_begins_119 ?_
      refine rx_int _ (nI (78 + k)) (nI_add _ _) ?_
      refine rx_ialdN (i := 78 + k) hE dX11_begins_120 (kp_10 hM) (by omega) (by decide) ?_
      refine rx_int _ (K 8 k) ((kput_d (by omega)).trans (h.2.1 k (by omega))) ?_
      refine rx_iastN (i := 41 + k) hE dX11_begins_121 (kp_10 hM) (by omega) (by decide) ?_
      refine rx_mem (kx_8 (by omega)) ?_
      refine rx_iinc_1 hE dX11_begins_122 (v := 1) (by decide) (by decide) rfl ?_
      rw [nI_1]
      refine rx_goto (tgt := 98) hE dX11_begins_125 (by decide) ?_
      refine rx_mem (M' := kp M (kput S (jmi8 K (jmix K (j_c (j_c (j_s J 7 g) 3 0) 4 0) 6) (k + 1))) L) (congrArg (fun x => kp M (kput S x) L) (jmi8_s _ _ _)) ?_
      exact ih (k + 1) _ (by omega)
  have loop1 : ∀ (n k : Nat) (l2 : Option Value), k + n = 6 → RX E mX11_begins.2.2.1 0 0 18 [some (.ref 384), some (.int (nI k)), l2] [] (kp M (kput S (jmix K (j_c (j_c (j_s J 7 g) 3 0) 4 0) k)) L) := by
    intro n
    induction n with
    | zero =>
      intro k l2 hk2
      refine rx_iload_n hE dX11_begins_18 (i := 1) rfl rfl ?_
      refine rx_bipush hE dX11_begins_19 (v := 6) (by decide) ?_
      refine rx_icmp_ge (tgt := 96) hE dX11_begins_21 (by decide) (fun c21 => ?_) (fun c21 => absurd (show nI 6 ≤ nI k from nI_le (by omega) (by omega)) c21)
      refine rx_iconst hE dX11_begins_96 (v := 0) (by decide) ?_
      refine rx_istore_n_1 hE dX11_begins_97 (by decide) rfl ?_
      refine rx_mem (M' := kp M (kput S (jmi8 K (jmix K (j_c (j_c (j_s J 7 g) 3 0) 4 0) 6) 0)) L) (by rw [show k = 6 by omega, jmi8_0]) ?_
      exact loop2 12 0 _ (by omega)
    | succ n ih =>
      intro k l2 hk2
      refine rx_iload_n hE dX11_begins_18 (i := 1) rfl rfl ?_
      refine rx_bipush hE dX11_begins_19 (v := 6) (by decide) ?_
      refine rx_icmp_ge (tgt := 96) hE dX11_begins_21 (by decide) (fun c21 => absurd c21 (nI_ge (a := k) (b := 6) (by omega) (by omega))) (fun c21 => ?_)
      refine rx_bipush hE dX11_begins_24 (v := 11) (by decide) ?_
      refine rx_iconst hE dX11_begins_26 (v := 5) (by decide) ?_
      refine rx_iload_n hE dX11_begins_27 (i := 1) rfl rfl ?_
      refine rx_imul hE dX11_begins_28 ?_
      refine rx_int _ (nI (5 * k)) (pk_mul _ _) ?_
      refine rx_iadd hE dX11_begins_29 ?_
      refine rx_int _ (nI (11 + 5 * k)) (nI_add _ _) ?_
      refine rx_istore_n_2 hE dX11_begins_30 (by decide) rfl ?_
      refine rx_aload_n hE dX11_begins_31 (i := 0) rfl rfl ?_
      refine rx_getf hE dX11_begins_32 fl_X11_39_10 (kp_o hM) rfl ?_
      refine rx_iload_n hE dX11_begins_35 (i := 2) rfl rfl ?_
      refine rx_aload_n hE dX11_begins_36 (i := 0) rfl rfl ?_
      refine rx_getf hE dX11_begins_37 fl_X11_39_10 (kp_o hM) rfl ?_
      refine rx_bipush hE dX11_begins_40 (v := 60) (by decide) ?_
      refine rx_iload_n hE dX11_begins_42 (i := 1) rfl rfl ?_
      refine rx_iadd hE dX11_begins_43 ?_
      refine rx_int _ (nI (60 + k)) (nI_add _ _) ?_
      refine rx_ialdN (i := 60 + k) hE dX11_begins_44 (kp_10 hM) (by omega) (by decide) ?_
      refine rx_int _ (K 0 k) ((kput_d (by omega)).trans (h.1 k (by omega)).1) ?_
      refine rx_iastN (i := 11 + 5 * k) hE dX11_begins_45 (kp_10 hM) (by omega) (by decide) ?_
      refine rx_mem (kx_0 (by omega)) ?_
      refine rx_aload_n hE dX11_begins_46 (i := 0) rfl rfl ?_
      refine rx_getf hE dX11_begins_47 fl_X11_39_10 (kp_o hM) rfl ?_
      refine rx_iload_n hE dX11_begins_50 (i := 2) rfl rfl ?_
      refine rx_iconst hE dX11_begins_51 (v := 1) (by decide) ?_
      refine rx_iadd hE dX11_begins_52 ?_
      refine rx_int _ (nI (11 + 5 * k + 1)) (nI_add _ _) ?_
      refine rx_aload_n hE dX11_begins_53 (i := 0) rfl rfl ?_
      refine rx_getf hE dX11_begins_54 fl_X11_39_10 (kp_o hM) rfl ?_
      refine rx_bipush hE dX11_begins_57 (v := 66) (by decide) ?_
      refine rx_iload_n hE dX11_begins_59 (i := 1) rfl rfl ?_
      refine rx_iadd hE dX11_begins_60 ?_
      refine rx_int _ (nI (66 + k)) (nI_add _ _) ?_
      refine rx_ialdN (i := 66 + k) hE dX11_begins_61 (kp_10 hM) (by omega) (by decide) ?_
      refine rx_int _ (K 2 k) ((kput_d (by omega)).trans (h.1 k (by omega)).2.1) ?_
      refine rx_iastN (i := 11 + 5 * k + 1) hE dX11_begins_62 (kp_10 hM) (by omega) (by decide) ?_
      refine rx_mem (kx_2 (by omega)) ?_
      refine rx_aload_n hE dX11_begins_63 (i := 0) rfl rfl ?_
      refine rx_getf hE dX11_begins_64 fl_X11_39_10 (kp_o hM) rfl ?_
      refine rx_iload_n hE dX11_begins_67 (i := 2) rfl rfl ?_
      refine rx_iconst hE dX11_begins_68 (v := 2) (by decide) ?_
      refine rx_iadd hE dX11_begins_69 ?_
      refine rx_int _ (nI (11 + 5 * k + 2)) (nI_add _ _) ?_
      refine rx_iconst hE dX11_begins_70 (v := 0) (by decide) ?_
      refine rx_iastN (i := 11 + 5 * k + 2) hE dX11_begins_71 (kp_10 hM) (by omega) (by decide) ?_
      refine rx_mem (kx_4 (by omega)) ?_
      refine rx_aload_n hE dX11_begins_72 (i := 0) rfl rfl ?_
      refine rx_getf hE dX11_begins_73 fl_X11_39_10 (kp_o hM) rfl ?_
      refine rx_iload_n hE dX11_begins_76 (i := 2) rfl rfl ?_
      refine rx_iconst hE dX11_begins_77 (v := 3) (by decide) ?_
      refine rx_iadd hE dX11_begins_78 ?_
      refine rx_int _ (nI (11 + 5 * k + 3)) (nI_add _ _) ?_
      refine rx_iconst hE dX11_begins_79 (v := 0) (by decide) ?_
      refine rx_iastN (i := 11 + 5 * k + 3) hE dX11_begins_80 (kp_10 hM) (by omega) (by decide) ?_
      refine rx_mem (kx_5 (by omega)) ?_
      refine rx_aload_n hE dX11_begins_81 (i := 0) rfl rfl ?_
      refine rx_getf hE dX11_begins_82 fl_X11_39_10 (kp_o hM) rfl ?_
      refine rx_iload_n hE dX11_begins_85 (i := 2) rfl rfl ?_
      refine rx_iconst hE dX11_begins_86 (v := 4) (by decide) ?_
      refine rx_iadd hE dX11_begins_87 ?_
      refine rx_int _ (nI (11 + 5 * k + 4)) (nI_add _ _) ?_
      refine rx_iconst hE dX11_begins_88 (v := -1) (by decide) ?_
      refine rx_iastN (i := 11 + 5 * k + 4) hE dX11_begins_89 (kp_10 hM) (by omega) (by decide) ?_
      refine rx_mem (kx_6 (by omega)) ?_
      refine rx_iinc_1 hE dX11_begins_90 (v := 1) (by decide) (by decide) rfl ?_
      rw [nI_1]
      refine rx_goto (tgt := 18) hE dX11_begins_93 (by decide) ?_
      refine rx_mem (M' := kp M (kput S (jmix K (j_c (j_c (j_s J 7 g) 3 0) 4 0) (k + 1))) L) (congrArg (fun x => kp M (kput S x) L) (jmix_s rfl rfl (h.1 k (by omega)).2.2.1.symm (h.1 k (by omega)).2.2.2.1.symm (h.1 k (by omega)).2.2.2.2.symm)) ?_
      exact ih (k + 1) _ (by omega)
  refine rx_aload_n hE dX11_begins_0 (i := 0) rfl rfl ?_
  refine rx_getf hE dX11_begins_1 fl_X11_39_10 (kp_o hM) rfl ?_
  refine rx_bipush hE dX11_begins_4 (v := 10) (by decide) ?_
  refine rx_iconst hE dX11_begins_6 (v := 0) (by decide) ?_
  refine rx_iastN (i := 10) hE dX11_begins_7 (kp_10 hM) (by omega) (by decide) ?_
  refine rx_mem (kx_c 10 3 (by decide)) ?_
  refine rx_aload_n hE dX11_begins_8 (i := 0) rfl rfl ?_
  refine rx_getf hE dX11_begins_9 fl_X11_39_10 (kp_o hM) rfl ?_
  refine rx_bipush hE dX11_begins_12 (v := 53) (by decide) ?_
  refine rx_iconst hE dX11_begins_14 (v := 0) (by decide) ?_
  refine rx_iastN (i := 53) hE dX11_begins_15 (kp_10 hM) (by omega) (by decide) ?_
  refine rx_mem (kx_c 53 4 (by decide)) ?_
  refine rx_iconst hE dX11_begins_16 (v := 0) (by decide) ?_
  refine rx_istore_n_1 hE dX11_begins_17 (by decide) rfl ?_
  refine rx_mem (M' := kp M (kput S (jmix K (j_c (j_c (j_s J 7 g) 3 0) 4 0) 0)) L) (by rw [jmix_0]) ?_
  exact loop1 6 0 _ (by omega)
