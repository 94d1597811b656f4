/-! ===== the law's loop ===== -/
theorem and63 (x : Int32) : ∃ n, n < 64 ∧ x &&& 63 = nI n := by
  refine ⟨(x &&& 63).toBitVec.toNat, ?_, ?_⟩
  · rw [Int32.toBitVec_and, BitVec.toNat_and]
    exact Nat.lt_of_le_of_lt Nat.and_le_right (by decide)
  · apply Int32.toBitVec_inj.mp
    show _ = BitVec.ofNat 32 _
    rw [BitVec.ofNat_toNat, BitVec.setWidth_eq]
theorem lt6 {L i : Nat} (hL : L ≤ 3072) (hi : i < 2 ^ 31) (h : ¬ nI L - 6 < nI i) : i + 6 ≤ L := by
  by_cases h6 : 6 ≤ L
  · rw [show (6 : Int32) = nI 6 from rfl, nI_mn h6] at h
    exact Nat.le_of_not_lt fun q => h (nI_lt (a := L - 6) (b := i) (by omega) hi)
  · exfalso
    have h0 : (0 : Int32) ≤ nI i := nI_le (a := 0) (b := i) (by omega) hi
    have hn : nI L - 6 < 0 := by
      match L, h6 with
      | 0, _ => decide
      | 1, _ => decide
      | 2, _ => decide
      | 3, _ => decide
      | 4, _ => decide
      | 5, _ => decide
      | n + 6, q => exact absurd (Nat.le_add_left 6 n) q
    exact h (Int32.lt_of_lt_of_le hn h0)
theorem law_case {d : Nat} {nm : String} {E : gE} {L : Nat} {xs : Nat → Int32} {a b k : Nat} {M : gM} (hE : g_E d (mL nm) E) (hd : 40 ≤ d) (hX : g_X0 L xs E) (hk : k + 6 ≤ L) (hL : L ≤ 3072) (ha : 3 ≤ a) (hb : 500 ≤ b) (h : ST M) (kk : ∀ (a1 b1 : Nat) (M1 : gM), a ≤ a1 + 3 → b ≤ b1 + 500 → ST M1 → RX E 4 a1 b1 1183 (lcl k) [] M1) {n : Nat} (hn : n < 64) : RX E 4 a b 33 (lcl k) [.int (nI n)] M := by
  by_cases h35 : n < 35
  · rcases (show n = 0 ∨ n = 1 ∨ n = 2 ∨ n = 3 ∨ n = 4 ∨ n = 5 ∨ n = 6 ∨ n = 7 ∨ n = 8 ∨ n = 9 ∨ n = 10 ∨ n = 11 ∨ n = 12 ∨ n = 13 ∨ n = 14 ∨ n = 15 ∨ n = 16 ∨ n = 17 ∨ n = 18 ∨ n = 19 ∨ n = 20 ∨ n = 21 ∨ n = 22 ∨ n = 23 ∨ n = 24 ∨ n = 25 ∨ n = 26 ∨ n = 27 ∨ n = 28 ∨ n = 29 ∨ n = 30 ∨ n = 31 ∨ n = 32 ∨ n = 33 ∨ n = 34 by omega) with rfl | rfl | rfl | rfl | rfl | rfl | rfl | rfl | rfl | rfl | rfl | rfl | rfl | rfl | rfl | rfl | rfl | rfl | rfl | rfl | rfl | rfl | rfl | rfl | rfl | rfl | rfl | rfl | rfl | rfl | rfl | rfl | rfl | rfl | rfl
    · exact rx_tableIn (off := 155) (tgt := 188) hE dL_law_33 (by decide) (by decide) rfl (by decide) (lc_feed hE hd hX hk hL ha hb h kk)
    · exact rx_tableIn (off := 218) (tgt := 251) hE dL_law_33 (by decide) (by decide) rfl (by decide) (lc_end hE hd hX hk hL ha hb h kk)
    · exact rx_tableIn (off := 241) (tgt := 274) hE dL_law_33 (by decide) (by decide) rfl (by decide) (lc_junction hE hd hX hk hL ha hb h kk)
    · exact rx_tableIn (off := 254) (tgt := 287) hE dL_law_33 (by decide) (by decide) rfl (by decide) (lc_rule hE hd hX hk hL ha hb h kk)
    · exact rx_tableIn (off := 267) (tgt := 300) hE dL_law_33 (by decide) (by decide) rfl (by decide) (lc_force hE hd hX hk hL ha hb h kk)
    · exact rx_tableIn (off := 290) (tgt := 323) hE dL_law_33 (by decide) (by decide) rfl (by decide) (lc_road hE hd hX hk hL ha hb h kk)
    · exact rx_tableIn (off := 323) (tgt := 356) hE dL_law_33 (by decide) (by decide) rfl (by decide) (lc_scored hE hd hX hk hL ha hb h kk)
    · exact rx_tableIn (off := 346) (tgt := 379) hE dL_law_33 (by decide) (by decide) rfl (by decide) (lc_beat hE hd hX hk hL ha hb h kk)
    · exact rx_tableIn (off := 359) (tgt := 392) hE dL_law_33 (by decide) (by decide) rfl (by decide) (lc_come hE hd hX hk hL ha hb h kk)
    · exact rx_tableIn (off := 392) (tgt := 425) hE dL_law_33 (by decide) (by decide) rfl (by decide) (lc_wave hE hd hX hk hL ha hb h kk)
    · exact rx_tableIn (off := 415) (tgt := 448) hE dL_law_33 (by decide) (by decide) rfl (by decide) (lc_score hE hd hX hk hL ha hb h kk)
    · exact rx_tableIn (off := 448) (tgt := 481) hE dL_law_33 (by decide) (by decide) rfl (by decide) (lc_tune hE hd hX hk hL ha hb h kk)
    · exact rx_tableIn (off := 481) (tgt := 514) hE dL_law_33 (by decide) (by decide) rfl (by decide) (lc_undo hE hd hX hk hL ha hb h kk)
    · exact rx_tableIn (off := 494) (tgt := 527) hE dL_law_33 (by decide) (by decide) rfl (by decide) (lc_ahead hE hd hX hk hL ha hb h kk)
    · exact rx_tableIn (off := 537) (tgt := 570) hE dL_law_33 (by decide) (by decide) rfl (by decide) (lc_clear hE hd hX hk hL ha hb h kk)
    · exact rx_tableIn (off := 560) (tgt := 593) hE dL_law_33 (by decide) (by decide) rfl (by decide) (lc_chord hE hd hX hk hL ha hb h kk)
    · exact rx_tableIn (off := 583) (tgt := 616) hE dL_law_33 (by decide) (by decide) rfl (by decide) (lc_beats hE hd hX hk hL ha hb h kk)
    · exact rx_tableIn (off := 606) (tgt := 639) hE dL_law_33 (by decide) (by decide) rfl (by decide) (lc_bestScore hE hd hX hk hL ha hb h kk)
    · exact rx_tableIn (off := 639) (tgt := 672) hE dL_law_33 (by decide) (by decide) rfl (by decide) (lc_row hE hd hX hk hL ha hb h kk)
    · exact rx_tableIn (off := 672) (tgt := 705) hE dL_law_33 (by decide) (by decide) rfl (by decide) (lc_leastRoom hE hd hX hk hL ha hb h kk)
    · exact rx_tableIn (off := 695) (tgt := 728) hE dL_law_33 (by decide) (by decide) rfl (by decide) (lc_shut hE hd hX hk hL ha hb h kk)
    · exact rx_tableIn (off := 728) (tgt := 761) hE dL_law_33 (by decide) (by decide) rfl (by decide) (lc_longest hE hd hX hk hL ha hb h kk)
    · exact rx_tableIn (off := 761) (tgt := 794) hE dL_law_33 (by decide) (by decide) rfl (by decide) (lc_cadenza hE hd hX hk hL ha hb h kk)
    · exact rx_tableIn (off := 784) (tgt := 817) hE dL_law_33 (by decide) (by decide) rfl (by decide) (lc_rests hE hd hX hk hL ha hb h kk)
    · exact rx_tableIn (off := 837) (tgt := 870) hE dL_law_33 (by decide) (by decide) rfl (by decide) (lc_ring hE hd hX hk hL ha hb h kk)
    · exact rx_tableIn (off := 860) (tgt := 893) hE dL_law_33 (by decide) (by decide) rfl (by decide) (lc_pence hE hd hX hk hL ha hb h kk)
    · exact rx_tableIn (off := 893) (tgt := 926) hE dL_law_33 (by decide) (by decide) rfl (by decide) (lc_note hE hd hX hk hL ha hb h kk)
    · exact rx_tableIn (off := 936) (tgt := 969) hE dL_law_33 (by decide) (by decide) rfl (by decide) (lc_ruled hE hd hX hk hL ha hb h kk)
    · exact rx_tableIn (off := 959) (tgt := 992) hE dL_law_33 (by decide) (by decide) rfl (by decide) (lc_look hE hd hX hk hL ha hb h kk)
    · exact rx_tableIn (off := 992) (tgt := 1025) hE dL_law_33 (by decide) (by decide) rfl (by decide) (lc_seed hE hd hX hk hL ha hb h kk)
    · exact rx_tableIn (off := 1015) (tgt := 1048) hE dL_law_33 (by decide) (by decide) rfl (by decide) (lc_mornings hE hd hX hk hL ha hb h kk)
    · exact rx_tableIn (off := 1068) (tgt := 1101) hE dL_law_33 (by decide) (by decide) rfl (by decide) (lc_count hE hd hX hk hL ha hb h kk)
    · exact rx_tableIn (off := 1091) (tgt := 1124) hE dL_law_33 (by decide) (by decide) rfl (by decide) (lc_heard hE hd hX hk hL ha hb h kk)
    · exact rx_tableIn (off := 1104) (tgt := 1137) hE dL_law_33 (by decide) (by decide) rfl (by decide) (lc_image hE hd hX hk hL ha hb h kk)
    · exact rx_tableIn (off := 1127) (tgt := 1160) hE dL_law_33 (by decide) (by decide) rfl (by decide) (lc_back hE hd hX hk hL ha hb h kk)
  · refine rx_tableOut (tgt := 1183) hE dL_law_33 (Or.inr ?_) (by decide) (kk a b M (by omega) (by omega) h)
    have : (nI n).toInt = (n : Int) := by
      show (Int32.ofNat n).toInt = _
      rw [Int32.toInt_ofNat_of_lt (by omega)]
    rw [this]
    omega
theorem law_loop {d : Nat} {nm : String} {E : gE} {L : Nat} {xs : Nat → Int32} (hE : g_E d (mL nm) E) (hd : 40 ≤ d) (hX : g_X0 L xs E) (hL : L ≤ 3072) : ∀ (f a b k : Nat) (M : gM), L < k + 6 * f → k ≤ L → 3 * f ≤ a → 500 * f ≤ b → ST M → RX E 4 a b 18 (lcl k) [] M
  | 0, a, b, k, M, hf, hk, ha, hb, h => absurd hf (by omega)
  | f + 1, a, b, k, M, hf, hk, ha, hb, h => by
    refine rx_iload_n hE dL_law_18 (i := 3) rfl rfl ?_
    refine rx_aload_n hE dL_law_19 (i := 0) rfl rfl ?_
    refine rx_len0 hE hX dL_law_20 ?_
    refine rx_bipush hE dL_law_21 (v := 6) (by decide) ?_
    refine rx_isub hE dL_law_23 ?_
    refine rx_icmp_gt (tgt := 1189) hE dL_law_24 (by decide) (fun _ => ?_) (fun c24 => ?_)
    · refine rx_iconst hE dL_law_1189 (v := 1) (by decide) ?_
      exact rx_wret hE hX dL_law_1190
    · have hk6 : k + 6 ≤ L := lt6 hL (by omega) c24
      refine rx_aload_n hE dL_law_27 (i := 0) rfl rfl ?_
      refine rx_iload_n hE dL_law_28 (i := 3) rfl rfl ?_
      refine rx_ild0 hE hX dL_law_29 (vp_in_nI (show k < L by omega) (by omega)) ?_
      refine rx_bipush hE dL_law_30 (v := 63) (by decide) ?_
      refine rx_iand hE dL_law_32 ?_
      obtain ⟨n, hn, e⟩ := and63 (xs (nI k).toNatClampNeg)
      rw [e]
      refine law_case hE hd hX hk6 hL (by omega) (by omega) h (fun a1 b1 M1 h1 h2 h3 => ?_) hn
      refine rx_iinc_3 hE dL_law_1183 (v := 6) (by decide) (by decide) rfl ?_
      refine rx_goto (tgt := 18) hE dL_law_1186 (by decide) ?_
      rw [show nI k + 6 = nI (k + 6) from nI_add k 6]
      exact law_loop hE hd hX hL f a1 b1 (k + 6) M1 (by omega) hk6 (by omega) (by omega) h3
