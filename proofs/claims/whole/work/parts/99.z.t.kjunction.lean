/-! ===== the reference's junction() ===== -/
def kfz (S S' : gS) : Prop := (∀ r, r ≠ 0 → r ≠ 3 → r ≠ 6 → r ≠ 10 → S' r = S r) ∧ ∀ i, i ≠ 1 → i ≠ 8 → i ≠ 9 → i ≠ 10 → i ≠ 11 → i ≠ 12 → i ≠ 14 → S' 0 i = S 0 i
theorem kfz.trans {S S' S'' : gS} (h : kfz S S') (h' : kfz S' S'') : kfz S S'' := ⟨fun k a b c d => (h'.1 k a b c d).trans (h.1 k a b c d), fun i a b c d e f g => (h'.2 i a b c d e f g).trans (h.2 i a b c d e f g)⟩
theorem kfy.z {S S' : gS} (h : kfy S S') : kfz S S' := ⟨fun k a b c _ => h.1 k a b c, fun i a b c d _ e f => h.2 i a b c d e f⟩
theorem kfz.f11 (S : gS) (v : Int32) : kfz S (k_f S 11 v) := ⟨fun k a _ _ _ => kf_row v a, fun j a b c d e f g => kf_ne v (by omega)⟩
theorem kfz.s (S : gS) {r : Nat} (hr : r = 6 ∨ r = 10) (v : Nat → Int32) : kfz S (k_s S r v) := ⟨fun j a b c d => if_neg (by omega), fun i _ _ _ _ _ _ _ => by rcases hr with rfl | rfl <;> rfl⟩
theorem kjr_zero (f : Nat → Int32) : kjr (jfillF f 0 90) j_zero 0 := by
  have e : ∀ j, j < 90 → jfillF f 0 90 j = 0 := fun j h => if_pos h
  refine ⟨e 0 (by decide), e 1 (by decide), e 2 (by decide), e 3 (by decide), fun i hi => ⟨e _ (by omega), e _ (by omega), e _ (by omega), e _ (by omega)⟩, fun i hi => e _ (by omega), fun i a b => e i (by omega)⟩
def cp10 (f R : Nat → Int32) (i : Nat) : Nat → Int32 := fun j => if j < i then (if j < 90 then R j else 0) else f j
theorem cp10_0 (f R : Nat → Int32) : cp10 f R 0 = f := funext fun j => if_neg (Nat.not_lt_zero j)
theorem cp10_s (f R : Nat → Int32) (i : Nat) : upd (cp10 f R i) i (if i < 90 then R i else 0) = cp10 f R (i + 1) := by
  funext j
  unfold upd cp10
  by_cases h : j = i
  · subst h
    rw [if_pos rfl, if_pos (show j < j + 1 by omega)]
  · rw [if_neg h]
    by_cases h2 : j < i
    · rw [if_pos h2, if_pos (show j < i + 1 by omega)]
    · rw [if_neg h2, if_neg (show ¬ j < i + 1 by omega)]
def jz0 (K : gJn) : gJn := fun r => if r = 0 ∨ r = 2 ∨ r = 4 ∨ r = 5 ∨ r = 6 ∨ r = 8 then (fun _ => 0) else K r
theorem jz0_k {K : gJn} {r : Nat} (h : ¬ (r = 0 ∨ r = 2 ∨ r = 4 ∨ r = 5 ∨ r = 6 ∨ r = 8)) : jz0 K r = K r := if_neg h
theorem ktab_z (K : gJn) (m : Nat) (i : Nat) : jz0 K (ktab m) i = 0 := by
  have h : ktab m = 0 ∨ ktab m = 2 ∨ ktab m = 4 ∨ ktab m = 5 ∨ ktab m = 6 ∨ ktab m = 8 := by
    unfold ktab
    split
    · exact Or.inl rfl
    · split
      · exact Or.inr (Or.inl rfl)
      · split
        · exact Or.inr (Or.inr (Or.inl rfl))
        · split
          · exact Or.inr (Or.inr (Or.inr (Or.inl rfl)))
          · exact Or.inr (Or.inr (Or.inr (Or.inr (Or.inl rfl))))
  unfold jz0
  rw [if_pos h]
theorem kself {S : gS} {K : gJn} {k : Nat} {f R : Nat → Int32} (h10 : S 10 = cp10 f R 121) (hj : kjr R K (k + 1)) (hv : jv (k + 1) K) (h23 : S 0 23 = -1) : kput S (j_s (jz0 K) 7 (S 11)) = S := by
  obtain ⟨h0, h1, h2, h3, h4, h5, h6⟩ := hj
  have hc : ∀ q, q < 90 → S 10 q = R q := fun q hq => by
    rw [h10]
    unfold cp10
    rw [if_pos (by omega), if_pos hq]
  have h9 := hv.2.2.2.2.1
  funext r i
  unfold kput
  by_cases r10 : r = 10
  · subst r10
    rw [if_pos rfl]
    unfold ksaid
    by_cases q1 : i = 1
    · subst q1; rw [if_pos rfl, hc 1 (by decide), h1]; rfl
    rw [if_neg q1]
    by_cases q2 : i = 2
    · subst q2; rw [if_pos rfl, hc 2 (by decide), h2]; rfl
    rw [if_neg q2]
    by_cases q3 : i = 3
    · subst q3; rw [if_pos rfl, hc 3 (by decide), h3]; rfl
    rw [if_neg q3]
    by_cases q4 : i = 10
    · subst q4; rw [if_pos rfl, hc 10 (by decide), h6 10 (by decide) (by decide)]; exact h9 3 (by decide)
    rw [if_neg q4]
    by_cases q5 : 11 ≤ i ∧ i < 41
    · rw [if_pos q5, hc i (by omega), h6 i (by omega) (by omega)]
      have hm : ktab ((i - 11) % 5) ≠ 7 := by
        unfold ktab
        split
        · decide
        · split
          · decide
          · split
            · decide
            · split <;> decide
      rw [js_r hm]
      exact ktab_z K _ _
    rw [if_neg q5]
    by_cases q6 : 41 ≤ i ∧ i < 53
    · rw [if_pos q6, hc i (by omega), h6 i (by omega) (by omega)]; rfl
    rw [if_neg q6]
    by_cases q7 : i = 53
    · subst q7; rw [if_pos rfl, hc 53 (by decide), h6 53 (by decide) (by decide)]; exact h9 4 (by decide)
    rw [if_neg q7]
    by_cases q8 : 54 ≤ i ∧ i < 60
    · rw [if_pos q8, hc i (by omega)]
      have := (h4 (i - 54) (by omega)).1
      rw [show 54 + (i - 54) = i by omega] at this
      exact this.symm
    rw [if_neg q8]
    by_cases q9 : 72 ≤ i ∧ i < 78
    · rw [if_pos q9, hc i (by omega)]
      have := (h4 (i - 72) (by omega)).2.2.2
      rw [show 72 + (i - 72) = i by omega] at this
      exact this.symm
    rw [if_neg q9]
  · rw [if_neg r10]
    by_cases r11 : r = 11
    · subst r11
      rw [if_pos rfl]
      show (if i < 6 then S 11 i else S 11 i) = _
      split <;> rfl
    · rw [if_neg r11]
      by_cases r0 : r = 0
      · subst r0
        rw [if_pos rfl]
        unfold upd
        by_cases e : i = 23
        · rw [if_pos e, e, h23]; exact h9 5 (by decide)
        · rw [if_neg e]
      · rw [if_neg r0]
theorem kth_new {S : gS} {K : gJn} {k : Nat} {f R : Nat → Int32} (h10 : S 10 = cp10 f R 121) (hj : kjr R K (k + 1)) (hv : jv (k + 1) K) : kth S (jz0 K) K ∧ kth S K K := by
  obtain ⟨h0, h1, h2, h3, h4, h5, h6⟩ := hj
  have hc : ∀ q, q < 90 → S 10 q = R q := fun q hq => by
    rw [h10]
    unfold cp10
    rw [if_pos (by omega), if_pos hq]
  have h47 := hv.2.2.2.1
  have h9 := hv.2.2.2.2.1
  have a : (∀ i, i < 6 → S 10 (60 + i) = K 0 i ∧ S 10 (66 + i) = K 2 i ∧ K 4 i = 0 ∧ K 5 i = 0 ∧ K 6 i = -1) ∧ (∀ i, i < 12 → S 10 (78 + i) = K 8 i) ∧ K 9 3 = 0 ∧ K 9 4 = 0 := by
    refine ⟨fun i hi => ⟨(hc _ (by omega)).trans (h4 i hi).2.1, (hc _ (by omega)).trans (h4 i hi).2.2.1, ?_, ?_, ?_⟩, fun i hi => (hc _ (by omega)).trans (h5 i hi), h9 3 (by decide), h9 4 (by decide)⟩
    · rw [h47 4 (by decide) (by decide)]; rfl
    · rw [h47 5 (by decide) (by decide)]; rfl
    · rw [h47 6 (by decide) (by decide)]; rfl
  exact ⟨⟨a.1, a.2.1, a.2.2.1, a.2.2.2, rfl, rfl, fun _ _ _ => rfl⟩, a.1, a.2.1, a.2.2.1, a.2.2.2, rfl, rfl, fun _ _ _ => rfl⟩
theorem k_s_self (S : gS) (r : Nat) : k_s S r (S r) = S := by
  funext i
  unfold k_s
  by_cases h : i = r
  · rw [if_pos h, h]
  · rw [if_neg h]
set_option maxRecDepth 100000 in
set_option maxHeartbeats 1000000 in
theorem c_X11_junction {M : gM} {S : gS} {L : gLg} (hM : 408 ≤ M.1) {T : Nat → Int32} {N : Nat} (hN : N ≤ 400) (hb : ∀ i, tb8 (T i)) (h1 : S 0 1 = nI N) (hbt : S 1 = T) {m : Nat} {r : Except Int32 gJn} (hrl : jlR T N m (sk T N 0) 0 j_zero r) (hne : ∀ g, r = .error g → ¬ g = 0) (h23 : S 0 23 = -1) : SX 12 0 0 mX11_junction [.ref 384] (kp M S L) (fun v M' => (∃ g S3, r = .error g ∧ v = some (.int (-2 - g)) ∧ M' = kp M S3 L ∧ kfz S S3 ∧ S3 0 1 = 0 ∧ S3 10 = S 10) ∨ ∃ K S4, r = .ok K ∧ v = some (.int (K 9 2)) ∧ M' = kp M (k_f (kput S4 (j_s K 7 (S4 11))) 27 0) L ∧ kfz S S4 ∧ S4 0 1 = 0 ∧ S4 10 0 = 1 ∧ S4 10 120 = 0 ∧ kth S4 K K ∧ ∃ k, jv (k + 1) K) := by
  refine SX.intro [some (.ref 384), none] (by decide +kernel) (Nat.le_of_ble_eq_true rfl) rfl (fun E hE hQ => ?_)
  have l1 : ∀ (m1 i : Nat), i + m1 = 90 → RX E mX11_junction.2.2.1 0 0 8 [some (.ref 384), some (.int (nI i))] [] (kp M (k_s (k_f S 11 6) 6 (jfillF (S 6) 0 i)) L) := by
    intro m1
    induction m1 with
    | zero =>
      intro i hin
      refine rx_iload_n hE dX11_junction_8 (i := 1) rfl rfl ?_
      refine rx_bipush hE dX11_junction_9 (v := 90) (by decide) ?_
      refine rx_icmp_ge (tgt := 27) hE dX11_junction_11 (by decide) (fun c11 => ?_) (fun c11 => absurd (nI_le (a := 90) (b := i) (by omega) (by omega)) c11)
      refine rx_aload_n hE dX11_junction_27 (i := 0) rfl rfl ?_
      have hi : i = 90 := by omega
      subst hi
      refine rx_call0 (rx_callV (av := []) hE dX11_junction_28 lk_X11_270 (c_X11_readsAllJ (S := (k_s (k_f S 11 6) 6 (jfillF (S 6) 0 90))) (r := r) hM hN hb h1 hbt rfl (kjr_zero (S 6)) hrl hne) (kp_o hM) np_X11_readsAll rfl rfl (by decide) (Nat.le_of_ble_eq_true rfl) rfl ?_)
      rintro v M' ⟨S3, rfl, f3, h31, hv⟩
      have h23 : S3 0 23 = -1 := (f3.2 23 (by decide) (by decide) (by decide) (by decide) (by decide) (by decide)).trans h23
      rcases hv with ⟨g, hr, rfl, e9⟩ | ⟨K, kk, hr, rfl, hj, hjv⟩
      · skip
        refine rx_if_ne (tgt := 42) hE dX11_junction_31 (by decide) (fun c31 => absurd rfl c31) (fun c31 => ?_)
        refine rx_bipush hE dX11_junction_34 (v := -2) (by decide) ?_
        refine rx_aload_n hE dX11_junction_36 (i := 0) rfl rfl ?_
        refine rx_getf hE dX11_junction_37 fl_X11_99_10 (kp_o hM) rfl ?_
        refine rx_int _ g e9 ?_
        refine rx_isub hE dX11_junction_40 ?_
        exact rx_iret hE hQ rfl dX11_junction_41 (Or.inl ⟨g, S3, hr, rfl, rfl, (kfz.f11 S 6).trans ((kfz.s _ (Or.inl rfl) _).trans f3.z), h31, by rw [f3.1 10 (by decide) (by decide) (by decide)]; rfl⟩)
      · skip
        have l2 : ∀ (m2 i : Nat), i + m2 = 121 → RX E mX11_junction.2.2.1 0 0 44 [some (.ref 384), some (.int (nI i))] [] (kp M (k_s S3 10 (cp10 (S3 10) (S3 6) i)) L) := by
          intro m2
          induction m2 with
          | zero =>
            intro i hin
            refine rx_iload_n hE dX11_junction_44 (i := 1) rfl rfl ?_
            refine rx_bipush hE dX11_junction_45 (v := 121) (by decide) ?_
            refine rx_icmp_ge (tgt := 78) hE dX11_junction_47 (by decide) (fun c47 => ?_) (fun c47 => absurd (nI_le (a := 121) (b := i) (by omega) (by omega)) c47)
            have hi : i = 121 := by omega
            subst hi
            refine rx_aload_n hE dX11_junction_78 (i := 0) rfl rfl ?_
            refine rx_mem (M' := kp M (kput (k_s S3 10 (cp10 (S3 10) (S3 6) 121)) (j_s (jz0 K) 7 (S3 11))) L) (by rw [show kput (k_s S3 10 (cp10 (S3 10) (S3 6) 121)) (j_s (jz0 K) 7 (S3 11)) = (k_s S3 10 (cp10 (S3 10) (S3 6) 121)) from kself (f := S3 10) (R := S3 6) rfl hj hjv h23]) ?_
            refine rx_call0 (rx_callV (av := []) hE dX11_junction_79 lk_X11_273 (c_X11_begins (S := (k_s S3 10 (cp10 (S3 10) (S3 6) 121))) (J := jz0 K) (K := K) hM (kth_new (f := S3 10) (R := S3 6) rfl hj hjv).1) (kp_o hM) np_X11_begins rfl rfl (by decide) (Nat.le_of_ble_eq_true rfl) rfl ?_)
            rintro v M' ⟨rfl, rfl⟩
            refine rx_aload_n hE dX11_junction_82 (i := 0) rfl rfl ?_
            refine rx_iconst hE dX11_junction_83 (v := 0) (by decide) ?_
            refine rx_put hE dX11_junction_84 fl_X11_276_10 fw_10_27 (kp_o hM) (fun _ => rfl) (fun _ => rfl) (Nat.le_of_ble_eq_true rfl) ?_
            refine rx_mem (M' := kp M (k_f (kput (k_s S3 10 (cp10 (S3 10) (S3 6) 121)) (j_s K 7 (S3 11))) 27 0) L) kw_c27 ?_
            refine rx_aload_n hE dX11_junction_87 (i := 0) rfl rfl ?_
            refine rx_getf hE dX11_junction_88 fl_X11_39_10 (kp_o hM) rfl ?_
            refine rx_iconst hE dX11_junction_91 (v := 3) (by decide) ?_
            refine rx_ialdN (i := 3) hE dX11_junction_92 (kp_10 hM) (by decide) (by decide) ?_
            refine rx_int _ (K 9 2) rfl ?_
            exact rx_iret hE hQ rfl dX11_junction_93 (Or.inr ⟨K, (k_s S3 10 (cp10 (S3 10) (S3 6) 121)), hr, rfl, rfl, ((kfz.f11 S 6).trans ((kfz.s _ (Or.inl rfl) _).trans (f3.z.trans (kfz.s S3 (Or.inr rfl) _)))), h31, by show cp10 (S3 10) (S3 6) 121 0 = 1; exact hj.1, rfl, (kth_new (f := S3 10) (R := S3 6) rfl hj hjv).2, kk, hjv⟩)
          | succ m2 ihm2 =>
            intro i hin
            refine rx_iload_n hE dX11_junction_44 (i := 1) rfl rfl ?_
            refine rx_bipush hE dX11_junction_45 (v := 121) (by decide) ?_
            refine rx_icmp_ge (tgt := 78) hE dX11_junction_47 (by decide) (fun c47 => absurd c47 (nI_ge (a := i) (b := 121) (by omega) (by decide))) (fun c47 => ?_)
            refine rx_aload_n hE dX11_junction_50 (i := 0) rfl rfl ?_
            refine rx_getf hE dX11_junction_51 fl_X11_39_10 (kp_o hM) rfl ?_
            refine rx_iload_n hE dX11_junction_54 (i := 1) rfl rfl ?_
            refine rx_iload_n hE dX11_junction_55 (i := 1) rfl rfl ?_
            refine rx_bipush hE dX11_junction_56 (v := 90) (by decide) ?_
            refine rx_icmp_ge (tgt := 70) hE dX11_junction_58 (by decide) (fun c58 => ?_) (fun c58 => ?_)
            · have hi90 : ¬ i < 90 := fun z => absurd c58 (nI_ge (a := i) (b := 90) z (by decide))
              refine rx_iconst hE dX11_junction_70 (v := 0) (by decide) ?_
              refine rx_int _ (if i < 90 then S3 6 i else 0) (by rw [if_neg hi90]) ?_
              refine rx_iastN (i := i) hE dX11_junction_71 (kp_10 hM) (by omega) (by decide) ?_
              refine rx_mem (M' := kp M (k_s S3 10 (cp10 (S3 10) (S3 6) (i + 1))) L) (by rw [← cp10_s]; exact kw_10.trans (by rw [k_ss]; rfl)) ?_
              refine rx_iinc_1 hE dX11_junction_72 (v := 1) (by decide) (by decide) rfl ?_
              rw [nI_1]
              refine rx_goto (tgt := 44) hE dX11_junction_75 (by decide) ?_
              exact ihm2 (i + 1) (by omega)
            · have hi90 : i < 90 := Classical.byContradiction (fun z => c58 (nI_le (a := 90) (b := i) (by omega) (by omega)))
              refine rx_aload_n hE dX11_junction_61 (i := 0) rfl rfl ?_
              refine rx_getf hE dX11_junction_62 fl_X11_26_10 (kp_o hM) rfl ?_
              refine rx_iload_n hE dX11_junction_65 (i := 1) rfl rfl ?_
              refine rx_ialdN (i := i) hE dX11_junction_66 (kp_6 hM) (by omega) (by decide) ?_
              refine rx_int _ (S3 6 i) rfl ?_
              refine rx_goto (tgt := 71) hE dX11_junction_67 (by decide) ?_
              refine rx_int _ (if i < 90 then S3 6 i else 0) (by rw [if_pos hi90]) ?_
              refine rx_iastN (i := i) hE dX11_junction_71 (kp_10 hM) (by omega) (by decide) ?_
              refine rx_mem (M' := kp M (k_s S3 10 (cp10 (S3 10) (S3 6) (i + 1))) L) (by rw [← cp10_s]; exact kw_10.trans (by rw [k_ss]; rfl)) ?_
              refine rx_iinc_1 hE dX11_junction_72 (v := 1) (by decide) (by decide) rfl ?_
              rw [nI_1]
              refine rx_goto (tgt := 44) hE dX11_junction_75 (by decide) ?_
              exact ihm2 (i + 1) (by omega)
        refine rx_if_ne (tgt := 42) hE dX11_junction_31 (by decide) (fun c31 => ?_) (fun c31 => absurd c31 (by decide))
        refine rx_iconst hE dX11_junction_42 (v := 0) (by decide) ?_
        refine rx_istore_n_1 hE dX11_junction_43 (by decide) rfl ?_
        refine rx_mem (M' := kp M (k_s S3 10 (cp10 (S3 10) (S3 6) 0)) L) (by rw [cp10_0]; exact congrArg (fun s => kp M s L) (k_s_self S3 10).symm) ?_
        exact l2 121 0 (by omega)
    | succ m1 ihm1 =>
      intro i hin
      refine rx_iload_n hE dX11_junction_8 (i := 1) rfl rfl ?_
      refine rx_bipush hE dX11_junction_9 (v := 90) (by decide) ?_
      refine rx_icmp_ge (tgt := 27) hE dX11_junction_11 (by decide) (fun c11 => absurd c11 (nI_ge (a := i) (b := 90) (by omega) (by decide))) (fun c11 => ?_)
      refine rx_aload_n hE dX11_junction_14 (i := 0) rfl rfl ?_
      refine rx_getf hE dX11_junction_15 fl_X11_26_10 (kp_o hM) rfl ?_
      refine rx_iload_n hE dX11_junction_18 (i := 1) rfl rfl ?_
      refine rx_iconst hE dX11_junction_19 (v := 0) (by decide) ?_
      refine rx_iastN (i := i) hE dX11_junction_20 (kp_6 hM) (by omega) (by decide) ?_
      refine rx_mem (M' := kp M (k_s (k_f S 11 6) 6 (jfillF (S 6) 0 (i + 1))) L) (by rw [← jfillF_s]; exact kw_6.trans (by rw [k_ss]; rfl)) ?_
      refine rx_iinc_1 hE dX11_junction_21 (v := 1) (by decide) (by decide) rfl ?_
      rw [nI_1]
      refine rx_goto (tgt := 8) hE dX11_junction_24 (by decide) ?_
      exact ihm1 (i + 1) (by omega)
  refine rx_aload_n hE dX11_junction_0 (i := 0) rfl rfl ?_
  refine rx_bipush hE dX11_junction_1 (v := 6) (by decide) ?_
  refine rx_put hE dX11_junction_3 fl_X11_158_10 fw_10_11 (kp_o hM) (fun _ => rfl) (fun _ => rfl) (Nat.le_of_ble_eq_true rfl) ?_
  refine rx_mem (M' := kp M (k_f S 11 6) L) kw_c11 ?_
  refine rx_iconst hE dX11_junction_6 (v := 0) (by decide) ?_
  refine rx_istore_n_1 hE dX11_junction_7 (by decide) rfl ?_
  refine rx_mem (M' := kp M (k_s (k_f S 11 6) 6 (jfillF (S 6) 0 0)) L) (by rw [jfillF_0]; exact congrArg (fun s => kp M s L) (k_s_self (k_f S 11 6) 6).symm) ?_
  exact l1 90 0 (by omega)
