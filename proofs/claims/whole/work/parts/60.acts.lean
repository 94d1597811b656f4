/-! ===== acts, kept to be undone ===== -/
def kha (S : gS) (u : Nat) (H : Nat → gJn) : Prop := S 0 27 = nI u ∧ u ≤ 20 ∧ ∀ i, i < u → ∀ k, k < 44 → S 12 (44 * i + k) = krow (H i) k
def hpu (u : Nat) : Nat := if u = 20 then 20 else u + 1
def hph (u : Nat) (H : Nat → gJn) (J : gJn) : Nat → gJn := fun i => if u = 20 then (if i < 19 then H (i + 1) else J) else (if i < u then H i else J)
def ksh (d : Nat → Int32) (i : Nat) : Nat → Int32 := fun q => if q < i then d (q + 44) else d q
theorem ksh_0 (d : Nat → Int32) : ksh d 0 = d := funext fun q => if_neg (Nat.not_lt_zero q)
theorem ksh_s (d : Nat → Int32) (i : Nat) : upd (ksh d i) i (ksh d i (44 + i)) = ksh d (i + 1) := by
  funext q
  show (if q = i then (if 44 + i < i then _ else d (44 + i)) else (if q < i then d (q + 44) else d q)) = (if q < i + 1 then d (q + 44) else d q)
  rw [if_neg (show ¬ 44 + i < i by omega)]
  by_cases h : q = i
  · rw [if_pos h, if_pos (by omega), h, Nat.add_comm]
  · rw [if_neg h]
    by_cases h2 : q < i
    · rw [if_pos h2, if_pos (by omega)]
    · rw [if_neg h2, if_neg (by omega)]
/-- the row of what was, behind an act -/
def kwas (d : Nat → Int32) (u : Nat) (J : gJn) : Nat → Int32 := klay (if u = 20 then ksh d 836 else d) (krow J) (44 * (if u = 20 then 19 else u)) 44
def kpu (S : gS) (u : Nat) (J : gJn) : gS := k_f (k_s S 12 (kwas (S 12) u J)) 27 (nI (hpu u))
theorem kha.push {S : gS} {u : Nat} {H : Nat → gJn} (h : kha S u H) (J : gJn) : kha (kpu S u J) (hpu u) (hph u H J) := by
  obtain ⟨h1, h2, h3⟩ := h
  refine ⟨rfl, by unfold hpu; split <;> omega, fun i hi k hk => ?_⟩
  show kwas (S 12) u J (44 * i + k) = krow (hph u H J i) k
  unfold kwas klay hph
  unfold hpu at hi
  by_cases hu : u = 20
  · simp only [hu, if_true] at hi ⊢
    by_cases hi19 : i < 19
    · rw [if_neg (by omega), if_pos hi19]
      unfold ksh
      rw [if_pos (by omega), show 44 * i + k + 44 = 44 * (i + 1) + k by omega]
      exact h3 (i + 1) (by omega) k hk
    · rw [if_pos (by omega), if_neg hi19, show 44 * i + k - 44 * 19 = k by omega]
  · simp only [hu, if_false] at hi ⊢
    by_cases hiu : i < u
    · rw [if_neg (by omega), if_pos hiu]
      exact h3 i hiu k hk
    · rw [if_pos (by omega), if_neg hiu, show 44 * i + k - 44 * u = k by omega]
set_option maxRecDepth 100000 in
set_option maxHeartbeats 4000000 in
theorem c_X11_keepsAct {M : gM} {S : gS} {L : gLg} {J : gJn} (hM : 408 ≤ M.1) {u : Nat} {H : Nat → gJn} (hh : kha S u H) : SX 0 0 0 mX11_keepsAct [.ref 384] (kp M (kput S J) L) (fun v M' => v = none ∧ M' = kp M (kput (kpu S u J) J) L) := by
  refine SX.intro [some (.ref 384), none] (by decide +kernel) (Nat.le_of_ble_eq_true rfl) rfl (fun E hE hQ => ?_)
  have hu := hh.1
  have hu2 := hh.2.1
  have tail : ∀ (S1 : gS) (u1 : Nat), u1 ≤ 19 → S1 0 27 = nI u1 → k_f (k_s S1 12 (klay (S1 12) (krow J) (44 * u1) 44)) 27 (nI (u1 + 1)) = kpu S u J → RX E mX11_keepsAct.2.2.1 0 0 52 [some (.ref 384), some (.int (nI 0))] [] (kp M (kput S1 J) L) := by
    intro S1 u1 hu9 hu1 hfin
    have loop2 : ∀ (n k : Nat) , k + n = 44 → RX E mX11_keepsAct.2.2.1 0 0 52 [some (.ref 384), some (.int (nI k))] [] (kp M (kput (k_s S1 12 (klay (S1 12) (krow J) (44 * u1) k)) J) L) := by
      intro n
      induction n with
      | zero =>
        intro k hk2
        refine rx_iload_n hE dX11_keepsAct_52 (i := 1) rfl rfl ?_
        refine rx_bipush hE dX11_keepsAct_53 (v := 44) (by decide) ?_
        refine rx_icmp_ge (tgt := 87) hE dX11_keepsAct_55 (by decide) (fun c55 => ?_) (fun c55 => absurd (show nI 44 ≤ nI k from nI_le (by omega) (by omega)) c55)
        refine rx_aload_n hE dX11_keepsAct_87 (i := 0) rfl rfl ?_
        refine rx_dup hE dX11_keepsAct_88 rfl ?_
        refine rx_getf hE dX11_keepsAct_89 fl_X11_276_10 (kp_o hM) rfl ?_
        refine rx_int _ _ (kr_f (by decide)) ?_
        refine rx_int _ (nI u1) hu1 ?_
        refine rx_iconst hE dX11_keepsAct_92 (v := 1) (by decide) ?_
        refine rx_iadd hE dX11_keepsAct_93 ?_
        rw [nI_1]
        refine rx_put hE dX11_keepsAct_94 fl_X11_276_10 fw_10_27 (kp_o hM) (fun _ => rfl) (fun _ => rfl) (Nat.le_of_ble_eq_true rfl) ?_
        refine rx_mem (M' := kp M (kput (k_f (k_s S1 12 (klay (S1 12) (krow J) (44 * u1) 44)) 27 (nI (u1 + 1))) J) L) (kw_c27.trans (by rw [kput_f27, show k = 44 by omega])) ?_
        exact rx_vret hE hQ rfl dX11_keepsAct_97 ⟨rfl, by rw [hfin]⟩
      | succ n ih =>
        intro k hk2
        refine rx_iload_n hE dX11_keepsAct_52 (i := 1) rfl rfl ?_
        refine rx_bipush hE dX11_keepsAct_53 (v := 44) (by decide) ?_
        refine rx_icmp_ge (tgt := 87) hE dX11_keepsAct_55 (by decide) (fun c55 => absurd c55 (nI_ge (a := k) (b := 44) (by omega) (by omega))) (fun c55 => ?_)
        refine rx_aload_n hE dX11_keepsAct_58 (i := 0) rfl rfl ?_
        refine rx_getf hE dX11_keepsAct_59 fl_X11_55_10 (kp_o hM) rfl ?_
        refine rx_bipush hE dX11_keepsAct_62 (v := 44) (by decide) ?_
        refine rx_aload_n hE dX11_keepsAct_64 (i := 0) rfl rfl ?_
        refine rx_getf hE dX11_keepsAct_65 fl_X11_276_10 (kp_o hM) rfl ?_
        refine rx_int _ _ (kr_f (by decide)) ?_
        refine rx_int _ (nI u1) hu1 ?_
        refine rx_imul hE dX11_keepsAct_68 ?_
        refine rx_int _ (nI (44 * u1)) (pk_mul 44 u1) ?_
        refine rx_iload_n hE dX11_keepsAct_69 (i := 1) rfl rfl ?_
        refine rx_iadd hE dX11_keepsAct_70 ?_
        refine rx_int _ (nI (44 * u1 + k)) (nI_add _ _) ?_
        refine rx_aload_n hE dX11_keepsAct_71 (i := 0) rfl rfl ?_
        refine rx_getf hE dX11_keepsAct_72 fl_X11_39_10 (kp_o hM) rfl ?_
        refine rx_bipush hE dX11_keepsAct_75 (v := 10) (by decide) ?_
        refine rx_iload_n hE dX11_keepsAct_77 (i := 1) rfl rfl ?_
        refine rx_iadd hE dX11_keepsAct_78 ?_
        refine rx_int _ (nI (10 + k)) (nI_add _ _) ?_
        refine rx_ialdN (i := 10 + k) hE dX11_keepsAct_79 (kp_10 hM) (by omega) (by decide) ?_
        refine rx_int _ (krow J k) (krow_eq _ J (by omega)) ?_
        refine rx_iastN (i := 44 * u1 + k) hE dX11_keepsAct_80 (kp_12 hM) (by omega) (by decide) ?_
        refine rx_mem (M' := kp M (kput (k_s S1 12 (klay (S1 12) (krow J) (44 * u1) (k + 1))) J) L) (by rw [kw_12, kput_s (by decide) (by decide) (by decide)]; show kp M (kput (k_s (k_s S1 12 _) 12 (upd (klay (S1 12) (krow J) (44 * u1) k) (44 * u1 + k) (krow J k))) J) L = _; rw [k_ss, klay_s]) ?_
        refine rx_iinc_1 hE dX11_keepsAct_81 (v := 1) (by decide) (by decide) rfl ?_
        rw [nI_1]
        refine rx_goto (tgt := 52) hE dX11_keepsAct_84 (by decide) ?_
        exact ih (k + 1) (by omega)
    refine rx_mem (M' := kp M (kput (k_s S1 12 (klay (S1 12) (krow J) (44 * u1) 0)) J) L) (by rw [klay_0, k_s_id]) ?_
    exact loop2 44 0 (by omega)
  refine rx_aload_n hE dX11_keepsAct_0 (i := 0) rfl rfl ?_
  refine rx_getf hE dX11_keepsAct_1 fl_X11_276_10 (kp_o hM) rfl ?_
  refine rx_int _ _ (kr_f (by decide)) ?_
  refine rx_int _ (nI u) hu ?_
  refine rx_bipush hE dX11_keepsAct_4 (v := 20) (by decide) ?_
  refine rx_icmp_ne (tgt := 50) hE dX11_keepsAct_6 (by decide) (fun c6 => ?_) (fun c6 => ?_)
  · have hu0 : ¬ u = 20 := fun q => c6 (by rw [q]; rfl)
    refine rx_iconst hE dX11_keepsAct_50 (v := 0) (by decide) ?_
    refine rx_istore_n_1 hE dX11_keepsAct_51 (by decide) rfl ?_
    exact tail S u (by omega) hu (by unfold kpu kwas hpu; rw [if_neg hu0, if_neg hu0, if_neg hu0])
  · have hu0 : u = 20 := (nI_eq (by omega) (by decide)).mp c6
    have hu20 : S 0 27 = nI 20 := by rw [hu, hu0]
    have loop1 : ∀ (n i : Nat) , i + n = 836 → RX E mX11_keepsAct.2.2.1 0 0 12 [some (.ref 384), some (.int (nI (44 + i)))] [] (kp M (kput (k_s S 12 (ksh (S 12) i)) J) L) := by
      intro n
      induction n with
      | zero =>
        intro i hk2
        refine rx_iload_n hE dX11_keepsAct_12 (i := 1) rfl rfl ?_
        refine rx_sipush hE dX11_keepsAct_13 (v := 880) (by decide) ?_
        refine rx_icmp_ge (tgt := 40) hE dX11_keepsAct_16 (by decide) (fun c16 => ?_) (fun c16 => absurd (show nI 880 ≤ nI (44 + i) from nI_le (by omega) (by omega)) c16)
        refine rx_aload_n hE dX11_keepsAct_40 (i := 0) rfl rfl ?_
        refine rx_dup hE dX11_keepsAct_41 rfl ?_
        refine rx_getf hE dX11_keepsAct_42 fl_X11_276_10 (kp_o hM) rfl ?_
        refine rx_int _ _ (kr_f (by decide)) ?_
        refine rx_int _ (nI 20) hu20 ?_
        refine rx_iconst hE dX11_keepsAct_45 (v := 1) (by decide) ?_
        refine rx_isub hE dX11_keepsAct_46 ?_
        refine rx_int _ (nI 19) (by decide) ?_
        refine rx_put hE dX11_keepsAct_47 fl_X11_276_10 fw_10_27 (kp_o hM) (fun _ => rfl) (fun _ => rfl) (Nat.le_of_ble_eq_true rfl) ?_
        refine rx_mem (M' := kp M (kput (k_f (k_s S 12 (ksh (S 12) 836)) 27 (nI 19)) J) L) (kw_c27.trans (by rw [kput_f27, show i = 836 by omega])) ?_
        refine rx_iconst hE dX11_keepsAct_50 (v := 0) (by decide) ?_
        refine rx_istore_n_1 hE dX11_keepsAct_51 (by decide) rfl ?_
        exact tail (k_f (k_s S 12 (ksh (S 12) 836)) 27 (nI 19)) 19 (by decide) rfl (by unfold kpu kwas hpu; rw [if_pos hu0, if_pos hu0, if_pos hu0]; show k_f (k_s (k_f (k_s S 12 (ksh (S 12) 836)) 27 (nI 19)) 12 (klay (ksh (S 12) 836) (krow J) (44 * 19) 44)) 27 (nI 20) = _; rw [k_sf (by decide), k_ff, k_ss])
      | succ n ih =>
        intro i hk2
        refine rx_iload_n hE dX11_keepsAct_12 (i := 1) rfl rfl ?_
        refine rx_sipush hE dX11_keepsAct_13 (v := 880) (by decide) ?_
        refine rx_icmp_ge (tgt := 40) hE dX11_keepsAct_16 (by decide) (fun c16 => absurd c16 (nI_ge (a := 44 + i) (b := 880) (by omega) (by omega))) (fun c16 => ?_)
        refine rx_aload_n hE dX11_keepsAct_19 (i := 0) rfl rfl ?_
        refine rx_getf hE dX11_keepsAct_20 fl_X11_55_10 (kp_o hM) rfl ?_
        refine rx_iload_n hE dX11_keepsAct_23 (i := 1) rfl rfl ?_
        refine rx_bipush hE dX11_keepsAct_24 (v := 44) (by decide) ?_
        refine rx_isub hE dX11_keepsAct_26 ?_
        refine rx_int _ (nI i) (by rw [show (44 : Int32) = nI 44 from rfl, pk_sub (by omega), Nat.add_sub_cancel_left]) ?_
        refine rx_aload_n hE dX11_keepsAct_27 (i := 0) rfl rfl ?_
        refine rx_getf hE dX11_keepsAct_28 fl_X11_55_10 (kp_o hM) rfl ?_
        refine rx_iload_n hE dX11_keepsAct_31 (i := 1) rfl rfl ?_
        refine rx_ialdN (i := 44 + i) hE dX11_keepsAct_32 (kp_12 hM) (by omega) (by decide) ?_
        refine rx_int _ _ (kr_a (by decide) (by decide) (by decide)) ?_
        refine rx_int _ (ksh (S 12) i (44 + i)) rfl ?_
        refine rx_iastN (i := i) hE dX11_keepsAct_33 (kp_12 hM) (by omega) (by decide) ?_
        refine rx_mem (M' := kp M (kput (k_s S 12 (ksh (S 12) (i + 1))) J) L) (by rw [kw_12, kput_s (by decide) (by decide) (by decide)]; show kp M (kput (k_s (k_s S 12 _) 12 (upd (ksh (S 12) i) i (ksh (S 12) i (44 + i)))) J) L = _; rw [k_ss, ksh_s]) ?_
        refine rx_iinc_1 hE dX11_keepsAct_34 (v := 1) (by decide) (by decide) rfl ?_
        rw [nI_1]
        refine rx_goto (tgt := 12) hE dX11_keepsAct_37 (by decide) ?_
        exact ih (i + 1) (by omega)
    refine rx_bipush hE dX11_keepsAct_9 (v := 44) (by decide) ?_
    refine rx_istore_n_1 hE dX11_keepsAct_11 (by decide) rfl ?_
    refine rx_mem (M' := kp M (kput (k_s S 12 (ksh (S 12) 0)) J) L) (by rw [ksh_0, k_s_id]) ?_
    exact loop1 836 0 (by omega)
def q_undo (u : Nat) : Int32 := if u = 0 then -1 else nI (u - 1)
def q_undoM (M : gM) (S : gS) (L : gLg) (J : gJn) (u : Nat) (H : Nat → gJn) : gM := if u = 0 then kp M (kput S J) L else kp M (kput (k_f S 27 (nI (u - 1))) (jback J (H (u - 1)))) L
set_option maxRecDepth 100000 in
set_option maxHeartbeats 4000000 in
theorem c_X11_undo {M : gM} {S : gS} {L : gLg} {J : gJn} (hM : 408 ≤ M.1) {u : Nat} {H : Nat → gJn} (hh : kha S u H) : SX 0 0 0 mX11_undo [.ref 384] (kp M (kput S J) L) (fun v M' => v = some (.int (q_undo u)) ∧ M' = q_undoM M S L J u H) := by
  refine SX.intro [some (.ref 384), none] (by decide +kernel) (Nat.le_of_ble_eq_true rfl) rfl (fun E hE hQ => ?_)
  refine rx_aload_n hE dX11_undo_0 (i := 0) rfl rfl ?_
  refine rx_getf hE dX11_undo_1 fl_X11_276_10 (kp_o hM) rfl ?_
  refine rx_int _ _ (kr_f (by decide)) ?_
  refine rx_int _ (nI u) hh.1 ?_
  refine rx_if_ne (tgt := 9) hE dX11_undo_4 (by decide) (fun c4 => ?_) (fun c4 => ?_)
  · have hu0 : ¬ u = 0 := fun q => c4 (by rw [q]; rfl)
    have hu2 := hh.2.1
    have loop : ∀ (n k : Nat) , k + n = 44 → RX E mX11_undo.2.2.1 0 0 21 [some (.ref 384), some (.int (nI k))] [] (kp M (k_s (kput (k_f S 27 (nI (u - 1))) J) 10 (klay (kput (k_f S 27 (nI (u - 1))) J 10) (fun k => S 12 (44 * (u - 1) + k)) 10 k)) L) := by
      intro n
      induction n with
      | zero =>
        intro k hk2
        refine rx_iload_n hE dX11_undo_21 (i := 1) rfl rfl ?_
        refine rx_bipush hE dX11_undo_22 (v := 44) (by decide) ?_
        refine rx_icmp_ge (tgt := 56) hE dX11_undo_24 (by decide) (fun c24 => ?_) (fun c24 => absurd (show nI 44 ≤ nI k from nI_le (by omega) (by omega)) c24)
        refine rx_aload_n hE dX11_undo_56 (i := 0) rfl rfl ?_
        refine rx_getf hE dX11_undo_57 fl_X11_276_10 (kp_o hM) rfl ?_
        refine rx_int _ (nI (u - 1)) rfl ?_
        exact rx_iret hE hQ rfl dX11_undo_60 ⟨by unfold q_undo; rw [if_neg hu0], by rw [show k = 44 by omega]; unfold q_undoM; rw [if_neg hu0]; exact congrArg (fun x => kp M x L) (klay_back (S := k_f S 27 (nI (u - 1))) (fun i hi => hh.2.2 (u - 1) (by omega) i hi))⟩
      | succ n ih =>
        intro k hk2
        refine rx_iload_n hE dX11_undo_21 (i := 1) rfl rfl ?_
        refine rx_bipush hE dX11_undo_22 (v := 44) (by decide) ?_
        refine rx_icmp_ge (tgt := 56) hE dX11_undo_24 (by decide) (fun c24 => absurd c24 (nI_ge (a := k) (b := 44) (by omega) (by omega))) (fun c24 => ?_)
        refine rx_aload_n hE dX11_undo_27 (i := 0) rfl rfl ?_
        refine rx_getf hE dX11_undo_28 fl_X11_39_10 (kp_o hM) rfl ?_
        refine rx_bipush hE dX11_undo_31 (v := 10) (by decide) ?_
        refine rx_iload_n hE dX11_undo_33 (i := 1) rfl rfl ?_
        refine rx_iadd hE dX11_undo_34 ?_
        refine rx_int _ (nI (10 + k)) (nI_add _ _) ?_
        refine rx_aload_n hE dX11_undo_35 (i := 0) rfl rfl ?_
        refine rx_getf hE dX11_undo_36 fl_X11_55_10 (kp_o hM) rfl ?_
        refine rx_bipush hE dX11_undo_39 (v := 44) (by decide) ?_
        refine rx_aload_n hE dX11_undo_41 (i := 0) rfl rfl ?_
        refine rx_getf hE dX11_undo_42 fl_X11_276_10 (kp_o hM) rfl ?_
        refine rx_int _ (nI (u - 1)) rfl ?_
        refine rx_imul hE dX11_undo_45 ?_
        refine rx_int _ (nI (44 * (u - 1))) (pk_mul 44 _) ?_
        refine rx_iload_n hE dX11_undo_46 (i := 1) rfl rfl ?_
        refine rx_iadd hE dX11_undo_47 ?_
        refine rx_int _ (nI (44 * (u - 1) + k)) (nI_add _ _) ?_
        refine rx_ialdN (i := 44 * (u - 1) + k) hE dX11_undo_48 (kp_12 hM) (by omega) (by decide) ?_
        refine rx_int _ (S 12 (44 * (u - 1) + k)) rfl ?_
        refine rx_iastN (i := 10 + k) hE dX11_undo_49 (kp_10 hM) (by omega) (by decide) ?_
        refine rx_mem (M' := kp M (k_s (kput (k_f S 27 (nI (u - 1))) J) 10 (klay (kput (k_f S 27 (nI (u - 1))) J 10) (fun k => S 12 (44 * (u - 1) + k)) 10 (k + 1))) L) (by rw [kw_10, k_ss]; exact congrArg (fun x => kp M (k_s (kput (k_f S 27 (nI (u - 1))) J) 10 x) L) (klay_s _ (fun k => S 12 (44 * (u - 1) + k)) 10 k)) ?_
        refine rx_iinc_1 hE dX11_undo_50 (v := 1) (by decide) (by decide) rfl ?_
        rw [nI_1]
        refine rx_goto (tgt := 21) hE dX11_undo_53 (by decide) ?_
        exact ih (k + 1) (by omega)
    refine rx_aload_n hE dX11_undo_9 (i := 0) rfl rfl ?_
    refine rx_dup hE dX11_undo_10 rfl ?_
    refine rx_getf hE dX11_undo_11 fl_X11_276_10 (kp_o hM) rfl ?_
    refine rx_int _ _ (kr_f (by decide)) ?_
    refine rx_int _ (nI u) hh.1 ?_
    refine rx_iconst hE dX11_undo_14 (v := 1) (by decide) ?_
    refine rx_isub hE dX11_undo_15 ?_
    refine rx_int _ (nI (u - 1)) (nI_p1 (by omega)) ?_
    refine rx_put hE dX11_undo_16 fl_X11_276_10 fw_10_27 (kp_o hM) (fun _ => rfl) (fun _ => rfl) (Nat.le_of_ble_eq_true rfl) ?_
    refine rx_mem (M' := kp M (kput (k_f S 27 (nI (u - 1))) J) L) (kw_c27.trans (by rw [kput_f27])) ?_
    refine rx_iconst hE dX11_undo_19 (v := 0) (by decide) ?_
    refine rx_istore_n_1 hE dX11_undo_20 (by decide) rfl ?_
    refine rx_mem (M' := kp M (k_s (kput (k_f S 27 (nI (u - 1))) J) 10 (klay (kput (k_f S 27 (nI (u - 1))) J 10) (fun k => S 12 (44 * (u - 1) + k)) 10 0)) L) (by rw [klay_0, k_s_id]) ?_
    exact loop 44 0 (by omega)
  · have hu0 : u = 0 := (nI_eq (by have := hh.2.1; omega) (by decide)).mp c4
    refine rx_iconst hE dX11_undo_7 (v := -1) (by decide) ?_
    exact rx_iret hE hQ rfl dX11_undo_8 ⟨by unfold q_undo; rw [if_pos hu0], by unfold q_undoM; rw [if_pos hu0]⟩
