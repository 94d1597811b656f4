theorem kx_d {M : gM} {S : gS} {L : gLg} {J : gJn} {q : Nat} {v : Int32} (hq : (60 ≤ q ∧ q < 72) ∨ 78 ≤ q) : g_up (kp M (kput S J) L) 394 (gI 121 (upd (kput S J 10) q v)) = kp M (kput (k_s S 10 (upd (S 10) q v)) J) L := by
  refine kw_10.trans (congrArg (fun x => kp M x L) (kput_ext (fun i => ?_) (fun j hj => ?_)))
  · show ksaid (upd (S 10) q v) J i = (if i = q then v else ksaid (S 10) J i)
    by_cases h : i = q
    · subst h
      rw [ksaid_d _ _ hq, if_pos rfl]
      exact upd_eq
    · rw [if_neg h]
      unfold ksaid
      rw [upd_ne h]
  · unfold kput
    rw [if_neg hj, if_neg hj]
    show (if j = 11 then (fun i => if i < 6 then J 7 i else S 11 i) else if j = 0 then upd (S 0) 23 (J 9 5) else (if j = 10 then upd (S 10) q v else S j)) = _
    rw [if_neg hj]
/-- the notes: their number, beats, roads, how many -/
def kn (r : Nat → Int32) (c : Nat) (B Q W : Nat → Int32) : Prop := r 120 = nI c ∧ c ≤ 10 ∧ ∀ i, i < c → r (90 + 3 * i) = B i ∧ r (90 + 3 * i + 1) = Q i ∧ r (90 + 3 * i + 2) = W i
def knr (R c : Nat) (Q : Nat → Int32) : Prop := ∀ i, i < c → ∃ ρ, ρ < R ∧ Q i = nI ρ
def qnsF (B Q W h : Nat → Int32) (n : Int32) : Nat → Nat → Int32
  | _, 0 => 1
  | i, m + 1 => if B i = n ∧ ¬ h (Q i).toNatClampNeg = W i then 0 else qnsF B Q W h n (i + 1) m
theorem qnsF_congr {B Q W h h' : Nat → Int32} {n : Int32} {R c : Nat} (hQ : knr R c Q) (hR : R ≤ 6) (e : ∀ i, i < R → h i = h' i) : ∀ (m i : Nat), i + m ≤ c → qnsF B Q W h n i m = qnsF B Q W h' n i m
  | 0, _, _ => rfl
  | m + 1, i, hi => by
    obtain ⟨ρ, hρ, eq⟩ := hQ i (by omega)
    show (if B i = n ∧ ¬ h (Q i).toNatClampNeg = W i then 0 else qnsF B Q W h n (i + 1) m) = (if B i = n ∧ ¬ h' (Q i).toNatClampNeg = W i then 0 else qnsF B Q W h' n (i + 1) m)
    rw [eq, nI_clamp (by omega), e ρ hρ, qnsF_congr hQ hR e m (i + 1) (by omega)]
def qnr (r : Nat → Int32) (c : Nat) (n road many : Int32) : Nat → Int32 := upd (upd (upd (upd r (90 + 3 * c) n) (90 + 3 * c + 1) road) (90 + 3 * c + 2) many) 120 (nI (c + 1))
abbrev qnG (J : gJn) (c : Nat) (n road many : Int32) : Prop := q_in n 0 60 = 0 ∨ j_hasRoad J road = 0 ∨ q_in many 0 9 = 0 ∨ c = 10
def q_note (J : gJn) (c : Nat) (n road many : Int32) : Int32 := if n = -1 then 0 else if qnG J c n road many then -2 else nI (c + 1)
def q_noteR (J : gJn) (r : Nat → Int32) (c : Nat) (n road many : Int32) : Nat → Int32 := if n = -1 then upd r 120 0 else if qnG J c n road many then r else qnr r c n road many
set_option maxRecDepth 100000 in
set_option maxHeartbeats 4000000 in
theorem c_X11_areNotesSo {M : gM} {S : gS} {L : gLg} {J : gJn} (hM : 408 ≤ M.1) {c R : Nat} {B Q W : Nat → Int32} (n0 : Int32) (hn : kn (S 10) c B Q W) (hQr : knr R c Q) (hR : R ≤ 6) : SX 0 0 0 mX11_areNotesSo [.ref 384, .int n0] (kp M (kput S J) L) (fun v M' => v = some (.int (qnsF B Q W (J 7) n0 0 c)) ∧ M' = kp M (kput S J) L) := by
  refine SX.intro [some (.ref 384), some (.int n0), none] (by decide +kernel) (Nat.le_of_ble_eq_true rfl) rfl (fun E hE hQ => ?_)
  have loop : ∀ (n i : Nat) , i + n = c → qnsF B Q W (J 7) n0 i n = qnsF B Q W (J 7) n0 0 c → RX E mX11_areNotesSo.2.2.1 0 0 2 [some (.ref 384), some (.int n0), some (.int (nI (3 * i)))] [] (kp M (kput S J) L) := by
    intro n
    induction n with
    | zero =>
      intro i hk2 hF
      have hc10 := hn.2.1
      refine rx_iload_n hE dX11_areNotesSo_2 (i := 2) rfl rfl ?_
      refine rx_iconst hE dX11_areNotesSo_3 (v := 3) (by decide) ?_
      refine rx_aload_n hE dX11_areNotesSo_4 (i := 0) rfl rfl ?_
      refine rx_getf hE dX11_areNotesSo_5 fl_X11_39_10 (kp_o hM) rfl ?_
      refine rx_bipush hE dX11_areNotesSo_8 (v := 120) (by decide) ?_
      refine rx_ialdN (i := 120) hE dX11_areNotesSo_10 (kp_10 hM) (by omega) (by decide) ?_
      refine rx_int _ (nI c) ((kput_d (by decide)).trans hn.1) ?_
      refine rx_imul hE dX11_areNotesSo_11 ?_
      refine rx_int _ (nI (3 * c)) (pk_mul 3 c) ?_
      refine rx_icmp_ge (tgt := 66) hE dX11_areNotesSo_12 (by decide) (fun c12 => ?_) (fun c12 => absurd (show nI (3 * c) ≤ nI (3 * i) from nI_le (by omega) (by omega)) c12)
      refine rx_iconst hE dX11_areNotesSo_66 (v := 1) (by decide) ?_
      exact rx_tret hE hQ rfl rfl dX11_areNotesSo_67 ⟨by rw [← hF]; rfl, rfl⟩
    | succ n ih =>
      intro i hk2 hF
      have hc10 := hn.2.1
      obtain ⟨e1, e2, e3⟩ := hn.2.2 i (by omega)
      obtain ⟨ρ, hρ, eq⟩ := hQr i (by omega)
      refine rx_iload_n hE dX11_areNotesSo_2 (i := 2) rfl rfl ?_
      refine rx_iconst hE dX11_areNotesSo_3 (v := 3) (by decide) ?_
      refine rx_aload_n hE dX11_areNotesSo_4 (i := 0) rfl rfl ?_
      refine rx_getf hE dX11_areNotesSo_5 fl_X11_39_10 (kp_o hM) rfl ?_
      refine rx_bipush hE dX11_areNotesSo_8 (v := 120) (by decide) ?_
      refine rx_ialdN (i := 120) hE dX11_areNotesSo_10 (kp_10 hM) (by omega) (by decide) ?_
      refine rx_int _ (nI c) ((kput_d (by decide)).trans hn.1) ?_
      refine rx_imul hE dX11_areNotesSo_11 ?_
      refine rx_int _ (nI (3 * c)) (pk_mul 3 c) ?_
      refine rx_icmp_ge (tgt := 66) hE dX11_areNotesSo_12 (by decide) (fun c12 => absurd c12 (nI_ge (a := 3 * i) (b := 3 * c) (by omega) (by omega))) (fun c12 => ?_)
      refine rx_aload_n hE dX11_areNotesSo_15 (i := 0) rfl rfl ?_
      refine rx_getf hE dX11_areNotesSo_16 fl_X11_39_10 (kp_o hM) rfl ?_
      refine rx_bipush hE dX11_areNotesSo_19 (v := 90) (by decide) ?_
      refine rx_iload_n hE dX11_areNotesSo_21 (i := 2) rfl rfl ?_
      refine rx_iadd hE dX11_areNotesSo_22 ?_
      refine rx_int _ (nI (90 + 3 * i)) (nI_add _ _) ?_
      refine rx_ialdN (i := 90 + 3 * i) hE dX11_areNotesSo_23 (kp_10 hM) (by omega) (by decide) ?_
      refine rx_int _ (B i) ((kput_d (by omega)).trans e1) ?_
      refine rx_iload_n hE dX11_areNotesSo_24 (i := 1) rfl rfl ?_
      refine rx_icmp_ne (tgt := 60) hE dX11_areNotesSo_25 (by decide) (fun c25 => ?_) (fun c25 => ?_)
      · refine rx_iinc_2 hE dX11_areNotesSo_60 (v := 3) (by decide) (by decide) rfl ?_
        rw [show nI (3 * i) + 3 = nI (3 * i + 3) from nI_add _ 3]
        refine rx_goto (tgt := 2) hE dX11_areNotesSo_63 (by decide) ?_
        exact ih (i + 1) (by omega) (by rw [← hF]; exact (if_neg (fun q => c25 q.1)).symm)
      · refine rx_aload_n hE dX11_areNotesSo_28 (i := 0) rfl rfl ?_
        refine rx_getf hE dX11_areNotesSo_29 fl_X11_52_10 (kp_o hM) rfl ?_
        refine rx_aload_n hE dX11_areNotesSo_32 (i := 0) rfl rfl ?_
        refine rx_getf hE dX11_areNotesSo_33 fl_X11_39_10 (kp_o hM) rfl ?_
        refine rx_bipush hE dX11_areNotesSo_36 (v := 90) (by decide) ?_
        refine rx_iload_n hE dX11_areNotesSo_38 (i := 2) rfl rfl ?_
        refine rx_iadd hE dX11_areNotesSo_39 ?_
        refine rx_int _ (nI (90 + 3 * i)) (nI_add _ _) ?_
        refine rx_iconst hE dX11_areNotesSo_40 (v := 1) (by decide) ?_
        refine rx_iadd hE dX11_areNotesSo_41 ?_
        refine rx_int _ (nI (90 + 3 * i + 1)) (nI_add _ _) ?_
        refine rx_ialdN (i := 90 + 3 * i + 1) hE dX11_areNotesSo_42 (kp_10 hM) (by omega) (by decide) ?_
        refine rx_int _ (nI ρ) ((kput_d (by omega)).trans (e2.trans eq)) ?_
        refine rx_ialdN (i := ρ) hE dX11_areNotesSo_43 (kp_11 hM) (by omega) (by decide) ?_
        refine rx_int _ (J 7 ρ) (kr_7 (by omega)) ?_
        refine rx_aload_n hE dX11_areNotesSo_44 (i := 0) rfl rfl ?_
        refine rx_getf hE dX11_areNotesSo_45 fl_X11_39_10 (kp_o hM) rfl ?_
        refine rx_bipush hE dX11_areNotesSo_48 (v := 90) (by decide) ?_
        refine rx_iload_n hE dX11_areNotesSo_50 (i := 2) rfl rfl ?_
        refine rx_iadd hE dX11_areNotesSo_51 ?_
        refine rx_int _ (nI (90 + 3 * i)) (nI_add _ _) ?_
        refine rx_iconst hE dX11_areNotesSo_52 (v := 2) (by decide) ?_
        refine rx_iadd hE dX11_areNotesSo_53 ?_
        refine rx_int _ (nI (90 + 3 * i + 2)) (nI_add _ _) ?_
        refine rx_ialdN (i := 90 + 3 * i + 2) hE dX11_areNotesSo_54 (kp_10 hM) (by omega) (by decide) ?_
        refine rx_int _ (W i) ((kput_d (by omega)).trans e3) ?_
        refine rx_icmp_eq (tgt := 60) hE dX11_areNotesSo_55 (by decide) (fun c55 => ?_) (fun c55 => ?_)
        · refine rx_iinc_2 hE dX11_areNotesSo_60 (v := 3) (by decide) (by decide) rfl ?_
          rw [show nI (3 * i) + 3 = nI (3 * i + 3) from nI_add _ 3]
          refine rx_goto (tgt := 2) hE dX11_areNotesSo_63 (by decide) ?_
          exact ih (i + 1) (by omega) (by rw [← hF]; exact (if_neg (fun q => q.2 (by rw [eq, nI_clamp (n := ρ) (by omega)]; exact c55))).symm)
        · have hc55 : ¬ J 7 (Q i).toNatClampNeg = W i := by rw [eq, nI_clamp (n := ρ) (by omega)]; exact c55
          refine rx_iconst hE dX11_areNotesSo_58 (v := 0) (by decide) ?_
          exact rx_tret hE hQ rfl rfl dX11_areNotesSo_59 ⟨by rw [← hF]; exact congrArg (fun x => some (Value.int x)) (if_pos ⟨c25, hc55⟩).symm, rfl⟩
  refine rx_iconst hE dX11_areNotesSo_0 (v := 0) (by decide) ?_
  refine rx_istore_n_2 hE dX11_areNotesSo_1 (by decide) rfl ?_
  exact loop c 0 (by omega) rfl
set_option maxRecDepth 100000 in
set_option maxHeartbeats 4000000 in
theorem c_X11_note {M : gM} {S : gS} {L : gLg} {J : gJn} (hM : 408 ≤ M.1) {c : Nat} {B Q W : Nat → Int32} (hn : kn (S 10) c B Q W) (n road many : Int32) : SX 1 0 0 mX11_note [.ref 384, .int n, .int road, .int many] (kp M (kput S J) L) (fun v M' => v = some (.int (q_note J c n road many)) ∧ M' = kp M (kput (k_s S 10 (q_noteR J (S 10) c n road many)) J) L) := by
  refine SX.intro [some (.ref 384), some (.int n), some (.int road), some (.int many), none] (by decide +kernel) (Nat.le_of_ble_eq_true rfl) rfl (fun E hE hQ => ?_)
  refine rx_iload_n hE dX11_note_0 (i := 1) rfl rfl ?_
  refine rx_iconst hE dX11_note_1 (v := -1) (by decide) ?_
  refine rx_icmp_ne (tgt := 15) hE dX11_note_2 (by decide) (fun c2 => ?_) (fun c2 => ?_)
  · refine rx_iload_n hE dX11_note_15 (i := 1) rfl rfl ?_
    refine rx_i2l hE dX11_note_16 ?_
    refine rx_lconst hE dX11_note_17 (v := 0) (by decide) ?_
    refine rx_ldc2 hE dX11_note_18 kl_X11_419 ?_
    refine rx_call0 (rx_callS (av := [.long _, .long _, .long _]) hE dX11_note_21 lk_X11_130 (c_X11_in _ _ _) np_X11_in rfl rfl (by decide) (Nat.le_of_ble_eq_true rfl) rfl ?_)
    rintro v M' ⟨rfl, rfl⟩
    refine rx_int _ (q_in _ (0) (60)) (k_in_eq _ _ _ (by decide) (by decide)) ?_
    refine rx_if_eq (tgt := 59) hE dX11_note_24 (by decide) (fun c24 => ?_) (fun c24 => ?_)
    · refine rx_bipush hE dX11_note_59 (v := -2) (by decide) ?_
      exact rx_iret hE hQ rfl dX11_note_61 ⟨by unfold q_note; rw [if_neg c2, if_pos (Or.inl c24)], by unfold q_noteR; rw [if_neg c2, if_pos (Or.inl c24), k_s_id]⟩
    · refine rx_aload_n hE dX11_note_27 (i := 0) rfl rfl ?_
      refine rx_iload_n hE dX11_note_28 (i := 2) rfl rfl ?_
      refine rx_call0 (rx_callV (av := [.int _]) hE dX11_note_29 lk_X11_309 (c_X11_isRoad hM _) (kp_o hM) np_X11_isRoad rfl rfl (by decide) (Nat.le_of_ble_eq_true rfl) rfl ?_)
      rintro v M' ⟨rfl, rfl⟩
      refine rx_int _ (j_hasRoad J _) rfl ?_
      refine rx_if_eq (tgt := 59) hE dX11_note_32 (by decide) (fun c32 => ?_) (fun c32 => ?_)
      · refine rx_bipush hE dX11_note_59 (v := -2) (by decide) ?_
        exact rx_iret hE hQ rfl dX11_note_61 ⟨by unfold q_note; rw [if_neg c2, if_pos (Or.inr (Or.inl c32))], by unfold q_noteR; rw [if_neg c2, if_pos (Or.inr (Or.inl c32)), k_s_id]⟩
      · refine rx_iload_n hE dX11_note_35 (i := 3) rfl rfl ?_
        refine rx_i2l hE dX11_note_36 ?_
        refine rx_lconst hE dX11_note_37 (v := 0) (by decide) ?_
        refine rx_ldc2 hE dX11_note_38 kl_X11_443 ?_
        refine rx_call0 (rx_callS (av := [.long _, .long _, .long _]) hE dX11_note_41 lk_X11_130 (c_X11_in _ _ _) np_X11_in rfl rfl (by decide) (Nat.le_of_ble_eq_true rfl) rfl ?_)
        rintro v M' ⟨rfl, rfl⟩
        refine rx_int _ (q_in _ (0) (9)) (k_in_eq _ _ _ (by decide) (by decide)) ?_
        refine rx_if_eq (tgt := 59) hE dX11_note_44 (by decide) (fun c44 => ?_) (fun c44 => ?_)
        · refine rx_bipush hE dX11_note_59 (v := -2) (by decide) ?_
          exact rx_iret hE hQ rfl dX11_note_61 ⟨by unfold q_note; rw [if_neg c2, if_pos (Or.inr (Or.inr (Or.inl c44)))], by unfold q_noteR; rw [if_neg c2, if_pos (Or.inr (Or.inr (Or.inl c44))), k_s_id]⟩
        · refine rx_aload_n hE dX11_note_47 (i := 0) rfl rfl ?_
          refine rx_getf hE dX11_note_48 fl_X11_39_10 (kp_o hM) rfl ?_
          refine rx_bipush hE dX11_note_51 (v := 120) (by decide) ?_
          refine rx_ialdN (i := 120) hE dX11_note_53 (kp_10 hM) (by omega) (by decide) ?_
          refine rx_int _ (nI c) ((kput_d (by decide)).trans hn.1) ?_
          refine rx_bipush hE dX11_note_54 (v := 10) (by decide) ?_
          refine rx_icmp_ne (tgt := 62) hE dX11_note_56 (by decide) (fun c56 => ?_) (fun c56 => ?_)
          · have hc10 : ¬ c = 10 := fun q => c56 (by rw [q]; rfl)
            have hc9 := hn.2.1
            have hg : ¬ qnG J c n road many := fun q => q.elim c24 (fun q => q.elim c32 (fun q => q.elim c44 hc10))
            refine rx_bipush hE dX11_note_62 (v := 90) (by decide) ?_
            refine rx_iconst hE dX11_note_64 (v := 3) (by decide) ?_
            refine rx_aload_n hE dX11_note_65 (i := 0) rfl rfl ?_
            refine rx_getf hE dX11_note_66 fl_X11_39_10 (kp_o hM) rfl ?_
            refine rx_bipush hE dX11_note_69 (v := 120) (by decide) ?_
            refine rx_ialdN (i := 120) hE dX11_note_71 (kp_10 hM) (by omega) (by decide) ?_
            refine rx_int _ (nI c) ((kput_d (by decide)).trans hn.1) ?_
            refine rx_imul hE dX11_note_72 ?_
            refine rx_int _ (nI (3 * c)) (pk_mul 3 c) ?_
            refine rx_iadd hE dX11_note_73 ?_
            refine rx_int _ (nI (90 + 3 * c)) (nI_add 90 _) ?_
            refine rx_istore_4 hE dX11_note_74 (by decide) rfl ?_
            refine rx_aload_n hE dX11_note_76 (i := 0) rfl rfl ?_
            refine rx_getf hE dX11_note_77 fl_X11_39_10 (kp_o hM) rfl ?_
            refine rx_iload hE dX11_note_80 rfl ?_
            refine rx_iload_n hE dX11_note_82 (i := 1) rfl rfl ?_
            refine rx_iastN (i := (90 + 3 * c)) hE dX11_note_83 (kp_10 hM) (by omega) (by decide) ?_
            refine rx_mem (M' := kp M (kput (k_s S 10 (upd (S 10) (90 + 3 * c) n)) J) L) ((kx_d (by omega)).trans rfl) ?_
            refine rx_aload_n hE dX11_note_84 (i := 0) rfl rfl ?_
            refine rx_getf hE dX11_note_85 fl_X11_39_10 (kp_o hM) rfl ?_
            refine rx_iload hE dX11_note_88 rfl ?_
            refine rx_iconst hE dX11_note_90 (v := 1) (by decide) ?_
            refine rx_iadd hE dX11_note_91 ?_
            refine rx_int _ (nI ((90 + 3 * c) + 1)) (nI_1 _) ?_
            refine rx_iload_n hE dX11_note_92 (i := 2) rfl rfl ?_
            refine rx_iastN (i := (90 + 3 * c) + 1) hE dX11_note_93 (kp_10 hM) (by omega) (by decide) ?_
            refine rx_mem (M' := kp M (kput (k_s S 10 (upd (upd (S 10) (90 + 3 * c) n) ((90 + 3 * c) + 1) road)) J) L) ((kx_d (by omega)).trans (by rw [k_ss]; rfl)) ?_
            refine rx_aload_n hE dX11_note_94 (i := 0) rfl rfl ?_
            refine rx_getf hE dX11_note_95 fl_X11_39_10 (kp_o hM) rfl ?_
            refine rx_iload hE dX11_note_98 rfl ?_
            refine rx_iconst hE dX11_note_100 (v := 2) (by decide) ?_
            refine rx_iadd hE dX11_note_101 ?_
            refine rx_int _ (nI ((90 + 3 * c) + 2)) (nI_add _ 2) ?_
            refine rx_iload_n hE dX11_note_102 (i := 3) rfl rfl ?_
            refine rx_iastN (i := (90 + 3 * c) + 2) hE dX11_note_103 (kp_10 hM) (by omega) (by decide) ?_
            refine rx_mem (M' := kp M (kput (k_s S 10 (upd (upd (upd (S 10) (90 + 3 * c) n) ((90 + 3 * c) + 1) road) ((90 + 3 * c) + 2) many)) J) L) ((kx_d (by omega)).trans (by rw [k_ss]; rfl)) ?_
            refine rx_aload_n hE dX11_note_104 (i := 0) rfl rfl ?_
            refine rx_getf hE dX11_note_105 fl_X11_39_10 (kp_o hM) rfl ?_
            refine rx_bipush hE dX11_note_108 (v := 120) (by decide) ?_
            refine rx_dup2 hE dX11_note_110 rfl rfl ?_
            refine rx_ialdN (i := 120) hE dX11_note_111 (kp_10 hM) (by omega) (by decide) ?_
            refine rx_int _ (nI c) ((kput_d (by decide)).trans (by show upd (upd (upd (S 10) (90 + 3 * c) n) ((90 + 3 * c) + 1) road) ((90 + 3 * c) + 2) many 120 = _; rw [upd_ne (by omega), upd_ne (by omega), upd_ne (by omega)]; exact hn.1)) ?_
            refine rx_iconst hE dX11_note_112 (v := 1) (by decide) ?_
            refine rx_iadd hE dX11_note_113 ?_
            rw [nI_1]
            refine rx_iastN (i := 120) hE dX11_note_114 (kp_10 hM) (by omega) (by decide) ?_
            refine rx_mem (M' := kp M (kput (k_s S 10 (upd (upd (upd (upd (S 10) (90 + 3 * c) n) ((90 + 3 * c) + 1) road) ((90 + 3 * c) + 2) many) 120 (nI (c + 1)))) J) L) ((kx_d (by omega)).trans (by rw [k_ss]; rfl)) ?_
            refine rx_aload_n hE dX11_note_115 (i := 0) rfl rfl ?_
            refine rx_getf hE dX11_note_116 fl_X11_39_10 (kp_o hM) rfl ?_
            refine rx_bipush hE dX11_note_119 (v := 120) (by decide) ?_
            refine rx_ialdN (i := 120) hE dX11_note_121 (kp_10 hM) (by omega) (by decide) ?_
            refine rx_int _ (nI (c + 1)) ((kput_d (by decide)).trans rfl) ?_
            exact rx_iret hE hQ rfl dX11_note_122 ⟨by unfold q_note; rw [if_neg c2, if_neg hg], by unfold q_noteR; rw [if_neg c2, if_neg hg]; rfl⟩
          · have hc10 : c = 10 := (nI_eq (by have := hn.2.1; omega) (by decide)).mp c56
            refine rx_bipush hE dX11_note_59 (v := -2) (by decide) ?_
            exact rx_iret hE hQ rfl dX11_note_61 ⟨by unfold q_note; rw [if_neg c2, if_pos (Or.inr (Or.inr (Or.inr hc10)))], by unfold q_noteR; rw [if_neg c2, if_pos (Or.inr (Or.inr (Or.inr hc10))), k_s_id]⟩
  · refine rx_aload_n hE dX11_note_5 (i := 0) rfl rfl ?_
    refine rx_getf hE dX11_note_6 fl_X11_39_10 (kp_o hM) rfl ?_
    refine rx_bipush hE dX11_note_9 (v := 120) (by decide) ?_
    refine rx_iconst hE dX11_note_11 (v := 0) (by decide) ?_
    refine rx_iastN (i := 120) hE dX11_note_12 (kp_10 hM) (by omega) (by decide) ?_
    refine rx_mem (M' := kp M (kput (k_s S 10 (upd (S 10) 120 0)) J) L) ((kx_d (by omega)).trans rfl) ?_
    refine rx_iconst hE dX11_note_13 (v := 0) (by decide) ?_
    exact rx_iret hE hQ rfl dX11_note_14 ⟨by unfold q_note; rw [if_pos c2], by unfold q_noteR; rw [if_pos c2]⟩
