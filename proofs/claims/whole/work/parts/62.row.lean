/-- an image: what was said then -/
def kimg (S : gS) (k : Nat) (r : Nat → Int32) (J : gJn) : Prop := ∀ i, i < 121 → S 20 (121 * k + i) = ksaid r J i
def kbk (S : gS) (k : Nat) : gS := k_f (k_f (k_f S 21 (S 21 k)) 22 (S 22 k)) 27 0
def kbr (r r0 : Nat → Int32) : Nat → Int32 := fun q => if q < 121 then r q else r0 q
theorem kbk_eq {S : gS} {J Jk : gJn} {e r : Nat → Int32} (he : ∀ i, i < 121 → e i = ksaid r Jk i) (h5 : Jk 9 5 = J 9 5) : k_s (kput S J) 10 (klay (kput S J 10) e 0 121) = kput (k_s S 10 (kbr r (S 10))) (j_s Jk 7 (J 7)) := by
  refine kput_ext (fun q => ?_) (fun j hj => ?_)
  · show ksaid (kbr r (S 10)) (j_s Jk 7 (J 7)) q = (if 0 ≤ q ∧ q < 0 + 121 then e (q - 0) else ksaid (S 10) J q)
    rw [ksaid_s7]
    by_cases h : q < 121
    · rw [if_pos (by omega), Nat.sub_zero, he q h]
      unfold ksaid kbr
      rw [if_pos h]
    · rw [if_neg (by omega), ksaid_d _ _ (by omega), ksaid_d _ _ (by omega)]
      exact if_neg h
  · unfold kput
    rw [if_neg hj, if_neg hj]
    show (if j = 11 then (fun i => if i < 6 then J 7 i else S 11 i) else if j = 0 then upd (S 0) 23 (Jk 9 5) else (if j = 10 then _ else S j)) = _
    rw [if_neg hj, h5]
def q_backM (M : gM) (S : gS) (L : gLg) (J Jk : gJn) (r : Nat → Int32) (k : Int32) : gM := if q_in k 0 3 = 0 ∨ S 23 k.toNatClampNeg = 0 then kp M (kput S J) L else kp M (kput (k_s (kbk S k.toNatClampNeg) 10 (kbr r (S 10))) (j_s Jk 7 (J 7))) L
set_option maxRecDepth 100000 in
set_option maxHeartbeats 4000000 in
theorem c_X11_back {M : gM} {S : gS} {L : gLg} {J : gJn} (hM : 408 ≤ M.1) (k : Int32) {Jk : gJn} {r : Nat → Int32} (him : ∀ k0 : Nat, k = nI k0 → k0 < 4 → ¬ S 23 k0 = 0 → kimg S k0 r Jk ∧ Jk 9 5 = J 9 5) : SX 1 0 0 mX11_back [.ref 384, .int k] (kp M (kput S J) L) (fun v M' => v = some (.int (if q_in k 0 3 = 0 ∨ S 23 k.toNatClampNeg = 0 then -1 else Jk 9 3)) ∧ M' = q_backM M S L J Jk r k) := by
  refine SX.intro [some (.ref 384), some (.int k), none] (by decide +kernel) (Nat.le_of_ble_eq_true rfl) rfl (fun E hE hQ => ?_)
  refine rx_iload_n hE dX11_back_0 (i := 1) rfl rfl ?_
  refine rx_i2l hE dX11_back_1 ?_
  refine rx_lconst hE dX11_back_2 (v := 0) (by decide) ?_
  refine rx_ldc2 hE dX11_back_3 kl_X11_409 ?_
  refine rx_call0 (rx_callS (av := [.long _, .long _, .long _]) hE dX11_back_6 lk_X11_130 (c_X11_in _ _ _) np_X11_in rfl rfl (by decide) (Nat.le_of_ble_eq_true rfl) rfl ?_)
  rintro v M' ⟨rfl, rfl⟩
  refine rx_int _ (q_in _ (0) (3)) (k_in_eq _ _ _ (by decide) (by decide)) ?_
  refine rx_if_eq (tgt := 21) hE dX11_back_9 (by decide) (fun c9 => ?_) (fun c9 => ?_)
  · refine rx_iconst hE dX11_back_21 (v := -1) (by decide) ?_
    exact rx_iret hE hQ rfl dX11_back_22 ⟨by rw [if_pos (Or.inl c9)], by unfold q_backM; rw [if_pos (Or.inl c9)]⟩
  · obtain ⟨k, hk0, hk, rfl⟩ := q_in_of (a := 0) (b := 3) (by decide) c9
    have hkc : (nI k).toNatClampNeg = k := nI_clamp (by omega)
    refine rx_aload_n hE dX11_back_12 (i := 0) rfl rfl ?_
    refine rx_getf hE dX11_back_13 fl_X11_89_10 (kp_o hM) rfl ?_
    refine rx_iload_n hE dX11_back_16 (i := 1) rfl rfl ?_
    refine rx_zaldN (i := k) hE dX11_back_17 (kp_23 hM) (by omega) (by decide) ?_
    refine rx_int _ (S 23 k) rfl ?_
    refine rx_if_ne (tgt := 23) hE dX11_back_18 (by decide) (fun c18 => ?_) (fun c18 => ?_)
    · obtain ⟨him, h5⟩ := him k rfl (by omega) c18
      have hg : ¬ (q_in (nI k) 0 3 = 0 ∨ S 23 (nI k).toNatClampNeg = 0) := fun q => q.elim c9 (fun q => c18 (by rw [hkc] at q; exact q))
      have loop : ∀ (n i : Nat) , i + n = 121 → RX E mX11_back.2.2.1 0 0 50 [some (.ref 384), some (.int (nI k)), some (.int (nI i))] [] (kp M (k_s (kput (kbk S k) J) 10 (klay (kput (kbk S k) J 10) (fun i => S 20 (121 * k + i)) 0 i)) L) := by
        intro n
        induction n with
        | zero =>
          intro i hk2
          refine rx_iload_n hE dX11_back_50 (i := 2) rfl rfl ?_
          refine rx_bipush hE dX11_back_51 (v := 121) (by decide) ?_
          refine rx_icmp_ge (tgt := 79) hE dX11_back_53 (by decide) (fun c53 => ?_) (fun c53 => absurd (show nI 121 ≤ nI i from nI_le (by omega) (by omega)) c53)
          refine rx_mem (M' := kp M (kput (k_s (kbk S k) 10 (kbr r (S 10))) (j_s Jk 7 (J 7))) L) (by rw [show i = 121 by omega]; exact congrArg (fun x => kp M x L) (kbk_eq (S := kbk S k) him h5)) ?_
          refine rx_aload_n hE dX11_back_79 (i := 0) rfl rfl ?_
          refine rx_getf hE dX11_back_80 fl_X11_39_10 (kp_o hM) rfl ?_
          refine rx_bipush hE dX11_back_83 (v := 10) (by decide) ?_
          refine rx_ialdN (i := 10) hE dX11_back_85 (kp_10 hM) (by omega) (by decide) ?_
          refine rx_int _ (Jk 9 3) rfl ?_
          exact rx_iret hE hQ rfl dX11_back_86 ⟨by rw [if_neg hg], by unfold q_backM; rw [if_neg hg, nI_clamp (n := k) (by omega)]⟩
        | succ n ih =>
          intro i hk2
          refine rx_iload_n hE dX11_back_50 (i := 2) rfl rfl ?_
          refine rx_bipush hE dX11_back_51 (v := 121) (by decide) ?_
          refine rx_icmp_ge (tgt := 79) hE dX11_back_53 (by decide) (fun c53 => absurd c53 (nI_ge (a := i) (b := 121) (by omega) (by omega))) (fun c53 => ?_)
          refine rx_aload_n hE dX11_back_56 (i := 0) rfl rfl ?_
          refine rx_getf hE dX11_back_57 fl_X11_39_10 (kp_o hM) rfl ?_
          refine rx_iload_n hE dX11_back_60 (i := 2) rfl rfl ?_
          refine rx_aload_n hE dX11_back_61 (i := 0) rfl rfl ?_
          refine rx_getf hE dX11_back_62 fl_X11_80_10 (kp_o hM) rfl ?_
          refine rx_bipush hE dX11_back_65 (v := 121) (by decide) ?_
          refine rx_iload_n hE dX11_back_67 (i := 1) rfl rfl ?_
          refine rx_imul hE dX11_back_68 ?_
          refine rx_int _ (nI (121 * k)) (pk_mul _ _) ?_
          refine rx_iload_n hE dX11_back_69 (i := 2) rfl rfl ?_
          refine rx_iadd hE dX11_back_70 ?_
          refine rx_int _ (nI (121 * k + i)) (nI_add _ _) ?_
          refine rx_ialdN (i := 121 * k + i) hE dX11_back_71 (kp_20 hM) (by omega) (by decide) ?_
          refine rx_int _ (S 20 (121 * k + i)) rfl ?_
          refine rx_iastN (i := i) hE dX11_back_72 (kp_10 hM) (by omega) (by decide) ?_
          refine rx_mem (M' := kp M (k_s (kput (kbk S k) J) 10 (klay (kput (kbk S k) J 10) (fun i => S 20 (121 * k + i)) 0 (i + 1))) L) (by rw [kw_10, k_ss]; exact congrArg (fun x => kp M (k_s (kput (kbk S k) J) 10 x) L) (by rw [← klay_s _ (fun i => S 20 (121 * k + i)) 0 i, Nat.zero_add]; rfl)) ?_
          refine rx_iinc_2 hE dX11_back_73 (v := 1) (by decide) (by decide) rfl ?_
          rw [nI_1]
          refine rx_goto (tgt := 50) hE dX11_back_76 (by decide) ?_
          exact ih (i + 1) (by omega)
      refine rx_aload_n hE dX11_back_23 (i := 0) rfl rfl ?_
      refine rx_aload_n hE dX11_back_24 (i := 0) rfl rfl ?_
      refine rx_getf hE dX11_back_25 fl_X11_83_10 (kp_o hM) rfl ?_
      refine rx_iload_n hE dX11_back_28 (i := 1) rfl rfl ?_
      refine rx_ialdN (i := k) hE dX11_back_29 (kp_21 hM) (by omega) (by decide) ?_
      refine rx_int _ (S 21 k) rfl ?_
      refine rx_put hE dX11_back_30 fl_X11_42_10 fw_10_21 (kp_o hM) (fun _ => rfl) (fun _ => rfl) (Nat.le_of_ble_eq_true rfl) ?_
      refine rx_mem (M' := kp M (kput (k_f S 21 (S 21 k)) J) L) (kw_c21.trans (by rw [kput_f21])) ?_
      refine rx_aload_n hE dX11_back_33 (i := 0) rfl rfl ?_
      refine rx_aload_n hE dX11_back_34 (i := 0) rfl rfl ?_
      refine rx_getf hE dX11_back_35 fl_X11_86_10 (kp_o hM) rfl ?_
      refine rx_iload_n hE dX11_back_38 (i := 1) rfl rfl ?_
      refine rx_ialdN (i := k) hE dX11_back_39 (kp_22 hM) (by omega) (by decide) ?_
      refine rx_int _ (S 22 k) rfl ?_
      refine rx_put hE dX11_back_40 fl_X11_454_10 fw_10_22 (kp_o hM) (fun _ => rfl) (fun _ => rfl) (Nat.le_of_ble_eq_true rfl) ?_
      refine rx_mem (M' := kp M (kput (k_f (k_f S 21 (S 21 k)) 22 (S 22 k)) J) L) (kw_c22.trans (by rw [kput_f22])) ?_
      refine rx_aload_n hE dX11_back_43 (i := 0) rfl rfl ?_
      refine rx_iconst hE dX11_back_44 (v := 0) (by decide) ?_
      refine rx_put hE dX11_back_45 fl_X11_276_10 fw_10_27 (kp_o hM) (fun _ => rfl) (fun _ => rfl) (Nat.le_of_ble_eq_true rfl) ?_
      refine rx_mem (M' := kp M (kput (kbk S k) J) L) (kw_c27.trans (by rw [kput_f27]; rfl)) ?_
      refine rx_iconst hE dX11_back_48 (v := 0) (by decide) ?_
      refine rx_istore_n_2 hE dX11_back_49 (by decide) rfl ?_
      refine rx_mem (M' := kp M (k_s (kput (kbk S k) J) 10 (klay (kput (kbk S k) J 10) (fun i => S 20 (121 * k + i)) 0 0)) L) (by rw [klay_0, k_s_id]) ?_
      exact loop 121 0 (by omega)
    · refine rx_iconst hE dX11_back_21 (v := -1) (by decide) ?_
      exact rx_iret hE hQ rfl dX11_back_22 ⟨by rw [if_pos (Or.inr (by rw [hkc]; exact c18))], by unfold q_backM; rw [if_pos (Or.inr (by rw [hkc]; exact c18))]⟩
/-! ===== a row of what is let in ===== -/
def jpl (s : Int32) (J : gJn) : gJn := j_go (jP J) (jR J) s (jarF 0 (jR J) J)
theorem jpl_9 (s : Int32) (J : gJn) {i : Nat} (h3 : i ≠ 3) (h4 : i ≠ 4) : jpl s J 9 i = J 9 i := by
  unfold jpl
  rw [j_go_9, if_neg h3, if_neg h4, jarF_f (by decide)]
theorem jpl_93 (s : Int32) (J : gJn) : jpl s J 9 3 = J 9 3 + 1 := by
  unfold jpl
  rw [j_go_9, if_pos rfl, jarF_f (by decide)]
theorem jpl_f (s : Int32) (J : gJn) {f : Nat} (h0 : f ≠ 0) (h4 : f ≠ 4) (h5 : f ≠ 5) (h6 : f ≠ 6) (h7 : f ≠ 7) (h9 : f ≠ 9) : jpl s J f = J f := by
  unfold jpl
  rw [j_go_f _ _ _ _ h0 h4 h5 h6 h7 h9, jarF_f h0]
theorem jst.pl (s : Int32) (J : gJn) : jst (jpl s J) J := ⟨jpl_f s J (by decide) (by decide) (by decide) (by decide) (by decide) (by decide), jpl_f s J (by decide) (by decide) (by decide) (by decide) (by decide) (by decide), fun i a b => jpl_9 s J a b⟩
theorem jok.pl (s : Int32) {J : gJn} (h : jok J) (hT : jT J + 1 < 1000000) : jok (jpl s J) ∧ jT (jpl s J) = jT J + 1 := by
  have e2 : jpl s J 2 = J 2 := jpl_f s J (by decide) (by decide) (by decide) (by decide) (by decide) (by decide)
  have eR : jR (jpl s J) = jR J := by unfold jR; rw [jpl_9 s J (by decide) (by decide)]
  have eB : jB (jpl s J) = jB J := by unfold jB; rw [jpl_9 s J (by decide) (by decide)]
  have eP : jP (jpl s J) = jP J := by unfold jP; rw [e2]
  have n1 : jpl s J 9 3 = nI (jT J + 1) := by rw [jpl_93, h.next]
  have eT : jT (jpl s J) = jT J + 1 := by
    unfold jT at n1 ⊢
    rw [n1, nI_clamp (by show jT J + 1 < _; omega)]
  refine ⟨⟨?_, ?_, ?_, ?_, ?_, ?_, ?_, ?_⟩, eT⟩
  · rw [eR, jpl_9 s J (by decide) (by decide)]
    exact h.1
  · rw [eR]
    exact h.2.1
  · rw [eP]
    unfold jpt
    rw [e2]
    exact h.2.2.1
  · rw [eB, jpl_9 s J (by decide) (by decide)]
    exact h.2.2.2.1
  · rw [eB]
    exact h.2.2.2.2.1
  · rw [eB]
    exact h.2.2.2.2.2.1
  · rw [eT]
    exact n1
  · rw [eT]
    exact hT
theorem jfit.pl (s : Int32) {J : gJn} (h : jfit J) (hT : jT J + 1 < 1000000) : jfit (jpl s J) := by
  refine ⟨(h.1.pl s hT).1, ?_⟩
  rw [(jst.pl s J).R]
  refine (jfw.ar (jR J) 0 h.2 (by have := h.1.2.1; omega)).go _ _ h.1.2.1 ⟨jT J, by omega, ?_⟩
  rw [jarF_f (by decide)]
  exact h.1.2.2.2.2.2.2.1
theorem jpl_s7 (s : Int32) (J : gJn) (g : Nat → Int32) : ∃ g', jpl s (j_s J 7 g) = j_s (jpl s J) 7 g' := by
  obtain ⟨g', e, h⟩ := kaF_s7 s (jR J) 0 (jarF 0 (jR J) J) g
  refine ⟨g', ?_⟩
  show j_end (jP J) (jR J) (jgtF s 0 (jR J) (jarF 0 (jR J) (j_s J 7 g)) 0) = j_s (j_end (jP J) (jR J) (jgtF s 0 (jR J) (jarF 0 (jR J) J) 0)) 7 g'
  rw [jarF_s7]
  have e2 : (jgtF s 0 (jR J) (j_s (jarF 0 (jR J) J) 7 g) 0).2 = (jgtF s 0 (jR J) (jarF 0 (jR J) J) 0).2 := by
    rw [jgtF_snd s (jR J) 0 _ (kaF s 0 (jR J) (jarF 0 (jR J) J)) 0 (fun i h1 h2 => by rw [e]; exact (h i h1 h2).symm), jgtF_snd s (jR J) 0 _ (kaF s 0 (jR J) (jarF 0 (jR J) J)) 0 (fun i h1 h2 => rfl)]
  have e1 : (jgtF s 0 (jR J) (j_s (jarF 0 (jR J) J) 7 g) 0).1 = j_s (jgtF s 0 (jR J) (jarF 0 (jR J) J) 0).1 7 g' := by
    rw [jgtF_fst, jgtF_fst, e, kbF_s7]
  unfold j_end
  rw [e2, e1, ← j_c_s7, ← j_c_s7]
  rfl
set_option maxRecDepth 100000 in
set_option maxHeartbeats 4000000 in
theorem c_X11_letInP5 {M : gM} {S : gS} {L : gLg} {J : gJn} (hM : 408 ≤ M.1) {pl : Nat} (hpl : S 0 24 = nI pl) (hl : pl < 64) : SX 5 0 0 mX11_letIn [.ref 384] (kp M (kput S J) L) (fun v M' => v = some (.int (nI pl)) ∧ ∃ (S' : gS) (L' : gLg), M' = kp M (kput S' J) L' ∧ (S' = S ∧ L' = L)) := by
  refine SX.intro [some (.ref 384), none, none] (by decide +kernel) (Nat.le_of_ble_eq_true rfl) rfl (fun E hE hQ => ?_)
  refine rx_aload_n hE dX11_letIn_0 (i := 0) rfl rfl ?_
  refine rx_getf hE dX11_letIn_1 fl_X11_49_10 (kp_o hM) rfl ?_
  refine rx_int _ _ (kr_f (by decide)) ?_
  refine rx_if_lt (tgt := 12) hE dX11_letIn_4 (by decide) (fun c4 => absurd (by have : S 0 24 < 0 := c4; rw [hpl] at this; exact this) (nI_pos (by omega))) (fun c4 => ?_)
  refine rx_aload_n hE dX11_letIn_7 (i := 0) rfl rfl ?_
  refine rx_getf hE dX11_letIn_8 fl_X11_49_10 (kp_o hM) rfl ?_
  refine rx_int _ _ (kr_f (by decide)) ?_
  exact rx_iret hE hQ rfl dX11_letIn_11 ⟨by rw [hpl], S, L, rfl, rfl, rfl⟩
theorem c_X11_passP {M : gM} {S : gS} {L : gLg} {J : gJn} {g : Nat → Int32} (hM : 408 ≤ M.1) {pl : Nat} (hpl : S 0 24 = nI pl) (hl : pl < 64) (hj : jfit J) : SX 6 0 0 mX11_passes [.ref 384] (kp M (kput S (j_s J 7 g)) L) (fun v M' => v = some (.int (nI pl)) ∧ ∃ g', M' = kp M (kput S (j_s (jpl (nI pl) J) 7 g')) L) := by
  refine SX.weaken (c_X11_passes (J := j_s J 7 g) hM hj.1.1 hj.1.2.1 hj.1.2.2.1 hj.ev (c_X11_letInP5 (J := jarF 0 (jR J) (j_s J 7 g)) (M := M) (L := L) hM hpl hl)) (fun v M' h => ?_)
  obtain ⟨rfl, S', L', rfl, rfl, rfl⟩ := h
  obtain ⟨g', e⟩ := jpl_s7 (nI pl) J g
  refine ⟨rfl, g', ?_⟩
  rw [← e]
  have e3 : kps (jP J) (jR J) (nI pl) (jarF 0 (jR J) (j_s J 7 g)) = jpl (nI pl) (j_s J 7 g) := by
    refine kps_go _ _ _ _ ?_
    obtain ⟨m, hm, e⟩ := kgsF_lt (kaF (nI pl) 0 (jR J) (jarF 0 (jR J) (j_s J 7 g))) (jR J) 0 0 (by decide) (by have := hj.1.2.1; omega)
    rw [show (0 : Int32) = nI 0 from rfl, e]
    exact kso_jso _ hm hj.1.2.1
  rw [e3]
