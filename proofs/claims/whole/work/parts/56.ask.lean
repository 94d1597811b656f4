/-! ===== by which rules the notes are so ===== -/
def qfiF (t : gJn → Nat → Int32 → Bool) (B Q W : Nat → Int32) (c : Nat) : Nat → Nat → gJn → Int32 → Int32
  | _, 0, _, is => is
  | n, m + 1, J, is => qfiF t B Q W c (n + 1) m (jone t J) (if is = 0 then 0 else if qnsF B Q W (jone t J 7) (nI n) 0 c = 0 then 0 else 1)
def qfit (t : gJn → Nat → Int32 → Bool) (B Q W : Nat → Int32) (c : Nat) (K : gJn) : Int32 := qfiF t B Q W c 0 61 K 1
def qmt (t : gJn → Nat → Int32 → Bool) (K : gJn) (then_ r : Nat) : Int32 := jone t (jmanyF t then_ K) 7 r
theorem kq.f21 {S S' : gS} (h : kq S S') (v : Int32) : kq (k_f S 21 v) (k_f S' 21 v) := ⟨fun k hk => by
  rw [show k_f S' 21 v k = S' k from if_neg (by omega), show k_f S 21 v k = S k from if_neg (by omega)]
  exact h.1 k hk, fun i hi => by
  show upd (S' 0) 21 v i = upd (S 0) 21 v i
  unfold upd
  split
  · rfl
  · exact h.2 i hi⟩
theorem kth.q {S S' : gS} {J K : gJn} (h : kth S J K) (hq : S' 10 = S 10) : kth S' J K := by
  unfold kth at h ⊢
  rw [hq]
  exact h
theorem kth.st {S : gS} {J J' K : gJn} (h : kth S J K) (hj : jst K J') : kth S J' K := ⟨h.1, h.2.1, h.2.2.1, h.2.2.2.1, hj⟩
theorem jst.symm {J J' : gJn} (h : jst J' J) : jst J J' := ⟨h.1.symm, h.2.1.symm, fun i a b => (h.2.2 i a b).symm⟩
def kfi (S' : gS) (t : Nat → gJn → Nat → Int32 → Bool) (B Q W : Nat → Int32) (c R then_ : Nat) (K : gJn) (k : Nat) : Prop := ∀ k', k' < k → S' 18 k' = qfit (t k') B Q W c K ∧ ∀ r, r < R → S' 19 (6 * k' + r) = qmt (t k') K then_ r
def kw (S : gS) (J : gJn) (S' : gS) : Prop := kq S (k_f S' 21 (S 0 21)) ∧ kfull (S' 13) J
theorem kw.b {S S' : gS} {J : gJn} (h : kw S J S') (h1 : S 10 0 = 1) (hpl : S 0 24 < 0) {v : Int32} {t : gJn → Nat → Int32 → Bool} (hT : kT (k_f S 21 v) t) : kz (k_f S' 21 v) t J (k_f S' 21 v) := by
  have e : ∀ k, k = 1 ∨ k = 2 ∨ k = 4 ∨ k = 5 ∨ k = 10 ∨ k = 12 ∨ k = 20 ∨ k = 21 ∨ k = 22 ∨ k = 23 → S' k = S k := fun k hk => by
    have := h.1.1 k hk
    rw [show k_f S' 21 (S 0 21) k = S' k from if_neg (by omega)] at this
    exact this
  refine ⟨⟨?_, ?_, ?_⟩, h.2, kq.refl _⟩
  · show S' 10 0 = 1
    rw [e 10 (by decide)]
    exact h1
  · have := h.1.2 24 (by decide)
    show S' 0 24 < 0
    rw [show S' 0 24 = S 0 24 from this]
    exact hpl
  · exact kT_eq (S := k_f S 21 v) (S' := k_f S' 21 v) (e 2 (by decide)) (e 4 (by decide)) (e 5 (by decide)) rfl hT
theorem kw.n {S S' S2 : gS} {J : gJn} {v : Int32} {t : gJn → Nat → Int32 → Bool} (h : kw S J S') (hz : kz (k_f S' 21 v) t J S2) : kw S J S2 := by
  refine ⟨?_, hz.2.1⟩
  have := hz.2.2.f21 (S 0 21)
  rw [k_ff] at this
  exact h.1.trans this
theorem kfi.s {S' S2 : gS} {t : Nat → gJn → Nat → Int32 → Bool} {B Q W : Nat → Int32} {c R th k : Nat} {K : gJn} (h : kfi S' t B Q W c R th K k) (hR : R ≤ 6) (h18 : ∀ i, i < k → S2 18 i = S' 18 i) (h19 : ∀ q, q < 6 * k → S2 19 q = S' 19 q) : kfi S2 t B Q W c R th K k := fun k' hk => ⟨by rw [h18 k' hk]; exact (h k' hk).1, fun r hr => by rw [h19 _ (by omega)]; exact (h k' hk).2 r hr⟩
theorem qfiF_01 (t : gJn → Nat → Int32 → Bool) (B Q W : Nat → Int32) (c : Nat) : ∀ (m n : Nat) (J : gJn) (is : Int32), is = 0 ∨ is = 1 → qfiF t B Q W c n m J is = 0 ∨ qfiF t B Q W c n m J is = 1
  | 0, _, _, _, h => h
  | m + 1, n, J, is, h => by
    refine qfiF_01 t B Q W c m (n + 1) (jone t J) _ ?_
    split
    · exact Or.inl rfl
    · split
      · exact Or.inl rfl
      · exact Or.inr rfl
theorem nar01 {x : Int32} (h : x = 0 ∨ x = 1) : vp_nar .boolean x = x := by
  rcases h with rfl | rfl <;> decide
set_option maxRecDepth 100000 in
set_option maxHeartbeats 4000000 in
theorem c_X11_fillsFits {M : gM} {S : gS} {L : gLg} {J : gJn} {g : Nat → Int32} (hM : 408 ≤ M.1) {t : Nat → gJn → Nat → Int32 → Bool} {K : gJn} {B Q W : Nat → Int32} {ρ c th : Nat} (h1 : S 10 0 = 1) (hpl : S 0 24 < 0) (hrul : S 0 2 = nI ρ) (hρ : ρ ≤ 6) (hA : ∀ k, k ≤ ρ → kT (k_f S 21 (nI k - 1)) (t k)) (hkt : kth S J K) (hfK : jfit K) (hTK : jT K = 0) (hfJ : jfit J) (hn : kn (S 10) c B Q W) (hnr : knr (jR J) c Q) (hth : th ≤ 60) : SX 8 0 0 mX11_fillsFits [.ref 384, .int (nI th)] (kp M (kput S (j_s J 7 g)) L) (fun v M' => v = none ∧ ∃ (S' : gS) (L' : gLg) (g' : Nat → Int32), M' = kp M (kput S' (j_s J 7 g')) L' ∧ kq S S' ∧ kfi S' t B Q W c (jR J) th K (ρ + 1)) := by
  refine SX.intro [some (.ref 384), some (.int (nI th)), none, none, none, none, none] (by decide +kernel) (Nat.le_of_ble_eq_true rfl) rfl (fun E hE hQ => ?_)
  have hKJ := hkt.2.2.2.2
  have hr6 := hfJ.1.2.1
  have oloop : ∀ (m k : Nat) (Sx : gS) (Lx : gLg) (gx : Nat → Int32) (J0 : gJn) (l4 l5 l6 : Option Value), k + m = ρ + 1 → kw S J Sx → jst J0 J → kfi Sx t B Q W c (jR J) th K k → RX E mX11_fillsFits.2.2.1 0 0 11 [some (.ref 384), some (.int (nI th)), some (.int (S 0 21)), some (.int (nI k)), l4, l5, l6] [] (kp M (kput Sx (j_s J0 7 gx)) Lx) := by
    intro m
    induction m with
    | zero =>
      intro k Sx Lx gx J0 l4 l5 l6 hk2 hw hs0 hfi
      have hr2 : Sx 0 2 = nI ρ := (hw.1.2 2 (by decide)).trans hrul
      refine rx_iload_n hE dX11_fillsFits_11 (i := 3) rfl rfl ?_
      refine rx_aload_n hE dX11_fillsFits_12 (i := 0) rfl rfl ?_
      refine rx_getf hE dX11_fillsFits_13 fl_X11_267_10 (kp_o hM) rfl ?_
      refine rx_int _ _ (kr_f (by decide)) ?_
      refine rx_int _ (nI ρ) hr2 ?_
      refine rx_icmp_gt (tgt := 134) hE dX11_fillsFits_16 (by decide) (fun c16 => ?_) (fun c16 => absurd (nI_lt (a := ρ) (b := k) (by omega) (by omega)) c16)
      refine rx_aload_n hE dX11_fillsFits_134 (i := 0) rfl rfl ?_
      refine rx_iload_n hE dX11_fillsFits_135 (i := 2) rfl rfl ?_
      refine rx_put hE dX11_fillsFits_136 fl_X11_42_10 fw_10_21 (kp_o hM) (fun _ => rfl) (fun _ => rfl) (Nat.le_of_ble_eq_true rfl) ?_
      refine rx_mem (M' := kp M (kput (k_f Sx 21 (S 0 21)) (j_s J0 7 gx)) Lx) (kw_c21.trans (by rw [kput_f21])) ?_
      refine rx_aload_n hE dX11_fillsFits_139 (i := 0) rfl rfl ?_
      refine rx_call0 (rx_callV (av := []) hE dX11_fillsFits_140 lk_X11_382 (c_X11_laysBack hM (J0 := J) hw.2) (kp_o hM) np_X11_laysBack rfl rfl (by decide) (Nat.le_of_ble_eq_true rfl) rfl ?_)
      rintro v M' ⟨rfl, rfl⟩
      rw [hs0.back gx]
      exact rx_vret hE hQ rfl dX11_fillsFits_143 ⟨rfl, _, Lx, gx, rfl, hw.1, fun k' hk' => hfi k' (by omega)⟩
    | succ m ih =>
      intro k Sx Lx gx J0 l4 l5 l6 hk2 hw hs0 hfi
      have hr2 : Sx 0 2 = nI ρ := (hw.1.2 2 (by decide)).trans hrul
      have hS10 : Sx 10 = S 10 := hw.1.1 10 (by decide)
      obtain ⟨SK, hSK⟩ : ∃ SK, SK = k_f Sx 21 (nI k - 1) := ⟨_, rfl⟩
      have hzK : kz SK (t k) J SK := by rw [hSK]; exact hw.b h1 hpl (hA k (by omega))
      have hwn : ∀ S2, kz SK (t k) J S2 → kw S J S2 := fun S2 h => by rw [hSK] at h; exact hw.n h
      have hSK10 : SK 10 = S 10 := by rw [hSK]; exact hS10
      have hfiK : kfi SK t B Q W c (jR J) th K k := by rw [hSK]; exact hfi
      have nloop : ∀ (m n : Nat) (S' : gS) (L' : gLg) (g' : Nat → Int32) (J' : gJn) (is : Int32) (l6 : Option Value), n + m = 61 → kz SK (t k) J S' → jst J' K → jfit J' → jT J' = jT K + n → J' = jmanyF (t k) n K → kfi S' t B Q W c (jR J) th K k → (∀ r', r' < jR J → th < n → S' 19 (6 * k + r') = qmt (t k) K th r') → qfiF (t k) B Q W c n m J' is = qfit (t k) B Q W c K → RX E mX11_fillsFits.2.2.1 0 0 36 [some (.ref 384), some (.int (nI th)), some (.int (S 0 21)), some (.int (nI k)), some (.int is), some (.int (nI n)), l6] [] (kp M (kput S' (j_s J' 7 g')) L') := by
        intro m
        induction m with
        | zero =>
          intro n S' L' g' J' is l6 hk3 hz hs hf' hTn hJm hfi hm hF
          have h01 : is = 0 ∨ is = 1 := by rw [show is = qfit (t k) B Q W c K from hF]; exact qfiF_01 _ _ _ _ _ 61 0 K 1 (Or.inr rfl)
          refine rx_iload hE dX11_fillsFits_36 rfl ?_
          refine rx_bipush hE dX11_fillsFits_38 (v := 60) (by decide) ?_
          refine rx_icmp_gt (tgt := 120) hE dX11_fillsFits_40 (by decide) (fun c40 => ?_) (fun c40 => absurd (nI_lt (a := 60) (b := n) (by omega) (by omega)) c40)
          refine rx_aload_n hE dX11_fillsFits_120 (i := 0) rfl rfl ?_
          refine rx_getf hE dX11_fillsFits_121 fl_X11_73_10 (kp_o hM) rfl ?_
          refine rx_iload_n hE dX11_fillsFits_124 (i := 3) rfl rfl ?_
          refine rx_iload hE dX11_fillsFits_125 rfl ?_
          refine rx_zastN (i := k) hE dX11_fillsFits_127 (kp_18 hM) (by omega) (by decide) ?_
          refine rx_mem (M' := kp M (kput (k_s S' 18 (upd (S' 18) k is)) (j_s J' 7 g')) L') (by rw [kw_18, kput_s (by decide) (by decide) (by decide), nar01 h01]; rfl) ?_
          refine rx_iinc_3 hE dX11_fillsFits_128 (v := 1) (by decide) (by decide) rfl ?_
          rw [nI_1]
          refine rx_goto (tgt := 11) hE dX11_fillsFits_131 (by decide) ?_
          exact ih (k + 1) (k_s S' 18 (upd (S' 18) k is)) L' g' J' _ _ _ (by omega) (hwn _ (hz.s _ (by decide) (by decide))) (hKJ.trans hs) (fun k' hk' => by
            by_cases hkk : k' = k
            · subst hkk
              exact ⟨(show upd (S' 18) k' is k' = _ from upd_eq).trans hF, fun r hr => hm r hr (by omega)⟩
            · exact ⟨(show upd (S' 18) k is k' = _ from upd_ne hkk).trans (hfi k' (by omega)).1, fun r hr => (hfi k' (by omega)).2 r hr⟩)
        | succ m ihn =>
          intro n S' L' g' J' is l6 hk3 hz hs hf' hTn hJm hfi hm hF
          have hR1 : jone (t k) J' 9 2 = nI (jR J) := by rw [jone_9 _ J' (by decide) (by decide), hs.2.2 2 (by decide) (by decide), hKJ.2.2 2 (by decide) (by decide)]; exact hfJ.1.1
          have hRJ : jR J' = jR J := hs.R.trans hKJ.R
          refine rx_iload hE dX11_fillsFits_36 rfl ?_
          refine rx_bipush hE dX11_fillsFits_38 (v := 60) (by decide) ?_
          refine rx_icmp_gt (tgt := 120) hE dX11_fillsFits_40 (by decide) (fun c40 => absurd c40 (nI_nlt (a := 60) (b := n) (by omega) (by decide))) (fun c40 => ?_)
          refine rx_aload_n hE dX11_fillsFits_43 (i := 0) rfl rfl ?_
          refine rx_call0 (rx_callV (av := []) hE dX11_fillsFits_44 lk_X11_362 (c_X11_passg hM hz.1.1 hz.1.2.1 hz.1.2.2 hf') (kp_o hM) np_X11_passes rfl rfl (by decide) (Nat.le_of_ble_eq_true rfl) rfl ?_)
          rintro v M' ⟨rfl, S1, L1, g1, rfl, hI, hg1⟩
          have hz1 := hz.ip hI
          have hfi1 : kfi S1 t B Q W c (jR J) th K k := by obtain ⟨tp, rfl, _⟩ := hI; exact hfi
          have hm : ∀ r', r' < jR J → th < n → S1 19 (6 * k + r') = qmt (t k) K th r' := by obtain ⟨tp, rfl, _⟩ := hI; exact hm
          clear hI
          refine rx_pop hE dX11_fillsFits_47 rfl ?_
          refine rx_iload hE dX11_fillsFits_48 rfl ?_
          refine rx_if_eq (tgt := 66) hE dX11_fillsFits_50 (by decide) (fun c50 => ?_) (fun c50 => ?_)
          · refine rx_iconst hE dX11_fillsFits_66 (v := 0) (by decide) ?_
            obtain ⟨is', his'⟩ : ∃ is', is' = (if is = 0 then (0 : Int32) else if qnsF B Q W (jone (t k) J' 7) (nI n) 0 c = 0 then 0 else 1) := ⟨_, rfl⟩
            refine rx_int _ is' (by rw [his']; exact (by rw [if_pos c50])) ?_
            refine rx_istore_4 hE dX11_fillsFits_67 (by decide) rfl ?_
            refine rx_iconst hE dX11_fillsFits_69 (v := 0) (by decide) ?_
            refine rx_istore_6 hE dX11_fillsFits_70 (by decide) rfl ?_
            have nx : ∀ (S2 : gS) (l6 : Option Value), kz SK (t k) J S2 → S2 18 = S1 18 → (∀ q, q < 6 * k → S2 19 q = S1 19 q) → (∀ r', r' < jR J → th < n + 1 → S2 19 (6 * k + r') = qmt (t k) K th r') → RX E mX11_fillsFits.2.2.1 0 0 36 [some (.ref 384), some (.int (nI th)), some (.int (S 0 21)), some (.int (nI k)), some (.int is'), some (.int (nI (n + 1))), l6] [] (kp M (kput S2 (j_s (jone (t k) J') 7 g1)) L1) := by
              intro S2 l6 hz2 h18 h19 h19r
              exact ihn (n + 1) S2 L1 g1 (jone (t k) J') is' l6 (by omega) hz2 (hs.trans (jst.one _ J')) (hf'.one _ (by omega)) (by rw [jone_T _ hf'.1]; omega) (by rw [jmany_s, ← hJm]) (hfi1.s hr6 (fun i _ => congrFun h18 i) h19) h19r (by rw [← hF, his']; rfl)
            by_cases hnt : n = th
            · have rloop : ∀ (d r : Nat) (S2 : gS), r + d = jR J → kz SK (t k) J S2 → S2 18 = S1 18 → (∀ q, q < 6 * k → S2 19 q = S1 19 q) → (∀ r', r' < r → S2 19 (6 * k + r') = qmt (t k) K th r') → RX E mX11_fillsFits.2.2.1 0 0 72 [some (.ref 384), some (.int (nI th)), some (.int (S 0 21)), some (.int (nI k)), some (.int is'), some (.int (nI n)), some (.int (nI r))] [] (kp M (kput S2 (j_s (jone (t k) J') 7 g1)) L1) := by
                intro d
                induction d with
                | zero =>
                  intro r S2 hd hz2 h18 h19 h19r
                  refine rx_iload hE dX11_fillsFits_72 rfl ?_
                  refine rx_aload_n hE dX11_fillsFits_74 (i := 0) rfl rfl ?_
                  refine rx_getf hE dX11_fillsFits_75 fl_X11_39_10 (kp_o hM) rfl ?_
                  refine rx_iconst hE dX11_fillsFits_78 (v := 3) (by decide) ?_
                  refine rx_ialdN (i := 3) hE dX11_fillsFits_79 (kp_10 hM) (by omega) (by decide) ?_
                  refine rx_int _ _ kr_c2 ?_
                  refine rx_icmp_ge (tgt := 114) hE dX11_fillsFits_80 (by decide) (fun c80 => ?_) (fun c80 => absurd (show jone (t k) J' 9 2 ≤ nI r from by rw [hR1]; exact nI_le (by omega) (by omega)) c80)
                  refine rx_iinc_5 hE dX11_fillsFits_114 (v := 1) (by decide) (by decide) rfl ?_
                  rw [nI_1]
                  refine rx_goto (tgt := 36) hE dX11_fillsFits_117 (by decide) ?_
                  exact nx S2 _ hz2 h18 h19 (fun r' hr' _ => h19r r' (by omega))
                | succ d ihr =>
                  intro r S2 hd hz2 h18 h19 h19r
                  refine rx_iload hE dX11_fillsFits_72 rfl ?_
                  refine rx_aload_n hE dX11_fillsFits_74 (i := 0) rfl rfl ?_
                  refine rx_getf hE dX11_fillsFits_75 fl_X11_39_10 (kp_o hM) rfl ?_
                  refine rx_iconst hE dX11_fillsFits_78 (v := 3) (by decide) ?_
                  refine rx_ialdN (i := 3) hE dX11_fillsFits_79 (kp_10 hM) (by omega) (by decide) ?_
                  refine rx_int _ _ kr_c2 ?_
                  refine rx_icmp_ge (tgt := 114) hE dX11_fillsFits_80 (by decide) (fun c80 => absurd (show nI (jR J) ≤ nI r from by rw [← hR1]; exact c80) (nI_ge (by omega) (by omega))) (fun c80 => ?_)
                  refine rx_iload hE dX11_fillsFits_83 rfl ?_
                  refine rx_iload_n hE dX11_fillsFits_85 (i := 1) rfl rfl ?_
                  refine rx_icmp_ne (tgt := 114) hE dX11_fillsFits_86 (by decide) (fun c86 => absurd (by rw [hnt]) c86) (fun c86 => ?_)
                  refine rx_aload_n hE dX11_fillsFits_89 (i := 0) rfl rfl ?_
                  refine rx_getf hE dX11_fillsFits_90 fl_X11_77_10 (kp_o hM) rfl ?_
                  refine rx_bipush hE dX11_fillsFits_93 (v := 6) (by decide) ?_
                  refine rx_iload_n hE dX11_fillsFits_95 (i := 3) rfl rfl ?_
                  refine rx_imul hE dX11_fillsFits_96 ?_
                  refine rx_int _ (nI (6 * k)) (pk_mul _ _) ?_
                  refine rx_iload hE dX11_fillsFits_97 rfl ?_
                  refine rx_iadd hE dX11_fillsFits_99 ?_
                  refine rx_int _ (nI (6 * k + r)) (nI_add _ _) ?_
                  refine rx_aload_n hE dX11_fillsFits_100 (i := 0) rfl rfl ?_
                  refine rx_getf hE dX11_fillsFits_101 fl_X11_52_10 (kp_o hM) rfl ?_
                  refine rx_iload hE dX11_fillsFits_104 rfl ?_
                  refine rx_ialdN (i := r) hE dX11_fillsFits_106 (kp_11 hM) (by omega) (by decide) ?_
                  refine rx_int _ (qmt (t k) K th r) (by rw [kr_7 (by omega)]; show g1 r = _; rw [hg1 r (by rw [hRJ]; omega), hJm, ← hnt]; rfl) ?_
                  refine rx_iastN (i := 6 * k + r) hE dX11_fillsFits_107 (kp_19 hM) (by omega) (by decide) ?_
                  refine rx_mem (M' := kp M (kput (k_s S2 19 (upd (S2 19) (6 * k + r) (qmt (t k) K th r))) (j_s (jone (t k) J') 7 g1)) L1) (by rw [kw_19, kput_s (by decide) (by decide) (by decide)]; rfl) ?_
                  refine rx_iinc_6 hE dX11_fillsFits_108 (v := 1) (by decide) (by decide) rfl ?_
                  rw [nI_1]
                  refine rx_goto (tgt := 72) hE dX11_fillsFits_111 (by decide) ?_
                  exact ihr (r + 1) (k_s S2 19 (upd (S2 19) (6 * k + r) (qmt (t k) K th r))) (by omega) (hz2.s _ (by decide) (by decide)) h18 (fun q hq => by
                    show upd (S2 19) (6 * k + r) _ q = _
                    rw [upd_ne (by omega)]
                    exact h19 q hq) (fun r' hr' => by
                    show upd (S2 19) (6 * k + r) _ (6 * k + r') = _
                    by_cases hrr : r' = r
                    · subst hrr
                      exact upd_eq
                    · rw [upd_ne (by omega)]
                      exact h19r r' (by omega))
              exact rloop (jR J) 0 S1 (by omega) hz1 rfl (fun _ _ => rfl) (fun r' h => by omega)
            · refine rx_iload hE dX11_fillsFits_72 rfl ?_
              refine rx_aload_n hE dX11_fillsFits_74 (i := 0) rfl rfl ?_
              refine rx_getf hE dX11_fillsFits_75 fl_X11_39_10 (kp_o hM) rfl ?_
              refine rx_iconst hE dX11_fillsFits_78 (v := 3) (by decide) ?_
              refine rx_ialdN (i := 3) hE dX11_fillsFits_79 (kp_10 hM) (by omega) (by decide) ?_
              refine rx_int _ _ kr_c2 ?_
              refine rx_icmp_ge (tgt := 114) hE dX11_fillsFits_80 (by decide) (fun c80 => ?_) (fun c80 => ?_)
              · refine rx_iinc_5 hE dX11_fillsFits_114 (v := 1) (by decide) (by decide) rfl ?_
                rw [nI_1]
                refine rx_goto (tgt := 36) hE dX11_fillsFits_117 (by decide) ?_
                exact nx S1 _ hz1 rfl (fun _ _ => rfl) (fun r' hr' hth => hm r' hr' (by omega))
              · refine rx_iload hE dX11_fillsFits_83 rfl ?_
                refine rx_iload_n hE dX11_fillsFits_85 (i := 1) rfl rfl ?_
                refine rx_icmp_ne (tgt := 114) hE dX11_fillsFits_86 (by decide) (fun c86 => ?_) (fun c86 => absurd ((nI_eq (by omega) (by omega)).mp c86) hnt)
                refine rx_iinc_5 hE dX11_fillsFits_114 (v := 1) (by decide) (by decide) rfl ?_
                rw [nI_1]
                refine rx_goto (tgt := 36) hE dX11_fillsFits_117 (by decide) ?_
                exact nx S1 _ hz1 rfl (fun _ _ => rfl) (fun r' hr' hth => hm r' hr' (by omega))
          · refine rx_aload_n hE dX11_fillsFits_53 (i := 0) rfl rfl ?_
            refine rx_iload hE dX11_fillsFits_54 rfl ?_
            refine rx_call0 (rx_callV (av := [.int (nI n)]) hE dX11_fillsFits_56 lk_X11_445 (c_X11_areNotesSo (J := j_s (jone (t k) J') 7 g1) (c := c) (B := B) (Q := Q) (W := W) hM (nI n) (by rw [show S1 10 = S 10 from (hz1.2.2.1 10 (by decide)).trans hSK10]; exact hn) hnr hr6) (kp_o hM) np_X11_areNotesSo rfl rfl (by decide) (Nat.le_of_ble_eq_true rfl) rfl ?_)
            rintro v M' ⟨rfl, rfl⟩
            refine rx_int _ (qnsF B Q W (jone (t k) J' 7) (nI n) 0 c) (qnsF_congr hnr hr6 (fun i hi => hg1 i (by rw [hRJ]; exact hi)) c 0 (by omega)) ?_
            refine rx_if_eq (tgt := 66) hE dX11_fillsFits_59 (by decide) (fun c59 => ?_) (fun c59 => ?_)
            · refine rx_iconst hE dX11_fillsFits_66 (v := 0) (by decide) ?_
              obtain ⟨is', his'⟩ : ∃ is', is' = (if is = 0 then (0 : Int32) else if qnsF B Q W (jone (t k) J' 7) (nI n) 0 c = 0 then 0 else 1) := ⟨_, rfl⟩
              refine rx_int _ is' (by rw [his']; exact (by rw [if_neg c50, if_pos c59])) ?_
              refine rx_istore_4 hE dX11_fillsFits_67 (by decide) rfl ?_
              refine rx_iconst hE dX11_fillsFits_69 (v := 0) (by decide) ?_
              refine rx_istore_6 hE dX11_fillsFits_70 (by decide) rfl ?_
              have nx : ∀ (S2 : gS) (l6 : Option Value), kz SK (t k) J S2 → S2 18 = S1 18 → (∀ q, q < 6 * k → S2 19 q = S1 19 q) → (∀ r', r' < jR J → th < n + 1 → S2 19 (6 * k + r') = qmt (t k) K th r') → RX E mX11_fillsFits.2.2.1 0 0 36 [some (.ref 384), some (.int (nI th)), some (.int (S 0 21)), some (.int (nI k)), some (.int is'), some (.int (nI (n + 1))), l6] [] (kp M (kput S2 (j_s (jone (t k) J') 7 g1)) L1) := by
                intro S2 l6 hz2 h18 h19 h19r
                exact ihn (n + 1) S2 L1 g1 (jone (t k) J') is' l6 (by omega) hz2 (hs.trans (jst.one _ J')) (hf'.one _ (by omega)) (by rw [jone_T _ hf'.1]; omega) (by rw [jmany_s, ← hJm]) (hfi1.s hr6 (fun i _ => congrFun h18 i) h19) h19r (by rw [← hF, his']; rfl)
              by_cases hnt : n = th
              · have rloop : ∀ (d r : Nat) (S2 : gS), r + d = jR J → kz SK (t k) J S2 → S2 18 = S1 18 → (∀ q, q < 6 * k → S2 19 q = S1 19 q) → (∀ r', r' < r → S2 19 (6 * k + r') = qmt (t k) K th r') → RX E mX11_fillsFits.2.2.1 0 0 72 [some (.ref 384), some (.int (nI th)), some (.int (S 0 21)), some (.int (nI k)), some (.int is'), some (.int (nI n)), some (.int (nI r))] [] (kp M (kput S2 (j_s (jone (t k) J') 7 g1)) L1) := by
                  intro d
                  induction d with
                  | zero =>
                    intro r S2 hd hz2 h18 h19 h19r
                    refine rx_iload hE dX11_fillsFits_72 rfl ?_
                    refine rx_aload_n hE dX11_fillsFits_74 (i := 0) rfl rfl ?_
                    refine rx_getf hE dX11_fillsFits_75 fl_X11_39_10 (kp_o hM) rfl ?_
                    refine rx_iconst hE dX11_fillsFits_78 (v := 3) (by decide) ?_
                    refine rx_ialdN (i := 3) hE dX11_fillsFits_79 (kp_10 hM) (by omega) (by decide) ?_
                    refine rx_int _ _ kr_c2 ?_
                    refine rx_icmp_ge (tgt := 114) hE dX11_fillsFits_80 (by decide) (fun c80 => ?_) (fun c80 => absurd (show jone (t k) J' 9 2 ≤ nI r from by rw [hR1]; exact nI_le (by omega) (by omega)) c80)
                    refine rx_iinc_5 hE dX11_fillsFits_114 (v := 1) (by decide) (by decide) rfl ?_
                    rw [nI_1]
                    refine rx_goto (tgt := 36) hE dX11_fillsFits_117 (by decide) ?_
                    exact nx S2 _ hz2 h18 h19 (fun r' hr' _ => h19r r' (by omega))
                  | succ d ihr =>
                    intro r S2 hd hz2 h18 h19 h19r
                    refine rx_iload hE dX11_fillsFits_72 rfl ?_
                    refine rx_aload_n hE dX11_fillsFits_74 (i := 0) rfl rfl ?_
                    refine rx_getf hE dX11_fillsFits_75 fl_X11_39_10 (kp_o hM) rfl ?_
                    refine rx_iconst hE dX11_fillsFits_78 (v := 3) (by decide) ?_
                    refine rx_ialdN (i := 3) hE dX11_fillsFits_79 (kp_10 hM) (by omega) (by decide) ?_
                    refine rx_int _ _ kr_c2 ?_
                    refine rx_icmp_ge (tgt := 114) hE dX11_fillsFits_80 (by decide) (fun c80 => absurd (show nI (jR J) ≤ nI r from by rw [← hR1]; exact c80) (nI_ge (by omega) (by omega))) (fun c80 => ?_)
                    refine rx_iload hE dX11_fillsFits_83 rfl ?_
                    refine rx_iload_n hE dX11_fillsFits_85 (i := 1) rfl rfl ?_
                    refine rx_icmp_ne (tgt := 114) hE dX11_fillsFits_86 (by decide) (fun c86 => absurd (by rw [hnt]) c86) (fun c86 => ?_)
                    refine rx_aload_n hE dX11_fillsFits_89 (i := 0) rfl rfl ?_
                    refine rx_getf hE dX11_fillsFits_90 fl_X11_77_10 (kp_o hM) rfl ?_
                    refine rx_bipush hE dX11_fillsFits_93 (v := 6) (by decide) ?_
                    refine rx_iload_n hE dX11_fillsFits_95 (i := 3) rfl rfl ?_
                    refine rx_imul hE dX11_fillsFits_96 ?_
                    refine rx_int _ (nI (6 * k)) (pk_mul _ _) ?_
                    refine rx_iload hE dX11_fillsFits_97 rfl ?_
                    refine rx_iadd hE dX11_fillsFits_99 ?_
                    refine rx_int _ (nI (6 * k + r)) (nI_add _ _) ?_
                    refine rx_aload_n hE dX11_fillsFits_100 (i := 0) rfl rfl ?_
                    refine rx_getf hE dX11_fillsFits_101 fl_X11_52_10 (kp_o hM) rfl ?_
                    refine rx_iload hE dX11_fillsFits_104 rfl ?_
                    refine rx_ialdN (i := r) hE dX11_fillsFits_106 (kp_11 hM) (by omega) (by decide) ?_
                    refine rx_int _ (qmt (t k) K th r) (by rw [kr_7 (by omega)]; show g1 r = _; rw [hg1 r (by rw [hRJ]; omega), hJm, ← hnt]; rfl) ?_
                    refine rx_iastN (i := 6 * k + r) hE dX11_fillsFits_107 (kp_19 hM) (by omega) (by decide) ?_
                    refine rx_mem (M' := kp M (kput (k_s S2 19 (upd (S2 19) (6 * k + r) (qmt (t k) K th r))) (j_s (jone (t k) J') 7 g1)) L1) (by rw [kw_19, kput_s (by decide) (by decide) (by decide)]; rfl) ?_
                    refine rx_iinc_6 hE dX11_fillsFits_108 (v := 1) (by decide) (by decide) rfl ?_
                    rw [nI_1]
                    refine rx_goto (tgt := 72) hE dX11_fillsFits_111 (by decide) ?_
                    exact ihr (r + 1) (k_s S2 19 (upd (S2 19) (6 * k + r) (qmt (t k) K th r))) (by omega) (hz2.s _ (by decide) (by decide)) h18 (fun q hq => by
                      show upd (S2 19) (6 * k + r) _ q = _
                      rw [upd_ne (by omega)]
                      exact h19 q hq) (fun r' hr' => by
                      show upd (S2 19) (6 * k + r) _ (6 * k + r') = _
                      by_cases hrr : r' = r
                      · subst hrr
                        exact upd_eq
                      · rw [upd_ne (by omega)]
                        exact h19r r' (by omega))
                exact rloop (jR J) 0 S1 (by omega) hz1 rfl (fun _ _ => rfl) (fun r' h => by omega)
              · refine rx_iload hE dX11_fillsFits_72 rfl ?_
                refine rx_aload_n hE dX11_fillsFits_74 (i := 0) rfl rfl ?_
                refine rx_getf hE dX11_fillsFits_75 fl_X11_39_10 (kp_o hM) rfl ?_
                refine rx_iconst hE dX11_fillsFits_78 (v := 3) (by decide) ?_
                refine rx_ialdN (i := 3) hE dX11_fillsFits_79 (kp_10 hM) (by omega) (by decide) ?_
                refine rx_int _ _ kr_c2 ?_
                refine rx_icmp_ge (tgt := 114) hE dX11_fillsFits_80 (by decide) (fun c80 => ?_) (fun c80 => ?_)
                · refine rx_iinc_5 hE dX11_fillsFits_114 (v := 1) (by decide) (by decide) rfl ?_
                  rw [nI_1]
                  refine rx_goto (tgt := 36) hE dX11_fillsFits_117 (by decide) ?_
                  exact nx S1 _ hz1 rfl (fun _ _ => rfl) (fun r' hr' hth => hm r' hr' (by omega))
                · refine rx_iload hE dX11_fillsFits_83 rfl ?_
                  refine rx_iload_n hE dX11_fillsFits_85 (i := 1) rfl rfl ?_
                  refine rx_icmp_ne (tgt := 114) hE dX11_fillsFits_86 (by decide) (fun c86 => ?_) (fun c86 => absurd ((nI_eq (by omega) (by omega)).mp c86) hnt)
                  refine rx_iinc_5 hE dX11_fillsFits_114 (v := 1) (by decide) (by decide) rfl ?_
                  rw [nI_1]
                  refine rx_goto (tgt := 36) hE dX11_fillsFits_117 (by decide) ?_
                  exact nx S1 _ hz1 rfl (fun _ _ => rfl) (fun r' hr' hth => hm r' hr' (by omega))
            · refine rx_iconst hE dX11_fillsFits_62 (v := 1) (by decide) ?_
              refine rx_goto (tgt := 67) hE dX11_fillsFits_63 (by decide) ?_
              obtain ⟨is', his'⟩ : ∃ is', is' = (if is = 0 then (0 : Int32) else if qnsF B Q W (jone (t k) J' 7) (nI n) 0 c = 0 then 0 else 1) := ⟨_, rfl⟩
              refine rx_int _ is' (by rw [his']; exact (by rw [if_neg c50, if_neg c59])) ?_
              refine rx_istore_4 hE dX11_fillsFits_67 (by decide) rfl ?_
              refine rx_iconst hE dX11_fillsFits_69 (v := 0) (by decide) ?_
              refine rx_istore_6 hE dX11_fillsFits_70 (by decide) rfl ?_
              have nx : ∀ (S2 : gS) (l6 : Option Value), kz SK (t k) J S2 → S2 18 = S1 18 → (∀ q, q < 6 * k → S2 19 q = S1 19 q) → (∀ r', r' < jR J → th < n + 1 → S2 19 (6 * k + r') = qmt (t k) K th r') → RX E mX11_fillsFits.2.2.1 0 0 36 [some (.ref 384), some (.int (nI th)), some (.int (S 0 21)), some (.int (nI k)), some (.int is'), some (.int (nI (n + 1))), l6] [] (kp M (kput S2 (j_s (jone (t k) J') 7 g1)) L1) := by
                intro S2 l6 hz2 h18 h19 h19r
                exact ihn (n + 1) S2 L1 g1 (jone (t k) J') is' l6 (by omega) hz2 (hs.trans (jst.one _ J')) (hf'.one _ (by omega)) (by rw [jone_T _ hf'.1]; omega) (by rw [jmany_s, ← hJm]) (hfi1.s hr6 (fun i _ => congrFun h18 i) h19) h19r (by rw [← hF, his']; rfl)
              by_cases hnt : n = th
              · have rloop : ∀ (d r : Nat) (S2 : gS), r + d = jR J → kz SK (t k) J S2 → S2 18 = S1 18 → (∀ q, q < 6 * k → S2 19 q = S1 19 q) → (∀ r', r' < r → S2 19 (6 * k + r') = qmt (t k) K th r') → RX E mX11_fillsFits.2.2.1 0 0 72 [some (.ref 384), some (.int (nI th)), some (.int (S 0 21)), some (.int (nI k)), some (.int is'), some (.int (nI n)), some (.int (nI r))] [] (kp M (kput S2 (j_s (jone (t k) J') 7 g1)) L1) := by
                  intro d
                  induction d with
                  | zero =>
                    intro r S2 hd hz2 h18 h19 h19r
                    refine rx_iload hE dX11_fillsFits_72 rfl ?_
                    refine rx_aload_n hE dX11_fillsFits_74 (i := 0) rfl rfl ?_
                    refine rx_getf hE dX11_fillsFits_75 fl_X11_39_10 (kp_o hM) rfl ?_
                    refine rx_iconst hE dX11_fillsFits_78 (v := 3) (by decide) ?_
                    refine rx_ialdN (i := 3) hE dX11_fillsFits_79 (kp_10 hM) (by omega) (by decide) ?_
                    refine rx_int _ _ kr_c2 ?_
                    refine rx_icmp_ge (tgt := 114) hE dX11_fillsFits_80 (by decide) (fun c80 => ?_) (fun c80 => absurd (show jone (t k) J' 9 2 ≤ nI r from by rw [hR1]; exact nI_le (by omega) (by omega)) c80)
                    refine rx_iinc_5 hE dX11_fillsFits_114 (v := 1) (by decide) (by decide) rfl ?_
                    rw [nI_1]
                    refine rx_goto (tgt := 36) hE dX11_fillsFits_117 (by decide) ?_
                    exact nx S2 _ hz2 h18 h19 (fun r' hr' _ => h19r r' (by omega))
                  | succ d ihr =>
                    intro r S2 hd hz2 h18 h19 h19r
                    refine rx_iload hE dX11_fillsFits_72 rfl ?_
                    refine rx_aload_n hE dX11_fillsFits_74 (i := 0) rfl rfl ?_
                    refine rx_getf hE dX11_fillsFits_75 fl_X11_39_10 (kp_o hM) rfl ?_
                    refine rx_iconst hE dX11_fillsFits_78 (v := 3) (by decide) ?_
                    refine rx_ialdN (i := 3) hE dX11_fillsFits_79 (kp_10 hM) (by omega) (by decide) ?_
                    refine rx_int _ _ kr_c2 ?_
                    refine rx_icmp_ge (tgt := 114) hE dX11_fillsFits_80 (by decide) (fun c80 => absurd (show nI (jR J) ≤ nI r from by rw [← hR1]; exact c80) (nI_ge (by omega) (by omega))) (fun c80 => ?_)
                    refine rx_iload hE dX11_fillsFits_83 rfl ?_
                    refine rx_iload_n hE dX11_fillsFits_85 (i := 1) rfl rfl ?_
                    refine rx_icmp_ne (tgt := 114) hE dX11_fillsFits_86 (by decide) (fun c86 => absurd (by rw [hnt]) c86) (fun c86 => ?_)
                    refine rx_aload_n hE dX11_fillsFits_89 (i := 0) rfl rfl ?_
                    refine rx_getf hE dX11_fillsFits_90 fl_X11_77_10 (kp_o hM) rfl ?_
                    refine rx_bipush hE dX11_fillsFits_93 (v := 6) (by decide) ?_
                    refine rx_iload_n hE dX11_fillsFits_95 (i := 3) rfl rfl ?_
                    refine rx_imul hE dX11_fillsFits_96 ?_
                    refine rx_int _ (nI (6 * k)) (pk_mul _ _) ?_
                    refine rx_iload hE dX11_fillsFits_97 rfl ?_
                    refine rx_iadd hE dX11_fillsFits_99 ?_
                    refine rx_int _ (nI (6 * k + r)) (nI_add _ _) ?_
                    refine rx_aload_n hE dX11_fillsFits_100 (i := 0) rfl rfl ?_
                    refine rx_getf hE dX11_fillsFits_101 fl_X11_52_10 (kp_o hM) rfl ?_
                    refine rx_iload hE dX11_fillsFits_104 rfl ?_
                    refine rx_ialdN (i := r) hE dX11_fillsFits_106 (kp_11 hM) (by omega) (by decide) ?_
                    refine rx_int _ (qmt (t k) K th r) (by rw [kr_7 (by omega)]; show g1 r = _; rw [hg1 r (by rw [hRJ]; omega), hJm, ← hnt]; rfl) ?_
                    refine rx_iastN (i := 6 * k + r) hE dX11_fillsFits_107 (kp_19 hM) (by omega) (by decide) ?_
                    refine rx_mem (M' := kp M (kput (k_s S2 19 (upd (S2 19) (6 * k + r) (qmt (t k) K th r))) (j_s (jone (t k) J') 7 g1)) L1) (by rw [kw_19, kput_s (by decide) (by decide) (by decide)]; rfl) ?_
                    refine rx_iinc_6 hE dX11_fillsFits_108 (v := 1) (by decide) (by decide) rfl ?_
                    rw [nI_1]
                    refine rx_goto (tgt := 72) hE dX11_fillsFits_111 (by decide) ?_
                    exact ihr (r + 1) (k_s S2 19 (upd (S2 19) (6 * k + r) (qmt (t k) K th r))) (by omega) (hz2.s _ (by decide) (by decide)) h18 (fun q hq => by
                      show upd (S2 19) (6 * k + r) _ q = _
                      rw [upd_ne (by omega)]
                      exact h19 q hq) (fun r' hr' => by
                      show upd (S2 19) (6 * k + r) _ (6 * k + r') = _
                      by_cases hrr : r' = r
                      · subst hrr
                        exact upd_eq
                      · rw [upd_ne (by omega)]
                        exact h19r r' (by omega))
                exact rloop (jR J) 0 S1 (by omega) hz1 rfl (fun _ _ => rfl) (fun r' h => by omega)
              · refine rx_iload hE dX11_fillsFits_72 rfl ?_
                refine rx_aload_n hE dX11_fillsFits_74 (i := 0) rfl rfl ?_
                refine rx_getf hE dX11_fillsFits_75 fl_X11_39_10 (kp_o hM) rfl ?_
                refine rx_iconst hE dX11_fillsFits_78 (v := 3) (by decide) ?_
                refine rx_ialdN (i := 3) hE dX11_fillsFits_79 (kp_10 hM) (by omega) (by decide) ?_
                refine rx_int _ _ kr_c2 ?_
                refine rx_icmp_ge (tgt := 114) hE dX11_fillsFits_80 (by decide) (fun c80 => ?_) (fun c80 => ?_)
                · refine rx_iinc_5 hE dX11_fillsFits_114 (v := 1) (by decide) (by decide) rfl ?_
                  rw [nI_1]
                  refine rx_goto (tgt := 36) hE dX11_fillsFits_117 (by decide) ?_
                  exact nx S1 _ hz1 rfl (fun _ _ => rfl) (fun r' hr' hth => hm r' hr' (by omega))
                · refine rx_iload hE dX11_fillsFits_83 rfl ?_
                  refine rx_iload_n hE dX11_fillsFits_85 (i := 1) rfl rfl ?_
                  refine rx_icmp_ne (tgt := 114) hE dX11_fillsFits_86 (by decide) (fun c86 => ?_) (fun c86 => absurd ((nI_eq (by omega) (by omega)).mp c86) hnt)
                  refine rx_iinc_5 hE dX11_fillsFits_114 (v := 1) (by decide) (by decide) rfl ?_
                  rw [nI_1]
                  refine rx_goto (tgt := 36) hE dX11_fillsFits_117 (by decide) ?_
                  exact nx S1 _ hz1 rfl (fun _ _ => rfl) (fun r' hr' hth => hm r' hr' (by omega))
      refine rx_iload_n hE dX11_fillsFits_11 (i := 3) rfl rfl ?_
      refine rx_aload_n hE dX11_fillsFits_12 (i := 0) rfl rfl ?_
      refine rx_getf hE dX11_fillsFits_13 fl_X11_267_10 (kp_o hM) rfl ?_
      refine rx_int _ _ (kr_f (by decide)) ?_
      refine rx_int _ (nI ρ) hr2 ?_
      refine rx_icmp_gt (tgt := 134) hE dX11_fillsFits_16 (by decide) (fun c16 => absurd c16 (nI_nlt (a := ρ) (b := k) (by omega) (by omega))) (fun c16 => ?_)
      refine rx_aload_n hE dX11_fillsFits_19 (i := 0) rfl rfl ?_
      refine rx_iload_n hE dX11_fillsFits_20 (i := 3) rfl rfl ?_
      refine rx_iconst hE dX11_fillsFits_21 (v := 1) (by decide) ?_
      refine rx_isub hE dX11_fillsFits_22 ?_
      refine rx_put hE dX11_fillsFits_23 fl_X11_42_10 fw_10_21 (kp_o hM) (fun _ => rfl) (fun _ => rfl) (Nat.le_of_ble_eq_true rfl) ?_
      refine rx_mem (M' := kp M (kput SK (j_s J0 7 gx)) Lx) (kw_c21.trans (by rw [kput_f21, hSK])) ?_
      refine rx_aload_n hE dX11_fillsFits_26 (i := 0) rfl rfl ?_
      refine rx_call0 (rx_callV (av := []) hE dX11_fillsFits_27 lk_X11_273 (c_X11_begins (J := J0) (K := K) hM ((hkt.q hSK10).st (hs0.symm.trans hKJ))) (kp_o hM) np_X11_begins rfl rfl (by decide) (Nat.le_of_ble_eq_true rfl) rfl ?_)
      rintro v M' ⟨rfl, rfl⟩
      refine rx_iconst hE dX11_fillsFits_30 (v := 1) (by decide) ?_
      refine rx_istore_4 hE dX11_fillsFits_31 (by decide) rfl ?_
      refine rx_iconst hE dX11_fillsFits_33 (v := 0) (by decide) ?_
      refine rx_istore_5 hE dX11_fillsFits_34 (by decide) rfl ?_
      exact nloop 61 0 SK Lx gx K 1 _ (by omega) hzK (jst.refl K) hfK (by omega) rfl hfiK (fun r' _ h => by omega) rfl
  refine rx_aload_n hE dX11_fillsFits_0 (i := 0) rfl rfl ?_
  refine rx_getf hE dX11_fillsFits_1 fl_X11_42_10 (kp_o hM) rfl ?_
  refine rx_int _ _ (kr_f (by decide)) ?_
  refine rx_int _ (S 0 21) rfl ?_
  refine rx_istore_n_2 hE dX11_fillsFits_4 (by decide) rfl ?_
  refine rx_aload_n hE dX11_fillsFits_5 (i := 0) rfl rfl ?_
  refine rx_call0 (rx_callV (av := []) hE dX11_fillsFits_6 lk_X11_376 (c_X11_keeps hM) (kp_o hM) np_X11_keeps rfl rfl (by decide) (Nat.le_of_ble_eq_true rfl) rfl ?_)
  rintro v M' ⟨rfl, rfl⟩
  refine rx_iconst hE dX11_fillsFits_9 (v := 0) (by decide) ?_
  refine rx_istore_n_3 hE dX11_fillsFits_10 (by decide) rfl ?_
  exact oloop (ρ + 1) 0 _ L g J _ _ _ (by omega) ⟨by
    have e : k_f (k_s S 13 (kfl (S 13) (krow (j_s J 7 g)) 44)) 21 (S 0 21) = k_s S 13 (kfl (S 13) (krow (j_s J 7 g)) 44) := kf_id (k_s S 13 (kfl (S 13) (krow (j_s J 7 g)) 44)) 21
    rw [e]
    exact kq.s S (c := 13) _ (by decide), fun i hi => (if_pos hi).trans (krow_s7 J g hi)⟩ (jst.refl J) (fun k' h => by omega)
