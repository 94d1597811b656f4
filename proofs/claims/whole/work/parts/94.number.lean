/-! ===== the reference's number ===== -/
/-- only next, wrong and number may differ -/
def kno (S S' : gS) : Prop := (∀ k, k ≠ 0 → S' k = S k) ∧ ∀ i, i ≠ 8 → i ≠ 9 → i ≠ 10 → S' 0 i = S 0 i
theorem kno.refl (S : gS) : kno S S := ⟨fun _ _ => rfl, fun _ _ _ _ => rfl⟩
theorem kno.trans {S S' S'' : gS} (h : kno S S') (h' : kno S' S'') : kno S S'' := ⟨fun k a => (h'.1 k a).trans (h.1 k a), fun i a b c => (h'.2 i a b c).trans (h.2 i a b c)⟩
theorem kno.f (S : gS) {i : Nat} (hi : i = 8 ∨ i = 9 ∨ i = 10) (v : Int32) : kno S (k_f S i v) := ⟨fun k h => if_neg h, fun j a b c => by
  show upd (S 0) i v j = S 0 j
  unfold upd
  rw [if_neg (by omega)]⟩
theorem kno.fs (S : gS) (c : Prop) [Decidable c] (v : Int32) : kno S (if c then k_f S 9 v else S) := by
  by_cases h : c
  · rw [if_pos h]
    exact kno.f S (by decide) v
  · rw [if_neg h]
    exact kno.refl S
theorem fs_9 (S : gS) (p : Nat) (why : Int32) : (if S 0 9 = 0 then k_f S 9 (1 + 8 * nI p + why) else S) 0 9 = tfl (S 0 9) p why := by
  unfold tfl
  by_cases h : S 0 9 = 0
  · rw [if_pos h, if_pos h]
    rfl
  · rw [if_neg h, if_neg h]
def krd (S S' : gS) (T : Nat → Int32) (N p : Nat) (lo hi : Int32) (v : Option Value) : Prop := (tno T N p lo hi ∧ v = some (.int 1) ∧ S' 0 8 = nI (te T N p) ∧ S' 0 9 = S 0 9 ∧ S' 0 10 = tv T N p) ∨ (¬ tno T N p lo hi ∧ v = some (.int 0) ∧ S' 0 9 = tfl (S 0 9) p (if tk T N p = 2 then 1 else 0))
theorem sk_nb {T : Nat → Int32} {N q : Nat} (h : q ≤ N) : ¬ (sk T N q < N ∧ T (sk T N q) = 32) := fun z => tru_end (P := blB) (T := T) h ⟨z.1, decide_eq_true z.2⟩
theorem tk_is2 {T : Nat → Int32} {N p : Nat} : tk T N p = 2 ↔ (p < N ∧ tdg (T p)) := by
  constructor
  · intro h
    by_cases h0 : p < N
    · by_cases h1 : tlt (T p)
      · rw [(tk_1 h0 h1).1] at h
        exact absurd h (by decide)
      · by_cases h2 : tdg (T p)
        · exact ⟨h0, h2⟩
        · rw [(tk_3 h0 h1 h2).1] at h
          exact absurd h (by decide)
    · rw [(tk_0 h0).1] at h
      exact absurd h (by decide)
  · intro h
    have h1 : ¬ tlt (T p) := fun z => z.1 (Int32.lt_of_le_of_lt (Int32.not_lt.mp h.2.2) (by decide))
    exact (tk_2 h.1 h1 h.2).1
set_option maxRecDepth 100000 in
set_option maxHeartbeats 1000000 in
theorem c_X11_numberHere {M : gM} {S : gS} {L : gLg} (hM : 408 ≤ M.1) {T : Nat → Int32} {N : Nat} (hN : N ≤ 400) (h1 : S 0 1 = nI N) (hb : S 1 = T) {q : Nat} (hq : q ≤ N) (h8 : S 0 8 = nI q) (lo hi : Int32) : SX 1 0 0 mX11_numberHere [.ref 384, .int lo, .int hi] (kp M S L) (fun v M' => ∃ S', M' = kp M S' L ∧ kno S S' ∧ krd S S' T N (sk T N q) lo hi v) := by
  refine SX.intro [some (.ref 384), some (.int lo), some (.int hi), none, none] (by decide +kernel) (Nat.le_of_ble_eq_true rfl) rfl (fun E hE hQ => ?_)
  refine rx_aload_n hE dX11_numberHere_0 (i := 0) rfl rfl ?_
  refine rx_call0 (rx_callV (av := []) hE dX11_numberHere_1 lk_X11_105 (c_X11_see hM hN h1 hb hq h8) (kp_o hM) np_X11_see rfl rfl (by decide) (Nat.le_of_ble_eq_true rfl) rfl ?_)
  rintro v M' ⟨rfl, rfl⟩
  generalize hsk : sk T N q = P0
  rw [hsk] at hQ
  have hP0 : P0 ≤ N := hsk ▸ (sk_le (T := T) hq).2
  refine rx_pop hE dX11_numberHere_4 rfl ?_
  refine rx_aload_n hE dX11_numberHere_5 (i := 0) rfl rfl ?_
  refine rx_aload_n hE dX11_numberHere_6 (i := 0) rfl rfl ?_
  refine rx_getf hE dX11_numberHere_7 fl_X11_102_10 (kp_o hM) rfl ?_
  refine rx_int _ (nI P0) rfl ?_
  refine rx_call0 (rx_callV (av := [.int (nI P0)]) hE dX11_numberHere_10 lk_X11_120 (c_X11_isDigit (S := k_f S 8 (nI P0)) hM hN h1 hb (i := P0) (by omega)) (kp_o hM) np_X11_isDigit rfl rfl (by decide) (Nat.le_of_ble_eq_true rfl) rfl ?_)
  rintro v M' ⟨rfl, rfl⟩
  refine rx_if_ne (tgt := 26) hE dX11_numberHere_13 (by decide) (fun c13 => ?_) (fun c13 => ?_)
  · have hy : P0 < N ∧ tdg (T P0) := Classical.byContradiction (fun z => c13 (if_neg z))
    have hk2 : tk T N P0 = 2 := tk_is2.mpr hy
    have hte2 : te T N P0 = tru dgB T N P0 := (tk_2 hy.1 (fun z => z.1 (Int32.lt_of_le_of_lt (Int32.not_lt.mp hy.2.2) (by decide))) hy.2).2
    have tail : ∀ (p : Nat) (w : Int32), P0 ≤ p → p ≤ N → te T N P0 = p → (p ≤ P0 + 5 → w = tv T N P0) → RX E mX11_numberHere.2.2.1 0 0 88 [some (.ref 384), some (.int lo), some (.int hi), some (.int (nI P0)), some (.int w)] [] (kp M (k_f S 8 (nI p)) L) := by
      intro p w hPp hpN hte hw
      refine rx_aload_n hE dX11_numberHere_88 (i := 0) rfl rfl ?_
      refine rx_iload hE dX11_numberHere_89 rfl ?_
      refine rx_put hE dX11_numberHere_91 fl_X11_127_10 fw_10_10 (kp_o hM) (fun _ => rfl) (fun _ => rfl) (Nat.le_of_ble_eq_true rfl) ?_
      refine rx_mem (M' := kp M (k_f (k_f S 8 (nI p)) 10 w) L) kw_c10 ?_
      refine rx_aload_n hE dX11_numberHere_94 (i := 0) rfl rfl ?_
      refine rx_getf hE dX11_numberHere_95 fl_X11_102_10 (kp_o hM) rfl ?_
      refine rx_int _ (nI p) rfl ?_
      refine rx_iload_n hE dX11_numberHere_98 (i := 3) rfl rfl ?_
      refine rx_isub hE dX11_numberHere_99 ?_
      refine rx_int _ (nI (p - P0)) (nI_mn hPp) ?_
      refine rx_iconst hE dX11_numberHere_100 (v := 5) (by decide) ?_
      refine rx_icmp_gt (tgt := 117) hE dX11_numberHere_101 (by decide) (fun c101 => ?_) (fun c101 => ?_)
      · have hbad : ¬ tno T N P0 lo hi := fun z => absurd c101 (Int32.not_lt.mpr (nI_le (a := p - P0) (b := 5) (by have := z.2.1; omega) (by decide)))
        refine rx_aload_n hE dX11_numberHere_117 (i := 0) rfl rfl ?_
        refine rx_iconst hE dX11_numberHere_118 (v := 1) (by decide) ?_
        refine rx_iload_n hE dX11_numberHere_119 (i := 3) rfl rfl ?_
        refine rx_call0 (rx_callV (av := [.int 1, .int (nI P0)]) hE dX11_numberHere_120 lk_X11_123 (c_X11_fails (S := k_f (k_f S 8 (nI p)) 10 w) hM 1 (nI P0)) (kp_o hM) np_X11_fails rfl rfl (by decide) (Nat.le_of_ble_eq_true rfl) rfl ?_)
        rintro v M' ⟨rfl, rfl⟩
        refine rx_if_eq (tgt := 130) hE dX11_numberHere_123 (by decide) (fun c123 => ?_) (fun c123 => absurd rfl c123)
        refine rx_iconst hE dX11_numberHere_130 (v := 0) (by decide) ?_
        exact rx_tret hE hQ rfl rfl dX11_numberHere_131 ⟨_, rfl, ((kno.f S (by decide) (nI p)).trans (kno.f _ (by decide) w)).trans (kno.fs _ _ _), Or.inr ⟨hbad, rfl, by rw [if_pos hk2]; exact fs_9 (k_f (k_f S 8 (nI p)) 10 w) P0 1⟩⟩
      · refine rx_iload hE dX11_numberHere_104 rfl ?_
        refine rx_i2l hE dX11_numberHere_106 ?_
        refine rx_iload_n hE dX11_numberHere_107 (i := 1) rfl rfl ?_
        refine rx_i2l hE dX11_numberHere_108 ?_
        refine rx_iload_n hE dX11_numberHere_109 (i := 2) rfl rfl ?_
        refine rx_i2l hE dX11_numberHere_110 ?_
        refine rx_call0 (rx_callS (av := [.long _, .long _, .long _]) hE dX11_numberHere_111 lk_X11_130 (c_X11_in _ _ _) np_X11_in rfl rfl (by decide) (Nat.le_of_ble_eq_true rfl) rfl ?_)
        rintro v M' ⟨rfl, rfl⟩
        refine rx_int _ (q_in w lo hi) (k_in_eq _ _ _ rfl rfl) ?_
        refine rx_if_ne (tgt := 126) hE dX11_numberHere_114 (by decide) (fun c114 => ?_) (fun c114 => ?_)
        · have h5 : p ≤ P0 + 5 := Classical.byContradiction (fun z => c101 (nI_lt (a := 5) (b := p - P0) (by omega) (by omega)))
          have hlo : ¬ tv T N P0 < lo := fun z => c114 (by unfold q_in; rw [hw h5, if_pos z])
          have hhi : tv T N P0 ≤ hi := Int32.not_lt.mp (fun z => c114 (by unfold q_in; rw [hw h5, if_neg hlo, if_pos z]))
          refine rx_iconst hE dX11_numberHere_126 (v := 1) (by decide) ?_
          refine rx_goto (tgt := 131) hE dX11_numberHere_127 (by decide) ?_
          exact rx_tret hE hQ rfl rfl dX11_numberHere_131 ⟨_, rfl, (kno.f S (by decide) (nI p)).trans (kno.f _ (by decide) w), Or.inl ⟨⟨hk2, by omega, hlo, hhi⟩, rfl, by rw [hte]; rfl, rfl, (hw (by omega))⟩⟩
        · have h5 : p ≤ P0 + 5 := Classical.byContradiction (fun z => c101 (nI_lt (a := 5) (b := p - P0) (by omega) (by omega)))
          have hbad : ¬ tno T N P0 lo hi := fun z => absurd c114 (by unfold q_in; rw [hw h5, if_neg z.2.2.1, if_neg (Int32.not_lt.mpr z.2.2.2)]; decide)
          refine rx_aload_n hE dX11_numberHere_117 (i := 0) rfl rfl ?_
          refine rx_iconst hE dX11_numberHere_118 (v := 1) (by decide) ?_
          refine rx_iload_n hE dX11_numberHere_119 (i := 3) rfl rfl ?_
          refine rx_call0 (rx_callV (av := [.int 1, .int (nI P0)]) hE dX11_numberHere_120 lk_X11_123 (c_X11_fails (S := k_f (k_f S 8 (nI p)) 10 w) hM 1 (nI P0)) (kp_o hM) np_X11_fails rfl rfl (by decide) (Nat.le_of_ble_eq_true rfl) rfl ?_)
          rintro v M' ⟨rfl, rfl⟩
          refine rx_if_eq (tgt := 130) hE dX11_numberHere_123 (by decide) (fun c123 => ?_) (fun c123 => absurd rfl c123)
          refine rx_iconst hE dX11_numberHere_130 (v := 0) (by decide) ?_
          exact rx_tret hE hQ rfl rfl dX11_numberHere_131 ⟨_, rfl, ((kno.f S (by decide) (nI p)).trans (kno.f _ (by decide) w)).trans (kno.fs _ _ _), Or.inr ⟨hbad, rfl, by rw [if_pos hk2]; exact fs_9 (k_f (k_f S 8 (nI p)) 10 w) P0 1⟩⟩
    have l1 : ∀ (m1 p : Nat) (w : Int32), p + m1 = N → P0 ≤ p → tru dgB T N p = te T N P0 → (p ≤ P0 + 5 → tvF T (te T N P0 - p) p w = tv T N P0) → RX E mX11_numberHere.2.2.1 0 0 34 [some (.ref 384), some (.int lo), some (.int hi), some (.int (nI P0)), some (.int w)] [] (kp M (k_f S 8 (nI p)) L) := by
      intro m1
      induction m1 with
      | zero =>
        intro p w hpn hPp hE1 hv
        refine rx_aload_n hE dX11_numberHere_34 (i := 0) rfl rfl ?_
        refine rx_aload_n hE dX11_numberHere_35 (i := 0) rfl rfl ?_
        refine rx_getf hE dX11_numberHere_36 fl_X11_102_10 (kp_o hM) rfl ?_
        refine rx_int _ (nI p) rfl ?_
        refine rx_call0 (rx_callV (av := [.int (nI p)]) hE dX11_numberHere_39 lk_X11_120 (c_X11_isDigit (S := k_f S 8 (nI p)) hM hN h1 hb (i := p) (by omega)) (kp_o hM) np_X11_isDigit rfl rfl (by decide) (Nat.le_of_ble_eq_true rfl) rfl ?_)
        rintro v M' ⟨rfl, rfl⟩
        refine rx_if_eq (tgt := 88) hE dX11_numberHere_42 (by decide) (fun c42 => ?_) (fun c42 => absurd (if_neg (fun z => absurd z.1 (by omega))) c42)
        exact tail p w hPp (by omega) (by rw [← hE1, tru_z (fun z => absurd z.1 (by omega))]) (fun h => by rw [← hv h, ← hE1, tru_z (fun z => absurd z.1 (by omega)), Nat.sub_self]; rfl)
      | succ m1 ihm1 =>
        intro p w hpn hPp hE1 hv
        refine rx_aload_n hE dX11_numberHere_34 (i := 0) rfl rfl ?_
        refine rx_aload_n hE dX11_numberHere_35 (i := 0) rfl rfl ?_
        refine rx_getf hE dX11_numberHere_36 fl_X11_102_10 (kp_o hM) rfl ?_
        refine rx_int _ (nI p) rfl ?_
        refine rx_call0 (rx_callV (av := [.int (nI p)]) hE dX11_numberHere_39 lk_X11_120 (c_X11_isDigit (S := k_f S 8 (nI p)) hM hN h1 hb (i := p) (by omega)) (kp_o hM) np_X11_isDigit rfl rfl (by decide) (Nat.le_of_ble_eq_true rfl) rfl ?_)
        rintro v M' ⟨rfl, rfl⟩
        refine rx_if_eq (tgt := 88) hE dX11_numberHere_42 (by decide) (fun c42 => ?_) (fun c42 => ?_)
        · have hno : ¬ (p < N ∧ dgB (T p) = true) := fun z => absurd c42 (by rw [if_pos ⟨z.1, of_decide_eq_true z.2⟩]; decide)
          exact tail p w hPp (by omega) (by rw [← hE1, tru_z hno]) (fun h => by rw [← hv h, ← hE1, tru_z hno, Nat.sub_self]; rfl)
        · have hy : p < N ∧ tdg (T p) := Classical.byContradiction (fun z => c42 (if_neg z))
          have hp1 := tru_le (P := dgB) (T := T) (N := N) (p := p + 1) (by omega)
          have hs1 := tru_s (P := dgB) hy.1 (decide_eq_true hy.2)
          refine rx_aload_n hE dX11_numberHere_45 (i := 0) rfl rfl ?_
          refine rx_getf hE dX11_numberHere_46 fl_X11_102_10 (kp_o hM) rfl ?_
          refine rx_int _ (nI p) rfl ?_
          refine rx_iload_n hE dX11_numberHere_49 (i := 3) rfl rfl ?_
          refine rx_isub hE dX11_numberHere_50 ?_
          refine rx_int _ (nI (p - P0)) (nI_mn hPp) ?_
          refine rx_iconst hE dX11_numberHere_51 (v := 5) (by decide) ?_
          refine rx_icmp_ge (tgt := 75) hE dX11_numberHere_52 (by decide) (fun c52 => ?_) (fun c52 => ?_)
          · refine rx_aload_n hE dX11_numberHere_75 (i := 0) rfl rfl ?_
            refine rx_dup hE dX11_numberHere_76 rfl ?_
            refine rx_getf hE dX11_numberHere_77 fl_X11_102_10 (kp_o hM) rfl ?_
            refine rx_int _ (nI p) rfl ?_
            refine rx_iconst hE dX11_numberHere_80 (v := 1) (by decide) ?_
            refine rx_iadd hE dX11_numberHere_81 ?_
            refine rx_int _ (nI (p + 1)) (nI_1 p) ?_
            refine rx_put hE dX11_numberHere_82 fl_X11_102_10 fw_10_8 (kp_o hM) (fun _ => rfl) (fun _ => rfl) (Nat.le_of_ble_eq_true rfl) ?_
            refine rx_mem (M' := kp M (k_f S 8 (nI (p + 1))) L) (kw_c8.trans (by rw [k_ff2])) ?_
            refine rx_goto (tgt := 34) hE dX11_numberHere_85 (by decide) ?_
            exact ihm1 (p + 1) _ (by omega) (by omega) (by rw [← hE1]; exact hs1.symm) (fun h => absurd h (by have := (nI_leI (a := 5) (b := p - P0) (by omega) (by omega)).mp c52; omega))
          · refine rx_bipush hE dX11_numberHere_55 (v := 10) (by decide) ?_
            refine rx_iload hE dX11_numberHere_57 rfl ?_
            refine rx_imul hE dX11_numberHere_59 ?_
            refine rx_aload_n hE dX11_numberHere_60 (i := 0) rfl rfl ?_
            refine rx_getf hE dX11_numberHere_61 fl_X11_7_10 (kp_o hM) rfl ?_
            refine rx_aload_n hE dX11_numberHere_64 (i := 0) rfl rfl ?_
            refine rx_getf hE dX11_numberHere_65 fl_X11_102_10 (kp_o hM) rfl ?_
            refine rx_int _ (nI p) rfl ?_
            refine rx_baldN hE dX11_numberHere_68 (kp_1 hM) (by omega) (by decide) ?_
            refine rx_int _ (T p) (congrFun hb p) ?_
            refine rx_iadd hE dX11_numberHere_69 ?_
            refine rx_bipush hE dX11_numberHere_70 (v := 48) (by decide) ?_
            refine rx_isub hE dX11_numberHere_72 ?_
            refine rx_istore_4 hE dX11_numberHere_73 (by decide) rfl ?_
            refine rx_aload_n hE dX11_numberHere_75 (i := 0) rfl rfl ?_
            refine rx_dup hE dX11_numberHere_76 rfl ?_
            refine rx_getf hE dX11_numberHere_77 fl_X11_102_10 (kp_o hM) rfl ?_
            refine rx_int _ (nI p) rfl ?_
            refine rx_iconst hE dX11_numberHere_80 (v := 1) (by decide) ?_
            refine rx_iadd hE dX11_numberHere_81 ?_
            refine rx_int _ (nI (p + 1)) (nI_1 p) ?_
            refine rx_put hE dX11_numberHere_82 fl_X11_102_10 fw_10_8 (kp_o hM) (fun _ => rfl) (fun _ => rfl) (Nat.le_of_ble_eq_true rfl) ?_
            refine rx_mem (M' := kp M (k_f S 8 (nI (p + 1))) L) (kw_c8.trans (by rw [k_ff2])) ?_
            refine rx_goto (tgt := 34) hE dX11_numberHere_85 (by decide) ?_
            exact ihm1 (p + 1) _ (by omega) (by omega) (by rw [← hE1]; exact hs1.symm) (fun _ => by rw [← hv (by have := fun z => c52 (nI_le (a := 5) (b := p - P0) z (by omega)); omega), show te T N P0 - p = te T N P0 - (p + 1) + 1 by omega, Int32.mul_comm]; rfl)
    refine rx_aload_n hE dX11_numberHere_26 (i := 0) rfl rfl ?_
    refine rx_getf hE dX11_numberHere_27 fl_X11_102_10 (kp_o hM) rfl ?_
    refine rx_int _ (nI P0) rfl ?_
    refine rx_istore_n_3 hE dX11_numberHere_30 (by decide) rfl ?_
    refine rx_iconst hE dX11_numberHere_31 (v := 0) (by decide) ?_
    refine rx_istore_4 hE dX11_numberHere_32 (by decide) rfl ?_
    exact l1 (N - P0) P0 0 (by omega) (Nat.le_refl _) hte2.symm (fun _ => by unfold tv; rw [if_pos hk2])
  · have hk2 : ¬ tk T N P0 = 2 := fun z => absurd c13 (by rw [if_pos (tk_is2.mp z)]; decide)
    refine rx_aload_n hE dX11_numberHere_16 (i := 0) rfl rfl ?_
    refine rx_iconst hE dX11_numberHere_17 (v := 0) (by decide) ?_
    refine rx_aload_n hE dX11_numberHere_18 (i := 0) rfl rfl ?_
    refine rx_getf hE dX11_numberHere_19 fl_X11_102_10 (kp_o hM) rfl ?_
    refine rx_int _ (nI P0) rfl ?_
    refine rx_call0 (rx_callV (av := [.int 0, .int (nI P0)]) hE dX11_numberHere_22 lk_X11_123 (c_X11_fails (S := k_f S 8 (nI P0)) hM 0 (nI P0)) (kp_o hM) np_X11_fails rfl rfl (by decide) (Nat.le_of_ble_eq_true rfl) rfl ?_)
    rintro v M' ⟨rfl, rfl⟩
    exact rx_tret hE hQ rfl rfl dX11_numberHere_25 ⟨_, rfl, (kno.f S (by decide) (nI P0)).trans (kno.fs _ _ _), Or.inr ⟨fun z => hk2 z.1, rfl, by rw [if_neg hk2]; exact fs_9 (k_f S 8 (nI P0)) P0 0⟩⟩
