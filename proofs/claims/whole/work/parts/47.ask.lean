theorem shl1 : ∀ R, R ≤ 6 → (1 : Int32) <<< (nI R &&& 31) = nI (2 ^ R) := by decide
theorem pow6 : ∀ R, R ≤ 6 → 0 < 2 ^ R ∧ 2 ^ R ≤ 64 := by decide
def qch1 (J : gJn) (m b : Nat) : Nat := if ¬ jpcF J (nI m) 0 (jR J) = 0 ∧ (0 < kso (jP J) (nI m) (jR J) - kso (jP J) (nI b) (jR J) ∨ (kso (jP J) (nI m) (jR J) - kso (jP J) (nI b) (jR J) = 0 ∧ ¬ j_bc (nI b) ≤ j_bc (nI m))) then m else b
def qchF (J : gJn) : Nat → Nat → Nat → Nat
  | _, 0, b => b
  | m, n + 1, b => qchF J (m + 1) n (qch1 J m b)
def q_chord (J : gJn) (what : Int32) : Int32 := if j_isTold J = 0 ∨ q_in what 0 1 = 0 then -1 else if what = 0 then kso (jP J) (nI (qchF J 1 (2 ^ jR J - 1) 0)) (jR J) else nI (qchF J 1 (2 ^ jR J - 1) 0)
theorem jpcF_s7 (J : gJn) (g : Nat → Int32) (set : Int32) : ∀ (n k : Nat), jpcF (j_s J 7 g) set k n = jpcF J set k n
  | 0, _ => rfl
  | n + 1, k => by
    unfold jpcF
    rw [jpcF_s7 J g set n (k + 1)]
    rfl
set_option maxRecDepth 100000 in
set_option maxHeartbeats 4000000 in
theorem c_X11_chord {M : gM} {S : gS} {L : gLg} {J : gJn} {g : Nat → Int32} (hM : 408 ≤ M.1) {t : gJn → Nat → Int32 → Bool} (hk : kok S J t) (what : Int32) : SX 2 0 0 mX11_chord [.ref 384, .int what] (kp M (kput S (j_s J 7 g)) L) (fun v M' => v = some (.int (q_chord J what)) ∧ kD M S J M') := by
  refine SX.intro [some (.ref 384), some (.int what), none, none, none] (by decide +kernel) (Nat.le_of_ble_eq_true rfl) rfl (fun E hE hQ => ?_)
  refine rx_aload_n hE dX11_chord_0 (i := 0) rfl rfl ?_
  refine rx_call0 (rx_callV (av := []) hE dX11_chord_1 lk_X11_294 (c_X11_isJunction hM) (kp_o hM) np_X11_isJunction rfl rfl (by decide) (Nat.le_of_ble_eq_true rfl) rfl ?_)
  rintro v M' ⟨rfl, rfl⟩
  refine rx_int _ (j_isTold J) hk.isJ ?_
  refine rx_if_eq (tgt := 17) hE dX11_chord_4 (by decide) (fun c4 => ?_) (fun c4 => ?_)
  · refine rx_iconst hE dX11_chord_17 (v := -1) (by decide) ?_
    exact rx_iret hE hQ rfl dX11_chord_18 ⟨by simp [q_chord, *], kD.refl M S L J g⟩
  · refine rx_iload_n hE dX11_chord_7 (i := 1) rfl rfl ?_
    refine rx_i2l hE dX11_chord_8 ?_
    refine rx_lconst hE dX11_chord_9 (v := 0) (by decide) ?_
    refine rx_lconst hE dX11_chord_10 (v := 1) (by decide) ?_
    refine rx_call0 (rx_callS (av := [.long _, .long _, .long _]) hE dX11_chord_11 lk_X11_130 (c_X11_in _ _ _) np_X11_in rfl rfl (by decide) (Nat.le_of_ble_eq_true rfl) rfl ?_)
    rintro v M' ⟨rfl, rfl⟩
    refine rx_int _ (q_in _ (0) (1)) (k_in_eq _ _ _ (by decide) (by decide)) ?_
    refine rx_if_ne (tgt := 19) hE dX11_chord_14 (by decide) (fun c14 => ?_) (fun c14 => ?_)
    · have hg : ¬ (j_isTold J = 0 ∨ q_in what 0 1 = 0) := by simp [*]
      obtain ⟨hb, hf, hT9⟩ := hk.told c4
      have hr6 := hf.1.2.1
      have hp6 := pow6 _ hr6
      have fin : ∀ (b : Nat) (x : Int32) (l4 : Option Value), b < 64 → b = qchF J 1 (2 ^ jR J - 1) 0 → RX E mX11_chord.2.2.1 0 0 85 [some (.ref 384), some (.int what), some (.int (nI b)), some (.int x), l4] [] (kp M (kput S (j_s J 7 g)) L) := by
        intro b x l4 hb6 hv
        have hv : q_chord J what = if what = 0 then kso (jP J) (nI b) (jR J) else nI b := by rw [hv]; unfold q_chord; rw [if_neg hg]
        refine rx_iload_n hE dX11_chord_85 (i := 1) rfl rfl ?_
        refine rx_if_ne (tgt := 97) hE dX11_chord_86 (by decide) (fun c86 => ?_) (fun c86 => ?_)
        · refine rx_iload_n hE dX11_chord_97 (i := 2) rfl rfl ?_
          exact rx_iret hE hQ rfl dX11_chord_98 ⟨by rw [hv]; (first | rw [if_pos c86] | rw [if_neg c86]), kD.refl M S L J g⟩
        · refine rx_aload_n hE dX11_chord_89 (i := 0) rfl rfl ?_
          refine rx_iload_n hE dX11_chord_90 (i := 2) rfl rfl ?_
          refine rx_call0 (rx_callV (av := [.int (nI b)]) hE dX11_chord_91 lk_X11_337 (c_X11_soundOf (R := jR J) (pn := jP J) hM _ hf.1.1 hf.1.2.1 hf.1.2.2.1) (kp_o hM) np_X11_soundOf rfl rfl (by decide) (Nat.le_of_ble_eq_true rfl) rfl ?_)
          rintro v M' ⟨rfl, rfl⟩
          refine rx_goto (tgt := 98) hE dX11_chord_94 (by decide) ?_
          exact rx_iret hE hQ rfl dX11_chord_98 ⟨by rw [hv]; (first | rw [if_pos c86] | rw [if_neg c86]), kD.refl M S L J g⟩
      have loop : ∀ (n m : Nat) (b : Nat) (l4 : Option Value), m + n = 2 ^ jR J → 0 < m → b < 64 → qchF J m n b = qchF J 1 (2 ^ jR J - 1) 0 → RX E mX11_chord.2.2.1 0 0 23 [some (.ref 384), some (.int what), some (.int (nI b)), some (.int (nI m)), l4] [] (kp M (kput S (j_s J 7 g)) L) := by
        intro n
        induction n with
        | zero =>
          intro m b l4 hk2 hm0 hb6 hF
          refine rx_iload_n hE dX11_chord_23 (i := 3) rfl rfl ?_
          refine rx_iconst hE dX11_chord_24 (v := 1) (by decide) ?_
          refine rx_aload_n hE dX11_chord_25 (i := 0) rfl rfl ?_
          refine rx_getf hE dX11_chord_26 fl_X11_39_10 (kp_o hM) rfl ?_
          refine rx_iconst hE dX11_chord_29 (v := 3) (by decide) ?_
          refine rx_ialdN (i := 3) hE dX11_chord_30 (kp_10 hM) (by omega) (by decide) ?_
          refine rx_int _ _ kr_c2 ?_
          refine rx_ishl hE dX11_chord_31 ?_
          refine rx_int _ (nI (2 ^ jR J)) (by rw [show (j_s J 7 g) 9 2 = nI (jR J) from hf.1.1]; exact shl1 _ hr6) ?_
          refine rx_icmp_ge (tgt := 85) hE dX11_chord_32 (by decide) (fun c32 => ?_) (fun c32 => absurd (show nI (2 ^ jR J) ≤ nI m from nI_le (by omega) (by omega)) c32)
          exact fin b _ _ hb6 (by rw [← hF]; rfl)
        | succ n ih =>
          intro m b l4 hk2 hm0 hb6 hF
          refine rx_iload_n hE dX11_chord_23 (i := 3) rfl rfl ?_
          refine rx_iconst hE dX11_chord_24 (v := 1) (by decide) ?_
          refine rx_aload_n hE dX11_chord_25 (i := 0) rfl rfl ?_
          refine rx_getf hE dX11_chord_26 fl_X11_39_10 (kp_o hM) rfl ?_
          refine rx_iconst hE dX11_chord_29 (v := 3) (by decide) ?_
          refine rx_ialdN (i := 3) hE dX11_chord_30 (kp_10 hM) (by omega) (by decide) ?_
          refine rx_int _ _ kr_c2 ?_
          refine rx_ishl hE dX11_chord_31 ?_
          refine rx_int _ (nI (2 ^ jR J)) (by rw [show (j_s J 7 g) 9 2 = nI (jR J) from hf.1.1]; exact shl1 _ hr6) ?_
          refine rx_icmp_ge (tgt := 85) hE dX11_chord_32 (by decide) (fun c32 => absurd c32 (nI_ge (by omega) (by omega))) (fun c32 => ?_)
          refine rx_aload_n hE dX11_chord_35 (i := 0) rfl rfl ?_
          refine rx_iload_n hE dX11_chord_36 (i := 3) rfl rfl ?_
          refine rx_call0 (rx_callV (av := [.int (nI m)]) hE dX11_chord_37 lk_X11_337 (c_X11_soundOf (R := jR J) (pn := jP J) hM _ hf.1.1 hf.1.2.1 hf.1.2.2.1) (kp_o hM) np_X11_soundOf rfl rfl (by decide) (Nat.le_of_ble_eq_true rfl) rfl ?_)
          rintro v M' ⟨rfl, rfl⟩
          refine rx_aload_n hE dX11_chord_40 (i := 0) rfl rfl ?_
          refine rx_iload_n hE dX11_chord_41 (i := 2) rfl rfl ?_
          refine rx_call0 (rx_callV (av := [.int (nI b)]) hE dX11_chord_42 lk_X11_337 (c_X11_soundOf (R := jR J) (pn := jP J) hM _ hf.1.1 hf.1.2.1 hf.1.2.2.1) (kp_o hM) np_X11_soundOf rfl rfl (by decide) (Nat.le_of_ble_eq_true rfl) rfl ?_)
          rintro v M' ⟨rfl, rfl⟩
          refine rx_isub hE dX11_chord_45 ?_
          refine rx_istore_4 hE dX11_chord_46 (by decide) rfl ?_
          refine rx_aload_n hE dX11_chord_48 (i := 0) rfl rfl ?_
          refine rx_iload_n hE dX11_chord_49 (i := 3) rfl rfl ?_
          refine rx_call0 (rx_callV (av := [.int (nI m)]) hE dX11_chord_50 lk_X11_385 (c_X11_isPeace (R := jR J) hM _ hf.1.1 hf.1.2.1) (kp_o hM) np_X11_isPeace rfl rfl (by decide) (Nat.le_of_ble_eq_true rfl) rfl ?_)
          rintro v M' ⟨rfl, rfl⟩
          refine rx_int _ (jpcF J (nI m) 0 (jR J)) (jpcF_s7 _ _ _ _ _) ?_
          refine rx_if_eq (tgt := 79) hE dX11_chord_53 (by decide) (fun c53 => ?_) (fun c53 => ?_)
          · refine rx_iinc_3 hE dX11_chord_79 (v := 1) (by decide) (by decide) rfl ?_
            rw [nI_1]
            refine rx_goto (tgt := 23) hE dX11_chord_82 (by decide) ?_
            exact ih (m + 1) b _ (by omega) (by omega) (by omega) (by rw [← hF]; show _ = qchF J (m + 1) n (qch1 J m b); unfold qch1; rw [if_neg (fun q => q.1 c53)])
          · refine rx_iload hE dX11_chord_56 rfl ?_
            refine rx_if_gt (tgt := 77) hE dX11_chord_58 (by decide) (fun c58 => ?_) (fun c58 => ?_)
            · refine rx_iload_n hE dX11_chord_77 (i := 3) rfl rfl ?_
              refine rx_istore_n_2 hE dX11_chord_78 (by decide) rfl ?_
              refine rx_iinc_3 hE dX11_chord_79 (v := 1) (by decide) (by decide) rfl ?_
              rw [nI_1]
              refine rx_goto (tgt := 23) hE dX11_chord_82 (by decide) ?_
              exact ih (m + 1) m _ (by omega) (by omega) (by omega) (by rw [← hF]; show _ = qchF J (m + 1) n (qch1 J m b); unfold qch1; rw [if_pos ⟨c53, Or.inl c58⟩])
            · refine rx_iload hE dX11_chord_61 rfl ?_
              refine rx_if_ne (tgt := 79) hE dX11_chord_63 (by decide) (fun c63 => ?_) (fun c63 => ?_)
              · refine rx_iinc_3 hE dX11_chord_79 (v := 1) (by decide) (by decide) rfl ?_
                rw [nI_1]
                refine rx_goto (tgt := 23) hE dX11_chord_82 (by decide) ?_
                exact ih (m + 1) b _ (by omega) (by omega) (by omega) (by rw [← hF]; show _ = qchF J (m + 1) n (qch1 J m b); unfold qch1; rw [if_neg (fun q => q.2.elim c58 (fun z => c63 z.1))])
              · refine rx_iload_n hE dX11_chord_66 (i := 3) rfl rfl ?_
                refine rx_call0 (rx_callS (av := [.int (nI m)]) hE dX11_chord_67 lk_X11_334 (c_X11_bits (m := m) (by omega)) np_X11_bits rfl rfl (by decide) (Nat.le_of_ble_eq_true rfl) rfl ?_)
                rintro v M' ⟨rfl, rfl⟩
                refine rx_iload_n hE dX11_chord_70 (i := 2) rfl rfl ?_
                refine rx_call0 (rx_callS (av := [.int (nI b)]) hE dX11_chord_71 lk_X11_334 (c_X11_bits (m := b) (by omega)) np_X11_bits rfl rfl (by decide) (Nat.le_of_ble_eq_true rfl) rfl ?_)
                rintro v M' ⟨rfl, rfl⟩
                refine rx_icmp_ge (tgt := 79) hE dX11_chord_74 (by decide) (fun c74 => ?_) (fun c74 => ?_)
                · refine rx_iinc_3 hE dX11_chord_79 (v := 1) (by decide) (by decide) rfl ?_
                  rw [nI_1]
                  refine rx_goto (tgt := 23) hE dX11_chord_82 (by decide) ?_
                  exact ih (m + 1) b _ (by omega) (by omega) (by omega) (by rw [← hF]; show _ = qchF J (m + 1) n (qch1 J m b); unfold qch1; rw [if_neg (fun q => q.2.elim c58 (fun z => z.2 c74))])
                · refine rx_iload_n hE dX11_chord_77 (i := 3) rfl rfl ?_
                  refine rx_istore_n_2 hE dX11_chord_78 (by decide) rfl ?_
                  refine rx_iinc_3 hE dX11_chord_79 (v := 1) (by decide) (by decide) rfl ?_
                  rw [nI_1]
                  refine rx_goto (tgt := 23) hE dX11_chord_82 (by decide) ?_
                  exact ih (m + 1) m _ (by omega) (by omega) (by omega) (by rw [← hF]; show _ = qchF J (m + 1) n (qch1 J m b); unfold qch1; rw [if_pos ⟨c53, Or.inr ⟨c63, c74⟩⟩])
      refine rx_iconst hE dX11_chord_19 (v := 0) (by decide) ?_
      refine rx_istore_n_2 hE dX11_chord_20 (by decide) rfl ?_
      refine rx_iconst hE dX11_chord_21 (v := 1) (by decide) ?_
      refine rx_istore_n_3 hE dX11_chord_22 (by decide) rfl ?_
      exact loop (2 ^ jR J - 1) 1 0 _ (by omega) (by decide) (by decide) rfl
    · refine rx_iconst hE dX11_chord_17 (v := -1) (by decide) ?_
      exact rx_iret hE hQ rfl dX11_chord_18 ⟨by simp [q_chord, *], kD.refl M S L J g⟩
def q_rem (x y : Int32) : Int32 := x - x / y * y
def qpe1 (J : gJn) (much all own : Int32) (r k : Nat) (s : g2) : g2 := (s.1 - much * J 5 k / all, s.2 + (if q_rem own all < q_rem (much * J 5 k) all ∨ (q_rem (much * J 5 k) all = q_rem own all ∧ ¬ nI r ≤ nI k) then 1 else 0))
def qpeF (J : gJn) (much all own : Int32) (r : Nat) : Nat → Nat → g2 → g2
  | _, 0, s => s
  | k, n + 1, s => qpeF J much all own r (k + 1) n (qpe1 J much all own r k s)
def qpeE (J : gJn) (much all own : Int32) (r R : Nat) : Int32 := own / all + (if (qpeF J much all own r 0 R (much, 0)).1 ≤ (qpeF J much all own r 0 R (much, 0)).2 then 0 else 1)
def q_pence (J : gJn) (much road : Int32) : Int32 := if j_hasRoad J road = 0 ∨ q_in much 0 9999 = 0 then -1 else if jsum (J 5) (jR J) = 0 then 0 else qpeE J much (jsum (J 5) (jR J)) (much * J 5 road.toNatClampNeg) road.toNatClampNeg (jR J)
set_option maxRecDepth 100000 in
set_option maxHeartbeats 4000000 in
theorem c_X11_pence {M : gM} {S : gS} {L : gLg} {J : gJn} {g : Nat → Int32} (hM : 408 ≤ M.1) {t : gJn → Nat → Int32 → Bool} (hk : kok S J t) (much road : Int32) : SX 2 0 0 mX11_pence [.ref 384, .int much, .int road] (kp M (kput S (j_s J 7 g)) L) (fun v M' => v = some (.int (q_pence J much road)) ∧ kD M S J M') := by
  refine SX.intro [some (.ref 384), some (.int much), some (.int road), none, none, none, none, none, none] (by decide +kernel) (Nat.le_of_ble_eq_true rfl) rfl (fun E hE hQ => ?_)
  refine rx_aload_n hE dX11_pence_0 (i := 0) rfl rfl ?_
  refine rx_iload_n hE dX11_pence_1 (i := 2) rfl rfl ?_
  refine rx_call0 (rx_callV (av := [.int _]) hE dX11_pence_2 lk_X11_309 (c_X11_isRoad hM _) (kp_o hM) np_X11_isRoad rfl rfl (by decide) (Nat.le_of_ble_eq_true rfl) rfl ?_)
  rintro v M' ⟨rfl, rfl⟩
  refine rx_int _ (j_hasRoad J _) rfl ?_
  refine rx_if_eq (tgt := 20) hE dX11_pence_5 (by decide) (fun c5 => ?_) (fun c5 => ?_)
  · refine rx_iconst hE dX11_pence_20 (v := -1) (by decide) ?_
    exact rx_iret hE hQ rfl dX11_pence_21 ⟨by simp [q_pence, *], kD.refl M S L J g⟩
  · refine rx_iload_n hE dX11_pence_8 (i := 1) rfl rfl ?_
    refine rx_i2l hE dX11_pence_9 ?_
    refine rx_lconst hE dX11_pence_10 (v := 0) (by decide) ?_
    refine rx_ldc2 hE dX11_pence_11 kl_X11_441 ?_
    refine rx_call0 (rx_callS (av := [.long _, .long _, .long _]) hE dX11_pence_14 lk_X11_130 (c_X11_in _ _ _) np_X11_in rfl rfl (by decide) (Nat.le_of_ble_eq_true rfl) rfl ?_)
    rintro v M' ⟨rfl, rfl⟩
    refine rx_int _ (q_in _ (0) (9999)) (k_in_eq _ _ _ (by decide) (by decide)) ?_
    refine rx_if_ne (tgt := 22) hE dX11_pence_17 (by decide) (fun c17 => ?_) (fun c17 => ?_)
    · have hg : ¬ (j_hasRoad J road = 0 ∨ q_in much 0 9999 = 0) := by simp [*]
      obtain ⟨hb, hf, hT9, r, hr, rfl⟩ := hk.road c5
      have hr6 := hf.1.2.1
      refine rx_aload_n hE dX11_pence_22 (i := 0) rfl rfl ?_
      refine rx_iconst hE dX11_pence_23 (v := 3) (by decide) ?_
      refine rx_call0 (rx_callV (av := [.int 3]) hE dX11_pence_24 lk_X11_340 (c_X11_sumOver (m := 3) (R := jR J) hM hf.1.1 hf.1.2.1 (by decide)) (kp_o hM) np_X11_sumOver rfl rfl (by decide) (Nat.le_of_ble_eq_true rfl) rfl ?_)
      rintro v M' ⟨rfl, rfl⟩
      refine rx_int _ (jsum (J 5) (jR J)) rfl ?_
      refine rx_istore_n_3 hE dX11_pence_27 (by decide) rfl ?_
      refine rx_iload_n hE dX11_pence_28 (i := 3) rfl rfl ?_
      refine rx_if_ne (tgt := 34) hE dX11_pence_29 (by decide) (fun c29 => ?_) (fun c29 => ?_)
      · obtain ⟨all, hal⟩ : ∃ all, all = jsum (J 5) (jR J) := ⟨_, rfl⟩
        obtain ⟨own, how⟩ : ∃ own, own = much * J 5 r := ⟨_, rfl⟩
        have hall : ¬ all = 0 := by rw [hal]; exact c29
        have hv : q_pence J much (nI r) = qpeE J much all own r (jR J) := by unfold q_pence; rw [if_neg hg, if_neg c29, nI_clamp (n := r) (by omega), hal, how]
        have fin : ∀ (s : g2) (x : Int32) (l8 : Option Value), s = qpeF J much all own r 0 (jR J) (much, 0) → RX E mX11_pence.2.2.1 0 0 126 [some (.ref 384), some (.int much), some (.int (nI r)), some (.int all), some (.int own), some (.int s.1), some (.int s.2), some (.int x), l8] [] (kp M (kput S (j_s J 7 g)) L) := by
          intro s x l8 hF
          refine rx_iload hE dX11_pence_126 rfl ?_
          refine rx_iload_n hE dX11_pence_128 (i := 3) rfl rfl ?_
          refine rx_idiv hE dX11_pence_129 hall ?_
          refine rx_iload hE dX11_pence_130 rfl ?_
          refine rx_iload hE dX11_pence_132 rfl ?_
          refine rx_icmp_ge (tgt := 141) hE dX11_pence_134 (by decide) (fun c134 => ?_) (fun c134 => ?_)
          · refine rx_iconst hE dX11_pence_141 (v := 0) (by decide) ?_
            refine rx_iadd hE dX11_pence_142 ?_
            exact rx_iret hE hQ rfl dX11_pence_143 ⟨by rw [hv]; unfold qpeE; (first | rw [← hF, if_pos c134] | rw [← hF, if_neg c134]), kD.refl M S L J g⟩
          · refine rx_iconst hE dX11_pence_137 (v := 1) (by decide) ?_
            refine rx_goto (tgt := 142) hE dX11_pence_138 (by decide) ?_
            refine rx_iadd hE dX11_pence_142 ?_
            exact rx_iret hE hQ rfl dX11_pence_143 ⟨by rw [hv]; unfold qpeE; (first | rw [← hF, if_pos c134] | rw [← hF, if_neg c134]), kD.refl M S L J g⟩
        have loop : ∀ (n k : Nat) (s : g2) (l8 : Option Value), k + n = jR J → qpeF J much all own r k n s = qpeF J much all own r 0 (jR J) (much, 0) → RX E mX11_pence.2.2.1 0 0 52 [some (.ref 384), some (.int much), some (.int (nI r)), some (.int all), some (.int own), some (.int s.1), some (.int s.2), some (.int (nI k)), l8] [] (kp M (kput S (j_s J 7 g)) L) := by
          intro n
          induction n with
          | zero =>
            intro k s l8 hk2 hF
            refine rx_iload hE dX11_pence_52 rfl ?_
            refine rx_aload_n hE dX11_pence_54 (i := 0) rfl rfl ?_
            refine rx_getf hE dX11_pence_55 fl_X11_39_10 (kp_o hM) rfl ?_
            refine rx_iconst hE dX11_pence_58 (v := 3) (by decide) ?_
            refine rx_ialdN (i := 3) hE dX11_pence_59 (kp_10 hM) (by omega) (by decide) ?_
            refine rx_int _ _ kr_c2 ?_
            refine rx_icmp_ge (tgt := 126) hE dX11_pence_60 (by decide) (fun c60 => ?_) (fun c60 => absurd (show J 9 2 ≤ nI k from by rw [hf.1.1]; exact nI_le (by omega) (by omega)) c60)
            exact fin s _ _ (by rw [← hF]; rfl)
          | succ n ih =>
            intro k s l8 hk2 hF
            refine rx_iload hE dX11_pence_52 rfl ?_
            refine rx_aload_n hE dX11_pence_54 (i := 0) rfl rfl ?_
            refine rx_getf hE dX11_pence_55 fl_X11_39_10 (kp_o hM) rfl ?_
            refine rx_iconst hE dX11_pence_58 (v := 3) (by decide) ?_
            refine rx_ialdN (i := 3) hE dX11_pence_59 (kp_10 hM) (by omega) (by decide) ?_
            refine rx_int _ _ kr_c2 ?_
            refine rx_icmp_ge (tgt := 126) hE dX11_pence_60 (by decide) (fun c60 => absurd (show nI (jR J) ≤ nI k from by rw [← hf.1.1]; exact c60) (nI_ge (by omega) (by omega))) (fun c60 => ?_)
            refine rx_iload_n hE dX11_pence_63 (i := 1) rfl rfl ?_
            refine rx_aload_n hE dX11_pence_64 (i := 0) rfl rfl ?_
            refine rx_iload hE dX11_pence_65 rfl ?_
            refine rx_call0 (rx_callV (av := [.int (nI k)]) hE dX11_pence_67 lk_X11_318 (c_X11_waitedOn hM (r := k) (by omega)) (kp_o hM) np_X11_waitedOn rfl rfl (by decide) (Nat.le_of_ble_eq_true rfl) rfl ?_)
            rintro v M' ⟨rfl, rfl⟩
            refine rx_int _ (J 5 k) rfl ?_
            refine rx_imul hE dX11_pence_70 ?_
            refine rx_istore_8 hE dX11_pence_71 (by decide) rfl ?_
            refine rx_iload hE dX11_pence_73 rfl ?_
            refine rx_iload hE dX11_pence_75 rfl ?_
            refine rx_iload_n hE dX11_pence_77 (i := 3) rfl rfl ?_
            refine rx_idiv hE dX11_pence_78 hall ?_
            refine rx_isub hE dX11_pence_79 ?_
            refine rx_istore_5 hE dX11_pence_80 (by decide) rfl ?_
            refine rx_iload hE dX11_pence_82 rfl ?_
            refine rx_iload hE dX11_pence_84 rfl ?_
            refine rx_iload_n hE dX11_pence_86 (i := 3) rfl rfl ?_
            refine rx_irem hE dX11_pence_87 hall ?_
            refine rx_iload hE dX11_pence_88 rfl ?_
            refine rx_iload_n hE dX11_pence_90 (i := 3) rfl rfl ?_
            refine rx_irem hE dX11_pence_91 hall ?_
            refine rx_icmp_gt (tgt := 112) hE dX11_pence_92 (by decide) (fun c92 => ?_) (fun c92 => ?_)
            · refine rx_iconst hE dX11_pence_112 (v := 1) (by decide) ?_
              refine rx_goto (tgt := 117) hE dX11_pence_113 (by decide) ?_
              refine rx_iadd hE dX11_pence_117 ?_
              refine rx_int _ (qpe1 J much all own r k s).2 (by unfold qpe1 q_rem; show _ = s.2 + (if _ then _ else _); rw [if_pos (Or.inl c92)]) ?_
              refine rx_istore_6 hE dX11_pence_118 (by decide) rfl ?_
              refine rx_iinc_7 hE dX11_pence_120 (v := 1) (by decide) (by decide) rfl ?_
              rw [nI_1]
              refine rx_goto (tgt := 52) hE dX11_pence_123 (by decide) ?_
              exact ih (k + 1) (qpe1 J much all own r k s) _ (by omega) (by rw [← hF]; rfl)
            · refine rx_iload hE dX11_pence_95 rfl ?_
              refine rx_iload_n hE dX11_pence_97 (i := 3) rfl rfl ?_
              refine rx_irem hE dX11_pence_98 hall ?_
              refine rx_iload hE dX11_pence_99 rfl ?_
              refine rx_iload_n hE dX11_pence_101 (i := 3) rfl rfl ?_
              refine rx_irem hE dX11_pence_102 hall ?_
              refine rx_icmp_ne (tgt := 116) hE dX11_pence_103 (by decide) (fun c103 => ?_) (fun c103 => ?_)
              · refine rx_iconst hE dX11_pence_116 (v := 0) (by decide) ?_
                refine rx_iadd hE dX11_pence_117 ?_
                refine rx_int _ (qpe1 J much all own r k s).2 (by unfold qpe1 q_rem; show _ = s.2 + (if _ then _ else _); rw [if_neg (fun q => q.elim c92 (fun z => c103 z.1))]) ?_
                refine rx_istore_6 hE dX11_pence_118 (by decide) rfl ?_
                refine rx_iinc_7 hE dX11_pence_120 (v := 1) (by decide) (by decide) rfl ?_
                rw [nI_1]
                refine rx_goto (tgt := 52) hE dX11_pence_123 (by decide) ?_
                exact ih (k + 1) (qpe1 J much all own r k s) _ (by omega) (by rw [← hF]; rfl)
              · refine rx_iload hE dX11_pence_106 rfl ?_
                refine rx_iload_n hE dX11_pence_108 (i := 2) rfl rfl ?_
                refine rx_icmp_ge (tgt := 116) hE dX11_pence_109 (by decide) (fun c109 => ?_) (fun c109 => ?_)
                · refine rx_iconst hE dX11_pence_116 (v := 0) (by decide) ?_
                  refine rx_iadd hE dX11_pence_117 ?_
                  refine rx_int _ (qpe1 J much all own r k s).2 (by unfold qpe1 q_rem; show _ = s.2 + (if _ then _ else _); rw [if_neg (fun q => q.elim c92 (fun z => z.2 c109))]) ?_
                  refine rx_istore_6 hE dX11_pence_118 (by decide) rfl ?_
                  refine rx_iinc_7 hE dX11_pence_120 (v := 1) (by decide) (by decide) rfl ?_
                  rw [nI_1]
                  refine rx_goto (tgt := 52) hE dX11_pence_123 (by decide) ?_
                  exact ih (k + 1) (qpe1 J much all own r k s) _ (by omega) (by rw [← hF]; rfl)
                · refine rx_iconst hE dX11_pence_112 (v := 1) (by decide) ?_
                  refine rx_goto (tgt := 117) hE dX11_pence_113 (by decide) ?_
                  refine rx_iadd hE dX11_pence_117 ?_
                  refine rx_int _ (qpe1 J much all own r k s).2 (by unfold qpe1 q_rem; show _ = s.2 + (if _ then _ else _); rw [if_pos (Or.inr ⟨c103, c109⟩)]) ?_
                  refine rx_istore_6 hE dX11_pence_118 (by decide) rfl ?_
                  refine rx_iinc_7 hE dX11_pence_120 (v := 1) (by decide) (by decide) rfl ?_
                  rw [nI_1]
                  refine rx_goto (tgt := 52) hE dX11_pence_123 (by decide) ?_
                  exact ih (k + 1) (qpe1 J much all own r k s) _ (by omega) (by rw [← hF]; rfl)
        refine rx_iload_n hE dX11_pence_34 (i := 1) rfl rfl ?_
        refine rx_aload_n hE dX11_pence_35 (i := 0) rfl rfl ?_
        refine rx_iload_n hE dX11_pence_36 (i := 2) rfl rfl ?_
        refine rx_call0 (rx_callV (av := [.int (nI r)]) hE dX11_pence_37 lk_X11_318 (c_X11_waitedOn hM (r := r) (by omega)) (kp_o hM) np_X11_waitedOn rfl rfl (by decide) (Nat.le_of_ble_eq_true rfl) rfl ?_)
        rintro v M' ⟨rfl, rfl⟩
        refine rx_int _ (J 5 r) rfl ?_
        refine rx_imul hE dX11_pence_40 ?_
        refine rx_istore_4 hE dX11_pence_41 (by decide) rfl ?_
        refine rx_iload_n hE dX11_pence_43 (i := 1) rfl rfl ?_
        refine rx_istore_5 hE dX11_pence_44 (by decide) rfl ?_
        refine rx_iconst hE dX11_pence_46 (v := 0) (by decide) ?_
        refine rx_istore_6 hE dX11_pence_47 (by decide) rfl ?_
        refine rx_iconst hE dX11_pence_49 (v := 0) (by decide) ?_
        refine rx_istore_7 hE dX11_pence_50 (by decide) rfl ?_
        rw [← hal, ← how]
        exact loop (jR J) 0 (much, 0) _ (by omega) rfl
      · refine rx_iconst hE dX11_pence_32 (v := 0) (by decide) ?_
        exact rx_iret hE hQ rfl dX11_pence_33 ⟨by unfold q_pence; rw [if_neg hg, if_pos c29], kD.refl M S L J g⟩
    · refine rx_iconst hE dX11_pence_20 (v := -1) (by decide) ?_
      exact rx_iret hE hQ rfl dX11_pence_21 ⟨by simp [q_pence, *], kD.refl M S L J g⟩
