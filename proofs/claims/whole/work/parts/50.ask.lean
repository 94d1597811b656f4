def qrsF (p q : Nat → Int32) : Nat → g2 → g2
  | 0, s => s
  | n + 1, s => qrsF p q n (if qreF p q (n / 5) (n % 5) 0 5 = 0 then s else (s.1 + 1, nI n))
def q_rests (t : gJn → Nat → Int32 → Bool) (J : gJn) (one other n what : Int32) : Int32 := if j_hasRoad J one = 0 ∨ j_hasRoad J other = 0 ∨ one = other ∨ q_in n 1 20 = 0 ∨ q_in what 0 2 = 0 then -1 else
  let s := qrsF (qhb t J n.toNatClampNeg one.toNatClampNeg other.toNatClampNeg one.toNatClampNeg) (qhb t J n.toNatClampNeg one.toNatClampNeg other.toNatClampNeg other.toNatClampNeg) 25 (0, -1)
  if what = 0 then s.1 else if 0 ≤ s.2 then (if what = 1 then 1 + 2 * (s.2 / 5) else 1 + 2 * q_rem s.2 5) else -2
set_option maxRecDepth 100000 in
set_option maxHeartbeats 4000000 in
theorem c_X11_rests {M : gM} {S : gS} {L : gLg} {J : gJn} {g : Nat → Int32} (hM : 408 ≤ M.1) {t : gJn → Nat → Int32 → Bool} (hk : kok S J t) (one other n what : Int32) : SX 9 0 0 mX11_rests [.ref 384, .int one, .int other, .int n, .int what] (kp M (kput S (j_s J 7 g)) L) (fun v M' => v = some (.int (q_rests t J one other n what)) ∧ kD M S J M') := by
  refine SX.intro [some (.ref 384), some (.int one), some (.int other), some (.int n), some (.int what), none, none, none] (by decide +kernel) (Nat.le_of_ble_eq_true rfl) rfl (fun E hE hQ => ?_)
  refine rx_aload_n hE dX11_rests_0 (i := 0) rfl rfl ?_
  refine rx_iload_n hE dX11_rests_1 (i := 1) rfl rfl ?_
  refine rx_call0 (rx_callV (av := [.int _]) hE dX11_rests_2 lk_X11_309 (c_X11_isRoad hM _) (kp_o hM) np_X11_isRoad rfl rfl (by decide) (Nat.le_of_ble_eq_true rfl) rfl ?_)
  rintro v M' ⟨rfl, rfl⟩
  refine rx_int _ (j_hasRoad J _) rfl ?_
  refine rx_if_eq (tgt := 46) hE dX11_rests_5 (by decide) (fun c5 => ?_) (fun c5 => ?_)
  · refine rx_iconst hE dX11_rests_46 (v := -1) (by decide) ?_
    exact rx_iret hE hQ rfl dX11_rests_47 ⟨by simp [q_rests, *], kD.refl M S L J g⟩
  · refine rx_aload_n hE dX11_rests_8 (i := 0) rfl rfl ?_
    refine rx_iload_n hE dX11_rests_9 (i := 2) rfl rfl ?_
    refine rx_call0 (rx_callV (av := [.int _]) hE dX11_rests_10 lk_X11_309 (c_X11_isRoad hM _) (kp_o hM) np_X11_isRoad rfl rfl (by decide) (Nat.le_of_ble_eq_true rfl) rfl ?_)
    rintro v M' ⟨rfl, rfl⟩
    refine rx_int _ (j_hasRoad J _) rfl ?_
    refine rx_if_eq (tgt := 46) hE dX11_rests_13 (by decide) (fun c13 => ?_) (fun c13 => ?_)
    · refine rx_iconst hE dX11_rests_46 (v := -1) (by decide) ?_
      exact rx_iret hE hQ rfl dX11_rests_47 ⟨by simp [q_rests, *], kD.refl M S L J g⟩
    · refine rx_iload_n hE dX11_rests_16 (i := 1) rfl rfl ?_
      refine rx_iload_n hE dX11_rests_17 (i := 2) rfl rfl ?_
      refine rx_icmp_eq (tgt := 46) hE dX11_rests_18 (by decide) (fun c18 => ?_) (fun c18 => ?_)
      · refine rx_iconst hE dX11_rests_46 (v := -1) (by decide) ?_
        exact rx_iret hE hQ rfl dX11_rests_47 ⟨by simp [q_rests, *], kD.refl M S L J g⟩
      · refine rx_iload_n hE dX11_rests_21 (i := 3) rfl rfl ?_
        refine rx_i2l hE dX11_rests_22 ?_
        refine rx_lconst hE dX11_rests_23 (v := 1) (by decide) ?_
        refine rx_ldc2 hE dX11_rests_24 kl_X11_368 ?_
        refine rx_call0 (rx_callS (av := [.long _, .long _, .long _]) hE dX11_rests_27 lk_X11_130 (c_X11_in _ _ _) np_X11_in rfl rfl (by decide) (Nat.le_of_ble_eq_true rfl) rfl ?_)
        rintro v M' ⟨rfl, rfl⟩
        refine rx_int _ (q_in _ (1) (20)) (k_in_eq _ _ _ (by decide) (by decide)) ?_
        refine rx_if_eq (tgt := 46) hE dX11_rests_30 (by decide) (fun c30 => ?_) (fun c30 => ?_)
        · refine rx_iconst hE dX11_rests_46 (v := -1) (by decide) ?_
          exact rx_iret hE hQ rfl dX11_rests_47 ⟨by simp [q_rests, *], kD.refl M S L J g⟩
        · refine rx_iload hE dX11_rests_33 rfl ?_
          refine rx_i2l hE dX11_rests_35 ?_
          refine rx_lconst hE dX11_rests_36 (v := 0) (by decide) ?_
          refine rx_ldc2 hE dX11_rests_37 kl_X11_374 ?_
          refine rx_call0 (rx_callS (av := [.long _, .long _, .long _]) hE dX11_rests_40 lk_X11_130 (c_X11_in _ _ _) np_X11_in rfl rfl (by decide) (Nat.le_of_ble_eq_true rfl) rfl ?_)
          rintro v M' ⟨rfl, rfl⟩
          refine rx_int _ (q_in _ (0) (2)) (k_in_eq _ _ _ (by decide) (by decide)) ?_
          refine rx_if_ne (tgt := 48) hE dX11_rests_43 (by decide) (fun c43 => ?_) (fun c43 => ?_)
          · have hg : ¬ (j_hasRoad J one = 0 ∨ j_hasRoad J other = 0 ∨ one = other ∨ q_in n 1 20 = 0 ∨ q_in what 0 2 = 0) := by simp [*]
            obtain ⟨hb, hf, hT9, a, ha, rfl⟩ := hk.road c5
            obtain ⟨_, _, _, b, hbr, rfl⟩ := hk.road c13
            obtain ⟨N, hN0, hN, rfl⟩ := q_in_of (a := 1) (b := 20) (by decide) c30
            have hr6 := hf.1.2.1
            have hab : a ≠ b := fun q => c18 (by rw [q])
            refine rx_aload_n hE dX11_rests_48 (i := 0) rfl rfl ?_
            refine rx_iload_n hE dX11_rests_49 (i := 1) rfl rfl ?_
            refine rx_iload_n hE dX11_rests_50 (i := 2) rfl rfl ?_
            refine rx_iload_n hE dX11_rests_51 (i := 3) rfl rfl ?_
            refine rx_call0 (rx_callV (av := [.int (nI a), .int (nI b), .int (nI N)]) hE dX11_rests_52 lk_X11_431 (c_X11_fillsRests hM hb hf hT9 hN (by omega) (by omega) hab) (kp_o hM) np_X11_fillsRests rfl rfl (by decide) (Nat.le_of_ble_eq_true rfl) rfl ?_)
            rintro v M' ⟨rfl, S', L', g', rfl, hz', hH⟩
            have hz := hz'.2.2
            have fin : ∀ (s : g2) (x : Int32), s = qrsF (qhb t J N a b a) (qhb t J N a b b) 25 (0, -1) → RX E mX11_rests.2.2.1 0 0 101 [some (.ref 384), some (.int (nI a)), some (.int (nI b)), some (.int (nI N)), some (.int what), some (.int s.1), some (.int s.2), some (.int x)] [] (kp M (kput S' (j_s J 7 g')) L') := by
              intro s x hs
              have hv : q_rests t J (nI a) (nI b) (nI N) what = if what = 0 then s.1 else if 0 ≤ s.2 then (if what = 1 then 1 + 2 * (s.2 / 5) else 1 + 2 * q_rem s.2 5) else -2 := by rw [hs]; unfold q_rests; rw [if_neg hg, nI_clamp (n := a) (by omega), nI_clamp (n := b) (by omega), nI_clamp (n := N) (by omega)]
              refine rx_iload hE dX11_rests_101 rfl ?_
              refine rx_if_ne (tgt := 109) hE dX11_rests_103 (by decide) (fun c103 => ?_) (fun c103 => ?_)
              · refine rx_iload hE dX11_rests_109 rfl ?_
                refine rx_if_ge (tgt := 119) hE dX11_rests_111 (by decide) (fun c111 => ?_) (fun c111 => ?_)
                · refine rx_iload hE dX11_rests_119 rfl ?_
                  refine rx_iconst hE dX11_rests_121 (v := 1) (by decide) ?_
                  refine rx_icmp_ne (tgt := 136) hE dX11_rests_122 (by decide) (fun c122 => ?_) (fun c122 => ?_)
                  · refine rx_iconst hE dX11_rests_136 (v := 1) (by decide) ?_
                    refine rx_iconst hE dX11_rests_137 (v := 2) (by decide) ?_
                    refine rx_iload hE dX11_rests_138 rfl ?_
                    refine rx_iconst hE dX11_rests_140 (v := 5) (by decide) ?_
                    refine rx_irem hE dX11_rests_141 (by decide) ?_
                    refine rx_imul hE dX11_rests_142 ?_
                    refine rx_iadd hE dX11_rests_143 ?_
                    exact rx_iret hE hQ rfl dX11_rests_144 ⟨by rw [hv, if_neg c103, if_pos c111, if_neg c122]; rfl, S', L', g', rfl, hz⟩
                  · refine rx_iconst hE dX11_rests_125 (v := 1) (by decide) ?_
                    refine rx_iconst hE dX11_rests_126 (v := 2) (by decide) ?_
                    refine rx_iload hE dX11_rests_127 rfl ?_
                    refine rx_iconst hE dX11_rests_129 (v := 5) (by decide) ?_
                    refine rx_idiv hE dX11_rests_130 (by decide) ?_
                    refine rx_imul hE dX11_rests_131 ?_
                    refine rx_iadd hE dX11_rests_132 ?_
                    refine rx_goto (tgt := 144) hE dX11_rests_133 (by decide) ?_
                    exact rx_iret hE hQ rfl dX11_rests_144 ⟨by rw [hv, if_neg c103, if_pos c111, if_pos c122], S', L', g', rfl, hz⟩
                · refine rx_bipush hE dX11_rests_114 (v := -2) (by decide) ?_
                  refine rx_goto (tgt := 144) hE dX11_rests_116 (by decide) ?_
                  exact rx_iret hE hQ rfl dX11_rests_144 ⟨by rw [hv, if_neg c103, if_neg c111], S', L', g', rfl, hz⟩
              · refine rx_iload hE dX11_rests_106 rfl ?_
                exact rx_iret hE hQ rfl dX11_rests_108 ⟨by rw [hv, if_pos c103], S', L', g', rfl, hz⟩
            have loop : ∀ (n : Nat) (s : g2), n ≤ 25 → qrsF (qhb t J N a b a) (qhb t J N a b b) n s = qrsF (qhb t J N a b a) (qhb t J N a b b) 25 (0, -1) → RX E mX11_rests.2.2.1 0 0 65 [some (.ref 384), some (.int (nI a)), some (.int (nI b)), some (.int (nI N)), some (.int what), some (.int s.1), some (.int s.2), some (.int (nI n + (-1)))] [] (kp M (kput S' (j_s J 7 g')) L') := by
              intro n
              induction n with
              | zero =>
                intro s hn hF
                refine rx_iload hE dX11_rests_65 rfl ?_
                refine rx_if_lt (tgt := 101) hE dX11_rests_67 (by decide) (fun c67 => ?_) (fun c67 => absurd (by decide) c67)
                exact fin s _ (by rw [← hF]; rfl)
              | succ n ih =>
                intro s hn hF
                rw [pk_m1]
                refine rx_iload hE dX11_rests_65 rfl ?_
                refine rx_if_lt (tgt := 101) hE dX11_rests_67 (by decide) (fun c67 => absurd c67 (nI_pos (by omega))) (fun c67 => ?_)
                refine rx_aload_n hE dX11_rests_70 (i := 0) rfl rfl ?_
                refine rx_iload hE dX11_rests_71 rfl ?_
                refine rx_iconst hE dX11_rests_73 (v := 5) (by decide) ?_
                refine rx_idiv hE dX11_rests_74 (by decide) ?_
                refine rx_int _ (nI (n / 5)) (pk_div (by omega) (by decide) (by decide)) ?_
                refine rx_iload hE dX11_rests_75 rfl ?_
                refine rx_iconst hE dX11_rests_77 (v := 5) (by decide) ?_
                refine rx_irem hE dX11_rests_78 (by decide) ?_
                refine rx_int _ (nI (n % 5)) (pk_rem (by omega) (by decide) (by decide)) ?_
                refine rx_call0 (rx_callV (av := [.int (nI (n / 5)), .int (nI (n % 5))]) hE dX11_rests_79 lk_X11_435 (c_X11_isRest hM (a := n / 5) (b := n % 5) (by omega) (by omega)) (kp_o hM) np_X11_isRest rfl rfl (by decide) (Nat.le_of_ble_eq_true rfl) rfl ?_)
                rintro v M' ⟨rfl, rfl⟩
                refine rx_int _ (qreF (qhb t J N a b a) (qhb t J N a b b) (n / 5) (n % 5) 0 5) (qreF_congr (by omega) (by omega) (fun c hc => (hH c hc).1) (fun c hc => (hH c hc).2) 5 0 (by omega)) ?_
                refine rx_if_ne (tgt := 88) hE dX11_rests_82 (by decide) (fun c82 => ?_) (fun c82 => ?_)
                · refine rx_iload hE dX11_rests_88 rfl ?_
                  refine rx_istore_6 hE dX11_rests_90 (by decide) rfl ?_
                  refine rx_iinc_5 hE dX11_rests_92 (v := 1) (by decide) (by decide) rfl ?_
                  refine rx_iinc_7 hE dX11_rests_95 (v := -1) (by decide) (by decide) rfl ?_
                  refine rx_goto (tgt := 65) hE dX11_rests_98 (by decide) ?_
                  exact ih (s.1 + 1, nI n) (by omega) (by rw [← hF]; exact congrArg (qrsF (qhb t J N a b a) (qhb t J N a b b) n) (if_neg c82).symm)
                · refine rx_goto (tgt := 95) hE dX11_rests_85 (by decide) ?_
                  refine rx_iinc_7 hE dX11_rests_95 (v := -1) (by decide) (by decide) rfl ?_
                  refine rx_goto (tgt := 65) hE dX11_rests_98 (by decide) ?_
                  exact ih s (by omega) (by rw [← hF]; exact congrArg (qrsF (qhb t J N a b a) (qhb t J N a b b) n) (if_pos c82).symm)
            refine rx_iconst hE dX11_rests_55 (v := 0) (by decide) ?_
            refine rx_istore_5 hE dX11_rests_56 (by decide) rfl ?_
            refine rx_iconst hE dX11_rests_58 (v := -1) (by decide) ?_
            refine rx_istore_6 hE dX11_rests_59 (by decide) rfl ?_
            refine rx_bipush hE dX11_rests_61 (v := 24) (by decide) ?_
            refine rx_istore_7 hE dX11_rests_63 (by decide) rfl ?_
            exact loop 25 (0, -1) (by omega) rfl
          · refine rx_iconst hE dX11_rests_46 (v := -1) (by decide) ?_
            exact rx_iret hE hQ rfl dX11_rests_47 ⟨by simp [q_rests, *], kD.refl M S L J g⟩
def qfrF (b : Nat → Int32) (c : Int32) (r : Nat) : Nat → Nat → Int32
  | _, 0 => 1
  | k, n + 1 => if b k = b r ∧ jbit c k = 1 then 0 else qfrF b c r (k + 1) n
set_option maxRecDepth 100000 in
set_option maxHeartbeats 4000000 in
theorem c_X11_isFree {M : gM} {S : gS} {L : gLg} {J : gJn} (hM : 408 ≤ M.1) {r : Nat} (hr : r < 6) : SX 1 0 0 mX11_isFree [.ref 384, .int (nI r)] (kp M (kput S J) L) (fun v M' => v = some (.int (qfrF (S 14) (J 3 r) r 0 r)) ∧ M' = kp M (kput S J) L) := by
  refine SX.intro [some (.ref 384), some (.int (nI r)), none] (by decide +kernel) (Nat.le_of_ble_eq_true rfl) rfl (fun E hE hQ => ?_)
  have loop : ∀ (n k : Nat) , k + n = r → qfrF (S 14) (J 3 r) r k n = qfrF (S 14) (J 3 r) r 0 r → RX E mX11_isFree.2.2.1 0 0 2 [some (.ref 384), some (.int (nI r)), some (.int (nI k))] [] (kp M (kput S J) L) := by
    intro n
    induction n with
    | zero =>
      intro k hk2 hF
      refine rx_iload_n hE dX11_isFree_2 (i := 2) rfl rfl ?_
      refine rx_iload_n hE dX11_isFree_3 (i := 1) rfl rfl ?_
      refine rx_icmp_ge (tgt := 46) hE dX11_isFree_4 (by decide) (fun c4 => ?_) (fun c4 => absurd (show nI r ≤ nI k from nI_le (by omega) (by omega)) c4)
      refine rx_iconst hE dX11_isFree_46 (v := 1) (by decide) ?_
      exact rx_tret hE hQ rfl rfl dX11_isFree_47 ⟨by rw [← hF]; rfl, rfl⟩
    | succ n ih =>
      intro k hk2 hF
      refine rx_iload_n hE dX11_isFree_2 (i := 2) rfl rfl ?_
      refine rx_iload_n hE dX11_isFree_3 (i := 1) rfl rfl ?_
      refine rx_icmp_ge (tgt := 46) hE dX11_isFree_4 (by decide) (fun c4 => absurd c4 (nI_ge (a := k) (b := r) (by omega) (by omega))) (fun c4 => ?_)
      refine rx_aload_n hE dX11_isFree_7 (i := 0) rfl rfl ?_
      refine rx_getf hE dX11_isFree_8 fl_X11_61_10 (kp_o hM) rfl ?_
      refine rx_iload_n hE dX11_isFree_11 (i := 2) rfl rfl ?_
      refine rx_ialdN (i := k) hE dX11_isFree_12 (kp_14 hM) (by omega) (by decide) ?_
      refine rx_int _ _ (kr_a (by decide) (by decide) (by decide)) ?_
      refine rx_int _ (S 14 k) rfl ?_
      refine rx_aload_n hE dX11_isFree_13 (i := 0) rfl rfl ?_
      refine rx_getf hE dX11_isFree_14 fl_X11_61_10 (kp_o hM) rfl ?_
      refine rx_iload_n hE dX11_isFree_17 (i := 1) rfl rfl ?_
      refine rx_ialdN (i := r) hE dX11_isFree_18 (kp_14 hM) (by omega) (by decide) ?_
      refine rx_int _ _ (kr_a (by decide) (by decide) (by decide)) ?_
      refine rx_int _ (S 14 r) rfl ?_
      refine rx_icmp_ne (tgt := 40) hE dX11_isFree_19 (by decide) (fun c19 => ?_) (fun c19 => ?_)
      · refine rx_iinc_2 hE dX11_isFree_40 (v := 1) (by decide) (by decide) rfl ?_
        rw [nI_1]
        refine rx_goto (tgt := 2) hE dX11_isFree_43 (by decide) ?_
        exact ih (k + 1) (by omega) (by rw [← hF]; exact (if_neg (fun q => c19 q.1)).symm)
      · refine rx_aload_n hE dX11_isFree_22 (i := 0) rfl rfl ?_
        refine rx_getf hE dX11_isFree_23 fl_X11_39_10 (kp_o hM) rfl ?_
        refine rx_bipush hE dX11_isFree_26 (v := 72) (by decide) ?_
        refine rx_iload_n hE dX11_isFree_28 (i := 1) rfl rfl ?_
        refine rx_iadd hE dX11_isFree_29 ?_
        refine rx_int _ (nI (72 + r)) (nI_add _ _) ?_
        refine rx_ialdN (i := 72 + r) hE dX11_isFree_30 (kp_10 hM) (by omega) (by decide) ?_
        refine rx_int _ _ (kr_3 (by omega)) ?_
        refine rx_iload_n hE dX11_isFree_31 (i := 2) rfl rfl ?_
        refine rx_call0 (rx_callS (av := [.int _, .int (nI (k))]) hE dX11_isFree_32 lk_X11_297 (c_X11_isOf _) np_X11_isOf rfl rfl (by decide) (Nat.le_of_ble_eq_true rfl) rfl ?_)
        rintro v M' ⟨rfl, rfl⟩
        refine rx_if_eq (tgt := 40) hE dX11_isFree_35 (by decide) (fun c35 => ?_) (fun c35 => ?_)
        · refine rx_iinc_2 hE dX11_isFree_40 (v := 1) (by decide) (by decide) rfl ?_
          rw [nI_1]
          refine rx_goto (tgt := 2) hE dX11_isFree_43 (by decide) ?_
          exact ih (k + 1) (by omega) (by rw [← hF]; exact (if_neg (fun q => k_of0 c35 q.2)).symm)
        · refine rx_iconst hE dX11_isFree_38 (v := 0) (by decide) ?_
          exact rx_tret hE hQ rfl rfl dX11_isFree_39 ⟨by rw [← hF]; exact congrArg (fun x => some (Value.int x)) (if_pos ⟨c19, k_of1 c35⟩).symm, rfl⟩
  refine rx_iconst hE dX11_isFree_0 (v := 0) (by decide) ?_
  refine rx_istore_n_2 hE dX11_isFree_1 (by decide) rfl ?_
  exact loop r 0 (by omega) rfl
