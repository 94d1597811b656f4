def qalF (W : Nat → Int32) (a b : Nat) : Nat → Nat → Int32
  | _, 0 => 1
  | k, n + 1 => if W (6 * a + k) = W (6 * b + k) then qalF W a b (k + 1) n else 0
def qal (W : Nat → Int32) (B R a b : Nat) : Int32 := if (b - a) % B = 0 then qalF W a b 0 R else 0
theorem qalF_congr {W W' : Nat → Int32} {R : Nat} (hR : R ≤ 6) (a b : Nat) (ha : a ≤ 60) (hb : b ≤ 60) (h : ∀ q, q < 366 → q % 6 < R → W q = W' q) : ∀ (n k : Nat), k + n ≤ R → qalF W a b k n = qalF W' a b k n
  | 0, _, _ => rfl
  | n + 1, k, hk => by
    show (if W (6 * a + k) = W (6 * b + k) then qalF W a b (k + 1) n else 0) = (if W' (6 * a + k) = W' (6 * b + k) then qalF W' a b (k + 1) n else 0)
    rw [h (6 * a + k) (by omega) (by omega), h (6 * b + k) (by omega) (by omega), qalF_congr hR a b ha hb h n (k + 1) (by omega)]
set_option maxRecDepth 100000 in
set_option maxHeartbeats 4000000 in
theorem c_X11_areAlike {M : gM} {S : gS} {L : gLg} {J : gJn} (hM : 408 ≤ M.1) {R B a b : Nat} (hR : J 9 2 = nI R) (hR6 : R ≤ 6) (hB : J 9 0 = nI B) (hB0 : 0 < B) (hB12 : B ≤ 12) (hab : a ≤ b) (hb : b ≤ 60) : SX 0 0 0 mX11_areAlike [.ref 384, .int (nI a), .int (nI b)] (kp M (kput S J) L) (fun v M' => v = some (.int (qal (S 17) B R a b)) ∧ M' = kp M (kput S J) L) := by
  refine SX.intro [some (.ref 384), some (.int (nI a)), some (.int (nI b)), none] (by decide +kernel) (Nat.le_of_ble_eq_true rfl) rfl (fun E hE hQ => ?_)
  refine rx_iload_n hE dX11_areAlike_0 (i := 2) rfl rfl ?_
  refine rx_iload_n hE dX11_areAlike_1 (i := 1) rfl rfl ?_
  refine rx_isub hE dX11_areAlike_2 ?_
  refine rx_int _ (nI (b - a)) (pk_sub hab) ?_
  refine rx_aload_n hE dX11_areAlike_3 (i := 0) rfl rfl ?_
  refine rx_getf hE dX11_areAlike_4 fl_X11_39_10 (kp_o hM) rfl ?_
  refine rx_iconst hE dX11_areAlike_7 (v := 1) (by decide) ?_
  refine rx_ialdN (i := 1) hE dX11_areAlike_8 (kp_10 hM) (by omega) (by decide) ?_
  refine rx_int _ _ kr_c0 ?_
  refine rx_int _ (nI B) hB ?_
  refine rx_irem hE dX11_areAlike_9 (nI_ne0 hB0 (by omega)) ?_
  refine rx_int _ (nI ((b - a) % B)) (pk_rem (by omega) hB0 (by omega)) ?_
  refine rx_if_eq (tgt := 15) hE dX11_areAlike_10 (by decide) (fun c10 => ?_) (fun c10 => ?_)
  · have hc : (b - a) % B = 0 := (nI_eq (Nat.lt_of_le_of_lt (Nat.mod_le _ _) (by omega)) (by decide)).mp c10
    have hF0 : qal (S 17) B R a b = qalF (S 17) a b 0 R := if_pos hc
    have loop : ∀ (n k : Nat) , k + n = R → qalF (S 17) a b k n = qal (S 17) B R a b → RX E mX11_areAlike.2.2.1 0 0 17 [some (.ref 384), some (.int (nI a)), some (.int (nI b)), some (.int (nI k))] [] (kp M (kput S J) L) := by
      intro n
      induction n with
      | zero =>
        intro k hk2 hF
        refine rx_iload_n hE dX11_areAlike_17 (i := 3) rfl rfl ?_
        refine rx_aload_n hE dX11_areAlike_18 (i := 0) rfl rfl ?_
        refine rx_getf hE dX11_areAlike_19 fl_X11_39_10 (kp_o hM) rfl ?_
        refine rx_iconst hE dX11_areAlike_22 (v := 3) (by decide) ?_
        refine rx_ialdN (i := 3) hE dX11_areAlike_23 (kp_10 hM) (by omega) (by decide) ?_
        refine rx_int _ _ kr_c2 ?_
        refine rx_icmp_ge (tgt := 60) hE dX11_areAlike_24 (by decide) (fun c24 => ?_) (fun c24 => absurd (show J 9 2 ≤ nI k from by rw [hR]; exact nI_le (by omega) (by omega)) c24)
        refine rx_iconst hE dX11_areAlike_60 (v := 1) (by decide) ?_
        exact rx_tret hE hQ rfl rfl dX11_areAlike_61 ⟨by rw [← hF]; rfl, rfl⟩
      | succ n ih =>
        intro k hk2 hF
        refine rx_iload_n hE dX11_areAlike_17 (i := 3) rfl rfl ?_
        refine rx_aload_n hE dX11_areAlike_18 (i := 0) rfl rfl ?_
        refine rx_getf hE dX11_areAlike_19 fl_X11_39_10 (kp_o hM) rfl ?_
        refine rx_iconst hE dX11_areAlike_22 (v := 3) (by decide) ?_
        refine rx_ialdN (i := 3) hE dX11_areAlike_23 (kp_10 hM) (by omega) (by decide) ?_
        refine rx_int _ _ kr_c2 ?_
        refine rx_icmp_ge (tgt := 60) hE dX11_areAlike_24 (by decide) (fun c24 => absurd (show nI R ≤ nI k from by rw [← hR]; exact c24) (nI_ge (by omega) (by omega))) (fun c24 => ?_)
        refine rx_aload_n hE dX11_areAlike_27 (i := 0) rfl rfl ?_
        refine rx_getf hE dX11_areAlike_28 fl_X11_70_10 (kp_o hM) rfl ?_
        refine rx_bipush hE dX11_areAlike_31 (v := 6) (by decide) ?_
        refine rx_iload_n hE dX11_areAlike_33 (i := 1) rfl rfl ?_
        refine rx_imul hE dX11_areAlike_34 ?_
        refine rx_int _ (nI (6 * a)) (pk_mul _ _) ?_
        refine rx_iload_n hE dX11_areAlike_35 (i := 3) rfl rfl ?_
        refine rx_iadd hE dX11_areAlike_36 ?_
        refine rx_int _ (nI (6 * a + k)) (nI_add _ _) ?_
        refine rx_ialdN (i := 6 * a + k) hE dX11_areAlike_37 (kp_17 hM) (by omega) (by decide) ?_
        refine rx_int _ _ (kr_a (by decide) (by decide) (by decide)) ?_
        refine rx_int _ (S 17 (6 * a + k)) rfl ?_
        refine rx_aload_n hE dX11_areAlike_38 (i := 0) rfl rfl ?_
        refine rx_getf hE dX11_areAlike_39 fl_X11_70_10 (kp_o hM) rfl ?_
        refine rx_bipush hE dX11_areAlike_42 (v := 6) (by decide) ?_
        refine rx_iload_n hE dX11_areAlike_44 (i := 2) rfl rfl ?_
        refine rx_imul hE dX11_areAlike_45 ?_
        refine rx_int _ (nI (6 * b)) (pk_mul _ _) ?_
        refine rx_iload_n hE dX11_areAlike_46 (i := 3) rfl rfl ?_
        refine rx_iadd hE dX11_areAlike_47 ?_
        refine rx_int _ (nI (6 * b + k)) (nI_add _ _) ?_
        refine rx_ialdN (i := 6 * b + k) hE dX11_areAlike_48 (kp_17 hM) (by omega) (by decide) ?_
        refine rx_int _ _ (kr_a (by decide) (by decide) (by decide)) ?_
        refine rx_int _ (S 17 (6 * b + k)) rfl ?_
        refine rx_icmp_eq (tgt := 54) hE dX11_areAlike_49 (by decide) (fun c49 => ?_) (fun c49 => ?_)
        · refine rx_iinc_3 hE dX11_areAlike_54 (v := 1) (by decide) (by decide) rfl ?_
          rw [nI_1]
          refine rx_goto (tgt := 17) hE dX11_areAlike_57 (by decide) ?_
          exact ih (k + 1) (by omega) (by rw [← hF]; exact (if_pos c49).symm)
        · refine rx_iconst hE dX11_areAlike_52 (v := 0) (by decide) ?_
          exact rx_tret hE hQ rfl rfl dX11_areAlike_53 ⟨by rw [← hF]; exact congrArg (fun x => some (Value.int x)) (if_neg c49).symm, rfl⟩
    refine rx_iconst hE dX11_areAlike_15 (v := 0) (by decide) ?_
    refine rx_istore_n_3 hE dX11_areAlike_16 (by decide) rfl ?_
    exact loop R 0 (by omega) hF0.symm
  · have hc : ¬ (b - a) % B = 0 := fun q => c10 (by rw [q]; rfl)
    refine rx_iconst hE dX11_areAlike_13 (v := 0) (by decide) ?_
    exact rx_tret hE hQ rfl rfl dX11_areAlike_14 ⟨by unfold qal; rw [if_neg hc], rfl⟩
def qW (t : gJn → Nat → Int32 → Bool) (J : gJn) (q : Nat) : Int32 := jmanyF t (q / 6) J 0 (q % 6)
def qriB (W : Nat → Int32) (B R a : Nat) : Nat → Nat → Nat
  | _, 0 => 0
  | b, n + 1 => if qal W B R a b = 0 then qriB W B R a (b + 1) n else b - a
def qriA (W : Nat → Int32) (B R : Nat) (what beat : Int32) : Nat → Nat → Int32
  | _, 0 => -2
  | a, n + 1 => if qriB W B R a (a + 1) (60 - a) = 0 then qriA W B R what beat (a + 1) n else if what = 0 then beat + nI a else nI (qriB W B R a (a + 1) (60 - a))
def q_ring (t : gJn → Nat → Int32 → Bool) (J : gJn) (what : Int32) : Int32 := if j_isTold J = 0 ∨ q_in what 0 1 = 0 then -1 else qriA (qW t J) (jB J) (jR J) what (J 9 3) 0 60
theorem qW_at (t : gJn → Nat → Int32 → Bool) (J : gJn) {k r : Nat} (hr : r < 6) : qW t J (6 * k + r) = jmanyF t k J 0 r := by
  unfold qW
  rw [show (6 * k + r) / 6 = k by omega, show (6 * k + r) % 6 = r by omega]
set_option maxRecDepth 100000 in
set_option maxHeartbeats 4000000 in
theorem c_X11_ring {M : gM} {S : gS} {L : gLg} {J : gJn} {g : Nat → Int32} (hM : 408 ≤ M.1) {t : gJn → Nat → Int32 → Bool} (hk : kok S J t) (what : Int32) : SX 7 0 0 mX11_ring [.ref 384, .int what] (kp M (kput S (j_s J 7 g)) L) (fun v M' => v = some (.int (q_ring t J what)) ∧ kD M S J M') := by
  refine SX.intro [some (.ref 384), some (.int what), none, none] (by decide +kernel) (Nat.le_of_ble_eq_true rfl) rfl (fun E hE hQ => ?_)
  refine rx_aload_n hE dX11_ring_0 (i := 0) rfl rfl ?_
  refine rx_call0 (rx_callV (av := []) hE dX11_ring_1 lk_X11_294 (c_X11_isJunction hM) (kp_o hM) np_X11_isJunction rfl rfl (by decide) (Nat.le_of_ble_eq_true rfl) rfl ?_)
  rintro v M' ⟨rfl, rfl⟩
  refine rx_int _ (j_isTold J) hk.isJ ?_
  refine rx_if_eq (tgt := 17) hE dX11_ring_4 (by decide) (fun c4 => ?_) (fun c4 => ?_)
  · refine rx_iconst hE dX11_ring_17 (v := -1) (by decide) ?_
    exact rx_iret hE hQ rfl dX11_ring_18 ⟨by simp [q_ring, *], kD.refl M S L J g⟩
  · refine rx_iload_n hE dX11_ring_7 (i := 1) rfl rfl ?_
    refine rx_i2l hE dX11_ring_8 ?_
    refine rx_lconst hE dX11_ring_9 (v := 0) (by decide) ?_
    refine rx_lconst hE dX11_ring_10 (v := 1) (by decide) ?_
    refine rx_call0 (rx_callS (av := [.long _, .long _, .long _]) hE dX11_ring_11 lk_X11_130 (c_X11_in _ _ _) np_X11_in rfl rfl (by decide) (Nat.le_of_ble_eq_true rfl) rfl ?_)
    rintro v M' ⟨rfl, rfl⟩
    refine rx_int _ (q_in _ (0) (1)) (k_in_eq _ _ _ (by decide) (by decide)) ?_
    refine rx_if_ne (tgt := 19) hE dX11_ring_14 (by decide) (fun c14 => ?_) (fun c14 => ?_)
    · have hg : ¬ (j_isTold J = 0 ∨ q_in what 0 1 = 0) := by simp [*]
      obtain ⟨hb, hf, hT9⟩ := hk.told c4
      have hr6 := hf.1.2.1
      have hv : q_ring t J what = qriA (qW t J) (jB J) (jR J) what (J 9 3) 0 60 := if_neg hg
      have fin : ∀ (S' : gS) (L' : gLg) (g' : Nat → Int32) (l3 : Option Value), kq S S' → (∀ q, q < 366 → q % 6 < jR J → S' 17 q = qW t J q) → RX E mX11_ring.2.2.1 0 0 82 [some (.ref 384), some (.int what), some (.int (nI 0)), l3] [] (kp M (kput S' (j_s J 7 g')) L') := by
        intro S' L' g' l3 hz hW
        have loopa : ∀ (n a : Nat) (l3 : Option Value), a + n = 60 → qriA (qW t J) (jB J) (jR J) what (J 9 3) a n = qriA (qW t J) (jB J) (jR J) what (J 9 3) 0 60 → RX E mX11_ring.2.2.1 0 0 82 [some (.ref 384), some (.int what), some (.int (nI a)), l3] [] (kp M (kput S' (j_s J 7 g')) L') := by
          intro n
          induction n with
          | zero =>
            intro a l3 hk2 hA
            refine rx_iload_n hE dX11_ring_82 (i := 2) rfl rfl ?_
            refine rx_bipush hE dX11_ring_83 (v := 60) (by decide) ?_
            refine rx_icmp_ge (tgt := 139) hE dX11_ring_85 (by decide) (fun c85 => ?_) (fun c85 => absurd (show nI 60 ≤ nI a from nI_le (by omega) (by omega)) c85)
            refine rx_bipush hE dX11_ring_139 (v := -2) (by decide) ?_
            exact rx_iret hE hQ rfl dX11_ring_141 ⟨by rw [hv, ← hA]; rfl, S', L', g', rfl, hz⟩
          | succ n iha =>
            intro a l3 hk2 hA
            refine rx_iload_n hE dX11_ring_82 (i := 2) rfl rfl ?_
            refine rx_bipush hE dX11_ring_83 (v := 60) (by decide) ?_
            refine rx_icmp_ge (tgt := 139) hE dX11_ring_85 (by decide) (fun c85 => absurd c85 (nI_ge (a := a) (b := 60) (by omega) (by omega))) (fun c85 => ?_)
            refine rx_iload_n hE dX11_ring_88 (i := 2) rfl rfl ?_
            refine rx_iconst hE dX11_ring_89 (v := 1) (by decide) ?_
            refine rx_iadd hE dX11_ring_90 ?_
            refine rx_int _ (nI (a + 1)) (nI_add _ _) ?_
            refine rx_istore_n_3 hE dX11_ring_91 (by decide) rfl ?_
            have innb : ∀ (n' b : Nat) , b + n' = 61 → a < b → qriB (qW t J) (jB J) (jR J) a b n' = qriB (qW t J) (jB J) (jR J) a (a + 1) (60 - a) → RX E mX11_ring.2.2.1 0 0 92 [some (.ref 384), some (.int what), some (.int (nI a)), some (.int (nI b))] [] (kp M (kput S' (j_s J 7 g')) L') := by
              intro n'
              induction n' with
              | zero =>
                intro b hk3 hab hB
                refine rx_iload_n hE dX11_ring_92 (i := 3) rfl rfl ?_
                refine rx_bipush hE dX11_ring_93 (v := 60) (by decide) ?_
                refine rx_icmp_gt (tgt := 133) hE dX11_ring_95 (by decide) (fun c95 => ?_) (fun c95 => absurd (nI_lt (a := 60) (b := b) (by omega) (by omega)) c95)
                refine rx_iinc_2 hE dX11_ring_133 (v := 1) (by decide) (by decide) rfl ?_
                rw [nI_1]
                refine rx_goto (tgt := 82) hE dX11_ring_136 (by decide) ?_
                exact iha (a + 1) _ (by omega) (by rw [← hA]; show _ = (if qriB (qW t J) (jB J) (jR J) a (a + 1) (60 - a) = 0 then _ else _); rw [if_pos (by rw [← hB]; rfl)])
              | succ n' ihn =>
                intro b hk3 hab hB
                refine rx_iload_n hE dX11_ring_92 (i := 3) rfl rfl ?_
                refine rx_bipush hE dX11_ring_93 (v := 60) (by decide) ?_
                refine rx_icmp_gt (tgt := 133) hE dX11_ring_95 (by decide) (fun c95 => absurd c95 (nI_nlt (a := 60) (b := b) (by omega) (by decide))) (fun c95 => ?_)
                refine rx_aload_n hE dX11_ring_98 (i := 0) rfl rfl ?_
                refine rx_iload_n hE dX11_ring_99 (i := 2) rfl rfl ?_
                refine rx_iload_n hE dX11_ring_100 (i := 3) rfl rfl ?_
                refine rx_call0 (rx_callV (av := [.int (nI a), .int (nI b)]) hE dX11_ring_101 lk_X11_438 (c_X11_areAlike (a := a) (b := b) (R := jR J) (B := jB J) hM hf.1.1 hr6 hf.1.2.2.2.1 hf.1.2.2.2.2.1 hf.1.2.2.2.2.2.1 (by omega) (by omega)) (kp_o hM) np_X11_areAlike rfl rfl (by decide) (Nat.le_of_ble_eq_true rfl) rfl ?_)
                rintro v M' ⟨rfl, rfl⟩
                refine rx_int _ (qal (qW t J) (jB J) (jR J) a b) (by unfold qal; split <;> first | exact qalF_congr hr6 a b (by omega) (by omega) hW (jR J) 0 (by omega) | rfl) ?_
                refine rx_if_eq (tgt := 127) hE dX11_ring_104 (by decide) (fun c104 => ?_) (fun c104 => ?_)
                · refine rx_iinc_3 hE dX11_ring_127 (v := 1) (by decide) (by decide) rfl ?_
                  rw [nI_1]
                  refine rx_goto (tgt := 92) hE dX11_ring_130 (by decide) ?_
                  exact ihn (b + 1) (by omega) (by omega) (by rw [← hB]; show _ = (if qal (qW t J) (jB J) (jR J) a b = 0 then _ else b - a); rw [if_pos c104])
                · refine rx_iload_n hE dX11_ring_107 (i := 1) rfl rfl ?_
                  refine rx_if_ne (tgt := 123) hE dX11_ring_108 (by decide) (fun c108 => ?_) (fun c108 => ?_)
                  · refine rx_iload_n hE dX11_ring_123 (i := 3) rfl rfl ?_
                    refine rx_iload_n hE dX11_ring_124 (i := 2) rfl rfl ?_
                    refine rx_isub hE dX11_ring_125 ?_
                    refine rx_int _ (nI (b - a)) (pk_sub (by omega)) ?_
                    exact rx_iret hE hQ rfl dX11_ring_126 ⟨by rw [hv, ← hA]; show _ = some (Value.int (if qriB (qW t J) (jB J) (jR J) a (a + 1) (60 - a) = 0 then _ else _)); rw [← hB]; show _ = some (Value.int (if (if qal (qW t J) (jB J) (jR J) a b = 0 then _ else b - a) = 0 then _ else if what = 0 then _ else nI (if qal (qW t J) (jB J) (jR J) a b = 0 then _ else b - a))); rw [if_neg (show ¬ qal (qW t J) (jB J) (jR J) a b = 0 from c104), if_neg (show ¬ b - a = 0 by omega), if_neg c108], S', L', g', rfl, hz⟩
                  · refine rx_aload_n hE dX11_ring_111 (i := 0) rfl rfl ?_
                    refine rx_getf hE dX11_ring_112 fl_X11_39_10 (kp_o hM) rfl ?_
                    refine rx_bipush hE dX11_ring_115 (v := 10) (by decide) ?_
                    refine rx_ialdN (i := 10) hE dX11_ring_117 (kp_10 hM) (by omega) (by decide) ?_
                    refine rx_int _ _ kr_c3 ?_
                    refine rx_int _ (J 9 3) rfl ?_
                    refine rx_iload_n hE dX11_ring_118 (i := 2) rfl rfl ?_
                    refine rx_iadd hE dX11_ring_119 ?_
                    refine rx_goto (tgt := 126) hE dX11_ring_120 (by decide) ?_
                    exact rx_iret hE hQ rfl dX11_ring_126 ⟨by rw [hv, ← hA]; show _ = some (Value.int (if qriB (qW t J) (jB J) (jR J) a (a + 1) (60 - a) = 0 then _ else _)); rw [← hB]; show _ = some (Value.int (if (if qal (qW t J) (jB J) (jR J) a b = 0 then _ else b - a) = 0 then _ else if what = 0 then _ else nI (if qal (qW t J) (jB J) (jR J) a b = 0 then _ else b - a))); rw [if_neg (show ¬ qal (qW t J) (jB J) (jR J) a b = 0 from c104), if_neg (show ¬ b - a = 0 by omega), if_pos c108], S', L', g', rfl, hz⟩
            exact innb (60 - a) (a + 1) (by omega) (by omega) rfl
        exact loopa 60 0 l3 (by omega) rfl
      have outer : ∀ (n k : Nat) (S' : gS) (L' : gLg) (g' : Nat → Int32) (l3 : Option Value), k + n = 61 → kz S t J S' → (∀ q, q < 6 * k → q % 6 < jR J → S' 17 q = qW t J q) → RX E mX11_ring.2.2.1 0 0 25 [some (.ref 384), some (.int what), some (.int (nI k)), l3] [] (kp M (kput S' (j_s (jmanyF t k J) 7 g')) L') := by
        intro n
        induction n with
        | zero =>
          intro k S' L' g' l3 hk2 hz hW
          refine rx_iload_n hE dX11_ring_25 (i := 2) rfl rfl ?_
          refine rx_bipush hE dX11_ring_26 (v := 60) (by decide) ?_
          refine rx_icmp_gt (tgt := 76) hE dX11_ring_28 (by decide) (fun c28 => ?_) (fun c28 => absurd (nI_lt (a := 60) (b := k) (by omega) (by omega)) c28)
          refine rx_aload_n hE dX11_ring_76 (i := 0) rfl rfl ?_
          refine rx_call0 (rx_callV (av := []) hE dX11_ring_77 lk_X11_382 (c_X11_laysBack hM hz.2.1) (kp_o hM) np_X11_laysBack rfl rfl (by decide) (Nat.le_of_ble_eq_true rfl) rfl ?_)
          rintro v M' ⟨rfl, rfl⟩
          rw [(jst.many t k J).back g']
          refine rx_iconst hE dX11_ring_80 (v := 0) (by decide) ?_
          refine rx_istore_n_2 hE dX11_ring_81 (by decide) rfl ?_
          exact fin S' L' g' _ hz.2.2 (fun q h1 h2 => hW q (by omega) h2)
        | succ n ih =>
          intro k S' L' g' l3 hk2 hz hW
          have hR1 : jmanyF t k J 9 2 = nI (jR J) := by rw [(jst.many t k J).2.2 2 (by decide) (by decide)]; exact hf.1.1
          refine rx_iload_n hE dX11_ring_25 (i := 2) rfl rfl ?_
          refine rx_bipush hE dX11_ring_26 (v := 60) (by decide) ?_
          refine rx_icmp_gt (tgt := 76) hE dX11_ring_28 (by decide) (fun c28 => absurd c28 (nI_nlt (a := 60) (b := k) (by omega) (by decide))) (fun c28 => ?_)
          refine rx_iconst hE dX11_ring_31 (v := 0) (by decide) ?_
          refine rx_istore_n_3 hE dX11_ring_32 (by decide) rfl ?_
          have inner : ∀ (n' r : Nat) (S' : gS), r + n' = jR J → kz S t J S' → (∀ q, q < 6 * k + r → q % 6 < jR J → S' 17 q = qW t J q) → RX E mX11_ring.2.2.1 0 0 33 [some (.ref 384), some (.int what), some (.int (nI k)), some (.int (nI r))] [] (kp M (kput S' (j_s (jmanyF t k J) 7 g')) L') := by
            intro n'
            induction n' with
            | zero =>
              intro r S' hk3 hz hW'
              refine rx_iload_n hE dX11_ring_33 (i := 3) rfl rfl ?_
              refine rx_aload_n hE dX11_ring_34 (i := 0) rfl rfl ?_
              refine rx_getf hE dX11_ring_35 fl_X11_39_10 (kp_o hM) rfl ?_
              refine rx_iconst hE dX11_ring_38 (v := 3) (by decide) ?_
              refine rx_ialdN (i := 3) hE dX11_ring_39 (kp_10 hM) (by omega) (by decide) ?_
              refine rx_int _ _ kr_c2 ?_
              refine rx_icmp_ge (tgt := 65) hE dX11_ring_40 (by decide) (fun c40 => ?_) (fun c40 => absurd (show jmanyF t k J 9 2 ≤ nI r from by rw [hR1]; exact nI_le (by omega) (by omega)) c40)
              refine rx_aload_n hE dX11_ring_65 (i := 0) rfl rfl ?_
              refine rx_call0 (rx_callV (av := []) hE dX11_ring_66 lk_X11_362 (c_X11_passg hM hz.1.1 hz.1.2.1 hz.1.2.2 (hf.many t k (by omega))) (kp_o hM) np_X11_passes rfl rfl (by decide) (Nat.le_of_ble_eq_true rfl) rfl ?_)
              rintro v M' ⟨rfl, S1, L1, g1, rfl, hI, hg1⟩
              have hz1 := hz.ip hI
              have hW2 : ∀ q, q < 6 * k + r → q % 6 < jR J → S1 17 q = qW t J q := by obtain ⟨tp, rfl, _⟩ := hI; exact hW'
              clear hI
              refine rx_pop hE dX11_ring_69 rfl ?_
              refine rx_iinc_2 hE dX11_ring_70 (v := 1) (by decide) (by decide) rfl ?_
              rw [nI_1]
              refine rx_goto (tgt := 25) hE dX11_ring_73 (by decide) ?_
              rw [← jmany_s]
              exact ih (k + 1) S1 L1 g1 _ (by omega) hz1 (fun q h1 h2 => hW2 q (by omega) h2)
            | succ n' ihn =>
              intro r S' hk3 hz hW'
              refine rx_iload_n hE dX11_ring_33 (i := 3) rfl rfl ?_
              refine rx_aload_n hE dX11_ring_34 (i := 0) rfl rfl ?_
              refine rx_getf hE dX11_ring_35 fl_X11_39_10 (kp_o hM) rfl ?_
              refine rx_iconst hE dX11_ring_38 (v := 3) (by decide) ?_
              refine rx_ialdN (i := 3) hE dX11_ring_39 (kp_10 hM) (by omega) (by decide) ?_
              refine rx_int _ _ kr_c2 ?_
              refine rx_icmp_ge (tgt := 65) hE dX11_ring_40 (by decide) (fun c40 => absurd (show nI (jR J) ≤ nI r from by rw [← hR1]; exact c40) (nI_ge (by omega) (by omega))) (fun c40 => ?_)
              refine rx_aload_n hE dX11_ring_43 (i := 0) rfl rfl ?_
              refine rx_getf hE dX11_ring_44 fl_X11_70_10 (kp_o hM) rfl ?_
              refine rx_bipush hE dX11_ring_47 (v := 6) (by decide) ?_
              refine rx_iload_n hE dX11_ring_49 (i := 2) rfl rfl ?_
              refine rx_imul hE dX11_ring_50 ?_
              refine rx_int _ (nI (6 * k)) (pk_mul _ _) ?_
              refine rx_iload_n hE dX11_ring_51 (i := 3) rfl rfl ?_
              refine rx_iadd hE dX11_ring_52 ?_
              refine rx_int _ (nI (6 * k + r)) (nI_add _ _) ?_
              refine rx_aload_n hE dX11_ring_53 (i := 0) rfl rfl ?_
              refine rx_iload_n hE dX11_ring_54 (i := 3) rfl rfl ?_
              refine rx_call0 (rx_callV (av := [.int (nI r)]) hE dX11_ring_55 lk_X11_312 (c_X11_waitOn hM (r := r) (by omega)) (kp_o hM) np_X11_waitOn rfl rfl (by decide) (Nat.le_of_ble_eq_true rfl) rfl ?_)
              rintro v M' ⟨rfl, rfl⟩
              refine rx_int _ (jmanyF t k J 0 r) rfl ?_
              refine rx_iastN (i := 6 * k + r) hE dX11_ring_58 (kp_17 hM) (by omega) (by decide) ?_
              refine rx_mem (M' := kp M (kput (k_s S' 17 (upd (S' 17) (6 * k + r) (jmanyF t k J 0 r))) (j_s (jmanyF t k J) 7 g')) L') (by rw [kw_17, kput_s (by decide) (by decide) (by decide)]; rfl) ?_
              refine rx_iinc_3 hE dX11_ring_59 (v := 1) (by decide) (by decide) rfl ?_
              rw [nI_1]
              refine rx_goto (tgt := 33) hE dX11_ring_62 (by decide) ?_
              exact ihn (r + 1) (k_s S' 17 (upd (S' 17) (6 * k + r) (jmanyF t k J 0 r))) (by omega) (hz.s _ (by decide) (by decide)) (fun q h1 h2 => by
                show upd (S' 17) (6 * k + r) _ q = _
                by_cases hq : q = 6 * k + r
                · subst hq
                  rw [upd_eq, qW_at t J (by omega)]
                · rw [upd_ne hq]
                  exact hW' q (by omega) h2)
          exact inner (jR J) 0 S' (by omega) hz (fun q h1 h2 => hW q (by omega) h2)
      refine rx_aload_n hE dX11_ring_19 (i := 0) rfl rfl ?_
      refine rx_call0 (rx_callV (av := []) hE dX11_ring_20 lk_X11_376 (c_X11_keeps hM) (kp_o hM) np_X11_keeps rfl rfl (by decide) (Nat.le_of_ble_eq_true rfl) rfl ?_)
      rintro v M' ⟨rfl, rfl⟩
      have hz := kz.keep hb J g
      refine rx_iconst hE dX11_ring_23 (v := 0) (by decide) ?_
      refine rx_istore_n_2 hE dX11_ring_24 (by decide) rfl ?_
      exact outer 61 0 _ _ g _ (by omega) hz (fun q h1 h2 => by omega)
    · refine rx_iconst hE dX11_ring_17 (v := -1) (by decide) ?_
      exact rx_iret hE hQ rfl dX11_ring_18 ⟨by simp [q_ring, *], kD.refl M S L J g⟩
