/-! ===== chord ===== -/
def sml (b : Nat) (x : Int32) : Prop := ∃ u v : Nat, u ≤ b ∧ v ≤ b ∧ x = nI u - nI v
theorem i32_4 (a b c d : Int32) : (a - b) + (c - d) = (a + c) - (b + d) := by
  first
  | grind
  | (apply Int32.toBitVec_inj.mp; simp; bv_omega)
theorem i32_5 (a b c d : Int32) : (a - b) - (c - d) = (a + d) - (b + c) := by
  first
  | grind
  | (apply Int32.toBitVec_inj.mp; simp; bv_omega)
theorem sml.add {b c : Nat} {x y : Int32} (h : sml b x) (h' : sml c y) : sml (b + c) (x + y) := by
  obtain ⟨u, v, h1, h2, rfl⟩ := h
  obtain ⟨u', v', h3, h4, rfl⟩ := h'
  exact ⟨u + u', v + v', by omega, by omega, by rw [i32_4, nI_add, nI_add]⟩
theorem sml.z (b : Nat) : sml b 0 := ⟨0, 0, by omega, by omega, rfl⟩
theorem sml_g (k : Nat) : sml 3 (g_sounds k) := by
  rcases (show k = 0 ∨ k = 1 ∨ k = 2 ∨ k = 3 ∨ k = 4 ∨ k = 5 ∨ k = 6 ∨ k = 7 ∨ k = 8 ∨ k = 9 ∨ k = 10 ∨ 11 ≤ k by omega) with rfl | rfl | rfl | rfl | rfl | rfl | rfl | rfl | rfl | rfl | rfl | h
  · exact ⟨0, 0, by decide, by decide, by decide⟩
  · exact ⟨0, 3, by decide, by decide, by decide⟩
  · exact ⟨0, 1, by decide, by decide, by decide⟩
  · exact ⟨2, 0, by decide, by decide, by decide⟩
  · exact ⟨3, 0, by decide, by decide, by decide⟩
  · exact ⟨2, 0, by decide, by decide, by decide⟩
  · exact ⟨0, 2, by decide, by decide, by decide⟩
  · exact ⟨3, 0, by decide, by decide, by decide⟩
  · exact ⟨1, 0, by decide, by decide, by decide⟩
  · exact ⟨1, 0, by decide, by decide, by decide⟩
  · exact ⟨0, 1, by decide, by decide, by decide⟩
  · obtain ⟨j, rfl⟩ : ∃ j, k = j + 11 := ⟨k - 11, by omega⟩
    exact ⟨0, 3, by decide, by decide, rfl⟩
theorem zsm_sml {b : Nat} {f : Nat → Int32} (h : ∀ i, sml b (f i)) : ∀ (n k : Nat), sml (n * b) (zsm f k n)
  | 0, _ => sml.z _
  | n + 1, k => by
    have := (h k).add (zsm_sml h n (k + 1))
    rw [Nat.succ_mul, Nat.add_comm]
    exact this
theorem sml.up {b c : Nat} {x : Int32} (h : sml b x) (hb : b ≤ c) : sml c x := by
  obtain ⟨u, v, h1, h2, e⟩ := h
  exact ⟨u, v, by omega, by omega, e⟩
theorem jso_sml (pn : Nat → Nat) {m R : Nat} (hm : m < 64) (hR : R ≤ 6) : sml 108 (jso pn (nI m) R) := by
  rw [zso pn hm hR]
  have h1 : ∀ k, sml (R * 3) (zsm (fun o => if o < k then (if jbit (nI m) o = 1 ∧ jbit (nI m) k = 1 then zt pn o k else 0) else 0) 0 R) := fun k => zsm_sml (fun o => by
    show sml 3 (if o < k then (if jbit (nI m) o = 1 ∧ jbit (nI m) k = 1 then zt pn o k else 0) else 0)
    split
    · split
      · exact sml_g _
      · exact sml.z _
    · exact sml.z _) R 0
  refine (zsm_sml h1 (R - 1) 1).up ?_
  have : (R - 1) * (R * 3) ≤ 5 * 18 := Nat.mul_le_mul (by omega) (by omega)
  omega
theorem sml_sub {b : Nat} (hb : b ≤ 1000) {x y : Int32} (hx : sml b x) (hy : sml b y) : (0 < x - y ↔ y < x) ∧ (x - y = 0 ↔ x = y) := by
  obtain ⟨u, v, h1, h2, rfl⟩ := hx
  obtain ⟨u', v', h3, h4, rfl⟩ := hy
  have a1 := pk_sub_toInt (a := u) (b := v) (by omega) (by omega)
  have a2 := pk_sub_toInt (a := u') (b := v') (by omega) (by omega)
  have a3 := pk_sub_toInt (a := u + v') (b := v + u') (by omega) (by omega)
  rw [i32_5, nI_add, nI_add]
  constructor
  · rw [Int32.lt_iff_toInt_lt, Int32.lt_iff_toInt_lt, a1, a2, a3]
    show (0 : Int) < _ ↔ _
    omega
  · rw [← Int32.toInt_inj, ← Int32.toInt_inj, a1, a2, a3]
    show _ = (0 : Int) ↔ _
    omega
theorem qch1_eq {J : gJn} {m b : Nat} (hm : m < 64) (hb : b < 64) (hR : jR J ≤ 6) : qch1 J m b = if (jso (jP J) (nI b) (jR J) < jso (jP J) (nI m) (jR J) ∨ (jso (jP J) (nI m) (jR J) = jso (jP J) (nI b) (jR J) ∧ ¬ j_bc (nI b) ≤ j_bc (nI m))) ∧ ¬ jpcF J (nI m) 0 (jR J) = 0 then m else b := by
  unfold qch1
  rw [kso_jso _ hm hR, kso_jso _ hb hR]
  obtain ⟨e1, e2⟩ := sml_sub (by decide) (jso_sml (jP J) hm hR) (jso_sml (jP J) hb hR)
  by_cases c : (jso (jP J) (nI b) (jR J) < jso (jP J) (nI m) (jR J) ∨ (jso (jP J) (nI m) (jR J) = jso (jP J) (nI b) (jR J) ∧ ¬ j_bc (nI b) ≤ j_bc (nI m))) ∧ ¬ jpcF J (nI m) 0 (jR J) = 0
  · rw [if_pos c, if_pos (by rw [e1, e2]; exact c.symm)]
  · rw [if_neg c, if_neg (by rw [e1, e2]; exact fun q => c q.symm)]
theorem jso_z (pn : Nat → Nat) {R : Nat} (hR : R ≤ 6) : jso pn (nI 0) R = 0 := by
  rw [zso pn (by decide) hR]
  have hb : ∀ o, o < 6 → ¬ jbit (nI 0) o = 1 := by decide +kernel
  have h0 : ∀ (f : Nat → Int32) (n k : Nat), (∀ i, k ≤ i → i < k + n → f i = 0) → zsm f k n = 0 := by
    intro f n
    induction n with
    | zero => intro k _; rfl
    | succ n ih =>
      intro k h
      show f k + zsm f (k + 1) n = 0
      rw [h k (Nat.le_refl _) (by omega), ih (k + 1) (fun i h1 h2 => h i (by omega) (by omega))]
      rfl
  refine h0 _ _ _ (fun k h1 h2 => h0 _ _ _ (fun o h3 h4 => ?_))
  show (if o < k then (if jbit (nI 0) o = 1 ∧ jbit (nI 0) k = 1 then zt pn o k else 0) else 0) = (0 : Int32)
  split
  · exact if_neg (fun q => hb o (by omega) q.1)
  · rfl
set_option maxRecDepth 100000 in
set_option maxHeartbeats 1000000 in
theorem c_X10_chord {n : Nat} {X : gX} {O : gO} {Q : gU} {G : gK} {S : gS} {L : gLg} (hR : xR n X O Q) {J : gJn} (hJ : X 2 = J) (hk : xk J) {t : gJn → Nat → Int32 → Bool} (ht : xtf X Q (X 0 0 17) = t) (what : Int32) : SX 3 0 0 mX10_chord [.ref 16, .int what] (xm n X O Q G S L) (fun v M' => v = some (.int (q_chord J what)) ∧ xD n X O Q S L M') := by
  refine SX.intro [some (.ref 16), some (.int what), none, none, none, none, none] (by decide +kernel) (Nat.le_of_ble_eq_true rfl) rfl (fun E hE hQ => ?_)
  have hM := hR.M
  refine rx_aload_n hE dX10_chord_0 (i := 0) rfl rfl ?_
  refine rx_getf hE dX10_chord_1 fl_X10_19_9 (xa_0 hM) rfl ?_
  refine rx_call0 (rx_callV (av := []) hE dX10_chord_4 lk_X10_198 (x_isTold (X := X) xJ_2 hM (J := J) hJ) (xa_j xJ_2 hM) np_X2_isTold rfl rfl (by decide) (Nat.le_of_ble_eq_true rfl) rfl ?_)
  rintro v M' ⟨rfl, rfl⟩
  refine rx_if_eq (tgt := 19) hE dX10_chord_7 (by decide) (fun c7 => ?_) (fun c7 => ?_)
  · refine rx_iconst hE dX10_chord_19 (v := -1) (by decide) ?_
    exact rx_iret hE hQ rfl dX10_chord_20 ⟨by simp [q_chord, *], xD.refl n X O Q G S L⟩
  · refine rx_iload_n hE dX10_chord_10 (i := 1) rfl rfl ?_
    refine rx_iconst hE dX10_chord_11 (v := 0) (by decide) ?_
    refine rx_iconst hE dX10_chord_12 (v := 1) (by decide) ?_
    refine rx_call0 (rx_callS (av := [.int _, .int _, .int _]) hE dX10_chord_13 lk_X10_143 (c_X10_within _ _ _) np_X10_within rfl rfl (by decide) (Nat.le_of_ble_eq_true rfl) rfl ?_)
    rintro v M' ⟨rfl, rfl⟩
    refine rx_if_ne (tgt := 21) hE dX10_chord_16 (by decide) (fun c16 => ?_) (fun c16 => ?_)
    · have hg : ¬ (j_isTold J = 0 ∨ q_in what 0 1 = 0) := by simp [*]
      obtain ⟨hf, hT9⟩ := hk.told c7
      have hr6 := hf.1.2.1
      have hp6 := pow6 _ hr6
      have hv : q_chord J what = if what = 0 then kso (jP J) (nI (qchF J 1 (2 ^ jR J - 1) 0)) (jR J) else nI (qchF J 1 (2 ^ jR J - 1) 0) := by unfold q_chord; rw [if_neg hg]
      have loop : ∀ (m k : Nat) (b : Nat) (w : Int32) (l5 l6 : Option Value), k + m = 2 ^ jR J → w = jso (jP J) (nI b) (jR J) → 0 < k → b < 64 → qchF J k m b = qchF J 1 (2 ^ jR J - 1) 0 → RX E mX10_chord.2.2.1 0 0 28 [some (.ref 16), some (.int what), some (.int (nI b)), some (.int w), some (.int (nI k)), l5, l6] [] (xm n X O Q G S L) := by
        intro m
        induction m with
        | zero =>
          intro k b w l5 l6 hk2 hw hk0 hb6 hF
          subst hw
          refine rx_iload hE dX10_chord_28 rfl ?_
          refine rx_iconst hE dX10_chord_30 (v := 1) (by decide) ?_
          refine rx_aload_n hE dX10_chord_31 (i := 0) rfl rfl ?_
          refine rx_getf hE dX10_chord_32 fl_X10_19_9 (xa_0 hM) rfl ?_
          refine rx_getfN hE dX10_chord_35 fl_X10_132_2 (xa_j xJ_2 hM) rfl ?_
          refine rx_int _ (nI (jR J)) ((congrFun (congrFun hJ 9) 2).trans hf.1.1) ?_
          refine rx_ishl hE dX10_chord_38 ?_
          refine rx_int _ (nI (2 ^ jR J)) (shl1 _ hr6) ?_
          refine rx_icmp_ge (tgt := 113) hE dX10_chord_39 (by decide) (fun c39 => ?_) (fun c39 => absurd (show nI (2 ^ jR J) ≤ nI k from nI_le (by omega) (by omega)) c39)
          refine rx_iload_n hE dX10_chord_113 (i := 1) rfl rfl ?_
          refine rx_if_ne (tgt := 121) hE dX10_chord_114 (by decide) (fun c114 => ?_) (fun c114 => ?_)
          · refine rx_iload_n hE dX10_chord_121 (i := 2) rfl rfl ?_
            exact rx_iret hE hQ rfl dX10_chord_122 ⟨by rw [hv, ← hF]; show _ = some (Value.int (if what = 0 then kso (jP J) (nI b) (jR J) else nI b)); rw [kso_jso _ hb6 hr6, if_neg c114], xD.refl n X O Q G S L⟩
          · refine rx_iload_n hE dX10_chord_117 (i := 3) rfl rfl ?_
            refine rx_goto (tgt := 122) hE dX10_chord_118 (by decide) ?_
            exact rx_iret hE hQ rfl dX10_chord_122 ⟨by rw [hv, ← hF]; show _ = some (Value.int (if what = 0 then kso (jP J) (nI b) (jR J) else nI b)); rw [kso_jso _ hb6 hr6, if_pos c114], xD.refl n X O Q G S L⟩
        | succ m ih =>
          intro k b w l5 l6 hk2 hw hk0 hb6 hF
          subst hw
          refine rx_iload hE dX10_chord_28 rfl ?_
          refine rx_iconst hE dX10_chord_30 (v := 1) (by decide) ?_
          refine rx_aload_n hE dX10_chord_31 (i := 0) rfl rfl ?_
          refine rx_getf hE dX10_chord_32 fl_X10_19_9 (xa_0 hM) rfl ?_
          refine rx_getfN hE dX10_chord_35 fl_X10_132_2 (xa_j xJ_2 hM) rfl ?_
          refine rx_int _ (nI (jR J)) ((congrFun (congrFun hJ 9) 2).trans hf.1.1) ?_
          refine rx_ishl hE dX10_chord_38 ?_
          refine rx_int _ (nI (2 ^ jR J)) (shl1 _ hr6) ?_
          refine rx_icmp_ge (tgt := 113) hE dX10_chord_39 (by decide) (fun c39 => absurd c39 (nI_ge (by omega) (by omega))) (fun c39 => ?_)
          refine rx_aload_n hE dX10_chord_42 (i := 0) rfl rfl ?_
          refine rx_getf hE dX10_chord_43 fl_X10_19_9 (xa_0 hM) rfl ?_
          refine rx_iload hE dX10_chord_46 rfl ?_
          refine rx_call0 (rx_callV (av := [.int _]) hE dX10_chord_48 lk_X10_227 (x_soundOf (X := X) xJ_2 hM (J := J) hJ hf.1 _) (xa_j xJ_2 hM) np_X2_soundOf rfl rfl (by decide) (Nat.le_of_ble_eq_true rfl) rfl ?_)
          rintro v M' ⟨rfl, rfl⟩
          refine rx_istore_5 hE dX10_chord_51 (by decide) rfl ?_
          refine rx_iload hE dX10_chord_53 rfl ?_
          refine rx_iload_n hE dX10_chord_55 (i := 3) rfl rfl ?_
          refine rx_icmp_gt (tgt := 77) hE dX10_chord_56 (by decide) (fun c56 => ?_) (fun c56 => ?_)
          · refine rx_iconst hE dX10_chord_77 (v := 1) (by decide) ?_
            refine rx_goto (tgt := 82) hE dX10_chord_78 (by decide) ?_
            refine rx_istore_6 hE dX10_chord_82 (by decide) rfl ?_
            refine rx_iload hE dX10_chord_84 rfl ?_
            refine rx_if_eq (tgt := 107) hE dX10_chord_86 (by decide) (fun c86 => absurd c86 (by decide)) (fun c86 => ?_)
            refine rx_aload_n hE dX10_chord_89 (i := 0) rfl rfl ?_
            refine rx_getf hE dX10_chord_90 fl_X10_19_9 (xa_0 hM) rfl ?_
            refine rx_iload hE dX10_chord_93 rfl ?_
            refine rx_call0 (rx_callV (av := [.int _]) hE dX10_chord_95 lk_X10_235 (x_isPeaceful (X := X) xJ_2 hM (J := J) hJ hf.1 _) (xa_j xJ_2 hM) np_X2_isPeaceful rfl rfl (by decide) (Nat.le_of_ble_eq_true rfl) rfl ?_)
            rintro v M' ⟨rfl, rfl⟩
            refine rx_if_eq (tgt := 107) hE dX10_chord_98 (by decide) (fun c98 => ?_) (fun c98 => ?_)
            · refine rx_iinc_4 hE dX10_chord_107 (v := 1) (by decide) (by decide) rfl ?_
              rw [nI_1]
              refine rx_goto (tgt := 28) hE dX10_chord_110 (by decide) ?_
              exact ih (k + 1) b _ _ _ (by omega) rfl (by omega) (by omega) (by rw [← hF]; show _ = qchF J (k + 1) m (qch1 J k b); rw [qch1_eq (by omega) hb6 hr6, if_neg (fun q => q.2 c98)])
            · refine rx_iload hE dX10_chord_101 rfl ?_
              refine rx_istore_n_2 hE dX10_chord_103 (by decide) rfl ?_
              refine rx_iload hE dX10_chord_104 rfl ?_
              refine rx_istore_n_3 hE dX10_chord_106 (by decide) rfl ?_
              refine rx_iinc_4 hE dX10_chord_107 (v := 1) (by decide) (by decide) rfl ?_
              rw [nI_1]
              refine rx_goto (tgt := 28) hE dX10_chord_110 (by decide) ?_
              exact ih (k + 1) k _ _ _ (by omega) rfl (by omega) (by omega) (by rw [← hF]; show _ = qchF J (k + 1) m (qch1 J k b); rw [qch1_eq (by omega) hb6 hr6, if_pos ⟨Or.inl c56, c98⟩])
          · refine rx_iload hE dX10_chord_59 rfl ?_
            refine rx_iload_n hE dX10_chord_61 (i := 3) rfl rfl ?_
            refine rx_icmp_ne (tgt := 81) hE dX10_chord_62 (by decide) (fun c62 => ?_) (fun c62 => ?_)
            · refine rx_iconst hE dX10_chord_81 (v := 0) (by decide) ?_
              refine rx_istore_6 hE dX10_chord_82 (by decide) rfl ?_
              refine rx_iload hE dX10_chord_84 rfl ?_
              refine rx_if_eq (tgt := 107) hE dX10_chord_86 (by decide) (fun c86 => ?_) (fun c86 => absurd rfl c86)
              refine rx_iinc_4 hE dX10_chord_107 (v := 1) (by decide) (by decide) rfl ?_
              rw [nI_1]
              refine rx_goto (tgt := 28) hE dX10_chord_110 (by decide) ?_
              exact ih (k + 1) b _ _ _ (by omega) rfl (by omega) (by omega) (by rw [← hF]; show _ = qchF J (k + 1) m (qch1 J k b); rw [qch1_eq (by omega) hb6 hr6, if_neg (fun q => q.1.elim c56 (fun z => c62 z.1))])
            · refine rx_iload hE dX10_chord_65 rfl ?_
              refine rx_call0 (rx_callS (av := [.int _]) hE dX10_chord_67 lk_X10_230 (c_bitCount _) np_J6_bitCount_0f7a4 rfl rfl (by decide) (Nat.le_of_ble_eq_true rfl) rfl ?_)
              rintro v M' ⟨rfl, rfl⟩
              refine rx_iload_n hE dX10_chord_70 (i := 2) rfl rfl ?_
              refine rx_call0 (rx_callS (av := [.int _]) hE dX10_chord_71 lk_X10_230 (c_bitCount _) np_J6_bitCount_0f7a4 rfl rfl (by decide) (Nat.le_of_ble_eq_true rfl) rfl ?_)
              rintro v M' ⟨rfl, rfl⟩
              refine rx_icmp_ge (tgt := 81) hE dX10_chord_74 (by decide) (fun c74 => ?_) (fun c74 => ?_)
              · refine rx_iconst hE dX10_chord_81 (v := 0) (by decide) ?_
                refine rx_istore_6 hE dX10_chord_82 (by decide) rfl ?_
                refine rx_iload hE dX10_chord_84 rfl ?_
                refine rx_if_eq (tgt := 107) hE dX10_chord_86 (by decide) (fun c86 => ?_) (fun c86 => absurd rfl c86)
                refine rx_iinc_4 hE dX10_chord_107 (v := 1) (by decide) (by decide) rfl ?_
                rw [nI_1]
                refine rx_goto (tgt := 28) hE dX10_chord_110 (by decide) ?_
                exact ih (k + 1) b _ _ _ (by omega) rfl (by omega) (by omega) (by rw [← hF]; show _ = qchF J (k + 1) m (qch1 J k b); rw [qch1_eq (by omega) hb6 hr6, if_neg (fun q => q.1.elim c56 (fun z => z.2 c74))])
              · refine rx_iconst hE dX10_chord_77 (v := 1) (by decide) ?_
                refine rx_goto (tgt := 82) hE dX10_chord_78 (by decide) ?_
                refine rx_istore_6 hE dX10_chord_82 (by decide) rfl ?_
                refine rx_iload hE dX10_chord_84 rfl ?_
                refine rx_if_eq (tgt := 107) hE dX10_chord_86 (by decide) (fun c86 => absurd c86 (by decide)) (fun c86 => ?_)
                refine rx_aload_n hE dX10_chord_89 (i := 0) rfl rfl ?_
                refine rx_getf hE dX10_chord_90 fl_X10_19_9 (xa_0 hM) rfl ?_
                refine rx_iload hE dX10_chord_93 rfl ?_
                refine rx_call0 (rx_callV (av := [.int _]) hE dX10_chord_95 lk_X10_235 (x_isPeaceful (X := X) xJ_2 hM (J := J) hJ hf.1 _) (xa_j xJ_2 hM) np_X2_isPeaceful rfl rfl (by decide) (Nat.le_of_ble_eq_true rfl) rfl ?_)
                rintro v M' ⟨rfl, rfl⟩
                refine rx_if_eq (tgt := 107) hE dX10_chord_98 (by decide) (fun c98 => ?_) (fun c98 => ?_)
                · refine rx_iinc_4 hE dX10_chord_107 (v := 1) (by decide) (by decide) rfl ?_
                  rw [nI_1]
                  refine rx_goto (tgt := 28) hE dX10_chord_110 (by decide) ?_
                  exact ih (k + 1) b _ _ _ (by omega) rfl (by omega) (by omega) (by rw [← hF]; show _ = qchF J (k + 1) m (qch1 J k b); rw [qch1_eq (by omega) hb6 hr6, if_neg (fun q => q.2 c98)])
                · refine rx_iload hE dX10_chord_101 rfl ?_
                  refine rx_istore_n_2 hE dX10_chord_103 (by decide) rfl ?_
                  refine rx_iload hE dX10_chord_104 rfl ?_
                  refine rx_istore_n_3 hE dX10_chord_106 (by decide) rfl ?_
                  refine rx_iinc_4 hE dX10_chord_107 (v := 1) (by decide) (by decide) rfl ?_
                  rw [nI_1]
                  refine rx_goto (tgt := 28) hE dX10_chord_110 (by decide) ?_
                  exact ih (k + 1) k _ _ _ (by omega) rfl (by omega) (by omega) (by rw [← hF]; show _ = qchF J (k + 1) m (qch1 J k b); rw [qch1_eq (by omega) hb6 hr6, if_pos ⟨Or.inr ⟨c62, c74⟩, c98⟩])
      refine rx_iconst hE dX10_chord_21 (v := 0) (by decide) ?_
      refine rx_istore_n_2 hE dX10_chord_22 (by decide) rfl ?_
      refine rx_iconst hE dX10_chord_23 (v := 0) (by decide) ?_
      refine rx_istore_n_3 hE dX10_chord_24 (by decide) rfl ?_
      refine rx_iconst hE dX10_chord_25 (v := 1) (by decide) ?_
      refine rx_istore_4 hE dX10_chord_26 (by decide) rfl ?_
      exact loop (2 ^ jR J - 1) 1 0 0 _ _ (by omega) (jso_z _ hr6).symm (by decide) (by decide) rfl
    · refine rx_iconst hE dX10_chord_19 (v := -1) (by decide) ?_
      exact rx_iret hE hQ rfl dX10_chord_20 ⟨by simp [q_chord, *], xD.refl n X O Q G S L⟩
/-! ===== pence ===== -/
theorem nsum_mono (f : Nat → Nat) {k : Nat} : ∀ n, k ≤ n → nsum f k ≤ nsum f n
  | 0, h => by rw [show k = 0 by omega]; exact Nat.le_refl _
  | n + 1, h => by
    by_cases e : k = n + 1
    · rw [e]; exact Nat.le_refl _
    · have := nsum_mono f n (show k ≤ n by omega)
      show nsum f k ≤ nsum f n + f n
      omega
theorem pe_step {u A c : Nat} (f : Nat → Nat) {k R : Nat} (hk : k < R) (hA : A = nsum f R) (hA0 : 0 < A) (hc : c * A ≤ u * nsum f k) : (c + u * f k / A) * A ≤ u * nsum f (k + 1) ∧ c + u * f k / A ≤ u := by
  have h1 : (c + u * f k / A) * A ≤ u * nsum f (k + 1) := by
    show _ ≤ u * (nsum f k + f k)
    rw [Nat.add_mul, Nat.mul_add]
    have := Nat.div_mul_le_self (u * f k) A
    omega
  refine ⟨h1, ?_⟩
  have h2 : u * nsum f (k + 1) ≤ u * A := Nat.mul_le_mul_left u (by rw [hA]; exact nsum_mono f R (by omega))
  exact Nat.le_of_mul_le_mul_right (Nat.le_trans h1 h2) hA0
def qpd (f : Nat → Nat) (u A r k : Nat) : Nat := if u * f r % A < u * f k % A ∨ (u * f k % A = u * f r % A ∧ k < r) then 1 else 0
theorem qpe1_eq {J : gJn} {f : Nat → Nat} {u A r k c d : Nat} (hk : J 5 k = nI (f k)) (hu : u ≤ 9999) (hfk : f k ≤ 99999) (hfr : f r ≤ 99999) (hA0 : 0 < A) (hA : A < 2 ^ 31) (hr : r < 6) (hk6 : k < 6) (hc : c + u * f k / A ≤ u) : qpe1 J (nI u) (nI A) (nI (u * f r)) r k (nI (u - c), nI d) = (nI (u - (c + u * f k / A)), nI (d + qpd f u A r k)) := by
  have hm1 : u * f k ≤ 9999 * 99999 := Nat.mul_le_mul hu hfk
  have hm2 : u * f r ≤ 9999 * 99999 := Nat.mul_le_mul hu hfr
  have e1 : q_rem (nI (u * f k)) (nI A) = nI (u * f k % A) := pk_rem (by omega) hA0 hA
  have e2 : q_rem (nI (u * f r)) (nI A) = nI (u * f r % A) := pk_rem (by omega) hA0 hA
  have l1 := Nat.mod_lt (u * f k) hA0
  have l2 := Nat.mod_lt (u * f r) hA0
  unfold qpe1
  rw [hk, pk_mul, pk_div (by omega) hA0 hA, e1, e2]
  refine Prod.ext ?_ ?_
  · show nI (u - c) - nI (u * f k / A) = _
    rw [pk_sub (by omega)]
    congr 1
    omega
  · show nI d + (if _ then (1 : Int32) else 0) = _
    unfold qpd
    by_cases hc2 : u * f r % A < u * f k % A ∨ (u * f k % A = u * f r % A ∧ k < r)
    · rw [if_pos (by rw [nI_ltI (by omega) (by omega), nI_eq (by omega) (by omega), nI_leI (by omega) (by omega)]; omega), if_pos hc2]
      exact nI_1 d
    · rw [if_neg (by rw [nI_ltI (by omega) (by omega), nI_eq (by omega) (by omega), nI_leI (by omega) (by omega)]; omega), if_neg hc2]
      exact Int32.add_zero _
theorem lN_ne {A : Nat} (h0 : 0 < A) (h : A < 2 ^ 63) : ¬ lN A = 0 := fun q => by
  have := (pk_lEQ (a := A) (b := 0) h (by decide)).mp q
  omega
theorem nI_l' {x : Int32} {n : Nat} (e : x = nI n) (h : n < 2 ^ 31) : x.toInt64 = lN n := by rw [e]; exact nI_l h
set_option maxRecDepth 100000 in
set_option maxHeartbeats 1000000 in
theorem c_X10_pence {n : Nat} {X : gX} {O : gO} {Q : gU} {G : gK} {S : gS} {L : gLg} (hR : xR n X O Q) {J : gJn} (hJ : X 2 = J) (hk : xk J) {t : gJn → Nat → Int32 → Bool} (ht : xtf X Q (X 0 0 17) = t) (much road : Int32) : SX 3 0 0 mX10_pence [.ref 16, .int much, .int road] (xm n X O Q G S L) (fun v M' => v = some (.int (q_pence J much road)) ∧ xD n X O Q S L M') := by
  refine SX.intro [some (.ref 16), some (.int much), some (.int road), none, none, none, none, none, none, none, none, none, none] (by decide +kernel) (Nat.le_of_ble_eq_true rfl) rfl (fun E hE hQ => ?_)
  have hM := hR.M
  refine rx_aload_n hE dX10_pence_0 (i := 0) rfl rfl ?_
  refine rx_getf hE dX10_pence_1 fl_X10_19_9 (xa_0 hM) rfl ?_
  refine rx_iload_n hE dX10_pence_4 (i := 2) rfl rfl ?_
  refine rx_call0 (rx_callV (av := [.int _]) hE dX10_pence_5 lk_X10_147 (x_hasRoad (X := X) xJ_2 hM (J := J) hJ _) (xa_j xJ_2 hM) np_X2_hasRoad rfl rfl (by decide) (Nat.le_of_ble_eq_true rfl) rfl ?_)
  rintro v M' ⟨rfl, rfl⟩
  refine rx_if_eq (tgt := 22) hE dX10_pence_8 (by decide) (fun c8 => ?_) (fun c8 => ?_)
  · refine rx_iconst hE dX10_pence_22 (v := -1) (by decide) ?_
    exact rx_iret hE hQ rfl dX10_pence_23 ⟨by simp [q_pence, *], xD.refl n X O Q G S L⟩
  · refine rx_iload_n hE dX10_pence_11 (i := 1) rfl rfl ?_
    refine rx_iconst hE dX10_pence_12 (v := 0) (by decide) ?_
    refine rx_sipush hE dX10_pence_13 (v := 9999) (by decide) ?_
    refine rx_call0 (rx_callS (av := [.int _, .int _, .int _]) hE dX10_pence_16 lk_X10_143 (c_X10_within _ _ _) np_X10_within rfl rfl (by decide) (Nat.le_of_ble_eq_true rfl) rfl ?_)
    rintro v M' ⟨rfl, rfl⟩
    refine rx_if_ne (tgt := 24) hE dX10_pence_19 (by decide) (fun c19 => ?_) (fun c19 => ?_)
    · have hg : ¬ (j_hasRoad J road = 0 ∨ q_in much 0 9999 = 0) := by simp [*]
      obtain ⟨hf, hT9, r, hr, rfl⟩ := hk.road c8
      have hr6 := hf.1.2.1
      obtain ⟨u, hu0, hu, rfl⟩ := q_in_of (a := 0) (b := 9999) (by decide) c19
      obtain ⟨f, hfw⟩ := jw_fun (b := 99999) (R := 6) (by decide) hf.2.2.2.1
      obtain ⟨A, hA⟩ : ∃ A, A = nsum f (jR J) := ⟨_, rfl⟩
      have hAl : A ≤ 6 * 99999 := by
        have h1 := nsum_le f (jR J) (fun i hi => (hfw i (by omega)).1)
        have h2 := Nat.mul_le_mul_right 99999 hr6
        omega
      have hsA : jsum (J 5) (jR J) = nI A := by rw [hA]; exact jsum_n (jR J) (fun i hi => (hfw i (by omega)).2)
      refine rx_aload_n hE dX10_pence_24 (i := 0) rfl rfl ?_
      refine rx_getf hE dX10_pence_25 fl_X10_19_9 (xa_0 hM) rfl ?_
      refine rx_aload_n hE dX10_pence_28 (i := 0) rfl rfl ?_
      refine rx_getf hE dX10_pence_29 fl_X10_19_9 (xa_0 hM) rfl ?_
      refine rx_getfN hE dX10_pence_32 fl_X10_166_2 (xa_j xJ_2 hM) rfl ?_
      refine rx_call0 (rx_callV (av := [.ref _]) hE dX10_pence_35 lk_X10_191 (x_sumOf (X := X) xJ_2 hM (J := J) hJ hf.1 (f := 5) (by decide)) (xa_j xJ_2 hM) np_X2_sumOf rfl rfl (by decide) (Nat.le_of_ble_eq_true rfl) rfl ?_)
      rintro v M' ⟨rfl, rfl⟩
      rw [hsA]
      refine rx_i2l hE dX10_pence_38 ?_
      refine rx_lng _ (lN A) (nI_l (by omega)) ?_
      refine rx_lstore_n_3 hE dX10_pence_39 (by decide) rfl ?_
      refine rx_lload_n hE dX10_pence_40 (i := 3) rfl rfl ?_
      refine rx_lconst hE dX10_pence_41 (v := 0) (by decide) ?_
      refine rx_lcmp hE dX10_pence_42 ?_
      refine rx_if_gt (tgt := 48) hE dX10_pence_43 (by decide) (fun c43 => ?_) (fun c43 => ?_)
      · rw [lg_cmp_gt, show (0 : Int64) = lN 0 from rfl, pk_lLT (by decide) (by omega)] at c43
        have hA0 : 0 < A := c43
        have hAn := lN_ne hA0 (show A < 2 ^ 63 by omega)
        have hm_r : u * f r ≤ 9999 * 99999 := Nat.mul_le_mul (by omega) (hfw r (by omega)).1
        have hv : q_pence J (nI u) (nI r) = qpeE J (nI u) (nI A) (nI (u * f r)) r (jR J) := by unfold q_pence; rw [if_neg hg, nI_clamp (n := r) (by omega), hsA, if_neg (nI_ne0 hA0 (by omega)), (hfw r (by omega)).2, pk_mul]
        have loop : ∀ (m k : Nat) (c d : Nat) (l11 l12 : Option Value), k + m = jR J → c * A ≤ u * nsum f k → c ≤ u → d ≤ k → qpeF J (nI u) (nI A) (nI (u * f r)) r k m (nI (u - c), nI d) = qpeF J (nI u) (nI A) (nI (u * f r)) r 0 (jR J) (nI u, 0) → RX E mX10_pence.2.2.1 0 0 75 [some (.ref 16), some (.int (nI u)), some (.int (nI r)), some (.long (lN A)), none, some (.long (lN (u * f r % A))), none, some (.long (lN (u - c))), none, some (.int (nI d)), some (.int (nI k)), l11, l12] [] (xm n X O Q G S L) := by
          intro m
          induction m with
          | zero =>
            intro k c d l11 l12 hk2 hcA hcu hdk hF
            refine rx_iload hE dX10_pence_75 rfl ?_
            refine rx_aload_n hE dX10_pence_77 (i := 0) rfl rfl ?_
            refine rx_getf hE dX10_pence_78 fl_X10_19_9 (xa_0 hM) rfl ?_
            refine rx_getfN hE dX10_pence_81 fl_X10_132_2 (xa_j xJ_2 hM) rfl ?_
            refine rx_int _ (nI (jR J)) ((congrFun (congrFun hJ 9) 2).trans hf.1.1) ?_
            refine rx_icmp_ge (tgt := 147) hE dX10_pence_84 (by decide) (fun c84 => ?_) (fun c84 => absurd (show nI (jR J) ≤ nI k from nI_le (by omega) (by omega)) c84)
            refine rx_iload_n hE dX10_pence_147 (i := 1) rfl rfl ?_
            refine rx_i2l hE dX10_pence_148 ?_
            refine rx_lng _ (lN u) (nI_l (by omega)) ?_
            refine rx_aload_n hE dX10_pence_149 (i := 0) rfl rfl ?_
            refine rx_getf hE dX10_pence_150 fl_X10_19_9 (xa_0 hM) rfl ?_
            refine rx_getfN hE dX10_pence_153 fl_X10_166_2 (xa_j xJ_2 hM) rfl ?_
            refine rx_iload_n hE dX10_pence_156 (i := 2) rfl rfl ?_
            refine rx_ialdN (i := r) hE dX10_pence_157 (xa_j6 xJ_2 hM) (by omega) (by decide) ?_
            refine rx_int _ (nI (f r)) ((congrFun (congrFun hJ 5) r).trans (hfw r (by omega)).2) ?_
            refine rx_i2l hE dX10_pence_158 ?_
            have hf_r := (hfw r (by omega)).1
            refine rx_lng _ (lN (f r)) (nI_l (by omega)) ?_
            refine rx_lmul hE dX10_pence_159 ?_
            refine rx_lng _ (lN (u * f r)) (lN_mul _ _) ?_
            have hm_r : u * f r ≤ 9999 * 99999 := Nat.mul_le_mul (by omega) hf_r
            refine rx_lload_n hE dX10_pence_160 (i := 3) rfl rfl ?_
            refine rx_ldiv hE dX10_pence_161 hAn ?_
            refine rx_lng _ (lN (u * f r / A)) (pk_lDiv (by omega) hA0 (by omega)) ?_
            refine rx_l2i hE dX10_pence_162 ?_
            refine rx_int _ (nI (u * f r / A)) (lN_i _) ?_
            refine rx_iload hE dX10_pence_163 rfl ?_
            refine rx_i2l hE dX10_pence_165 ?_
            refine rx_lng _ (lN d) (nI_l (by omega)) ?_
            refine rx_lload hE dX10_pence_166 rfl ?_
            refine rx_lcmp hE dX10_pence_168 ?_
            refine rx_if_ge (tgt := 176) hE dX10_pence_169 (by decide) (fun c169 => ?_) (fun c169 => ?_)
            · refine rx_iconst hE dX10_pence_176 (v := 0) (by decide) ?_
              refine rx_iadd hE dX10_pence_177 ?_
              exact rx_iret hE hQ rfl dX10_pence_178 ⟨by rw [lg_cmp_ge, pk_lLE (by omega) (by omega)] at c169; rw [hv]; unfold qpeE; rw [← hF]; show _ = some (Value.int (nI (u * f r) / nI A + (if nI (u - c) ≤ nI d then 0 else 1))); rw [pk_div (by omega) hA0 (by omega), if_pos (by rw [nI_leI (by omega) (by omega)]; exact c169)], xD.refl n X O Q G S L⟩
            · refine rx_iconst hE dX10_pence_172 (v := 1) (by decide) ?_
              refine rx_goto (tgt := 177) hE dX10_pence_173 (by decide) ?_
              refine rx_iadd hE dX10_pence_177 ?_
              exact rx_iret hE hQ rfl dX10_pence_178 ⟨by rw [lg_cmp_ge, pk_lLE (by omega) (by omega)] at c169; rw [hv]; unfold qpeE; rw [← hF]; show _ = some (Value.int (nI (u * f r) / nI A + (if nI (u - c) ≤ nI d then 0 else 1))); rw [pk_div (by omega) hA0 (by omega), if_neg (by rw [nI_leI (by omega) (by omega)]; exact c169)], xD.refl n X O Q G S L⟩
          | succ m ih =>
            intro k c d l11 l12 hk2 hcA hcu hdk hF
            refine rx_iload hE dX10_pence_75 rfl ?_
            refine rx_aload_n hE dX10_pence_77 (i := 0) rfl rfl ?_
            refine rx_getf hE dX10_pence_78 fl_X10_19_9 (xa_0 hM) rfl ?_
            refine rx_getfN hE dX10_pence_81 fl_X10_132_2 (xa_j xJ_2 hM) rfl ?_
            refine rx_int _ (nI (jR J)) ((congrFun (congrFun hJ 9) 2).trans hf.1.1) ?_
            refine rx_icmp_ge (tgt := 147) hE dX10_pence_84 (by decide) (fun c84 => absurd c84 (nI_ge (a := k) (b := (jR J)) (by omega) (by omega))) (fun c84 => ?_)
            refine rx_iload_n hE dX10_pence_87 (i := 1) rfl rfl ?_
            refine rx_i2l hE dX10_pence_88 ?_
            refine rx_lng _ (lN u) (nI_l (by omega)) ?_
            refine rx_aload_n hE dX10_pence_89 (i := 0) rfl rfl ?_
            refine rx_getf hE dX10_pence_90 fl_X10_19_9 (xa_0 hM) rfl ?_
            refine rx_getfN hE dX10_pence_93 fl_X10_166_2 (xa_j xJ_2 hM) rfl ?_
            refine rx_iload hE dX10_pence_96 rfl ?_
            refine rx_ialdN (i := k) hE dX10_pence_98 (xa_j6 xJ_2 hM) (by omega) (by decide) ?_
            refine rx_int _ (nI (f k)) ((congrFun (congrFun hJ 5) k).trans (hfw k (by omega)).2) ?_
            refine rx_i2l hE dX10_pence_99 ?_
            have hf_k := (hfw k (by omega)).1
            refine rx_lng _ (lN (f k)) (nI_l (by omega)) ?_
            refine rx_lmul hE dX10_pence_100 ?_
            refine rx_lng _ (lN (u * f k)) (lN_mul _ _) ?_
            have hm_k : u * f k ≤ 9999 * 99999 := Nat.mul_le_mul (by omega) hf_k
            have hst := pe_step (u := u) (A := A) (c := c) f (k := k) (R := jR J) (by omega) hA hA0 hcA
            have hl1 := Nat.mod_lt (u * f k) hA0
            have hl2 := Nat.mod_lt (u * f r) hA0
            refine rx_lstore_11 hE dX10_pence_101 (by decide) rfl ?_
            refine rx_lload hE dX10_pence_103 rfl ?_
            refine rx_lload hE dX10_pence_105 rfl ?_
            refine rx_lload_n hE dX10_pence_107 (i := 3) rfl rfl ?_
            refine rx_ldiv hE dX10_pence_108 hAn ?_
            refine rx_lng _ (lN (u * f k / A)) (pk_lDiv (by omega) hA0 (by omega)) ?_
            refine rx_lsub hE dX10_pence_109 ?_
            refine rx_lng _ (lN (u - (c + u * f k / A))) ((lN_sub (by omega)).trans (congrArg lN (by omega))) ?_
            refine rx_lstore_7 hE dX10_pence_110 (by decide) rfl ?_
            refine rx_lload hE dX10_pence_112 rfl ?_
            refine rx_lload_n hE dX10_pence_114 (i := 3) rfl rfl ?_
            refine rx_lrem hE dX10_pence_115 hAn ?_
            refine rx_lng _ (lN (u * f k % A)) (pk_lRem (by omega) hA0 (by omega)) ?_
            refine rx_lload hE dX10_pence_116 rfl ?_
            refine rx_lcmp hE dX10_pence_118 ?_
            refine rx_if_gt (tgt := 138) hE dX10_pence_119 (by decide) (fun c119 => ?_) (fun c119 => ?_)
            · rw [lg_cmp_gt, pk_lLT (by omega) (by omega)] at c119
              refine rx_iinc_9 hE dX10_pence_138 (v := 1) (by decide) (by decide) rfl ?_
              rw [nI_1]
              refine rx_iinc_10 hE dX10_pence_141 (v := 1) (by decide) (by decide) rfl ?_
              rw [nI_1]
              refine rx_goto (tgt := 75) hE dX10_pence_144 (by decide) ?_
              have hd1 : qpd f u A r k = 1 := if_pos (Or.inl c119)
              exact ih (k + 1) (c + u * f k / A) (d + 1) _ _ (by omega) hst.1 hst.2 (by omega) (by rw [← hF]; show _ = qpeF J (nI u) (nI A) (nI (u * f r)) r (k + 1) m (qpe1 J (nI u) (nI A) (nI (u * f r)) r k (nI (u - c), nI d)); rw [qpe1_eq (hfw k (by omega)).2 hu hf_k (hfw r (by omega)).1 hA0 (by omega) (by omega) (by omega) hst.2, hd1])
            · rw [lg_cmp_gt, pk_lLT (by omega) (by omega)] at c119
              refine rx_lload hE dX10_pence_122 rfl ?_
              refine rx_lload_n hE dX10_pence_124 (i := 3) rfl rfl ?_
              refine rx_lrem hE dX10_pence_125 hAn ?_
              refine rx_lng _ (lN (u * f k % A)) (pk_lRem (by omega) hA0 (by omega)) ?_
              refine rx_lload hE dX10_pence_126 rfl ?_
              refine rx_lcmp hE dX10_pence_128 ?_
              refine rx_if_ne (tgt := 141) hE dX10_pence_129 (by decide) (fun c129 => ?_) (fun c129 => ?_)
              · rw [lg_cmp_eq, pk_lEQ (by omega) (by omega)] at c129
                refine rx_iinc_10 hE dX10_pence_141 (v := 1) (by decide) (by decide) rfl ?_
                rw [nI_1]
                refine rx_goto (tgt := 75) hE dX10_pence_144 (by decide) ?_
                have hd1 : qpd f u A r k = 0 := if_neg (fun q => q.elim c119 (fun z => c129 z.1))
                exact ih (k + 1) (c + u * f k / A) (d) _ _ (by omega) hst.1 hst.2 (by omega) (by rw [← hF]; show _ = qpeF J (nI u) (nI A) (nI (u * f r)) r (k + 1) m (qpe1 J (nI u) (nI A) (nI (u * f r)) r k (nI (u - c), nI d)); rw [qpe1_eq (hfw k (by omega)).2 hu hf_k (hfw r (by omega)).1 hA0 (by omega) (by omega) (by omega) hst.2, hd1, Nat.add_zero d])
              · rw [lg_cmp_eq, pk_lEQ (by omega) (by omega)] at c129
                refine rx_iload hE dX10_pence_132 rfl ?_
                refine rx_iload_n hE dX10_pence_134 (i := 2) rfl rfl ?_
                refine rx_icmp_ge (tgt := 141) hE dX10_pence_135 (by decide) (fun c135 => ?_) (fun c135 => ?_)
                · rw [nI_leI (by omega) (by omega)] at c135
                  refine rx_iinc_10 hE dX10_pence_141 (v := 1) (by decide) (by decide) rfl ?_
                  rw [nI_1]
                  refine rx_goto (tgt := 75) hE dX10_pence_144 (by decide) ?_
                  have hd1 : qpd f u A r k = 0 := if_neg (fun q => q.elim c119 (fun z => absurd z.2 (by omega)))
                  exact ih (k + 1) (c + u * f k / A) (d) _ _ (by omega) hst.1 hst.2 (by omega) (by rw [← hF]; show _ = qpeF J (nI u) (nI A) (nI (u * f r)) r (k + 1) m (qpe1 J (nI u) (nI A) (nI (u * f r)) r k (nI (u - c), nI d)); rw [qpe1_eq (hfw k (by omega)).2 hu hf_k (hfw r (by omega)).1 hA0 (by omega) (by omega) (by omega) hst.2, hd1, Nat.add_zero d])
                · rw [nI_leI (by omega) (by omega)] at c135
                  refine rx_iinc_9 hE dX10_pence_138 (v := 1) (by decide) (by decide) rfl ?_
                  rw [nI_1]
                  refine rx_iinc_10 hE dX10_pence_141 (v := 1) (by decide) (by decide) rfl ?_
                  rw [nI_1]
                  refine rx_goto (tgt := 75) hE dX10_pence_144 (by decide) ?_
                  have hd1 : qpd f u A r k = 1 := if_pos (Or.inr ⟨c129, by omega⟩)
                  exact ih (k + 1) (c + u * f k / A) (d + 1) _ _ (by omega) hst.1 hst.2 (by omega) (by rw [← hF]; show _ = qpeF J (nI u) (nI A) (nI (u * f r)) r (k + 1) m (qpe1 J (nI u) (nI A) (nI (u * f r)) r k (nI (u - c), nI d)); rw [qpe1_eq (hfw k (by omega)).2 hu hf_k (hfw r (by omega)).1 hA0 (by omega) (by omega) (by omega) hst.2, hd1])
        refine rx_iload_n hE dX10_pence_48 (i := 1) rfl rfl ?_
        refine rx_i2l hE dX10_pence_49 ?_
        refine rx_lng _ (lN u) (nI_l (by omega)) ?_
        refine rx_aload_n hE dX10_pence_50 (i := 0) rfl rfl ?_
        refine rx_getf hE dX10_pence_51 fl_X10_19_9 (xa_0 hM) rfl ?_
        refine rx_getfN hE dX10_pence_54 fl_X10_166_2 (xa_j xJ_2 hM) rfl ?_
        refine rx_iload_n hE dX10_pence_57 (i := 2) rfl rfl ?_
        refine rx_ialdN hE dX10_pence_58 (xa_j6 xJ_2 hM) (by omega) (by decide) ?_
        refine rx_int _ (nI (f r)) ((congrFun (congrFun hJ 5) r).trans (hfw r (by omega)).2) ?_
        refine rx_i2l hE dX10_pence_59 ?_
        have hf_r := (hfw r (by omega)).1
        refine rx_lng _ (lN (f r)) (nI_l (by omega)) ?_
        refine rx_lmul hE dX10_pence_60 ?_
        refine rx_lng _ (lN (u * f r)) (lN_mul _ _) ?_
        have hm_r : u * f r ≤ 9999 * 99999 := Nat.mul_le_mul (by omega) hf_r
        refine rx_lload_n hE dX10_pence_61 (i := 3) rfl rfl ?_
        refine rx_lrem hE dX10_pence_62 hAn ?_
        refine rx_lng _ (lN (u * f r % A)) (pk_lRem (by omega) hA0 (by omega)) ?_
        refine rx_lstore_5 hE dX10_pence_63 (by decide) rfl ?_
        refine rx_iload_n hE dX10_pence_65 (i := 1) rfl rfl ?_
        refine rx_i2l hE dX10_pence_66 ?_
        refine rx_lng _ (lN u) (nI_l (by omega)) ?_
        refine rx_lstore_7 hE dX10_pence_67 (by decide) rfl ?_
        refine rx_iconst hE dX10_pence_69 (v := 0) (by decide) ?_
        refine rx_istore_9 hE dX10_pence_70 (by decide) rfl ?_
        refine rx_iconst hE dX10_pence_72 (v := 0) (by decide) ?_
        refine rx_istore_10 hE dX10_pence_73 (by decide) rfl ?_
        exact loop (jR J) 0 0 0 _ _ (by omega) (by simp [nsum]) (by omega) (by omega) rfl
      · rw [lg_cmp_gt, show (0 : Int64) = lN 0 from rfl, pk_lLT (by decide) (by omega)] at c43
        have hA0 : A = 0 := by omega
        refine rx_iconst hE dX10_pence_46 (v := 0) (by decide) ?_
        exact rx_iret hE hQ rfl dX10_pence_47 ⟨by unfold q_pence; rw [if_neg hg, if_pos (by rw [hsA, hA0]; rfl)], xD.refl n X O Q G S L⟩
    · refine rx_iconst hE dX10_pence_22 (v := -1) (by decide) ?_
      exact rx_iret hE hQ rfl dX10_pence_23 ⟨by simp [q_pence, *], xD.refl n X O Q G S L⟩
