set_option maxRecDepth 100000 in
set_option maxHeartbeats 1000000 in
theorem c_X11_tested {M : gM} {S : gS} {L : gLg} (hM : 408 ≤ M.1) {T : Nat → Int32} {N t q c : Nat} {l0 : gSg} (hN : N ≤ 400) (hb : ∀ i, tb8 (T i)) (ht : t < 6) (hq : kq1 S T N t q c l0) {m : Nat} {r : gRs} (hmt : mtR T N m false [] (sk T N q) [] c r) (hl : l0.length + 3 ≤ sk T N q) : SX 8 0 0 mX11_tested [.ref 384] (kp M S L) (fun v M' => ∃ S', M' = kp M S' L ∧ kft t S S' ∧ ((v = some (.int 0) ∧ ∃ g, r = .error g ∧ S' 0 9 = g) ∨ (v = some (.int 1) ∧ ∃ q1 l1 c1, r = .ok (sk T N q1, l1, c1) ∧ kq1 S' T N t q1 c1 (l0 ++ l1) ∧ l0.length + l1.length + 3 ≤ sk T N q1))) := by
  refine SX.intro [some (.ref 384), none, none] (by decide +kernel) (Nat.le_of_ble_eq_true rfl) rfl (fun E hE hQ => ?_)
  have hqN0 := (sk_le (T := T) hq.2.1).2
  have stp : ∀ (m1 : Nat), (∀ m2, m2 < m1 → ∀ (q1 c1 : Nat) (l1 : gSg) (O1 : List Nat) (S1 : gS) (lx : Option Value), m2 ≤ m → kft t S S1 → kq1 S1 T N t q1 c1 (l0 ++ l1) → kop S1 O1 → dpO O1 ≤ 10 → mtR T N m2 false O1 (sk T N q1) l1 c1 r → l0.length + l1.length + O1.length + 3 ≤ sk T N q1 → RX E mX11_tested.2.2.1 0 0 12 [some (.ref 384), some (.int 1), lx] [] (kp M S1 L)) → ∀ (q1 c1 : Nat) (l1 : gSg) (O1 : List Nat) (S1 : gS) (lx : Option Value), m1 ≤ m → kft t S S1 → kq1 S1 T N t q1 c1 (l0 ++ l1) → kop S1 O1 → dpO O1 ≤ 10 → mtR T N m1 false O1 (sk T N q1) l1 c1 r → l0.length + l1.length + O1.length + 3 ≤ sk T N q1 → RX E mX11_tested.2.2.1 0 0 12 [some (.ref 384), some (.int 1), lx] [] (kp M S1 L) := by
    intro m1 ih0 q1 c1 l1 O1 S1 lx hmm fx q1k ho1 hdp hmt1 hl1
    have hq1N := (sk_le (T := T) q1k.2.1).2
    refine rx_iload_n hE dX11_tested_12 (i := 1) rfl rfl ?_
    refine rx_if_eq (tgt := 112) hE dX11_tested_13 (by decide) (fun c13 => absurd c13 (by decide)) (fun c13 => ?_)
    refine rx_aload_n hE dX11_tested_16 (i := 0) rfl rfl ?_
    refine rx_call0 (rx_callV (av := []) hE dX11_tested_17 lk_X11_212 (c_X11_fact (S := S1) (l0 := l0) (l := l1) (O := O1) (r := r) hM hN hb ht q1k ho1 hl1 hmt1 hdp) (kp_o hM) np_X11_fact rfl rfl (by decide) (Nat.le_of_ble_eq_true rfl) rfl ?_)
    rintro v M' ⟨S2, rfl, f2, hv⟩
    rcases hv with ⟨rfl, g, hg, e9⟩ | ⟨rfl, q2, l2, c2, O2, m2, hm2, q2k, ho2, hd2, hmt2, hl2⟩
    · skip
      refine rx_if_ne (tgt := 25) hE dX11_tested_20 (by decide) (fun c20 => absurd rfl c20) (fun c20 => ?_)
      refine rx_iconst hE dX11_tested_23 (v := 0) (by decide) ?_
      exact rx_tret hE hQ rfl rfl dX11_tested_24 ⟨S2, rfl, fx.trans f2, Or.inl ⟨rfl, g, hg, e9⟩⟩
    · skip
      refine rx_if_ne (tgt := 25) hE dX11_tested_20 (by decide) (fun c20 => ?_) (fun c20 => absurd c20 (by decide))
      refine rx_aload_n hE dX11_tested_25 (i := 0) rfl rfl ?_
      refine rx_call0 (rx_callV (av := []) hE dX11_tested_26 lk_X11_215 (c_X11_closes (S := S2) (l0 := l0) (l := l2) (O := O2) (r := r) hM hN hb ht q2k ho2 hl2 hmt2) (kp_o hM) np_X11_closes rfl rfl (by decide) (Nat.le_of_ble_eq_true rfl) rfl ?_)
      rintro v M' ⟨rfl, S3, rfl, f3, q3, l3, O3, m3, hm3, q3k, ho3, hy3, hmt3, hn93, hl3, hd3⟩
      have hp3N := (sk_le (T := T) q3k.2.1).2
      have q4 := q3k.mv hp3N
      have o4 := ho3.fr (t := t) (kfr.f t S3 (i := 8) (by omega) (nI (sk T N q3)))
      have hz3 := sk_sk (T := T) (N := N) q3k.2.1
      refine rx_aload_n hE dX11_tested_29 (i := 0) rfl rfl ?_
      refine rx_ldc2 hE dX11_tested_30 kl_X11_218 ?_
      refine rx_call0 (rx_callV (av := [.long 1476]) hE dX11_tested_33 lk_X11_113 (c_X11_isWordQ hM hN q3k 1476) (kp_o hM) np_X11_isWord rfl rfl (by decide) (Nat.le_of_ble_eq_true rfl) rfl ?_)
      rintro v M' ⟨rfl, rfl⟩
      refine rx_if_ne (tgt := 49) hE dX11_tested_36 (by decide) (fun c36 => ?_) (fun c36 => ?_)
      · have hA : ¬ qwd T N (sk T N q3) 1476 = 0 := c36
        refine rx_iconst hE dX11_tested_49 (v := 1) (by decide) ?_
        refine rx_goto (tgt := 54) hE dX11_tested_50 (by decide) ?_
        refine rx_istore_n_1 hE dX11_tested_54 (by decide) rfl ?_
        refine rx_iload_n hE dX11_tested_55 (i := 1) rfl rfl ?_
        refine rx_if_eq (tgt := 12) hE dX11_tested_56 (by decide) (fun c56 => absurd c56 (by decide)) (fun c56 => ?_)
        refine rx_aload_n hE dX11_tested_59 (i := 0) rfl rfl ?_
        refine rx_ldc2 hE dX11_tested_60 kl_X11_218 ?_
        refine rx_call0 (rx_callV (av := [.long 1476]) hE dX11_tested_63 lk_X11_113 (c_X11_isWordZ hM hN q4 hz3 1476) (kp_o hM) np_X11_isWord rfl rfl (by decide) (Nat.le_of_ble_eq_true rfl) rfl ?_)
        rintro v M' ⟨rfl, rfl⟩
        refine rx_if_eq (tgt := 74) hE dX11_tested_66 (by decide) (fun c66 => absurd c66 hA) (fun c66 => ?_)
        refine rx_bipush hE dX11_tested_69 (v := 12) (by decide) ?_
        refine rx_goto (tgt := 76) hE dX11_tested_71 (by decide) ?_
        refine rx_istore_n_2 hE dX11_tested_76 (by decide) rfl ?_
        refine rx_aload_n hE dX11_tested_77 (i := 0) rfl rfl ?_
        have hwt := wd_te hp3N hA
        have hte : te T N (sk T N q3) = tru ltB T N (sk T N q3) := hwt.2.2
        have hnx := nx_lt (T := T) hwt.1
        refine rx_call0 (rx_callV (av := []) hE dX11_tested_78 lk_X11_117 (c_X11_passWordQ (S := (k_f S3 8 (nI (sk T N q3)))) hM hN q4) (kp_o hM) np_X11_passWord rfl rfl (by decide) (Nat.le_of_ble_eq_true rfl) rfl ?_)
        rintro v M' ⟨rfl, S5, rfl, f5, q5⟩
        rw [← hte] at q5
        refine rx_aload_n hE dX11_tested_81 (i := 0) rfl rfl ?_
        refine rx_iload_n hE dX11_tested_82 (i := 2) rfl rfl ?_
        refine rx_call0 (rx_callS (av := [.int (nI 12)]) hE dX11_tested_83 lk_X11_170 (c_X11_strength (nI 12)) np_X11_strength rfl rfl (by decide) (Nat.le_of_ble_eq_true rfl) rfl ?_)
        rintro v M' ⟨rfl, rfl⟩
        refine rx_int _ (nI 2) (by decide) ?_
        refine rx_call0 (rx_callV (av := [.int (nI 2)]) hE dX11_tested_86 lk_X11_206 (c_X11_layDown (S := S5) hM ht q5 (k := 2) (by decide) (by decide) (o4.fr f5) (by simp only [List.length_append]; omega)) (kp_o hM) np_X11_layDown rfl rfl (by decide) (Nat.le_of_ble_eq_true rfl) rfl ?_)
        rintro v M' ⟨rfl, S6, rfl, f6, k6, o6⟩
        have hly := ly_len 2 O3
        have hdl := ly_dp (k := 2) O3
        refine rx_aload_n hE dX11_tested_89 (i := 0) rfl rfl ?_
        refine rx_getf hE dX11_tested_90 fl_X11_29_10 (kp_o hM) rfl ?_
        refine rx_aload_n hE dX11_tested_93 (i := 0) rfl rfl ?_
        refine rx_getf hE dX11_tested_94 fl_X11_167_10 (kp_o hM) rfl ?_
        refine rx_int _ (nI (lyR 2 O3).length) o6.1 ?_
        refine rx_iload_n hE dX11_tested_97 (i := 2) rfl rfl ?_
        refine rx_iastN hE dX11_tested_98 (kp_7 hM) (by omega) (by decide) ?_
        refine rx_mem (M' := kp M (k_s S6 7 (upd (S6 7) (lyR 2 O3).length 12)) L) kw_7 ?_
        refine rx_aload_n hE dX11_tested_99 (i := 0) rfl rfl ?_
        refine rx_dup hE dX11_tested_100 rfl ?_
        refine rx_getf hE dX11_tested_101 fl_X11_167_10 (kp_o hM) rfl ?_
        refine rx_int _ (nI (lyR 2 O3).length) o6.1 ?_
        refine rx_iconst hE dX11_tested_104 (v := 1) (by decide) ?_
        refine rx_iadd hE dX11_tested_105 ?_
        refine rx_int _ (nI ((lyR 2 O3).length + 1)) (nI_1 _) ?_
        refine rx_put hE dX11_tested_106 fl_X11_167_10 fw_10_16 (kp_o hM) (fun _ => rfl) (fun _ => rfl) (Nat.le_of_ble_eq_true rfl) ?_
        refine rx_mem (M' := kp M (k_f (k_s S6 7 (upd (S6 7) (lyR 2 O3).length 12)) 16 (nI ((lyR 2 O3).length + 1))) L) kw_c16 ?_
        refine rx_goto (tgt := 12) hE dX11_tested_109 (by decide) ?_
        obtain ⟨m4, hm4, hmt4⟩ : ∃ m4, m4 < m3 ∧ mtR T N m4 false (12 :: lyR 2 O3) (nx T N (sk T N q3)) (l3 ++ lyL 2 O3) c2 r := by
          cases m3 with
          | zero => exact absurd hmt3 id
          | succ m4 =>
            rcases hmt3 with ⟨h, _⟩ | ⟨_, _, h⟩ | ⟨_, h, _⟩ | ⟨_, h, _⟩
            · exact absurd h hn93
            · rw [hy3.1, hy3.2, List.append_nil] at h
              exact ⟨m4, Nat.lt_succ_self _, h⟩
            · exact absurd h hA
            · exact absurd h hA
        exact ih0 m4 (by omega) _ _ _ _ _ _ (by omega) (fx.trans (f2.trans (f3.trans ((kft.f t _ (by omega) _).trans (f5.t.trans (f6.trans ((kft.s7 t _ _).trans (kft.f t _ (by omega) _)))))))) (by rw [List.append_assoc] at k6; exact (k6.s7 _).f (Or.inr rfl) _) (kop_push (x := 12) o6 (Or.inr (Or.inr (Or.inl rfl))) rfl rfl (by show S6 0 13 = _; rw [o6.2.2.1]; show nI (dpO (lyR 2 O3)) = nI (0 + dpO (lyR 2 O3)); rw [Nat.zero_add])) (by show 0 + dpO (lyR 2 O3) ≤ 10; omega) hmt4 (by rw [List.length_cons, List.length_append]; show _ ≤ nx T N (sk T N q3); omega)
      · have hA : qwd T N (sk T N q3) 1476 = 0 := c36
        refine rx_aload_n hE dX11_tested_39 (i := 0) rfl rfl ?_
        refine rx_ldc2 hE dX11_tested_40 kl_X11_220 ?_
        refine rx_call0 (rx_callV (av := [.long 498]) hE dX11_tested_43 lk_X11_113 (c_X11_isWordZ hM hN q4 hz3 498) (kp_o hM) np_X11_isWord rfl rfl (by decide) (Nat.le_of_ble_eq_true rfl) rfl ?_)
        rintro v M' ⟨rfl, rfl⟩
        refine rx_if_eq (tgt := 53) hE dX11_tested_46 (by decide) (fun c46 => ?_) (fun c46 => ?_)
        · have hO : qwd T N (sk T N q3) 498 = 0 := c46
          refine rx_iconst hE dX11_tested_53 (v := 0) (by decide) ?_
          refine rx_istore_n_1 hE dX11_tested_54 (by decide) rfl ?_
          refine rx_iload_n hE dX11_tested_55 (i := 1) rfl rfl ?_
          refine rx_if_eq (tgt := 12) hE dX11_tested_56 (by decide) (fun c56 => ?_) (fun c56 => absurd rfl c56)
          have hend : ((91 ∈ O3 → r = .error (fE (sk T N q3) 0)) ∧ (¬ 91 ∈ O3 → r = .ok ((sk T N q3), l3 ++ lyL 1 O3, c2))) := by
            cases m3 with
            | zero => exact absurd hmt3 id
            | succ m4 =>
              rcases hmt3 with ⟨h, _⟩ | ⟨_, h, _⟩ | ⟨_, _, h, _⟩ | ⟨_, _, _, h⟩
              · exact absurd h hn93
              · exact absurd hA h
              · exact absurd hO h
              · rw [hy3.1, hy3.2, List.append_nil] at h
                rcases h with ⟨h1, h2⟩ | ⟨h1, h2⟩
                · exact ⟨fun _ => h2, fun z => absurd h1 z⟩
                · exact ⟨fun z => absurd z h1, fun _ => h2⟩
          refine rx_iload_n hE dX11_tested_12 (i := 1) rfl rfl ?_
          refine rx_if_eq (tgt := 112) hE dX11_tested_13 (by decide) (fun c13 => ?_) (fun c13 => absurd rfl c13)
          refine rx_aload_n hE dX11_tested_112 (i := 0) rfl rfl ?_
          refine rx_call0 (rx_callV (av := []) hE dX11_tested_113 lk_X11_209 (c_X11_insideQ hM o4 (by omega)) (kp_o hM) np_X11_isInside rfl rfl (by decide) (Nat.le_of_ble_eq_true rfl) rfl ?_)
          rintro v M' ⟨rfl, rfl⟩
          refine rx_if_eq (tgt := 134) hE dX11_tested_116 (by decide) (fun c116 => ?_) (fun c116 => ?_)
          · have hin : ¬ 91 ∈ O3 := fun z => absurd c116 (by rw [if_pos z]; decide)
            refine rx_aload_n hE dX11_tested_134 (i := 0) rfl rfl ?_
            refine rx_iconst hE dX11_tested_135 (v := 1) (by decide) ?_
            refine rx_call0 (rx_callV (av := [.int (nI 1)]) hE dX11_tested_136 lk_X11_206 (c_X11_layDown (S := (k_f S3 8 (nI (sk T N q3)))) hM ht q4 (k := 1) (by decide) (by decide) o4 (by simp only [List.length_append]; omega)) (kp_o hM) np_X11_layDown rfl rfl (by decide) (Nat.le_of_ble_eq_true rfl) rfl ?_)
            rintro v M' ⟨rfl, S5, rfl, f5, k5, o5⟩
            refine rx_iconst hE dX11_tested_139 (v := 1) (by decide) ?_
            exact rx_tret hE hQ rfl rfl dX11_tested_140 ⟨S5, rfl, fx.trans (f2.trans (f3.trans ((kft.f t _ (by omega) _).trans f5))), Or.inr ⟨rfl, (sk T N q3), l3 ++ lyL 1 O3, c2, by rw [hz3]; exact hend.2 hin, by rw [List.append_assoc] at k5; exact k5, by have hly := ly_len 1 O3; rw [hz3, List.length_append]; omega⟩⟩
          · have hin : 91 ∈ O3 := Classical.byContradiction (fun z => c116 (if_neg z))
            refine rx_aload_n hE dX11_tested_119 (i := 0) rfl rfl ?_
            refine rx_call0 (rx_callV (av := []) hE dX11_tested_120 lk_X11_105 (c_X11_seeZ hM hN q4 hz3) (kp_o hM) np_X11_see rfl rfl (by decide) (Nat.le_of_ble_eq_true rfl) rfl ?_)
            rintro v M' ⟨rfl, rfl⟩
            refine rx_pop hE dX11_tested_123 rfl ?_
            refine rx_aload_n hE dX11_tested_124 (i := 0) rfl rfl ?_
            refine rx_iconst hE dX11_tested_125 (v := 0) (by decide) ?_
            refine rx_aload_n hE dX11_tested_126 (i := 0) rfl rfl ?_
            refine rx_getf hE dX11_tested_127 fl_X11_102_10 (kp_o hM) rfl ?_
            refine rx_int _ (nI (sk T N q3)) q4.2.2.1 ?_
            refine rx_call0 (rx_callV (av := [.int (nI 0), .int (nI (sk T N q3))]) hE dX11_tested_130 lk_X11_123 (c_X11_failsQ (t := t) hM q4.2.2.2.1 (sk T N q3) 0) (kp_o hM) np_X11_fails rfl rfl (by decide) (Nat.le_of_ble_eq_true rfl) rfl ?_)
            rintro v M' ⟨rfl, S5, rfl, f5, e9⟩
            exact rx_tret hE hQ rfl rfl dX11_tested_133 ⟨S5, rfl, fx.trans (f2.trans (f3.trans ((kft.f t _ (by omega) _).trans f5.t))), Or.inl ⟨rfl, _, hend.1 hin, e9⟩⟩
        · have hO : ¬ qwd T N (sk T N q3) 498 = 0 := c46
          refine rx_iconst hE dX11_tested_49 (v := 1) (by decide) ?_
          refine rx_goto (tgt := 54) hE dX11_tested_50 (by decide) ?_
          refine rx_istore_n_1 hE dX11_tested_54 (by decide) rfl ?_
          refine rx_iload_n hE dX11_tested_55 (i := 1) rfl rfl ?_
          refine rx_if_eq (tgt := 12) hE dX11_tested_56 (by decide) (fun c56 => absurd c56 (by decide)) (fun c56 => ?_)
          refine rx_aload_n hE dX11_tested_59 (i := 0) rfl rfl ?_
          refine rx_ldc2 hE dX11_tested_60 kl_X11_218 ?_
          refine rx_call0 (rx_callV (av := [.long 1476]) hE dX11_tested_63 lk_X11_113 (c_X11_isWordZ hM hN q4 hz3 1476) (kp_o hM) np_X11_isWord rfl rfl (by decide) (Nat.le_of_ble_eq_true rfl) rfl ?_)
          rintro v M' ⟨rfl, rfl⟩
          refine rx_if_eq (tgt := 74) hE dX11_tested_66 (by decide) (fun c66 => ?_) (fun c66 => absurd hA c66)
          refine rx_bipush hE dX11_tested_74 (v := 13) (by decide) ?_
          refine rx_istore_n_2 hE dX11_tested_76 (by decide) rfl ?_
          refine rx_aload_n hE dX11_tested_77 (i := 0) rfl rfl ?_
          have hwt := wd_te hp3N hO
          have hte : te T N (sk T N q3) = tru ltB T N (sk T N q3) := hwt.2.2
          have hnx := nx_lt (T := T) hwt.1
          refine rx_call0 (rx_callV (av := []) hE dX11_tested_78 lk_X11_117 (c_X11_passWordQ (S := (k_f S3 8 (nI (sk T N q3)))) hM hN q4) (kp_o hM) np_X11_passWord rfl rfl (by decide) (Nat.le_of_ble_eq_true rfl) rfl ?_)
          rintro v M' ⟨rfl, S5, rfl, f5, q5⟩
          rw [← hte] at q5
          refine rx_aload_n hE dX11_tested_81 (i := 0) rfl rfl ?_
          refine rx_iload_n hE dX11_tested_82 (i := 2) rfl rfl ?_
          refine rx_call0 (rx_callS (av := [.int (nI 13)]) hE dX11_tested_83 lk_X11_170 (c_X11_strength (nI 13)) np_X11_strength rfl rfl (by decide) (Nat.le_of_ble_eq_true rfl) rfl ?_)
          rintro v M' ⟨rfl, rfl⟩
          refine rx_int _ (nI 1) (by decide) ?_
          refine rx_call0 (rx_callV (av := [.int (nI 1)]) hE dX11_tested_86 lk_X11_206 (c_X11_layDown (S := S5) hM ht q5 (k := 1) (by decide) (by decide) (o4.fr f5) (by simp only [List.length_append]; omega)) (kp_o hM) np_X11_layDown rfl rfl (by decide) (Nat.le_of_ble_eq_true rfl) rfl ?_)
          rintro v M' ⟨rfl, S6, rfl, f6, k6, o6⟩
          have hly := ly_len 1 O3
          have hdl := ly_dp (k := 1) O3
          refine rx_aload_n hE dX11_tested_89 (i := 0) rfl rfl ?_
          refine rx_getf hE dX11_tested_90 fl_X11_29_10 (kp_o hM) rfl ?_
          refine rx_aload_n hE dX11_tested_93 (i := 0) rfl rfl ?_
          refine rx_getf hE dX11_tested_94 fl_X11_167_10 (kp_o hM) rfl ?_
          refine rx_int _ (nI (lyR 1 O3).length) o6.1 ?_
          refine rx_iload_n hE dX11_tested_97 (i := 2) rfl rfl ?_
          refine rx_iastN hE dX11_tested_98 (kp_7 hM) (by omega) (by decide) ?_
          refine rx_mem (M' := kp M (k_s S6 7 (upd (S6 7) (lyR 1 O3).length 13)) L) kw_7 ?_
          refine rx_aload_n hE dX11_tested_99 (i := 0) rfl rfl ?_
          refine rx_dup hE dX11_tested_100 rfl ?_
          refine rx_getf hE dX11_tested_101 fl_X11_167_10 (kp_o hM) rfl ?_
          refine rx_int _ (nI (lyR 1 O3).length) o6.1 ?_
          refine rx_iconst hE dX11_tested_104 (v := 1) (by decide) ?_
          refine rx_iadd hE dX11_tested_105 ?_
          refine rx_int _ (nI ((lyR 1 O3).length + 1)) (nI_1 _) ?_
          refine rx_put hE dX11_tested_106 fl_X11_167_10 fw_10_16 (kp_o hM) (fun _ => rfl) (fun _ => rfl) (Nat.le_of_ble_eq_true rfl) ?_
          refine rx_mem (M' := kp M (k_f (k_s S6 7 (upd (S6 7) (lyR 1 O3).length 13)) 16 (nI ((lyR 1 O3).length + 1))) L) kw_c16 ?_
          refine rx_goto (tgt := 12) hE dX11_tested_109 (by decide) ?_
          obtain ⟨m4, hm4, hmt4⟩ : ∃ m4, m4 < m3 ∧ mtR T N m4 false (13 :: lyR 1 O3) (nx T N (sk T N q3)) (l3 ++ lyL 1 O3) c2 r := by
            cases m3 with
            | zero => exact absurd hmt3 id
            | succ m4 =>
              rcases hmt3 with ⟨h, _⟩ | ⟨_, h, _⟩ | ⟨_, _, _, h⟩ | ⟨_, _, h, _⟩
              · exact absurd h hn93
              · exact absurd hA h
              · rw [hy3.1, hy3.2, List.append_nil] at h
                exact ⟨m4, Nat.lt_succ_self _, h⟩
              · exact absurd h hO
          exact ih0 m4 (by omega) _ _ _ _ _ _ (by omega) (fx.trans (f2.trans (f3.trans ((kft.f t _ (by omega) _).trans (f5.t.trans (f6.trans ((kft.s7 t _ _).trans (kft.f t _ (by omega) _)))))))) (by rw [List.append_assoc] at k6; exact (k6.s7 _).f (Or.inr rfl) _) (kop_push (x := 13) o6 (Or.inr (Or.inr (Or.inr rfl))) rfl rfl (by show S6 0 13 = _; rw [o6.2.2.1]; show nI (dpO (lyR 1 O3)) = nI (0 + dpO (lyR 1 O3)); rw [Nat.zero_add])) (by show 0 + dpO (lyR 1 O3) ≤ 10; omega) hmt4 (by rw [List.length_cons, List.length_append]; show _ ≤ nx T N (sk T N q3); omega)
  have l1 : ∀ (m1 : Nat), ∀ (q1 c1 : Nat) (l1 : gSg) (O1 : List Nat) (S1 : gS) (lx : Option Value), m1 ≤ m → kft t S S1 → kq1 S1 T N t q1 c1 (l0 ++ l1) → kop S1 O1 → dpO O1 ≤ 10 → mtR T N m1 false O1 (sk T N q1) l1 c1 r → l0.length + l1.length + O1.length + 3 ≤ sk T N q1 → RX E mX11_tested.2.2.1 0 0 12 [some (.ref 384), some (.int 1), lx] [] (kp M S1 L) := fun m1 => Nat.strongRecOn m1 (fun m1 ih => stp m1 ih)
  refine rx_aload_n hE dX11_tested_0 (i := 0) rfl rfl ?_
  refine rx_iconst hE dX11_tested_1 (v := 0) (by decide) ?_
  refine rx_put hE dX11_tested_2 fl_X11_167_10 fw_10_16 (kp_o hM) (fun _ => rfl) (fun _ => rfl) (Nat.le_of_ble_eq_true rfl) ?_
  refine rx_mem (M' := kp M (k_f S 16 0) L) kw_c16 ?_
  refine rx_aload_n hE dX11_tested_5 (i := 0) rfl rfl ?_
  refine rx_iconst hE dX11_tested_6 (v := 0) (by decide) ?_
  refine rx_put hE dX11_tested_7 fl_X11_164_10 fw_10_13 (kp_o hM) (fun _ => rfl) (fun _ => rfl) (Nat.le_of_ble_eq_true rfl) ?_
  refine rx_mem (M' := kp M (k_f (k_f S 16 0) 13 0) L) kw_c13 ?_
  refine rx_iconst hE dX11_tested_10 (v := 1) (by decide) ?_
  refine rx_istore_n_1 hE dX11_tested_11 (by decide) rfl ?_
  exact l1 m q c [] [] (k_f (k_f S 16 0) 13 0) _ (Nat.le_refl _) ((kft.f t S (by omega) _).trans (kft.f t _ (by omega) _)) (by rw [List.append_nil]; exact (hq.f (Or.inr rfl) _).f (Or.inl rfl) _) ⟨rfl, fun j x z => absurd z (by simp), rfl, fun x z => absurd z (by simp)⟩ (Nat.zero_le _) hmt (by show l0.length + 0 + 0 + 3 ≤ sk T N q; omega)
