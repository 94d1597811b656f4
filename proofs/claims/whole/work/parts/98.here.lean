theorem sk_sk {T : Nat → Int32} {N q : Nat} (h : q ≤ N) : sk T N (sk T N q) = sk T N q := tru_z (tru_end (P := blB) (T := T) h)
def qwh (T : Nat → Int32) (N p : Nat) : Int32 := (if qwd T N p 605220 = 0 then (if qwd T N p 754996 = 0 then (if qwd T N p 5969497 = 0 then (if qwd T N p 525908 = 0 then (if qwd T N p 641190052 = 0 then (if qwd T N p 12468 = 0 then (if qwd T N p 20436420 = 0 then (if qwd T N p 20232293 = 0 then (if qwd T N p 759252 = 0 then (if qwd T N p 1420 = 0 then (if qwd T N p 70708 = 0 then (if qwd T N p 278194 = 0 then -1 else 11) else 10) else 9) else 8) else 7) else 6) else 5) else 4) else 3) else 2) else 1) else 0)
set_option maxRecDepth 100000 in
set_option maxHeartbeats 1000000 in
theorem c_X11_wordHere {M : gM} {S : gS} {L : gLg} (hM : 408 ≤ M.1) {T : Nat → Int32} {N : Nat} (hN : N ≤ 400) (h1 : S 0 1 = nI N) (hb : S 1 = T) {q : Nat} (hq : q ≤ N) (h8 : S 0 8 = nI q) : SX 2 0 0 mX11_wordHere [.ref 384] (kp M S L) (fun v M' => v = some (.int (qwh T N (sk T N q))) ∧ M' = kp M (k_f S 8 (nI (sk T N q))) L) := by
  refine SX.intro [some (.ref 384)] (by decide +kernel) (Nat.le_of_ble_eq_true rfl) rfl (fun E hE hQ => ?_)
  refine rx_aload_n hE dX11_wordHere_0 (i := 0) rfl rfl ?_
  refine rx_ldc2 hE dX11_wordHere_1 kl_X11_134 ?_
  refine rx_call0 (rx_callV (av := [.long 605220]) hE dX11_wordHere_4 lk_X11_113 (c_X11_isWord hM hN h1 hb hq h8 605220) (kp_o hM) np_X11_isWord rfl rfl (by decide) (Nat.le_of_ble_eq_true rfl) rfl ?_)
  rintro v M' ⟨rfl, rfl⟩
  refine rx_if_eq (tgt := 12) hE dX11_wordHere_7 (by decide) (fun c7 => ?_) (fun c7 => ?_)
  · refine rx_aload_n hE dX11_wordHere_12 (i := 0) rfl rfl ?_
    refine rx_ldc2 hE dX11_wordHere_13 kl_X11_136 ?_
    refine rx_call0 (rx_callV (av := [.long 754996]) hE dX11_wordHere_16 lk_X11_113 (c_X11_isWord (S := k_f S 8 (nI (sk T N q))) hM hN h1 hb (q := sk T N q) (sk_le hq).2 rfl 754996) (kp_o hM) np_X11_isWord rfl rfl (by decide) (Nat.le_of_ble_eq_true rfl) rfl ?_)
    rintro v M' ⟨rfl, rfl⟩
    rw [sk_sk hq, k_ff2]
    refine rx_if_eq (tgt := 24) hE dX11_wordHere_19 (by decide) (fun c19 => ?_) (fun c19 => ?_)
    · refine rx_aload_n hE dX11_wordHere_24 (i := 0) rfl rfl ?_
      refine rx_ldc2 hE dX11_wordHere_25 kl_X11_138 ?_
      refine rx_call0 (rx_callV (av := [.long 5969497]) hE dX11_wordHere_28 lk_X11_113 (c_X11_isWord (S := k_f S 8 (nI (sk T N q))) hM hN h1 hb (q := sk T N q) (sk_le hq).2 rfl 5969497) (kp_o hM) np_X11_isWord rfl rfl (by decide) (Nat.le_of_ble_eq_true rfl) rfl ?_)
      rintro v M' ⟨rfl, rfl⟩
      rw [sk_sk hq, k_ff2]
      refine rx_if_eq (tgt := 36) hE dX11_wordHere_31 (by decide) (fun c31 => ?_) (fun c31 => ?_)
      · refine rx_aload_n hE dX11_wordHere_36 (i := 0) rfl rfl ?_
        refine rx_ldc2 hE dX11_wordHere_37 kl_X11_140 ?_
        refine rx_call0 (rx_callV (av := [.long 525908]) hE dX11_wordHere_40 lk_X11_113 (c_X11_isWord (S := k_f S 8 (nI (sk T N q))) hM hN h1 hb (q := sk T N q) (sk_le hq).2 rfl 525908) (kp_o hM) np_X11_isWord rfl rfl (by decide) (Nat.le_of_ble_eq_true rfl) rfl ?_)
        rintro v M' ⟨rfl, rfl⟩
        rw [sk_sk hq, k_ff2]
        refine rx_if_eq (tgt := 48) hE dX11_wordHere_43 (by decide) (fun c43 => ?_) (fun c43 => ?_)
        · refine rx_aload_n hE dX11_wordHere_48 (i := 0) rfl rfl ?_
          refine rx_ldc2 hE dX11_wordHere_49 kl_X11_142 ?_
          refine rx_call0 (rx_callV (av := [.long 641190052]) hE dX11_wordHere_52 lk_X11_113 (c_X11_isWord (S := k_f S 8 (nI (sk T N q))) hM hN h1 hb (q := sk T N q) (sk_le hq).2 rfl 641190052) (kp_o hM) np_X11_isWord rfl rfl (by decide) (Nat.le_of_ble_eq_true rfl) rfl ?_)
          rintro v M' ⟨rfl, rfl⟩
          rw [sk_sk hq, k_ff2]
          refine rx_if_eq (tgt := 60) hE dX11_wordHere_55 (by decide) (fun c55 => ?_) (fun c55 => ?_)
          · refine rx_aload_n hE dX11_wordHere_60 (i := 0) rfl rfl ?_
            refine rx_ldc2 hE dX11_wordHere_61 kl_X11_144 ?_
            refine rx_call0 (rx_callV (av := [.long 12468]) hE dX11_wordHere_64 lk_X11_113 (c_X11_isWord (S := k_f S 8 (nI (sk T N q))) hM hN h1 hb (q := sk T N q) (sk_le hq).2 rfl 12468) (kp_o hM) np_X11_isWord rfl rfl (by decide) (Nat.le_of_ble_eq_true rfl) rfl ?_)
            rintro v M' ⟨rfl, rfl⟩
            rw [sk_sk hq, k_ff2]
            refine rx_if_eq (tgt := 72) hE dX11_wordHere_67 (by decide) (fun c67 => ?_) (fun c67 => ?_)
            · refine rx_aload_n hE dX11_wordHere_72 (i := 0) rfl rfl ?_
              refine rx_ldc2 hE dX11_wordHere_73 kl_X11_146 ?_
              refine rx_call0 (rx_callV (av := [.long 20436420]) hE dX11_wordHere_76 lk_X11_113 (c_X11_isWord (S := k_f S 8 (nI (sk T N q))) hM hN h1 hb (q := sk T N q) (sk_le hq).2 rfl 20436420) (kp_o hM) np_X11_isWord rfl rfl (by decide) (Nat.le_of_ble_eq_true rfl) rfl ?_)
              rintro v M' ⟨rfl, rfl⟩
              rw [sk_sk hq, k_ff2]
              refine rx_if_eq (tgt := 85) hE dX11_wordHere_79 (by decide) (fun c79 => ?_) (fun c79 => ?_)
              · refine rx_aload_n hE dX11_wordHere_85 (i := 0) rfl rfl ?_
                refine rx_ldc2 hE dX11_wordHere_86 kl_X11_148 ?_
                refine rx_call0 (rx_callV (av := [.long 20232293]) hE dX11_wordHere_89 lk_X11_113 (c_X11_isWord (S := k_f S 8 (nI (sk T N q))) hM hN h1 hb (q := sk T N q) (sk_le hq).2 rfl 20232293) (kp_o hM) np_X11_isWord rfl rfl (by decide) (Nat.le_of_ble_eq_true rfl) rfl ?_)
                rintro v M' ⟨rfl, rfl⟩
                rw [sk_sk hq, k_ff2]
                refine rx_if_eq (tgt := 98) hE dX11_wordHere_92 (by decide) (fun c92 => ?_) (fun c92 => ?_)
                · refine rx_aload_n hE dX11_wordHere_98 (i := 0) rfl rfl ?_
                  refine rx_ldc2 hE dX11_wordHere_99 kl_X11_150 ?_
                  refine rx_call0 (rx_callV (av := [.long 759252]) hE dX11_wordHere_102 lk_X11_113 (c_X11_isWord (S := k_f S 8 (nI (sk T N q))) hM hN h1 hb (q := sk T N q) (sk_le hq).2 rfl 759252) (kp_o hM) np_X11_isWord rfl rfl (by decide) (Nat.le_of_ble_eq_true rfl) rfl ?_)
                  rintro v M' ⟨rfl, rfl⟩
                  rw [sk_sk hq, k_ff2]
                  refine rx_if_eq (tgt := 111) hE dX11_wordHere_105 (by decide) (fun c105 => ?_) (fun c105 => ?_)
                  · refine rx_aload_n hE dX11_wordHere_111 (i := 0) rfl rfl ?_
                    refine rx_ldc2 hE dX11_wordHere_112 kl_X11_152 ?_
                    refine rx_call0 (rx_callV (av := [.long 1420]) hE dX11_wordHere_115 lk_X11_113 (c_X11_isWord (S := k_f S 8 (nI (sk T N q))) hM hN h1 hb (q := sk T N q) (sk_le hq).2 rfl 1420) (kp_o hM) np_X11_isWord rfl rfl (by decide) (Nat.le_of_ble_eq_true rfl) rfl ?_)
                    rintro v M' ⟨rfl, rfl⟩
                    rw [sk_sk hq, k_ff2]
                    refine rx_if_eq (tgt := 124) hE dX11_wordHere_118 (by decide) (fun c118 => ?_) (fun c118 => ?_)
                    · refine rx_aload_n hE dX11_wordHere_124 (i := 0) rfl rfl ?_
                      refine rx_ldc2 hE dX11_wordHere_125 kl_X11_154 ?_
                      refine rx_call0 (rx_callV (av := [.long 70708]) hE dX11_wordHere_128 lk_X11_113 (c_X11_isWord (S := k_f S 8 (nI (sk T N q))) hM hN h1 hb (q := sk T N q) (sk_le hq).2 rfl 70708) (kp_o hM) np_X11_isWord rfl rfl (by decide) (Nat.le_of_ble_eq_true rfl) rfl ?_)
                      rintro v M' ⟨rfl, rfl⟩
                      rw [sk_sk hq, k_ff2]
                      refine rx_if_eq (tgt := 139) hE dX11_wordHere_131 (by decide) (fun c131 => ?_) (fun c131 => ?_)
                      · refine rx_aload_n hE dX11_wordHere_139 (i := 0) rfl rfl ?_
                        refine rx_ldc2 hE dX11_wordHere_140 kl_X11_156 ?_
                        refine rx_call0 (rx_callV (av := [.long 278194]) hE dX11_wordHere_143 lk_X11_113 (c_X11_isWord (S := k_f S 8 (nI (sk T N q))) hM hN h1 hb (q := sk T N q) (sk_le hq).2 rfl 278194) (kp_o hM) np_X11_isWord rfl rfl (by decide) (Nat.le_of_ble_eq_true rfl) rfl ?_)
                        rintro v M' ⟨rfl, rfl⟩
                        rw [sk_sk hq, k_ff2]
                        refine rx_if_eq (tgt := 154) hE dX11_wordHere_146 (by decide) (fun c146 => ?_) (fun c146 => ?_)
                        · refine rx_iconst hE dX11_wordHere_154 (v := -1) (by decide) ?_
                          exact rx_iret hE hQ rfl dX11_wordHere_155 ⟨by unfold qwh; rw [if_pos c7, if_pos c19, if_pos c31, if_pos c43, if_pos c55, if_pos c67, if_pos c79, if_pos c92, if_pos c105, if_pos c118, if_pos c131, if_pos c146], rfl⟩
                        · refine rx_bipush hE dX11_wordHere_149 (v := 11) (by decide) ?_
                          refine rx_goto (tgt := 155) hE dX11_wordHere_151 (by decide) ?_
                          exact rx_iret hE hQ rfl dX11_wordHere_155 ⟨by unfold qwh; rw [if_pos c7, if_pos c19, if_pos c31, if_pos c43, if_pos c55, if_pos c67, if_pos c79, if_pos c92, if_pos c105, if_pos c118, if_pos c131, if_neg c146], rfl⟩
                      · refine rx_bipush hE dX11_wordHere_134 (v := 10) (by decide) ?_
                        refine rx_goto (tgt := 155) hE dX11_wordHere_136 (by decide) ?_
                        exact rx_iret hE hQ rfl dX11_wordHere_155 ⟨by unfold qwh; rw [if_pos c7, if_pos c19, if_pos c31, if_pos c43, if_pos c55, if_pos c67, if_pos c79, if_pos c92, if_pos c105, if_pos c118, if_neg c131], rfl⟩
                    · refine rx_bipush hE dX11_wordHere_121 (v := 9) (by decide) ?_
                      exact rx_iret hE hQ rfl dX11_wordHere_123 ⟨by unfold qwh; rw [if_pos c7, if_pos c19, if_pos c31, if_pos c43, if_pos c55, if_pos c67, if_pos c79, if_pos c92, if_pos c105, if_neg c118], rfl⟩
                  · refine rx_bipush hE dX11_wordHere_108 (v := 8) (by decide) ?_
                    exact rx_iret hE hQ rfl dX11_wordHere_110 ⟨by unfold qwh; rw [if_pos c7, if_pos c19, if_pos c31, if_pos c43, if_pos c55, if_pos c67, if_pos c79, if_pos c92, if_neg c105], rfl⟩
                · refine rx_bipush hE dX11_wordHere_95 (v := 7) (by decide) ?_
                  exact rx_iret hE hQ rfl dX11_wordHere_97 ⟨by unfold qwh; rw [if_pos c7, if_pos c19, if_pos c31, if_pos c43, if_pos c55, if_pos c67, if_pos c79, if_neg c92], rfl⟩
              · refine rx_bipush hE dX11_wordHere_82 (v := 6) (by decide) ?_
                exact rx_iret hE hQ rfl dX11_wordHere_84 ⟨by unfold qwh; rw [if_pos c7, if_pos c19, if_pos c31, if_pos c43, if_pos c55, if_pos c67, if_neg c79], rfl⟩
            · refine rx_iconst hE dX11_wordHere_70 (v := 5) (by decide) ?_
              exact rx_iret hE hQ rfl dX11_wordHere_71 ⟨by unfold qwh; rw [if_pos c7, if_pos c19, if_pos c31, if_pos c43, if_pos c55, if_neg c67], rfl⟩
          · refine rx_iconst hE dX11_wordHere_58 (v := 4) (by decide) ?_
            exact rx_iret hE hQ rfl dX11_wordHere_59 ⟨by unfold qwh; rw [if_pos c7, if_pos c19, if_pos c31, if_pos c43, if_neg c55], rfl⟩
        · refine rx_iconst hE dX11_wordHere_46 (v := 3) (by decide) ?_
          exact rx_iret hE hQ rfl dX11_wordHere_47 ⟨by unfold qwh; rw [if_pos c7, if_pos c19, if_pos c31, if_neg c43], rfl⟩
      · refine rx_iconst hE dX11_wordHere_34 (v := 2) (by decide) ?_
        exact rx_iret hE hQ rfl dX11_wordHere_35 ⟨by unfold qwh; rw [if_pos c7, if_pos c19, if_neg c31], rfl⟩
    · refine rx_iconst hE dX11_wordHere_22 (v := 1) (by decide) ?_
      exact rx_iret hE hQ rfl dX11_wordHere_23 ⟨by unfold qwh; rw [if_pos c7, if_neg c19], rfl⟩
  · refine rx_iconst hE dX11_wordHere_10 (v := 0) (by decide) ?_
    exact rx_iret hE hQ rfl dX11_wordHere_11 ⟨by unfold qwh; rw [if_neg c7], rfl⟩
