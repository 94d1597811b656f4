theorem k_or : ∀ m, m < 64 → ∀ k, k < 6 → nI m ||| (1 : Int32) <<< (nI k &&& 31) = nI (m ||| 2 ^ k) ∧ m ||| 2 ^ k < 64 := by decide +kernel
theorem k_or0 : ∀ m, m < 64 → nI m ||| 0 = nI m := by decide +kernel
theorem k_l98 (L : gLg) (a b c d : Nat → Int64) : k_l (k_l (k_l (k_l L 9 a) 8 b) 9 c) 8 d = k_l (k_l L 9 c) 8 d := by
  funext k
  unfold k_l
  by_cases h8 : k = 8
  · rw [if_pos h8, if_pos h8]
  · rw [if_neg h8, if_neg h8, if_neg h8]
    by_cases h9 : k = 9
    · rw [if_pos h9, if_pos h9]
    · rw [if_neg h9, if_neg h9, if_neg h9]
def kts (J : gJn) (bb k : Nat) (_ : Int32) : Bool := decide (jbit (J 8 bb) k = 1)
def ktr (cl : List gCl) (pn : Nat → Nat) (R bb : Nat) (J : gJn) (k : Nat) (s : Int32) : Bool := decide (0 < krv (kwords pn R bb J k s) cl)
theorem jobF_lt (J : gJn) (t : Nat → Int32 → Bool) : ∀ (n k m : Nat), m < 64 → k + n ≤ 6 → ∃ m', m' < 64 ∧ jobF J t k n (nI m) = nI m'
  | 0, _, m, hm, _ => ⟨m, hm, rfl⟩
  | n + 1, k, m, hm, hk => by
    show ∃ m', m' < 64 ∧ jobF J t (k + 1) n (if J 3 k &&& nI m = 0 then nI m ||| (if t k (nI m) = true then (1 : Int32) <<< (nI k &&& 31) else 0) else nI m) = nI m'
    split
    · split
      · rw [(k_or m hm k (by omega)).1]
        exact jobF_lt J t n (k + 1) _ (k_or m hm k (by omega)).2 (by omega)
      · rw [k_or0 m hm]
        exact jobF_lt J t n (k + 1) m hm (by omega)
    · exact jobF_lt J t n (k + 1) m hm (by omega)
set_option maxRecDepth 100000 in
set_option maxHeartbeats 4000000 in
theorem c_X11_letInP {M : gM} {S : gS} {L : gLg} {J : gJn} (hM : 408 ≤ M.1) {pl : Nat} (hpl : S 0 24 = nI pl) (hl : pl < 64) : SX 0 0 0 mX11_letIn [.ref 384] (kp M (kput S J) L) (fun v M' => v = some (.int (nI pl)) ∧ M' = kp M (kput S J) L) := by
  refine SX.intro [some (.ref 384), none, none] (by decide +kernel) (Nat.le_of_ble_eq_true rfl) rfl (fun E hE hQ => ?_)
  refine rx_aload_n hE dX11_letIn_0 (i := 0) rfl rfl ?_
  refine rx_getf hE dX11_letIn_1 fl_X11_49_10 (kp_o hM) rfl ?_
  refine rx_int _ _ (kr_f (by decide)) ?_
  refine rx_if_lt (tgt := 12) hE dX11_letIn_4 (by decide) (fun c4 => absurd (by have : S 0 24 < 0 := c4; rw [hpl] at this; exact this) (nI_pos (by omega))) (fun c4 => ?_)
  refine rx_aload_n hE dX11_letIn_7 (i := 0) rfl rfl ?_
  refine rx_getf hE dX11_letIn_8 fl_X11_49_10 (kp_o hM) rfl ?_
  refine rx_int _ _ (kr_f (by decide)) ?_
  exact rx_iret hE hQ rfl dX11_letIn_11 ⟨by rw [hpl], rfl⟩
set_option maxRecDepth 100000 in
set_option maxHeartbeats 4000000 in
theorem c_X11_letIn0 {M : gM} {S : gS} {L : gLg} {J : gJn} (hM : 408 ≤ M.1) {R bb : Nat} {pn : Nat → Nat} (hpl : S 0 24 < 0) (hJ1 : S 10 0 = 1) (hR : J 9 2 = nI R) (hR6 : R ≤ 6) (hp : jpt J pn) (hB : ¬ J 9 0 = 0) (hbb : k_bob S J = nI bb) (hb12 : bb < 12) (hF0 : S 0 21 < 0) : SX 5 0 0 mX11_letIn [.ref 384] (kp M (kput S J) L) (fun v M' => v = some (.int (jobF J (kts J bb) 0 R 0)) ∧ M' = kp M (kput S J) L) := by
  refine SX.intro [some (.ref 384), none, none] (by decide +kernel) (Nat.le_of_ble_eq_true rfl) rfl (fun E hE hQ => ?_)
  have loop : ∀ (n k m : Nat) , k + n = R → m < 64 → jobF J (kts J bb) k n (nI m) = jobF J (kts J bb) 0 R 0 → RX E mX11_letIn.2.2.1 0 0 16 [some (.ref 384), some (.int (nI m)), some (.int (nI k))] [] (kp M (kput S J) L) := by
    intro n
    induction n with
    | zero =>
      intro k m hk hm hF
      refine rx_iload_n hE dX11_letIn_16 (i := 2) rfl rfl ?_
      refine rx_aload_n hE dX11_letIn_17 (i := 0) rfl rfl ?_
      refine rx_getf hE dX11_letIn_18 fl_X11_39_10 (kp_o hM) rfl ?_
      refine rx_iconst hE dX11_letIn_21 (v := 3) (by decide) ?_
      refine rx_ialdN (i := 3) hE dX11_letIn_22 (kp_10 hM) (by omega) (by decide) ?_
      refine rx_int _ _ kr_c2 ?_
      refine rx_icmp_ge (tgt := 61) hE dX11_letIn_23 (by decide) (fun c23 => ?_) (fun c23 => absurd (by rw [hR]; exact nI_le (by omega) (by omega)) c23)
      refine rx_iload_n hE dX11_letIn_61 (i := 1) rfl rfl ?_
      exact rx_iret hE hQ rfl dX11_letIn_62 ⟨by rw [← hF]; rfl, rfl⟩
    | succ n ih =>
      intro k m hk hm hF
      refine rx_iload_n hE dX11_letIn_16 (i := 2) rfl rfl ?_
      refine rx_aload_n hE dX11_letIn_17 (i := 0) rfl rfl ?_
      refine rx_getf hE dX11_letIn_18 fl_X11_39_10 (kp_o hM) rfl ?_
      refine rx_iconst hE dX11_letIn_21 (v := 3) (by decide) ?_
      refine rx_ialdN (i := 3) hE dX11_letIn_22 (kp_10 hM) (by omega) (by decide) ?_
      refine rx_int _ _ kr_c2 ?_
      refine rx_icmp_ge (tgt := 61) hE dX11_letIn_23 (by decide) (fun c23 => absurd (by rw [hR] at c23; exact c23) (nI_ge (by omega) (by omega))) (fun c23 => ?_)
      refine rx_aload_n hE dX11_letIn_26 (i := 0) rfl rfl ?_
      refine rx_getf hE dX11_letIn_27 fl_X11_39_10 (kp_o hM) rfl ?_
      refine rx_bipush hE dX11_letIn_30 (v := 72) (by decide) ?_
      refine rx_iload_n hE dX11_letIn_32 (i := 2) rfl rfl ?_
      refine rx_iadd hE dX11_letIn_33 ?_
      refine rx_int _ (nI (72 + k)) (nI_add _ _) ?_
      refine rx_ialdN (i := 72 + k) hE dX11_letIn_34 (kp_10 hM) (by omega) (by decide) ?_
      refine rx_int _ _ (kr_3 (by omega)) ?_
      refine rx_iload_n hE dX11_letIn_35 (i := 1) rfl rfl ?_
      refine rx_iand hE dX11_letIn_36 ?_
      refine rx_if_ne (tgt := 55) hE dX11_letIn_37 (by decide) (fun c37 => ?_) (fun c37 => ?_)
      · have hs : (if J 3 k &&& nI m = 0 then nI m ||| (if (kts J bb) k (nI m) = true then (1 : Int32) <<< (nI k &&& 31) else 0) else nI m) = nI m := if_neg c37
        refine rx_iinc_2 hE dX11_letIn_55 (v := 1) (by decide) (by decide) rfl ?_
        rw [nI_1]
        refine rx_goto (tgt := 16) hE dX11_letIn_58 (by decide) ?_
        exact ih (k + 1) _ (by omega) (by first | exact hm | exact (k_or m hm k (by omega)).2) (by rw [← hF]; show _ = jobF J (kts J bb) (k + 1) n (if _ then _ else _); rw [hs])
      · refine rx_aload_n hE dX11_letIn_40 (i := 0) rfl rfl ?_
        refine rx_iload_n hE dX11_letIn_41 (i := 2) rfl rfl ?_
        refine rx_iload_n hE dX11_letIn_42 (i := 1) rfl rfl ?_
        refine rx_call0 (rx_callV (av := [.int (nI k), .int (nI m)]) hE dX11_letIn_43 lk_X11_347 (c_X11_isLetBy0 hM hJ1 hR hR6 hp hB hbb hb12 (r := k) (by omega) hm hF0) (kp_o hM) np_X11_isLetBy rfl rfl (by decide) (Nat.le_of_ble_eq_true rfl) rfl ?_)
        rintro v M' ⟨rfl, rfl⟩
        have htf : kt0 J bb k = 0 → ¬ kts J bb k (nI m) = true := fun q h => by rw [show kt0 J bb k = 1 from if_pos (of_decide_eq_true h)] at q; exact absurd q (by decide)
        have htt : ¬ kt0 J bb k = 0 → kts J bb k (nI m) = true := fun q => decide_eq_true (Decidable.byContradiction (fun h => q (if_neg h)))
        refine rx_if_eq (tgt := 55) hE dX11_letIn_46 (by decide) (fun c46 => ?_) (fun c46 => ?_)
        · have hs : (if J 3 k &&& nI m = 0 then nI m ||| (if (kts J bb) k (nI m) = true then (1 : Int32) <<< (nI k &&& 31) else 0) else nI m) = nI m := by rw [if_pos c37, if_neg (htf c46), k_or0 m hm]
          refine rx_iinc_2 hE dX11_letIn_55 (v := 1) (by decide) (by decide) rfl ?_
          rw [nI_1]
          refine rx_goto (tgt := 16) hE dX11_letIn_58 (by decide) ?_
          exact ih (k + 1) _ (by omega) (by first | exact hm | exact (k_or m hm k (by omega)).2) (by rw [← hF]; show _ = jobF J (kts J bb) (k + 1) n (if _ then _ else _); rw [hs])
        · have hs : (if J 3 k &&& nI m = 0 then nI m ||| (if (kts J bb) k (nI m) = true then (1 : Int32) <<< (nI k &&& 31) else 0) else nI m) = nI (m ||| 2 ^ k) := by rw [if_pos c37, if_pos (htt c46), (k_or m hm k (by omega)).1]
          refine rx_iload_n hE dX11_letIn_49 (i := 1) rfl rfl ?_
          refine rx_iconst hE dX11_letIn_50 (v := 1) (by decide) ?_
          refine rx_iload_n hE dX11_letIn_51 (i := 2) rfl rfl ?_
          refine rx_ishl hE dX11_letIn_52 ?_
          refine rx_ior hE dX11_letIn_53 ?_
          refine rx_int _ _ (k_or m hm k (by omega)).1 ?_
          refine rx_istore_n_1 hE dX11_letIn_54 (by decide) rfl ?_
          refine rx_iinc_2 hE dX11_letIn_55 (v := 1) (by decide) (by decide) rfl ?_
          rw [nI_1]
          refine rx_goto (tgt := 16) hE dX11_letIn_58 (by decide) ?_
          exact ih (k + 1) _ (by omega) (by first | exact hm | exact (k_or m hm k (by omega)).2) (by rw [← hF]; show _ = jobF J (kts J bb) (k + 1) n (if _ then _ else _); rw [hs])
  refine rx_aload_n hE dX11_letIn_0 (i := 0) rfl rfl ?_
  refine rx_getf hE dX11_letIn_1 fl_X11_49_10 (kp_o hM) rfl ?_
  refine rx_int _ _ (kr_f (by decide)) ?_
  refine rx_if_lt (tgt := 12) hE dX11_letIn_4 (by decide) (fun c4 => ?_) (fun c4 => absurd hpl c4)
  refine rx_iconst hE dX11_letIn_12 (v := 0) (by decide) ?_
  refine rx_istore_n_1 hE dX11_letIn_13 (by decide) rfl ?_
  refine rx_iconst hE dX11_letIn_14 (v := 0) (by decide) ?_
  refine rx_istore_n_2 hE dX11_letIn_15 (by decide) rfl ?_
  exact loop R 0 0 (by omega) (by decide) rfl
set_option maxRecDepth 100000 in
set_option maxHeartbeats 4000000 in
theorem c_X11_letIn1 {M : gM} {S : gS} {L : gLg} {J : gJn} (hM : 408 ≤ M.1) {i0 : Nat} (cl : List gCl) {R bb : Nat} {pn : Nat → Nat} (hpl : S 0 24 < 0) (hJ1 : S 10 0 = 1) (hR : J 9 2 = nI R) (hR6 : R ≤ 6) (hp : jpt J pn) (hB : ¬ J 9 0 = 0) (hbb : k_bob S J = nI bb) (hb12 : bb < 12) (hF0 : S 0 21 = nI i0) (hi0 : i0 < 6) (hrel : krel S i0 cl) : SX 5 0 0 mX11_letIn [.ref 384] (kp M (kput S J) L) (fun v M' => v = some (.int (jobF J (ktr cl pn R bb J) 0 R 0)) ∧ ∃ (tp : Int32) (g8 g9 : Nat → Int64), M' = kp M (kput (k_f S 18 tp) J) (k_l (k_l L 9 g9) 8 g8)) := by
  refine SX.intro [some (.ref 384), none, none] (by decide +kernel) (Nat.le_of_ble_eq_true rfl) rfl (fun E hE hQ => ?_)
  have loop : ∀ (n k m : Nat) (tp : Int32) (g8 g9 : Nat → Int64), k + n = R → m < 64 → jobF J (ktr cl pn R bb J) k n (nI m) = jobF J (ktr cl pn R bb J) 0 R 0 → RX E mX11_letIn.2.2.1 0 0 16 [some (.ref 384), some (.int (nI m)), some (.int (nI k))] [] (kp M (kput (k_f S 18 tp) J) (k_l (k_l L 9 g9) 8 g8)) := by
    intro n
    induction n with
    | zero =>
      intro k m tp g8 g9 hk hm hF
      refine rx_iload_n hE dX11_letIn_16 (i := 2) rfl rfl ?_
      refine rx_aload_n hE dX11_letIn_17 (i := 0) rfl rfl ?_
      refine rx_getf hE dX11_letIn_18 fl_X11_39_10 (kp_o hM) rfl ?_
      refine rx_iconst hE dX11_letIn_21 (v := 3) (by decide) ?_
      refine rx_ialdN (i := 3) hE dX11_letIn_22 (kp_10 hM) (by omega) (by decide) ?_
      refine rx_int _ _ kr_c2 ?_
      refine rx_icmp_ge (tgt := 61) hE dX11_letIn_23 (by decide) (fun c23 => ?_) (fun c23 => absurd (by rw [hR]; exact nI_le (by omega) (by omega)) c23)
      refine rx_iload_n hE dX11_letIn_61 (i := 1) rfl rfl ?_
      exact rx_iret hE hQ rfl dX11_letIn_62 ⟨by rw [← hF]; rfl, tp, g8, g9, rfl⟩
    | succ n ih =>
      intro k m tp g8 g9 hk hm hF
      refine rx_iload_n hE dX11_letIn_16 (i := 2) rfl rfl ?_
      refine rx_aload_n hE dX11_letIn_17 (i := 0) rfl rfl ?_
      refine rx_getf hE dX11_letIn_18 fl_X11_39_10 (kp_o hM) rfl ?_
      refine rx_iconst hE dX11_letIn_21 (v := 3) (by decide) ?_
      refine rx_ialdN (i := 3) hE dX11_letIn_22 (kp_10 hM) (by omega) (by decide) ?_
      refine rx_int _ _ kr_c2 ?_
      refine rx_icmp_ge (tgt := 61) hE dX11_letIn_23 (by decide) (fun c23 => absurd (by rw [hR] at c23; exact c23) (nI_ge (by omega) (by omega))) (fun c23 => ?_)
      refine rx_aload_n hE dX11_letIn_26 (i := 0) rfl rfl ?_
      refine rx_getf hE dX11_letIn_27 fl_X11_39_10 (kp_o hM) rfl ?_
      refine rx_bipush hE dX11_letIn_30 (v := 72) (by decide) ?_
      refine rx_iload_n hE dX11_letIn_32 (i := 2) rfl rfl ?_
      refine rx_iadd hE dX11_letIn_33 ?_
      refine rx_int _ (nI (72 + k)) (nI_add _ _) ?_
      refine rx_ialdN (i := 72 + k) hE dX11_letIn_34 (kp_10 hM) (by omega) (by decide) ?_
      refine rx_int _ _ (kr_3 (by omega)) ?_
      refine rx_iload_n hE dX11_letIn_35 (i := 1) rfl rfl ?_
      refine rx_iand hE dX11_letIn_36 ?_
      refine rx_if_ne (tgt := 55) hE dX11_letIn_37 (by decide) (fun c37 => ?_) (fun c37 => ?_)
      · have hs : (if J 3 k &&& nI m = 0 then nI m ||| (if (ktr cl pn R bb J) k (nI m) = true then (1 : Int32) <<< (nI k &&& 31) else 0) else nI m) = nI m := if_neg c37
        refine rx_iinc_2 hE dX11_letIn_55 (v := 1) (by decide) (by decide) rfl ?_
        rw [nI_1]
        refine rx_goto (tgt := 16) hE dX11_letIn_58 (by decide) ?_
        exact ih (k + 1) _ _ _ _ (by omega) (by first | exact hm | exact (k_or m hm k (by omega)).2) (by rw [← hF]; show _ = jobF J (ktr cl pn R bb J) (k + 1) n (if _ then _ else _); rw [hs])
      · refine rx_aload_n hE dX11_letIn_40 (i := 0) rfl rfl ?_
        refine rx_iload_n hE dX11_letIn_41 (i := 2) rfl rfl ?_
        refine rx_iload_n hE dX11_letIn_42 (i := 1) rfl rfl ?_
        refine rx_call0 (rx_callV (av := [.int (nI k), .int (nI m)]) hE dX11_letIn_43 lk_X11_347 (c_X11_isLetBy1 (S := k_f S 18 tp) hM cl hJ1 hR hR6 hp hB hbb hb12 (r := k) (by omega) hm hF0 hi0 hrel) (kp_o hM) np_X11_isLetBy rfl rfl (by decide) (Nat.le_of_ble_eq_true rfl) rfl ?_)
        rintro v M' ⟨rfl, tp', h8, h9, rfl⟩
        refine rx_mem (M' := kp M (kput (k_f S 18 tp') J) (k_l (k_l L 9 h9) 8 h8)) (by rw [k_ff, k_l98]) ?_
        have htf : kt1 cl pn R bb J k (nI m) = 0 → ¬ ktr cl pn R bb J k (nI m) = true := fun q h => by rw [show kt1 cl pn R bb J k (nI m) = 1 from if_pos (of_decide_eq_true h)] at q; exact absurd q (by decide)
        have htt : ¬ kt1 cl pn R bb J k (nI m) = 0 → ktr cl pn R bb J k (nI m) = true := fun q => decide_eq_true (Decidable.byContradiction (fun h => q (if_neg h)))
        refine rx_if_eq (tgt := 55) hE dX11_letIn_46 (by decide) (fun c46 => ?_) (fun c46 => ?_)
        · have hs : (if J 3 k &&& nI m = 0 then nI m ||| (if (ktr cl pn R bb J) k (nI m) = true then (1 : Int32) <<< (nI k &&& 31) else 0) else nI m) = nI m := by rw [if_pos c37, if_neg (htf c46), k_or0 m hm]
          refine rx_iinc_2 hE dX11_letIn_55 (v := 1) (by decide) (by decide) rfl ?_
          rw [nI_1]
          refine rx_goto (tgt := 16) hE dX11_letIn_58 (by decide) ?_
          exact ih (k + 1) _ _ _ _ (by omega) (by first | exact hm | exact (k_or m hm k (by omega)).2) (by rw [← hF]; show _ = jobF J (ktr cl pn R bb J) (k + 1) n (if _ then _ else _); rw [hs])
        · have hs : (if J 3 k &&& nI m = 0 then nI m ||| (if (ktr cl pn R bb J) k (nI m) = true then (1 : Int32) <<< (nI k &&& 31) else 0) else nI m) = nI (m ||| 2 ^ k) := by rw [if_pos c37, if_pos (htt c46), (k_or m hm k (by omega)).1]
          refine rx_iload_n hE dX11_letIn_49 (i := 1) rfl rfl ?_
          refine rx_iconst hE dX11_letIn_50 (v := 1) (by decide) ?_
          refine rx_iload_n hE dX11_letIn_51 (i := 2) rfl rfl ?_
          refine rx_ishl hE dX11_letIn_52 ?_
          refine rx_ior hE dX11_letIn_53 ?_
          refine rx_int _ _ (k_or m hm k (by omega)).1 ?_
          refine rx_istore_n_1 hE dX11_letIn_54 (by decide) rfl ?_
          refine rx_iinc_2 hE dX11_letIn_55 (v := 1) (by decide) (by decide) rfl ?_
          rw [nI_1]
          refine rx_goto (tgt := 16) hE dX11_letIn_58 (by decide) ?_
          exact ih (k + 1) _ _ _ _ (by omega) (by first | exact hm | exact (k_or m hm k (by omega)).2) (by rw [← hF]; show _ = jobF J (ktr cl pn R bb J) (k + 1) n (if _ then _ else _); rw [hs])
  refine rx_aload_n hE dX11_letIn_0 (i := 0) rfl rfl ?_
  refine rx_getf hE dX11_letIn_1 fl_X11_49_10 (kp_o hM) rfl ?_
  refine rx_int _ _ (kr_f (by decide)) ?_
  refine rx_if_lt (tgt := 12) hE dX11_letIn_4 (by decide) (fun c4 => ?_) (fun c4 => absurd hpl c4)
  refine rx_iconst hE dX11_letIn_12 (v := 0) (by decide) ?_
  refine rx_istore_n_1 hE dX11_letIn_13 (by decide) rfl ?_
  refine rx_iconst hE dX11_letIn_14 (v := 0) (by decide) ?_
  refine rx_istore_n_2 hE dX11_letIn_15 (by decide) rfl ?_
  refine rx_mem (M' := kp M (kput (k_f S 18 (S 0 18)) J) (k_l (k_l L 9 (L 9)) 8 (L 8))) (by rw [kf_id, k_lid]; congr 1; exact (k_lid L 8).symm) ?_
  exact loop R 0 0 (S 0 18) (L 8) (L 9) (by omega) (by decide) rfl
def kgsF (J : gJn) : Nat → Nat → Int32 → Int32
  | _, 0, s => s
  | k, n + 1, s => kgsF J (k + 1) n (s ||| (if J 7 k ≤ 0 then 0 else (1 : Int32) <<< (nI k &&& 31)))
theorem k_heard {x : Int32} : (if x ≤ 9999 then (if -9999 ≤ x then x else -9999) else 9999) = jmax (-9999) (jmin 9999 x) := by
  unfold jmax jmin
  by_cases h : x < 9999
  · rw [if_pos (Int32.le_of_lt h), if_pos h]
    by_cases h2 : -9999 ≤ x
    · rw [if_pos h2]
      by_cases h3 : -9999 < x
      · rw [if_pos h3]
      · rw [if_neg h3]
        exact Int32.le_antisymm (Int32.not_lt.mp h3) h2
    · rw [if_neg h2, if_neg (Int32.not_lt.mpr (Int32.le_of_lt (Int32.not_le.mp h2)))]
  · rw [if_neg h]
    by_cases h2 : x ≤ 9999
    · have : x = 9999 := Int32.le_antisymm h2 (Int32.not_lt.mp h)
      subst this
      decide
    · rw [if_neg h2]
      decide
set_option maxRecDepth 100000 in
set_option maxHeartbeats 4000000 in
theorem c_X11_sounds {M : gM} {S : gS} {L : gLg} {J : gJn} (hM : 408 ≤ M.1) {R : Nat} {pn : Nat → Nat} (hR : J 9 2 = nI R) (hR6 : R ≤ 6) (hp : jpt J pn) : SX 2 0 0 mX11_sounds [.ref 384] (kp M (kput S J) L) (fun v M' => v = none ∧ M' = kp M (kput S (j_c J 4 (j_heard (J 9 4) (kso pn (kgsF J 0 R 0) R)))) L) := by
  refine SX.intro [some (.ref 384), none, none] (by decide +kernel) (Nat.le_of_ble_eq_true rfl) rfl (fun E hE hQ => ?_)
  have loop : ∀ (n k : Nat) (s : Int32), k + n = R → kgsF J k n s = kgsF J 0 R 0 → RX E mX11_sounds.2.2.1 0 0 4 [some (.ref 384), some (.int s), some (.int (nI k))] [] (kp M (kput S J) L) := by
    intro n
    induction n with
    | zero =>
      intro k s hk hF
      refine rx_iload_n hE dX11_sounds_4 (i := 2) rfl rfl ?_
      refine rx_aload_n hE dX11_sounds_5 (i := 0) rfl rfl ?_
      refine rx_getf hE dX11_sounds_6 fl_X11_39_10 (kp_o hM) rfl ?_
      refine rx_iconst hE dX11_sounds_9 (v := 3) (by decide) ?_
      refine rx_ialdN (i := 3) hE dX11_sounds_10 (kp_10 hM) (by omega) (by decide) ?_
      refine rx_int _ _ kr_c2 ?_
      refine rx_icmp_ge (tgt := 39) hE dX11_sounds_11 (by decide) (fun c11 => ?_) (fun c11 => absurd (by rw [hR]; exact nI_le (by omega) (by omega)) c11)
      refine rx_aload_n hE dX11_sounds_39 (i := 0) rfl rfl ?_
      refine rx_getf hE dX11_sounds_40 fl_X11_39_10 (kp_o hM) rfl ?_
      refine rx_bipush hE dX11_sounds_43 (v := 53) (by decide) ?_
      refine rx_ialdN (i := 53) hE dX11_sounds_45 (kp_10 hM) (by omega) (by decide) ?_
      refine rx_int _ _ kr_c4 ?_
      refine rx_aload_n hE dX11_sounds_46 (i := 0) rfl rfl ?_
      refine rx_iload_n hE dX11_sounds_47 (i := 1) rfl rfl ?_
      refine rx_call0 (rx_callV (av := [.int _]) hE dX11_sounds_48 lk_X11_337 (c_X11_soundOf hM _ hR hR6 hp) (kp_o hM) np_X11_soundOf rfl rfl (by decide) (Nat.le_of_ble_eq_true rfl) rfl ?_)
      rintro v M' ⟨rfl, rfl⟩
      refine rx_iadd hE dX11_sounds_51 ?_
      refine rx_istore_n_2 hE dX11_sounds_52 (by decide) rfl ?_
      refine rx_aload_n hE dX11_sounds_53 (i := 0) rfl rfl ?_
      refine rx_getf hE dX11_sounds_54 fl_X11_39_10 (kp_o hM) rfl ?_
      refine rx_bipush hE dX11_sounds_57 (v := 53) (by decide) ?_
      refine rx_iload_n hE dX11_sounds_59 (i := 2) rfl rfl ?_
      refine rx_sipush hE dX11_sounds_60 (v := 9999) (by decide) ?_
      refine rx_icmp_le (tgt := 72) hE dX11_sounds_63 (by decide) (fun c63 => ?_) (fun c63 => ?_)
      · refine rx_iload_n hE dX11_sounds_72 (i := 2) rfl rfl ?_
        refine rx_sipush hE dX11_sounds_73 (v := -9999) (by decide) ?_
        refine rx_icmp_ge (tgt := 85) hE dX11_sounds_76 (by decide) (fun c76 => ?_) (fun c76 => ?_)
        · refine rx_iload_n hE dX11_sounds_85 (i := 2) rfl rfl ?_
          refine rx_int _ (j_heard (J 9 4) (kso pn s R)) (by unfold j_heard; rw [← k_heard]; first | rw [if_neg c63] | (rw [if_pos c63]; first | rw [if_pos c76] | rw [if_neg c76])) ?_
          refine rx_iastN (i := 53) hE dX11_sounds_86 (kp_10 hM) (by omega) (by decide) ?_
          refine rx_mem (kx_c 53 4 (by decide)) ?_
          exact rx_vret hE hQ rfl dX11_sounds_87 ⟨rfl, by rw [← hF]; rfl⟩
        · refine rx_sipush hE dX11_sounds_79 (v := -9999) (by decide) ?_
          refine rx_goto (tgt := 86) hE dX11_sounds_82 (by decide) ?_
          refine rx_int _ (j_heard (J 9 4) (kso pn s R)) (by unfold j_heard; rw [← k_heard]; first | rw [if_neg c63] | (rw [if_pos c63]; first | rw [if_pos c76] | rw [if_neg c76])) ?_
          refine rx_iastN (i := 53) hE dX11_sounds_86 (kp_10 hM) (by omega) (by decide) ?_
          refine rx_mem (kx_c 53 4 (by decide)) ?_
          exact rx_vret hE hQ rfl dX11_sounds_87 ⟨rfl, by rw [← hF]; rfl⟩
      · refine rx_sipush hE dX11_sounds_66 (v := 9999) (by decide) ?_
        refine rx_goto (tgt := 86) hE dX11_sounds_69 (by decide) ?_
        refine rx_int _ (j_heard (J 9 4) (kso pn s R)) (by unfold j_heard; rw [← k_heard]; first | rw [if_neg c63] | (rw [if_pos c63]; first | rw [if_pos c76] | rw [if_neg c76])) ?_
        refine rx_iastN (i := 53) hE dX11_sounds_86 (kp_10 hM) (by omega) (by decide) ?_
        refine rx_mem (kx_c 53 4 (by decide)) ?_
        exact rx_vret hE hQ rfl dX11_sounds_87 ⟨rfl, by rw [← hF]; rfl⟩
    | succ n ih =>
      intro k s hk hF
      refine rx_iload_n hE dX11_sounds_4 (i := 2) rfl rfl ?_
      refine rx_aload_n hE dX11_sounds_5 (i := 0) rfl rfl ?_
      refine rx_getf hE dX11_sounds_6 fl_X11_39_10 (kp_o hM) rfl ?_
      refine rx_iconst hE dX11_sounds_9 (v := 3) (by decide) ?_
      refine rx_ialdN (i := 3) hE dX11_sounds_10 (kp_10 hM) (by omega) (by decide) ?_
      refine rx_int _ _ kr_c2 ?_
      refine rx_icmp_ge (tgt := 39) hE dX11_sounds_11 (by decide) (fun c11 => absurd (by rw [hR] at c11; exact c11) (nI_ge (by omega) (by omega))) (fun c11 => ?_)
      refine rx_iload_n hE dX11_sounds_14 (i := 1) rfl rfl ?_
      refine rx_aload_n hE dX11_sounds_15 (i := 0) rfl rfl ?_
      refine rx_getf hE dX11_sounds_16 fl_X11_52_10 (kp_o hM) rfl ?_
      refine rx_iload_n hE dX11_sounds_19 (i := 2) rfl rfl ?_
      refine rx_ialdN (i := k) hE dX11_sounds_20 (kp_11 hM) (by omega) (by decide) ?_
      refine rx_int _ _ (kr_7 (by omega)) ?_
      refine rx_if_le (tgt := 30) hE dX11_sounds_21 (by decide) (fun c21 => ?_) (fun c21 => ?_)
      · have hs : (if J 7 k ≤ 0 then (0 : Int32) else (1 : Int32) <<< (nI k &&& 31)) = 0 := if_pos c21
        refine rx_iconst hE dX11_sounds_30 (v := 0) (by decide) ?_
        refine rx_ior hE dX11_sounds_31 ?_
        refine rx_istore_n_1 hE dX11_sounds_32 (by decide) rfl ?_
        refine rx_iinc_2 hE dX11_sounds_33 (v := 1) (by decide) (by decide) rfl ?_
        rw [nI_1]
        refine rx_goto (tgt := 4) hE dX11_sounds_36 (by decide) ?_
        exact ih (k + 1) _ (by omega) (by rw [← hF]; show _ = kgsF J (k + 1) n _; rw [hs])
      · have hs : (if J 7 k ≤ 0 then (0 : Int32) else (1 : Int32) <<< (nI k &&& 31)) = (1 : Int32) <<< (nI k &&& 31) := if_neg c21
        refine rx_iconst hE dX11_sounds_24 (v := 1) (by decide) ?_
        refine rx_iload_n hE dX11_sounds_25 (i := 2) rfl rfl ?_
        refine rx_ishl hE dX11_sounds_26 ?_
        refine rx_goto (tgt := 31) hE dX11_sounds_27 (by decide) ?_
        refine rx_ior hE dX11_sounds_31 ?_
        refine rx_istore_n_1 hE dX11_sounds_32 (by decide) rfl ?_
        refine rx_iinc_2 hE dX11_sounds_33 (v := 1) (by decide) (by decide) rfl ?_
        rw [nI_1]
        refine rx_goto (tgt := 4) hE dX11_sounds_36 (by decide) ?_
        exact ih (k + 1) _ (by omega) (by rw [← hF]; show _ = kgsF J (k + 1) n _; rw [hs])
  refine rx_iconst hE dX11_sounds_0 (v := 0) (by decide) ?_
  refine rx_istore_n_1 hE dX11_sounds_1 (by decide) rfl ?_
  refine rx_iconst hE dX11_sounds_2 (v := 0) (by decide) ?_
  refine rx_istore_n_2 hE dX11_sounds_3 (by decide) rfl ?_
  exact loop R 0 0 (by omega) rfl
