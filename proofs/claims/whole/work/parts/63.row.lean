def qdg (P n code k : Nat) : Nat := code / P ^ (n - 1 - k) % P
def qfpF (J : gJn) (R P n code : Nat) : Nat → Int32
  | 0 => 1
  | m + 1 => if jpcF J (nI (qdg P n code m)) 0 R = 0 then 0 else qfpF J R P n code m
theorem qdg_s {P n code m x : Nat} (h : x = code / P ^ (n - (m + 1))) (hm : m + 1 ≤ n) : x % P = qdg P n code m ∧ x / P = code / P ^ (n - m) := by
  subst h
  constructor
  · unfold qdg
    rw [show n - 1 - m = n - (m + 1) by omega]
  · rw [Nat.div_div_eq_div_mul, ← Nat.pow_succ, show (n - (m + 1)).succ = n - m by omega]
set_option maxRecDepth 100000 in
set_option maxHeartbeats 4000000 in
theorem c_X11_fillsRow {M : gM} {S : gS} {L : gLg} {J : gJn} (hM : 408 ≤ M.1) {R N code : Nat} (hR : J 9 2 = nI R) (hR6 : R ≤ 6) (hN0 : 0 < N) (hN : N ≤ 3) (hco : code < 2 ^ 18) : SX 2 0 0 mX11_fillsRow [.ref 384, .int (nI code), .int (nI N)] (kp M (kput S J) L) (fun v M' => v = some (.int (qfpF J R (2 ^ R) N code N)) ∧ ∃ b : gB1, M' = kp M (kput (k_s S 15 b) J) L ∧ (¬ qfpF J R (2 ^ R) N code N = 0 → ∀ k, k < N → b k = nI (qdg (2 ^ R) N code k))) := by
  refine SX.intro [some (.ref 384), some (.int (nI code)), some (.int (nI N)), none, none] (by decide +kernel) (Nat.le_of_ble_eq_true rfl) rfl (fun E hE hQ => ?_)
  have loop : ∀ (m x : Nat) (b : gB1), m ≤ N → x = code / (2 ^ R) ^ (N - m) → x < 2 ^ 18 → (∀ k, m ≤ k → k < N → b k = nI (qdg (2 ^ R) N code k)) → qfpF J R (2 ^ R) N code m = qfpF J R (2 ^ R) N code N → RX E mX11_fillsRow.2.2.1 0 0 7 [some (.ref 384), some (.int (nI code)), some (.int (nI N)), some (.int (nI x)), some (.int (nI m + (-1)))] [] (kp M (kput (k_s S 15 b) J) L) := by
    intro m
    induction m with
    | zero =>
      intro x b hm hx hx2 hb hF
      refine rx_iload hE dX11_fillsRow_7 rfl ?_
      refine rx_if_lt (tgt := 62) hE dX11_fillsRow_9 (by decide) (fun c9 => ?_) (fun c9 => absurd (by decide) c9)
      refine rx_iconst hE dX11_fillsRow_62 (v := 1) (by decide) ?_
      exact rx_tret hE hQ rfl rfl dX11_fillsRow_63 ⟨by rw [← hF]; rfl, b, rfl, fun _ k hk => hb k (by omega) hk⟩
    | succ m ih =>
      intro x b hm hx hx2 hb hF
      obtain ⟨hd1, hd2⟩ := qdg_s hx hm
      have hp := pow6 R hR6
      rw [pk_m1]
      refine rx_iload hE dX11_fillsRow_7 rfl ?_
      refine rx_if_lt (tgt := 62) hE dX11_fillsRow_9 (by decide) (fun c9 => absurd c9 (nI_pos (by omega))) (fun c9 => ?_)
      refine rx_aload_n hE dX11_fillsRow_12 (i := 0) rfl rfl ?_
      refine rx_getf hE dX11_fillsRow_13 fl_X11_64_10 (kp_o hM) rfl ?_
      refine rx_iload hE dX11_fillsRow_16 rfl ?_
      refine rx_iload_n hE dX11_fillsRow_18 (i := 3) rfl rfl ?_
      refine rx_iconst hE dX11_fillsRow_19 (v := 1) (by decide) ?_
      refine rx_aload_n hE dX11_fillsRow_20 (i := 0) rfl rfl ?_
      refine rx_getf hE dX11_fillsRow_21 fl_X11_39_10 (kp_o hM) rfl ?_
      refine rx_iconst hE dX11_fillsRow_24 (v := 3) (by decide) ?_
      refine rx_ialdN (i := 3) hE dX11_fillsRow_25 (kp_10 hM) (by omega) (by decide) ?_
      refine rx_int _ _ kr_c2 ?_
      refine rx_ishl hE dX11_fillsRow_26 ?_
      refine rx_int _ (nI (2 ^ R)) (by rw [hR]; exact shl1 _ hR6) ?_
      refine rx_irem hE dX11_fillsRow_27 (nI_ne0 hp.1 (by omega)) ?_
      refine rx_int _ (nI (qdg (2 ^ R) N code m)) (by rw [pk_rem (by omega) hp.1 (by omega), hd1]) ?_
      refine rx_iastN (i := m) hE dX11_fillsRow_28 (kp_15 hM) (by omega) (by decide) ?_
      refine rx_mem (M' := kp M (kput (k_s S 15 (upd b m (nI (qdg (2 ^ R) N code m)))) J) L) (by rw [kw_15, kput_s (by decide) (by decide) (by decide)]; show kp M (kput (k_s (k_s S 15 b) 15 (upd b m _)) J) L = _; rw [k_ss]) ?_
      refine rx_iload_n hE dX11_fillsRow_29 (i := 3) rfl rfl ?_
      refine rx_iconst hE dX11_fillsRow_30 (v := 1) (by decide) ?_
      refine rx_aload_n hE dX11_fillsRow_31 (i := 0) rfl rfl ?_
      refine rx_getf hE dX11_fillsRow_32 fl_X11_39_10 (kp_o hM) rfl ?_
      refine rx_iconst hE dX11_fillsRow_35 (v := 3) (by decide) ?_
      refine rx_ialdN (i := 3) hE dX11_fillsRow_36 (kp_10 hM) (by omega) (by decide) ?_
      refine rx_int _ _ kr_c2 ?_
      refine rx_ishl hE dX11_fillsRow_37 ?_
      refine rx_int _ (nI (2 ^ R)) (by rw [hR]; exact shl1 _ hR6) ?_
      refine rx_idiv hE dX11_fillsRow_38 (nI_ne0 hp.1 (by omega)) ?_
      refine rx_int _ (nI (x / 2 ^ R)) (pk_div (by omega) hp.1 (by omega)) ?_
      refine rx_istore_n_3 hE dX11_fillsRow_39 (by decide) rfl ?_
      refine rx_aload_n hE dX11_fillsRow_40 (i := 0) rfl rfl ?_
      refine rx_aload_n hE dX11_fillsRow_41 (i := 0) rfl rfl ?_
      refine rx_getf hE dX11_fillsRow_42 fl_X11_64_10 (kp_o hM) rfl ?_
      refine rx_iload hE dX11_fillsRow_45 rfl ?_
      refine rx_ialdN (i := m) hE dX11_fillsRow_47 (kp_15 hM) (by omega) (by decide) ?_
      refine rx_int _ _ (kr_a (by decide) (by decide) (by decide)) ?_
      refine rx_int _ (nI (qdg (2 ^ R) N code m)) upd_eq ?_
      refine rx_call0 (rx_callV (av := [.int (nI (qdg (2 ^ R) N code m))]) hE dX11_fillsRow_48 lk_X11_385 (c_X11_isPeace (R := R) hM _ hR hR6) (kp_o hM) np_X11_isPeace rfl rfl (by decide) (Nat.le_of_ble_eq_true rfl) rfl ?_)
      rintro v M' ⟨rfl, rfl⟩
      refine rx_if_ne (tgt := 56) hE dX11_fillsRow_51 (by decide) (fun c51 => ?_) (fun c51 => ?_)
      · refine rx_iinc_4 hE dX11_fillsRow_56 (v := -1) (by decide) (by decide) rfl ?_
        refine rx_goto (tgt := 7) hE dX11_fillsRow_59 (by decide) ?_
        exact ih (x / 2 ^ R) _ (by omega) hd2 (Nat.lt_of_le_of_lt (Nat.div_le_self _ _) hx2) (fun k h1 h2 => by
          by_cases hk : k = m
          · rw [hk]
            exact upd_eq
          · rw [upd_ne hk]
            exact hb k (by omega) h2) (by rw [← hF]; exact (if_neg c51).symm)
      · refine rx_iconst hE dX11_fillsRow_54 (v := 0) (by decide) ?_
        exact rx_tret hE hQ rfl rfl dX11_fillsRow_55 ⟨by rw [← hF]; exact congrArg (fun x => some (Value.int x)) (if_pos c51).symm, _, rfl, fun h => absurd (by rw [← hF]; exact if_pos c51) h⟩
  refine rx_iload_n hE dX11_fillsRow_0 (i := 1) rfl rfl ?_
  refine rx_istore_n_3 hE dX11_fillsRow_1 (by decide) rfl ?_
  refine rx_iload_n hE dX11_fillsRow_2 (i := 2) rfl rfl ?_
  refine rx_iconst hE dX11_fillsRow_3 (v := 1) (by decide) ?_
  refine rx_isub hE dX11_fillsRow_4 ?_
  refine rx_int _ (nI N + (-1)) (Int32.sub_eq_add_neg _ _) ?_
  refine rx_istore_4 hE dX11_fillsRow_5 (by decide) rfl ?_
  refine rx_mem (M' := kp M (kput (k_s S 15 (S 15)) J) L) (by rw [k_s_id]) ?_
  exact loop N code (S 15) (Nat.le_refl _) (by rw [Nat.sub_self, Nat.pow_zero, Nat.div_one]) hco (fun k h1 h2 => by omega) rfl
def qpl (d : Nat → Nat) : Nat → Nat → gJn → gJn
  | _, 0, J => J
  | k, n + 1, J => qpl d (k + 1) n (jpl (nI (d k)) J)
def kwe (S : gS) (w h : Int32) : gS := k_f (k_f (k_f S 24 (-1)) 31 w) 32 h
set_option maxRecDepth 100000 in
set_option maxHeartbeats 4000000 in
theorem c_X11_weighsRow {M : gM} {S : gS} {L : gLg} {J : gJn} {g : Nat → Int32} (hM : 408 ≤ M.1) {N : Nat} {d : Nat → Nat} (hf : jfit J) (hT9 : jT J ≤ 999) (hN : N ≤ 3) (hK : kfull (S 13) J) (hd : ∀ k, k < N → S 15 k = nI (d k) ∧ d k < 64) : SX 7 0 0 mX11_weighsRow [.ref 384, .int (nI N)] (kp M (kput S (j_s J 7 g)) L) (fun v M' => v = none ∧ ∃ g', M' = kp M (kput (kwe S (jsum (qpl d 0 N J 5) (jR J)) (qpl d 0 N J 9 4)) (j_s J 7 g')) L) := by
  refine SX.intro [some (.ref 384), some (.int (nI N)), none] (by decide +kernel) (Nat.le_of_ble_eq_true rfl) rfl (fun E hE hQ => ?_)
  have loop : ∀ (n k : Nat) (x : Int32) (J' : gJn) (g' : Nat → Int32), k + n = N → jst J' J → jfit J' → jT J' = jT J + k → qpl d k n J' = qpl d 0 N J → RX E mX11_weighsRow.2.2.1 0 0 2 [some (.ref 384), some (.int (nI N)), some (.int (nI k))] [] (kp M (kput (k_f S 24 x) (j_s J' 7 g')) L) := by
    intro n
    induction n with
    | zero =>
      intro k x J' g' hk2 hs hf' hT2 hF
      refine rx_iload_n hE dX11_weighsRow_2 (i := 2) rfl rfl ?_
      refine rx_iload_n hE dX11_weighsRow_3 (i := 1) rfl rfl ?_
      refine rx_icmp_ge (tgt := 28) hE dX11_weighsRow_4 (by decide) (fun c4 => ?_) (fun c4 => absurd (show nI N ≤ nI k from nI_le (by omega) (by omega)) c4)
      refine rx_aload_n hE dX11_weighsRow_28 (i := 0) rfl rfl ?_
      refine rx_iconst hE dX11_weighsRow_29 (v := -1) (by decide) ?_
      refine rx_put hE dX11_weighsRow_30 fl_X11_49_10 fw_10_24 (kp_o hM) (fun _ => rfl) (fun _ => rfl) (Nat.le_of_ble_eq_true rfl) ?_
      refine rx_mem (M' := kp M (kput (k_f S 24 (-1)) (j_s J' 7 g')) L) (kw_c24.trans (by rw [kput_f24, k_ff])) ?_
      refine rx_aload_n hE dX11_weighsRow_33 (i := 0) rfl rfl ?_
      refine rx_aload_n hE dX11_weighsRow_34 (i := 0) rfl rfl ?_
      refine rx_iconst hE dX11_weighsRow_35 (v := 3) (by decide) ?_
      refine rx_call0 (rx_callV (av := [.int 3]) hE dX11_weighsRow_36 lk_X11_340 (c_X11_sumOver (m := 3) (R := jR J) hM (by show J' 9 2 = _; rw [hs.2.2 2 (by decide) (by decide)]; exact hf.1.1) hf.1.2.1 (by decide)) (kp_o hM) np_X11_sumOver rfl rfl (by decide) (Nat.le_of_ble_eq_true rfl) rfl ?_)
      rintro v M' ⟨rfl, rfl⟩
      refine rx_int _ (jsum (J' 5) (jR J)) rfl ?_
      refine rx_put hE dX11_weighsRow_39 fl_X11_403_10 fw_10_31 (kp_o hM) (fun _ => rfl) (fun _ => rfl) (Nat.le_of_ble_eq_true rfl) ?_
      refine rx_mem (M' := kp M (kput (k_f (k_f S 24 (-1)) 31 (jsum (J' 5) (jR J))) (j_s J' 7 g')) L) (kw_c31.trans (by rw [kput_f31])) ?_
      refine rx_aload_n hE dX11_weighsRow_42 (i := 0) rfl rfl ?_
      refine rx_aload_n hE dX11_weighsRow_43 (i := 0) rfl rfl ?_
      refine rx_getf hE dX11_weighsRow_44 fl_X11_39_10 (kp_o hM) rfl ?_
      refine rx_bipush hE dX11_weighsRow_47 (v := 53) (by decide) ?_
      refine rx_ialdN (i := 53) hE dX11_weighsRow_49 (kp_10 hM) (by omega) (by decide) ?_
      refine rx_int _ _ kr_c4 ?_
      refine rx_int _ (J' 9 4) rfl ?_
      refine rx_put hE dX11_weighsRow_50 fl_X11_406_10 fw_10_32 (kp_o hM) (fun _ => rfl) (fun _ => rfl) (Nat.le_of_ble_eq_true rfl) ?_
      refine rx_mem (M' := kp M (kput (kwe S (jsum (J' 5) (jR J)) (J' 9 4)) (j_s J' 7 g')) L) (kw_c32.trans (by rw [kput_f32]; rfl)) ?_
      refine rx_aload_n hE dX11_weighsRow_53 (i := 0) rfl rfl ?_
      refine rx_call0 (rx_callV (av := []) hE dX11_weighsRow_54 lk_X11_382 (c_X11_laysBack hM (J0 := J) hK) (kp_o hM) np_X11_laysBack rfl rfl (by decide) (Nat.le_of_ble_eq_true rfl) rfl ?_)
      rintro v M' ⟨rfl, rfl⟩
      rw [hs.back g']
      exact rx_vret hE hQ rfl dX11_weighsRow_57 ⟨rfl, g', by rw [show J' = qpl d 0 N J from hF]⟩
    | succ n ih =>
      intro k x J' g' hk2 hs hf' hT2 hF
      refine rx_iload_n hE dX11_weighsRow_2 (i := 2) rfl rfl ?_
      refine rx_iload_n hE dX11_weighsRow_3 (i := 1) rfl rfl ?_
      refine rx_icmp_ge (tgt := 28) hE dX11_weighsRow_4 (by decide) (fun c4 => absurd c4 (nI_ge (a := k) (b := N) (by omega) (by omega))) (fun c4 => ?_)
      refine rx_aload_n hE dX11_weighsRow_7 (i := 0) rfl rfl ?_
      refine rx_aload_n hE dX11_weighsRow_8 (i := 0) rfl rfl ?_
      refine rx_getf hE dX11_weighsRow_9 fl_X11_64_10 (kp_o hM) rfl ?_
      refine rx_iload_n hE dX11_weighsRow_12 (i := 2) rfl rfl ?_
      refine rx_ialdN (i := k) hE dX11_weighsRow_13 (kp_15 hM) (by omega) (by decide) ?_
      refine rx_int _ _ (kr_a (by decide) (by decide) (by decide)) ?_
      refine rx_int _ (nI (d k)) (hd k (by omega)).1 ?_
      refine rx_put hE dX11_weighsRow_14 fl_X11_49_10 fw_10_24 (kp_o hM) (fun _ => rfl) (fun _ => rfl) (Nat.le_of_ble_eq_true rfl) ?_
      refine rx_mem (M' := kp M (kput (k_f S 24 (nI (d k))) (j_s J' 7 g')) L) (kw_c24.trans (by rw [kput_f24, k_ff])) ?_
      refine rx_aload_n hE dX11_weighsRow_17 (i := 0) rfl rfl ?_
      refine rx_call0 (rx_callV (av := []) hE dX11_weighsRow_18 lk_X11_362 (c_X11_passP (pl := d k) hM rfl (hd k (by omega)).2 hf') (kp_o hM) np_X11_passes rfl rfl (by decide) (Nat.le_of_ble_eq_true rfl) rfl ?_)
      rintro v M' ⟨rfl, g1, rfl⟩
      refine rx_pop hE dX11_weighsRow_21 rfl ?_
      refine rx_iinc_2 hE dX11_weighsRow_22 (v := 1) (by decide) (by decide) rfl ?_
      rw [nI_1]
      refine rx_goto (tgt := 2) hE dX11_weighsRow_25 (by decide) ?_
      exact ih (k + 1) (nI (d k)) (jpl (nI (d k)) J') g1 (by omega) (hs.trans (jst.pl _ J')) (hf'.pl _ (by omega)) (by rw [(hf'.1.pl _ (by omega)).2]; omega) (by rw [← hF]; rfl)
  refine rx_iconst hE dX11_weighsRow_0 (v := 0) (by decide) ?_
  refine rx_istore_n_2 hE dX11_weighsRow_1 (by decide) rfl ?_
  refine rx_mem (M' := kp M (kput (k_f S 24 (S 0 24)) (j_s J 7 g)) L) (by rw [kf_id]) ?_
  exact loop N 0 _ J g (by omega) (jst.refl J) hf (by omega) rfl
