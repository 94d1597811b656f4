def jfillF (f : Nat → Int32) (v : Int32) (k : Nat) : Nat → Int32 := fun i => if i < k then v else f i
theorem jfillF_0 (f : Nat → Int32) (v : Int32) : jfillF f v 0 = f := funext fun i => if_neg (Nat.not_lt_zero i)
theorem jfillF_s (f : Nat → Int32) (v : Int32) (k : Nat) : upd (jfillF f v k) k v = jfillF f v (k + 1) := by
  funext i
  unfold upd jfillF
  by_cases h : i = k
  · rw [if_pos h, if_pos (by omega)]
  · rw [if_neg h]
    by_cases h2 : i < k
    · rw [if_pos h2, if_pos (by omega)]
    · rw [if_neg h2, if_neg (by omega)]
set_option maxRecDepth 100000 in
set_option maxHeartbeats 4000000 in
theorem c_fill {M : gM} {x n : Nat} {f : Nat → Int32} (v0 : Int32) (hn : n < 2 ^ 31) (hx : g_at M x (gI n f)) : SX 0 0 0 mJ7_fill_53178 [.ref x, .int v0] (M) (fun v M' => v = none ∧ M' = g_up M x (gI n (jfillF f v0 n))) := by
  refine SX.intro [some (.ref x), some (.int v0), none, none] (by decide +kernel) (Nat.le_of_ble_eq_true rfl) rfl (fun E hE hQ => ?_)
  have loop : ∀ (m k : Nat), k + m = n → RX E mJ7_fill_53178.2.2.1 0 0 5 [some (.ref x), some (.int v0), some (.int (nI k)), some (.int (nI n))] [] (g_up M x (gI n (jfillF f v0 k))) := by
    intro m
    induction m with
    | zero =>
      intro k hk
      refine rx_iload_n hE dJ7_fill_53178_5 (i := 2) rfl rfl ?_
      refine rx_iload_n hE dJ7_fill_53178_6 (i := 3) rfl rfl ?_
      refine rx_icmp_ge (tgt := 20) hE dJ7_fill_53178_7 (by decide) (fun c7 => ?_) (fun c7 => absurd (nI_le (by omega) (by omega)) c7)
      exact rx_vret hE hQ rfl dJ7_fill_53178_20 ⟨rfl, by rw [show k = n by omega]⟩
    | succ m ih =>
      intro k hk
      refine rx_iload_n hE dJ7_fill_53178_5 (i := 2) rfl rfl ?_
      refine rx_iload_n hE dJ7_fill_53178_6 (i := 3) rfl rfl ?_
      refine rx_icmp_ge (tgt := 20) hE dJ7_fill_53178_7 (by decide) (fun c7 => absurd c7 (nI_ge (by omega) (by omega))) (fun c7 => ?_)
      refine rx_aload_n hE dJ7_fill_53178_10 (i := 0) rfl rfl ?_
      refine rx_iload_n hE dJ7_fill_53178_11 (i := 2) rfl rfl ?_
      refine rx_iload_n hE dJ7_fill_53178_12 (i := 1) rfl rfl ?_
      refine rx_iastN hE dJ7_fill_53178_13 (g_at_up hx) (by omega) hn ?_
      rw [g_up_up, jfillF_s]
      refine rx_iinc_2 hE dJ7_fill_53178_14 (v := 1) (by decide) (by decide) rfl ?_
      rw [nI_1]
      refine rx_goto (tgt := 5) hE dJ7_fill_53178_17 (by decide) ?_
      exact ih (k + 1) (by omega)
  refine rx_mem (M' := g_up M x (gI n (jfillF f v0 0))) (by rw [jfillF_0, g_up_id hx]) ?_
  refine rx_iconst hE dJ7_fill_53178_0 (v := 0) (by decide) ?_
  refine rx_istore_n_2 hE dJ7_fill_53178_1 (by decide) rfl ?_
  refine rx_aload_n hE dJ7_fill_53178_2 (i := 0) rfl rfl ?_
  refine rx_alenI hE dJ7_fill_53178_3 (g_at_up hx) ?_
  refine rx_istore_n_3 hE dJ7_fill_53178_4 (by decide) rfl ?_
  exact loop n 0 (by omega)
def j_zero : gJn := fun f => if f = 6 then fun _ => -1 else if f = 9 then fun i => if i = 5 then -1 else 0 else fun _ => 0
set_option maxRecDepth 100000 in
set_option maxHeartbeats 4000000 in
theorem c_X2_forget {M : gM} {a : Nat} {J : gJn} (hb : jb M a) : SX 1 0 0 mX2_forget [.ref a] (jp M a J) (fun v M' => v = none ∧ M' = jp M a j_zero) := by
  refine SX.intro [some (.ref a)] (by decide +kernel) (Nat.le_of_ble_eq_true rfl) rfl (fun E hE hQ => ?_)
  refine rx_aload_n hE dX2_forget_0 (i := 0) rfl rfl ?_
  refine rx_getf hE dX2_forget_1 fl_X2_9_2 (jp_o hb) rfl ?_
  refine rx_iconst hE dX2_forget_4 (v := 0) (by decide) ?_
  refine rx_call0 (rx_callS (av := [.ref _, .int _]) hE dX2_forget_5 lk_X2_58 (c_fill (0) (by decide) (jp_1 hb)) np_J7_fill_53178 rfl rfl (by decide) (Nat.le_of_ble_eq_true rfl) rfl ?_)
  rintro v M' ⟨rfl, rfl⟩
  refine rx_mem jw_1 ?_
  refine rx_aload_n hE dX2_forget_8 (i := 0) rfl rfl ?_
  refine rx_getf hE dX2_forget_9 fl_X2_15_2 (jp_o hb) rfl ?_
  refine rx_iconst hE dX2_forget_12 (v := 0) (by decide) ?_
  refine rx_call0 (rx_callS (av := [.ref _, .int _]) hE dX2_forget_13 lk_X2_58 (c_fill (0) (by decide) (jp_2 hb)) np_J7_fill_53178 rfl rfl (by decide) (Nat.le_of_ble_eq_true rfl) rfl ?_)
  rintro v M' ⟨rfl, rfl⟩
  refine rx_mem jw_2 ?_
  refine rx_aload_n hE dX2_forget_16 (i := 0) rfl rfl ?_
  refine rx_getf hE dX2_forget_17 fl_X2_18_2 (jp_o hb) rfl ?_
  refine rx_iconst hE dX2_forget_20 (v := 0) (by decide) ?_
  refine rx_call0 (rx_callS (av := [.ref _, .int _]) hE dX2_forget_21 lk_X2_58 (c_fill (0) (by decide) (jp_3 hb)) np_J7_fill_53178 rfl rfl (by decide) (Nat.le_of_ble_eq_true rfl) rfl ?_)
  rintro v M' ⟨rfl, rfl⟩
  refine rx_mem jw_3 ?_
  refine rx_aload_n hE dX2_forget_24 (i := 0) rfl rfl ?_
  refine rx_getf hE dX2_forget_25 fl_X2_21_2 (jp_o hb) rfl ?_
  refine rx_iconst hE dX2_forget_28 (v := 0) (by decide) ?_
  refine rx_call0 (rx_callS (av := [.ref _, .int _]) hE dX2_forget_29 lk_X2_58 (c_fill (0) (by decide) (jp_4 hb)) np_J7_fill_53178 rfl rfl (by decide) (Nat.le_of_ble_eq_true rfl) rfl ?_)
  rintro v M' ⟨rfl, rfl⟩
  refine rx_mem jw_4 ?_
  refine rx_aload_n hE dX2_forget_32 (i := 0) rfl rfl ?_
  refine rx_getf hE dX2_forget_33 fl_X2_24_2 (jp_o hb) rfl ?_
  refine rx_iconst hE dX2_forget_36 (v := 0) (by decide) ?_
  refine rx_call0 (rx_callS (av := [.ref _, .int _]) hE dX2_forget_37 lk_X2_58 (c_fill (0) (by decide) (jp_5 hb)) np_J7_fill_53178 rfl rfl (by decide) (Nat.le_of_ble_eq_true rfl) rfl ?_)
  rintro v M' ⟨rfl, rfl⟩
  refine rx_mem jw_5 ?_
  refine rx_aload_n hE dX2_forget_40 (i := 0) rfl rfl ?_
  refine rx_getf hE dX2_forget_41 fl_X2_27_2 (jp_o hb) rfl ?_
  refine rx_iconst hE dX2_forget_44 (v := 0) (by decide) ?_
  refine rx_call0 (rx_callS (av := [.ref _, .int _]) hE dX2_forget_45 lk_X2_58 (c_fill (0) (by decide) (jp_6 hb)) np_J7_fill_53178 rfl rfl (by decide) (Nat.le_of_ble_eq_true rfl) rfl ?_)
  rintro v M' ⟨rfl, rfl⟩
  refine rx_mem jw_6 ?_
  refine rx_aload_n hE dX2_forget_48 (i := 0) rfl rfl ?_
  refine rx_getf hE dX2_forget_49 fl_X2_30_2 (jp_o hb) rfl ?_
  refine rx_iconst hE dX2_forget_52 (v := -1) (by decide) ?_
  refine rx_call0 (rx_callS (av := [.ref _, .int _]) hE dX2_forget_53 lk_X2_58 (c_fill (-1) (by decide) (jp_7 hb)) np_J7_fill_53178 rfl rfl (by decide) (Nat.le_of_ble_eq_true rfl) rfl ?_)
  rintro v M' ⟨rfl, rfl⟩
  refine rx_mem jw_7 ?_
  refine rx_aload_n hE dX2_forget_56 (i := 0) rfl rfl ?_
  refine rx_getf hE dX2_forget_57 fl_X2_33_2 (jp_o hb) rfl ?_
  refine rx_iconst hE dX2_forget_60 (v := 0) (by decide) ?_
  refine rx_call0 (rx_callS (av := [.ref _, .int _]) hE dX2_forget_61 lk_X2_58 (c_fill (0) (by decide) (jp_8 hb)) np_J7_fill_53178 rfl rfl (by decide) (Nat.le_of_ble_eq_true rfl) rfl ?_)
  rintro v M' ⟨rfl, rfl⟩
  refine rx_mem jw_8 ?_
  refine rx_aload_n hE dX2_forget_64 (i := 0) rfl rfl ?_
  refine rx_getf hE dX2_forget_65 fl_X2_36_2 (jp_o hb) rfl ?_
  refine rx_iconst hE dX2_forget_68 (v := 0) (by decide) ?_
  refine rx_call0 (rx_callS (av := [.ref _, .int _]) hE dX2_forget_69 lk_X2_58 (c_fill (0) (by decide) (jp_9 hb)) np_J7_fill_53178 rfl rfl (by decide) (Nat.le_of_ble_eq_true rfl) rfl ?_)
  rintro v M' ⟨rfl, rfl⟩
  refine rx_mem jw_9 ?_
  refine rx_aload_n hE dX2_forget_72 (i := 0) rfl rfl ?_
  refine rx_iconst hE dX2_forget_73 (v := 0) (by decide) ?_
  refine rx_put hE dX2_forget_74 fl_X2_39_2 fw_2_9 (jp_o hb) (fun _ => rfl) (fun _ => rfl) (Nat.le_of_ble_eq_true rfl) ?_
  refine rx_mem jw_c0 ?_
  refine rx_aload_n hE dX2_forget_77 (i := 0) rfl rfl ?_
  refine rx_iconst hE dX2_forget_78 (v := 0) (by decide) ?_
  refine rx_put hE dX2_forget_79 fl_X2_43_2 fw_2_10 (jp_o hb) (fun _ => rfl) (fun _ => rfl) (Nat.le_of_ble_eq_true rfl) ?_
  refine rx_mem jw_c1 ?_
  refine rx_aload_n hE dX2_forget_82 (i := 0) rfl rfl ?_
  refine rx_iconst hE dX2_forget_83 (v := 0) (by decide) ?_
  refine rx_put hE dX2_forget_84 fl_X2_46_2 fw_2_11 (jp_o hb) (fun _ => rfl) (fun _ => rfl) (Nat.le_of_ble_eq_true rfl) ?_
  refine rx_mem jw_c2 ?_
  refine rx_aload_n hE dX2_forget_87 (i := 0) rfl rfl ?_
  refine rx_iconst hE dX2_forget_88 (v := 0) (by decide) ?_
  refine rx_put hE dX2_forget_89 fl_X2_49_2 fw_2_12 (jp_o hb) (fun _ => rfl) (fun _ => rfl) (Nat.le_of_ble_eq_true rfl) ?_
  refine rx_mem jw_c3 ?_
  refine rx_aload_n hE dX2_forget_92 (i := 0) rfl rfl ?_
  refine rx_iconst hE dX2_forget_93 (v := 0) (by decide) ?_
  refine rx_put hE dX2_forget_94 fl_X2_52_2 fw_2_13 (jp_o hb) (fun _ => rfl) (fun _ => rfl) (Nat.le_of_ble_eq_true rfl) ?_
  refine rx_mem jw_c4 ?_
  refine rx_aload_n hE dX2_forget_97 (i := 0) rfl rfl ?_
  refine rx_iconst hE dX2_forget_98 (v := -1) (by decide) ?_
  refine rx_put hE dX2_forget_99 fl_X2_55_2 fw_2_14 (jp_o hb) (fun _ => rfl) (fun _ => rfl) (Nat.le_of_ble_eq_true rfl) ?_
  refine rx_mem jw_c5 ?_
  refine rx_eqv (jp_eqv M a (K := j_zero) (fun f i h => ?_)) ?_
  · rcases (show f = 0 ∨ f = 1 ∨ f = 2 ∨ f = 3 ∨ f = 4 ∨ f = 5 ∨ f = 6 ∨ f = 7 ∨ f = 8 ∨ f = 9 by omega) with rfl | rfl | rfl | rfl | rfl | rfl | rfl | rfl | rfl | rfl
    all_goals first | (simp [j_c, j_s, j_zero, jfillF]; omega) | (rcases (show i = 0 ∨ i = 1 ∨ i = 2 ∨ i = 3 ∨ i = 4 ∨ i = 5 by omega) with rfl | rfl | rfl | rfl | rfl | rfl <;> rfl)
  exact rx_vret hE hQ rfl dX2_forget_102 ⟨rfl, rfl⟩
set_option maxRecDepth 100000 in
set_option maxHeartbeats 4000000 in
theorem c_X2_copyFrom {M : gM} {a c : Nat} {J K : gJn} (hb : jb M a) (hc : jb M c) (hac : a + 10 ≤ c ∨ c + 10 ≤ a) : SX 1 0 0 mX2_copyFrom [.ref a, .ref c] (jp (jp M a J) c K) (fun v M' => v = none ∧ M' = jp (jp M a K) c K) := by
  refine SX.intro [some (.ref a), some (.ref c)] (by decide +kernel) (Nat.le_of_ble_eq_true rfl) rfl (fun E hE hQ => ?_)
  refine rx_aload_n hE dX2_copyFrom_0 (i := 1) rfl rfl ?_
  refine rx_getf hE dX2_copyFrom_1 fl_X2_9_2 (jp_at (M := jp M a _) hc 0 (by decide)) rfl ?_
  refine rx_iconst hE dX2_copyFrom_4 (v := 0) (by decide) ?_
  refine rx_aload_n hE dX2_copyFrom_5 (i := 0) rfl rfl ?_
  refine rx_getf hE dX2_copyFrom_6 fl_X2_9_2 (jp_in hb hac 0 (by decide)) rfl ?_
  refine rx_iconst hE dX2_copyFrom_9 (v := 0) (by decide) ?_
  refine rx_bipush hE dX2_copyFrom_10 (v := 6) (by decide) ?_
  refine rx_copyi hE dX2_copyFrom_12 ac_X2_64 rfl (by decide) (Nat.le_of_ble_eq_true rfl) (jp_at (M := jp M a _) hc 1 (by decide)) (jp_in hb hac 1 (by decide)) (by decide) (by decide) (by decide) (by decide) (by decide) ?_
  refine rx_mem (jw_in 1 hac jw_1) ?_
  refine rx_eqv (jp_cpy M a c _ K K 0 _ _ (by decide) (by decide)) ?_
  refine rx_aload_n hE dX2_copyFrom_15 (i := 1) rfl rfl ?_
  refine rx_getf hE dX2_copyFrom_16 fl_X2_15_2 (jp_at (M := jp M a _) hc 0 (by decide)) rfl ?_
  refine rx_iconst hE dX2_copyFrom_19 (v := 0) (by decide) ?_
  refine rx_aload_n hE dX2_copyFrom_20 (i := 0) rfl rfl ?_
  refine rx_getf hE dX2_copyFrom_21 fl_X2_15_2 (jp_in hb hac 0 (by decide)) rfl ?_
  refine rx_iconst hE dX2_copyFrom_24 (v := 0) (by decide) ?_
  refine rx_bipush hE dX2_copyFrom_25 (v := 6) (by decide) ?_
  refine rx_copyi hE dX2_copyFrom_27 ac_X2_64 rfl (by decide) (Nat.le_of_ble_eq_true rfl) (jp_at (M := jp M a _) hc 2 (by decide)) (jp_in hb hac 2 (by decide)) (by decide) (by decide) (by decide) (by decide) (by decide) ?_
  refine rx_mem (jw_in 2 hac jw_2) ?_
  refine rx_eqv (jp_cpy M a c _ K K 1 _ _ (by decide) (by decide)) ?_
  refine rx_aload_n hE dX2_copyFrom_30 (i := 1) rfl rfl ?_
  refine rx_getf hE dX2_copyFrom_31 fl_X2_18_2 (jp_at (M := jp M a _) hc 0 (by decide)) rfl ?_
  refine rx_iconst hE dX2_copyFrom_34 (v := 0) (by decide) ?_
  refine rx_aload_n hE dX2_copyFrom_35 (i := 0) rfl rfl ?_
  refine rx_getf hE dX2_copyFrom_36 fl_X2_18_2 (jp_in hb hac 0 (by decide)) rfl ?_
  refine rx_iconst hE dX2_copyFrom_39 (v := 0) (by decide) ?_
  refine rx_bipush hE dX2_copyFrom_40 (v := 6) (by decide) ?_
  refine rx_copyi hE dX2_copyFrom_42 ac_X2_64 rfl (by decide) (Nat.le_of_ble_eq_true rfl) (jp_at (M := jp M a _) hc 3 (by decide)) (jp_in hb hac 3 (by decide)) (by decide) (by decide) (by decide) (by decide) (by decide) ?_
  refine rx_mem (jw_in 3 hac jw_3) ?_
  refine rx_eqv (jp_cpy M a c _ K K 2 _ _ (by decide) (by decide)) ?_
  refine rx_aload_n hE dX2_copyFrom_45 (i := 1) rfl rfl ?_
  refine rx_getf hE dX2_copyFrom_46 fl_X2_21_2 (jp_at (M := jp M a _) hc 0 (by decide)) rfl ?_
  refine rx_iconst hE dX2_copyFrom_49 (v := 0) (by decide) ?_
  refine rx_aload_n hE dX2_copyFrom_50 (i := 0) rfl rfl ?_
  refine rx_getf hE dX2_copyFrom_51 fl_X2_21_2 (jp_in hb hac 0 (by decide)) rfl ?_
  refine rx_iconst hE dX2_copyFrom_54 (v := 0) (by decide) ?_
  refine rx_bipush hE dX2_copyFrom_55 (v := 6) (by decide) ?_
  refine rx_copyi hE dX2_copyFrom_57 ac_X2_64 rfl (by decide) (Nat.le_of_ble_eq_true rfl) (jp_at (M := jp M a _) hc 4 (by decide)) (jp_in hb hac 4 (by decide)) (by decide) (by decide) (by decide) (by decide) (by decide) ?_
  refine rx_mem (jw_in 4 hac jw_4) ?_
  refine rx_eqv (jp_cpy M a c _ K K 3 _ _ (by decide) (by decide)) ?_
  refine rx_aload_n hE dX2_copyFrom_60 (i := 1) rfl rfl ?_
  refine rx_getf hE dX2_copyFrom_61 fl_X2_24_2 (jp_at (M := jp M a _) hc 0 (by decide)) rfl ?_
  refine rx_iconst hE dX2_copyFrom_64 (v := 0) (by decide) ?_
  refine rx_aload_n hE dX2_copyFrom_65 (i := 0) rfl rfl ?_
  refine rx_getf hE dX2_copyFrom_66 fl_X2_24_2 (jp_in hb hac 0 (by decide)) rfl ?_
  refine rx_iconst hE dX2_copyFrom_69 (v := 0) (by decide) ?_
  refine rx_bipush hE dX2_copyFrom_70 (v := 6) (by decide) ?_
  refine rx_copyi hE dX2_copyFrom_72 ac_X2_64 rfl (by decide) (Nat.le_of_ble_eq_true rfl) (jp_at (M := jp M a _) hc 5 (by decide)) (jp_in hb hac 5 (by decide)) (by decide) (by decide) (by decide) (by decide) (by decide) ?_
  refine rx_mem (jw_in 5 hac jw_5) ?_
  refine rx_eqv (jp_cpy M a c _ K K 4 _ _ (by decide) (by decide)) ?_
  refine rx_aload_n hE dX2_copyFrom_75 (i := 1) rfl rfl ?_
  refine rx_getf hE dX2_copyFrom_76 fl_X2_27_2 (jp_at (M := jp M a _) hc 0 (by decide)) rfl ?_
  refine rx_iconst hE dX2_copyFrom_79 (v := 0) (by decide) ?_
  refine rx_aload_n hE dX2_copyFrom_80 (i := 0) rfl rfl ?_
  refine rx_getf hE dX2_copyFrom_81 fl_X2_27_2 (jp_in hb hac 0 (by decide)) rfl ?_
  refine rx_iconst hE dX2_copyFrom_84 (v := 0) (by decide) ?_
  refine rx_bipush hE dX2_copyFrom_85 (v := 6) (by decide) ?_
  refine rx_copyi hE dX2_copyFrom_87 ac_X2_64 rfl (by decide) (Nat.le_of_ble_eq_true rfl) (jp_at (M := jp M a _) hc 6 (by decide)) (jp_in hb hac 6 (by decide)) (by decide) (by decide) (by decide) (by decide) (by decide) ?_
  refine rx_mem (jw_in 6 hac jw_6) ?_
  refine rx_eqv (jp_cpy M a c _ K K 5 _ _ (by decide) (by decide)) ?_
  refine rx_aload_n hE dX2_copyFrom_90 (i := 1) rfl rfl ?_
  refine rx_getf hE dX2_copyFrom_91 fl_X2_30_2 (jp_at (M := jp M a _) hc 0 (by decide)) rfl ?_
  refine rx_iconst hE dX2_copyFrom_94 (v := 0) (by decide) ?_
  refine rx_aload_n hE dX2_copyFrom_95 (i := 0) rfl rfl ?_
  refine rx_getf hE dX2_copyFrom_96 fl_X2_30_2 (jp_in hb hac 0 (by decide)) rfl ?_
  refine rx_iconst hE dX2_copyFrom_99 (v := 0) (by decide) ?_
  refine rx_bipush hE dX2_copyFrom_100 (v := 6) (by decide) ?_
  refine rx_copyi hE dX2_copyFrom_102 ac_X2_64 rfl (by decide) (Nat.le_of_ble_eq_true rfl) (jp_at (M := jp M a _) hc 7 (by decide)) (jp_in hb hac 7 (by decide)) (by decide) (by decide) (by decide) (by decide) (by decide) ?_
  refine rx_mem (jw_in 7 hac jw_7) ?_
  refine rx_eqv (jp_cpy M a c _ K K 6 _ _ (by decide) (by decide)) ?_
  refine rx_aload_n hE dX2_copyFrom_105 (i := 1) rfl rfl ?_
  refine rx_getf hE dX2_copyFrom_106 fl_X2_33_2 (jp_at (M := jp M a _) hc 0 (by decide)) rfl ?_
  refine rx_iconst hE dX2_copyFrom_109 (v := 0) (by decide) ?_
  refine rx_aload_n hE dX2_copyFrom_110 (i := 0) rfl rfl ?_
  refine rx_getf hE dX2_copyFrom_111 fl_X2_33_2 (jp_in hb hac 0 (by decide)) rfl ?_
  refine rx_iconst hE dX2_copyFrom_114 (v := 0) (by decide) ?_
  refine rx_bipush hE dX2_copyFrom_115 (v := 6) (by decide) ?_
  refine rx_copyi hE dX2_copyFrom_117 ac_X2_64 rfl (by decide) (Nat.le_of_ble_eq_true rfl) (jp_at (M := jp M a _) hc 8 (by decide)) (jp_in hb hac 8 (by decide)) (by decide) (by decide) (by decide) (by decide) (by decide) ?_
  refine rx_mem (jw_in 8 hac jw_8) ?_
  refine rx_eqv (jp_cpy M a c _ K K 7 _ _ (by decide) (by decide)) ?_
  refine rx_aload_n hE dX2_copyFrom_120 (i := 1) rfl rfl ?_
  refine rx_getf hE dX2_copyFrom_121 fl_X2_36_2 (jp_at (M := jp M a _) hc 0 (by decide)) rfl ?_
  refine rx_iconst hE dX2_copyFrom_124 (v := 0) (by decide) ?_
  refine rx_aload_n hE dX2_copyFrom_125 (i := 0) rfl rfl ?_
  refine rx_getf hE dX2_copyFrom_126 fl_X2_36_2 (jp_in hb hac 0 (by decide)) rfl ?_
  refine rx_iconst hE dX2_copyFrom_129 (v := 0) (by decide) ?_
  refine rx_bipush hE dX2_copyFrom_130 (v := 12) (by decide) ?_
  refine rx_copyi hE dX2_copyFrom_132 ac_X2_64 rfl (by decide) (Nat.le_of_ble_eq_true rfl) (jp_at (M := jp M a _) hc 9 (by decide)) (jp_in hb hac 9 (by decide)) (by decide) (by decide) (by decide) (by decide) (by decide) ?_
  refine rx_mem (jw_in 9 hac jw_9) ?_
  refine rx_eqv (jp_cpy M a c _ K K 8 _ _ (by decide) (by decide)) ?_
  refine rx_aload_n hE dX2_copyFrom_135 (i := 0) rfl rfl ?_
  refine rx_aload_n hE dX2_copyFrom_136 (i := 1) rfl rfl ?_
  refine rx_getf hE dX2_copyFrom_137 fl_X2_39_2 (jp_at (M := jp M a _) hc 0 (by decide)) rfl ?_
  refine rx_put hE dX2_copyFrom_140 fl_X2_39_2 fw_2_9 (jp_in hb hac 0 (by decide)) (fun _ => rfl) (fun _ => rfl) (Nat.le_of_ble_eq_true rfl) ?_
  refine rx_mem (jw_in 0 hac jw_c0) ?_
  refine rx_aload_n hE dX2_copyFrom_143 (i := 0) rfl rfl ?_
  refine rx_aload_n hE dX2_copyFrom_144 (i := 1) rfl rfl ?_
  refine rx_getf hE dX2_copyFrom_145 fl_X2_43_2 (jp_at (M := jp M a _) hc 0 (by decide)) rfl ?_
  refine rx_put hE dX2_copyFrom_148 fl_X2_43_2 fw_2_10 (jp_in hb hac 0 (by decide)) (fun _ => rfl) (fun _ => rfl) (Nat.le_of_ble_eq_true rfl) ?_
  refine rx_mem (jw_in 0 hac jw_c1) ?_
  refine rx_aload_n hE dX2_copyFrom_151 (i := 0) rfl rfl ?_
  refine rx_aload_n hE dX2_copyFrom_152 (i := 1) rfl rfl ?_
  refine rx_getf hE dX2_copyFrom_153 fl_X2_46_2 (jp_at (M := jp M a _) hc 0 (by decide)) rfl ?_
  refine rx_put hE dX2_copyFrom_156 fl_X2_46_2 fw_2_11 (jp_in hb hac 0 (by decide)) (fun _ => rfl) (fun _ => rfl) (Nat.le_of_ble_eq_true rfl) ?_
  refine rx_mem (jw_in 0 hac jw_c2) ?_
  refine rx_aload_n hE dX2_copyFrom_159 (i := 0) rfl rfl ?_
  refine rx_aload_n hE dX2_copyFrom_160 (i := 1) rfl rfl ?_
  refine rx_getf hE dX2_copyFrom_161 fl_X2_49_2 (jp_at (M := jp M a _) hc 0 (by decide)) rfl ?_
  refine rx_put hE dX2_copyFrom_164 fl_X2_49_2 fw_2_12 (jp_in hb hac 0 (by decide)) (fun _ => rfl) (fun _ => rfl) (Nat.le_of_ble_eq_true rfl) ?_
  refine rx_mem (jw_in 0 hac jw_c3) ?_
  refine rx_aload_n hE dX2_copyFrom_167 (i := 0) rfl rfl ?_
  refine rx_aload_n hE dX2_copyFrom_168 (i := 1) rfl rfl ?_
  refine rx_getf hE dX2_copyFrom_169 fl_X2_52_2 (jp_at (M := jp M a _) hc 0 (by decide)) rfl ?_
  refine rx_put hE dX2_copyFrom_172 fl_X2_52_2 fw_2_13 (jp_in hb hac 0 (by decide)) (fun _ => rfl) (fun _ => rfl) (Nat.le_of_ble_eq_true rfl) ?_
  refine rx_mem (jw_in 0 hac jw_c4) ?_
  refine rx_aload_n hE dX2_copyFrom_175 (i := 0) rfl rfl ?_
  refine rx_aload_n hE dX2_copyFrom_176 (i := 1) rfl rfl ?_
  refine rx_getf hE dX2_copyFrom_177 fl_X2_55_2 (jp_at (M := jp M a _) hc 0 (by decide)) rfl ?_
  refine rx_put hE dX2_copyFrom_180 fl_X2_55_2 fw_2_14 (jp_in hb hac 0 (by decide)) (fun _ => rfl) (fun _ => rfl) (Nat.le_of_ble_eq_true rfl) ?_
  refine rx_mem (jw_in 0 hac jw_c5) ?_
  refine rx_eqv (jp_eqv_in c K (jp_eqv M a (K := K) (fun f i h => ?_))) ?_
  · rcases (show f = 0 ∨ f = 1 ∨ f = 2 ∨ f = 3 ∨ f = 4 ∨ f = 5 ∨ f = 6 ∨ f = 7 ∨ f = 8 ∨ f = 9 by omega) with rfl | rfl | rfl | rfl | rfl | rfl | rfl | rfl | rfl | rfl
    all_goals first | rfl | (rcases (show i = 0 ∨ i = 1 ∨ i = 2 ∨ i = 3 ∨ i = 4 ∨ i = 5 by omega) with rfl | rfl | rfl | rfl | rfl | rfl <;> rfl)
  exact rx_vret hE hQ rfl dX2_copyFrom_183 ⟨rfl, rfl⟩
set_option maxRecDepth 100000 in
set_option maxHeartbeats 4000000 in
theorem c_X2_addRoad {M : gM} {a R : Nat} {J : gJn} (w0 w1 w2 : Int32) (hb : jb M a) (hR : J 9 2 = nI R) (hR6 : R < 6) : SX 0 0 0 mX2_addRoad [.ref a, .int w0, .int w1, .int w2] (jp M a J) (fun v M' => v = none ∧ M' = jp M a (j_c (j_s (j_s (j_s J 0 (upd (J 0) R w0)) 1 (upd (J 1) R w1)) 2 (upd (J 2) R w2)) 2 (nI (R + 1)))) := by
  refine SX.intro [some (.ref a), some (.int w0), some (.int w1), some (.int w2)] (by decide +kernel) (Nat.le_of_ble_eq_true rfl) rfl (fun E hE hQ => ?_)
  refine rx_aload_n hE dX2_addRoad_0 (i := 0) rfl rfl ?_
  refine rx_getf hE dX2_addRoad_1 fl_X2_46_2 (jp_o hb) rfl ?_
  refine rx_if_lt (tgt := 56) hE dX2_addRoad_4 (by decide) (fun c4 => absurd (by rw [hR] at c4; exact c4) (nI_pos (by omega))) (fun c4 => ?_)
  refine rx_aload_n hE dX2_addRoad_7 (i := 0) rfl rfl ?_
  refine rx_getf hE dX2_addRoad_8 fl_X2_46_2 (jp_o hb) rfl ?_
  refine rx_bipush hE dX2_addRoad_11 (v := 6) (by decide) ?_
  refine rx_icmp_ge (tgt := 56) hE dX2_addRoad_13 (by decide) (fun c13 => absurd (by rw [hR] at c13; exact c13) (nI_ge (b := 6) (by omega) (by decide))) (fun c13 => ?_)
  refine rx_aload_n hE dX2_addRoad_16 (i := 0) rfl rfl ?_
  refine rx_getf hE dX2_addRoad_17 fl_X2_9_2 (jp_o hb) rfl ?_
  refine rx_aload_n hE dX2_addRoad_20 (i := 0) rfl rfl ?_
  refine rx_getf hE dX2_addRoad_21 fl_X2_46_2 (jp_o hb) rfl ?_
  refine rx_int _ (nI R) hR ?_
  refine rx_iload_n hE dX2_addRoad_24 (i := 1) rfl rfl ?_
  refine rx_iastN hE dX2_addRoad_25 (jp_1 hb) (by omega) (by decide) ?_
  refine rx_mem jw_1 ?_
  refine rx_aload_n hE dX2_addRoad_26 (i := 0) rfl rfl ?_
  refine rx_getf hE dX2_addRoad_27 fl_X2_15_2 (jp_o hb) rfl ?_
  refine rx_aload_n hE dX2_addRoad_30 (i := 0) rfl rfl ?_
  refine rx_getf hE dX2_addRoad_31 fl_X2_46_2 (jp_o hb) rfl ?_
  refine rx_int _ (nI R) hR ?_
  refine rx_iload_n hE dX2_addRoad_34 (i := 2) rfl rfl ?_
  refine rx_iastN hE dX2_addRoad_35 (jp_2 hb) (by omega) (by decide) ?_
  refine rx_mem jw_2 ?_
  refine rx_aload_n hE dX2_addRoad_36 (i := 0) rfl rfl ?_
  refine rx_getf hE dX2_addRoad_37 fl_X2_18_2 (jp_o hb) rfl ?_
  refine rx_aload_n hE dX2_addRoad_40 (i := 0) rfl rfl ?_
  refine rx_getf hE dX2_addRoad_41 fl_X2_46_2 (jp_o hb) rfl ?_
  refine rx_int _ (nI R) hR ?_
  refine rx_iload_n hE dX2_addRoad_44 (i := 3) rfl rfl ?_
  refine rx_iastN hE dX2_addRoad_45 (jp_3 hb) (by omega) (by decide) ?_
  refine rx_mem jw_3 ?_
  refine rx_aload_n hE dX2_addRoad_46 (i := 0) rfl rfl ?_
  refine rx_dup hE dX2_addRoad_47 rfl ?_
  refine rx_getf hE dX2_addRoad_48 fl_X2_46_2 (jp_o hb) rfl ?_
  refine rx_int _ (nI R) hR ?_
  refine rx_iconst hE dX2_addRoad_51 (v := 1) (by decide) ?_
  refine rx_iadd hE dX2_addRoad_52 ?_
  rw [nI_1]
  refine rx_put hE dX2_addRoad_53 fl_X2_46_2 fw_2_11 (jp_o hb) (fun _ => rfl) (fun _ => rfl) (Nat.le_of_ble_eq_true rfl) ?_
  refine rx_mem jw_c2 ?_
  exact rx_vret hE hQ rfl dX2_addRoad_56 ⟨rfl, rfl⟩
def j_us (x s : Int32) : Int32 := (x.toUInt32 >>> (s.toUInt32 &&& Int32.toUInt32 31)).toInt32
def j_b1 (x : Int32) : Int32 := x - (j_us x 1 &&& 1431655765)
def j_b2 (x : Int32) : Int32 := (x &&& 858993459) + (j_us x 2 &&& 858993459)
def j_b3 (x : Int32) : Int32 := (x + j_us x 4) &&& 252645135
def j_b4 (x s : Int32) : Int32 := x + j_us x s
def j_bc (x : Int32) : Int32 := j_b4 (j_b4 (j_b3 (j_b2 (j_b1 x))) 8) 16 &&& 63
set_option maxRecDepth 100000 in
set_option maxHeartbeats 4000000 in
theorem c_bitCount {M : gM} (x : Int32) : SX 0 0 0 mJ6_bitCount_0f7a4 [.int x] (M) (fun v M' => v = some (.int (j_bc x)) ∧ M' = M) := by
  refine SX.intro [some (.int x)] (by decide +kernel) (Nat.le_of_ble_eq_true rfl) rfl (fun E hE hQ => ?_)
  refine rx_iload_n hE dJ6_bitCount_0f7a4_0 (i := 0) rfl rfl ?_
  refine rx_iload_n hE dJ6_bitCount_0f7a4_1 (i := 0) rfl rfl ?_
  refine rx_iconst hE dJ6_bitCount_0f7a4_2 (v := 1) (by decide) ?_
  refine rx_iushr hE dJ6_bitCount_0f7a4_3 rfl ?_
  refine rx_ldcw hE dJ6_bitCount_0f7a4_4 k_J6_265 ?_
  refine rx_iand hE dJ6_bitCount_0f7a4_7 ?_
  refine rx_isub hE dJ6_bitCount_0f7a4_8 ?_
  refine rx_istore_n_0 hE dJ6_bitCount_0f7a4_9 (by decide) ?_
  refine rx_iload_n hE dJ6_bitCount_0f7a4_10 (i := 0) rfl rfl ?_
  refine rx_ldcw hE dJ6_bitCount_0f7a4_11 k_J6_266 ?_
  refine rx_iand hE dJ6_bitCount_0f7a4_14 ?_
  refine rx_iload_n hE dJ6_bitCount_0f7a4_15 (i := 0) rfl rfl ?_
  refine rx_iconst hE dJ6_bitCount_0f7a4_16 (v := 2) (by decide) ?_
  refine rx_iushr hE dJ6_bitCount_0f7a4_17 rfl ?_
  refine rx_ldcw hE dJ6_bitCount_0f7a4_18 k_J6_266 ?_
  refine rx_iand hE dJ6_bitCount_0f7a4_21 ?_
  refine rx_iadd hE dJ6_bitCount_0f7a4_22 ?_
  refine rx_istore_n_0 hE dJ6_bitCount_0f7a4_23 (by decide) ?_
  refine rx_iload_n hE dJ6_bitCount_0f7a4_24 (i := 0) rfl rfl ?_
  refine rx_iload_n hE dJ6_bitCount_0f7a4_25 (i := 0) rfl rfl ?_
  refine rx_iconst hE dJ6_bitCount_0f7a4_26 (v := 4) (by decide) ?_
  refine rx_iushr hE dJ6_bitCount_0f7a4_27 rfl ?_
  refine rx_iadd hE dJ6_bitCount_0f7a4_28 ?_
  refine rx_ldcw hE dJ6_bitCount_0f7a4_29 k_J6_267 ?_
  refine rx_iand hE dJ6_bitCount_0f7a4_32 ?_
  refine rx_istore_n_0 hE dJ6_bitCount_0f7a4_33 (by decide) ?_
  refine rx_iload_n hE dJ6_bitCount_0f7a4_34 (i := 0) rfl rfl ?_
  refine rx_iload_n hE dJ6_bitCount_0f7a4_35 (i := 0) rfl rfl ?_
  refine rx_bipush hE dJ6_bitCount_0f7a4_36 (v := 8) (by decide) ?_
  refine rx_iushr hE dJ6_bitCount_0f7a4_38 rfl ?_
  refine rx_iadd hE dJ6_bitCount_0f7a4_39 ?_
  refine rx_istore_n_0 hE dJ6_bitCount_0f7a4_40 (by decide) ?_
  refine rx_iload_n hE dJ6_bitCount_0f7a4_41 (i := 0) rfl rfl ?_
  refine rx_iload_n hE dJ6_bitCount_0f7a4_42 (i := 0) rfl rfl ?_
  refine rx_bipush hE dJ6_bitCount_0f7a4_43 (v := 16) (by decide) ?_
  refine rx_iushr hE dJ6_bitCount_0f7a4_45 rfl ?_
  refine rx_iadd hE dJ6_bitCount_0f7a4_46 ?_
  refine rx_istore_n_0 hE dJ6_bitCount_0f7a4_47 (by decide) ?_
  refine rx_iload_n hE dJ6_bitCount_0f7a4_48 (i := 0) rfl rfl ?_
  refine rx_bipush hE dJ6_bitCount_0f7a4_49 (v := 63) (by decide) ?_
  refine rx_iand hE dJ6_bitCount_0f7a4_51 ?_
  exact rx_iret hE hQ rfl dJ6_bitCount_0f7a4_52 ⟨rfl, rfl⟩
