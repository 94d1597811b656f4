/-! ===== rules: clauses, each a sum and perhaps a test, as rows of signs ===== -/
abbrev gCl : Type := List (Nat × Nat) × Option (List (Nat × Nat))
def kval (wd : Nat → Int64) (p : List (Nat × Nat)) : Int64 := match kev wd p [] with
  | some [r] => r
  | _ => 0
def kone (p : List (Nat × Nat)) : Prop := ∀ wd : Nat → Int64, ∃ r, kev wd p [] = some [r]
def ktst (p : List (Nat × Nat)) : Prop := ∀ wd : Nat → Int64, kev wd p [] = some [0] ∨ kev wd p [] = some [1]
theorem kone.val {p : List (Nat × Nat)} (h : kone p) (wd : Nat → Int64) : kev wd p [] = some [kval wd p] := by
  obtain ⟨r, hr⟩ := h wd
  unfold kval
  rw [hr]
theorem ktst.one {p : List (Nat × Nat)} (h : ktst p) : kone p := fun wd => by
  rcases h wd with q | q
  · exact ⟨0, q⟩
  · exact ⟨1, q⟩
def kcw (q : gCl) : Prop := kwf q.1 0 ∧ kone q.1 ∧ ∀ t, q.2 = some t → kwf t 0 ∧ ktst t
def krv (wd : Nat → Int64) : List gCl → Int64
  | [] => 0
  | (p, none) :: _ => kval wd p
  | (p, some t) :: cl => if kval wd t = 1 then kval wd p else krv wd cl
def kprog (S : gS) (i b : Nat) (p : List (Nat × Nat)) : Prop := b + p.length ≤ 400 ∧ ∀ j x, p[j]? = some x → S 2 (400 * i + (b + j)) = nI (x.1 + 16 * x.2)
def kcl (S : gS) (i c : Nat) (q : gCl) : Prop := ∃ b : Nat, S 4 (48 * i + 4 * c) = nI b ∧ S 4 (48 * i + 4 * c + 1) = nI (b + q.1.length) ∧ kprog S i b q.1 ∧ (q.2 = none → S 4 (48 * i + 4 * c + 2) = -1) ∧ ∀ t, q.2 = some t → S 4 (48 * i + 4 * c + 2) = nI (b + q.1.length) ∧ S 4 (48 * i + 4 * c + 3) = nI (b + q.1.length + t.length) ∧ kprog S i (b + q.1.length) t
def krel (S : gS) (i : Nat) (cl : List gCl) : Prop := S 5 i = nI cl.length ∧ cl.length ≤ 12 ∧ (∀ c q, cl[c]? = some q → kcl S i c q) ∧ ∀ q ∈ cl, kcw q
theorem kf_id (S : gS) (i : Nat) : k_f S i (S 0 i) = S := by
  funext k j
  unfold k_f upd
  by_cases h : k = 0
  · rw [if_pos h]
    subst h
    split
    · rename_i q
      rw [q]
    · rfl
  · rw [if_neg h]
set_option maxRecDepth 100000 in
set_option maxHeartbeats 4000000 in
theorem c_X11_summedBy {M : gM} {S : gS} {L : gLg} {J : gJn} (hM : 408 ≤ M.1) {i : Nat} (cl : List gCl) (hi : i < 6) (hrel : krel S i cl) : SX 2 0 0 mX11_summedBy [.ref 384, .int (nI i)] (kp M (kput S J) L) (fun v M' => v = some (.long (krv (fun i => L 9 i) cl)) ∧ ∃ (tp : Int32) (op : Nat → Int64), M' = kp M (kput (k_f S 18 tp) J) (k_l L 8 op)) := by
  refine SX.intro [some (.ref 384), some (.int (nI i)), none, none] (by decide +kernel) (Nat.le_of_ble_eq_true rfl) rfl (fun E hE hQ => ?_)
  have hn := hrel.1
  have hl12 := hrel.2.1
  have loop : ∀ (q : List gCl) (c : Nat) (tp : Int32) (op : Nat → Int64) (l3 : Option Value), (∀ j x, q[j]? = some x → kcl S i (c + j) x) → (∀ x ∈ q, kcw x) → c + q.length = cl.length → krv (fun i => L 9 i) q = krv (fun i => L 9 i) cl → RX E mX11_summedBy.2.2.1 0 0 2 [some (.ref 384), some (.int (nI i)), some (.int (nI c)), l3] [] (kp M (kput (k_f S 18 tp) J) (k_l L 8 op)) := by
    intro q
    induction q with
    | nil =>
      intro c tp op l3 hcl hcw hl hF
      simp only [List.length_nil] at hl
      refine rx_iload_n hE dX11_summedBy_2 (i := 2) rfl rfl ?_
      refine rx_aload_n hE dX11_summedBy_3 (i := 0) rfl rfl ?_
      refine rx_getf hE dX11_summedBy_4 fl_X11_23_10 (kp_o hM) rfl ?_
      refine rx_iload_n hE dX11_summedBy_7 (i := 1) rfl rfl ?_
      refine rx_ialdN (i := i) hE dX11_summedBy_8 (kp_5 hM) (by omega) (by decide) ?_
      refine rx_int _ _ (kr_a (by decide) (by decide) (by decide)) ?_
      refine rx_icmp_ge (tgt := 84) hE dX11_summedBy_9 (by decide) (fun c9 => ?_) (fun c9 => absurd (by show S 5 i ≤ _; rw [hn]; exact nI_le (by omega) (by omega)) c9)
      refine rx_lconst hE dX11_summedBy_84 (v := 0) (by decide) ?_
      exact rx_lret hE hQ rfl dX11_summedBy_85 ⟨by rw [← hF]; rfl, tp, op, rfl⟩
    | cons x q ih =>
      intro c tp op l3 hcl hcw hl hF
      have hq := hcl 0 x rfl
      rw [Nat.add_zero] at hq
      obtain ⟨b, q0, q1, ⟨q2, q3⟩, q4, q5⟩ := hq
      obtain ⟨w1, w2, w3⟩ := hcw x List.mem_cons_self
      obtain ⟨p, t⟩ := x
      simp only [List.length_cons] at hl
      rcases t with _ | tt
      · refine rx_iload_n hE dX11_summedBy_2 (i := 2) rfl rfl ?_
        refine rx_aload_n hE dX11_summedBy_3 (i := 0) rfl rfl ?_
        refine rx_getf hE dX11_summedBy_4 fl_X11_23_10 (kp_o hM) rfl ?_
        refine rx_iload_n hE dX11_summedBy_7 (i := 1) rfl rfl ?_
        refine rx_ialdN (i := i) hE dX11_summedBy_8 (kp_5 hM) (by omega) (by decide) ?_
        refine rx_int _ _ (kr_a (by decide) (by decide) (by decide)) ?_
        refine rx_icmp_ge (tgt := 84) hE dX11_summedBy_9 (by decide) (fun c9 => absurd (by have : S 5 i ≤ _ := c9; rw [hn] at this; exact this) (nI_ge (by omega) (by omega))) (fun c9 => ?_)
        refine rx_bipush hE dX11_summedBy_12 (v := 48) (by decide) ?_
        refine rx_iload_n hE dX11_summedBy_14 (i := 1) rfl rfl ?_
        refine rx_imul hE dX11_summedBy_15 ?_
        refine rx_int _ (nI (48 * i)) (pk_mul _ _) ?_
        refine rx_iconst hE dX11_summedBy_16 (v := 4) (by decide) ?_
        refine rx_iload_n hE dX11_summedBy_17 (i := 2) rfl rfl ?_
        refine rx_imul hE dX11_summedBy_18 ?_
        refine rx_int _ (nI (4 * c)) (pk_mul _ _) ?_
        refine rx_iadd hE dX11_summedBy_19 ?_
        refine rx_int _ (nI (48 * i + 4 * c)) (nI_add _ _) ?_
        refine rx_istore_n_3 hE dX11_summedBy_20 (by decide) rfl ?_
        refine rx_aload_n hE dX11_summedBy_21 (i := 0) rfl rfl ?_
        refine rx_getf hE dX11_summedBy_22 fl_X11_20_10 (kp_o hM) rfl ?_
        refine rx_iload_n hE dX11_summedBy_25 (i := 3) rfl rfl ?_
        refine rx_iconst hE dX11_summedBy_26 (v := 2) (by decide) ?_
        refine rx_iadd hE dX11_summedBy_27 ?_
        refine rx_int _ (nI (48 * i + 4 * c + 2)) (nI_add _ _) ?_
        refine rx_ialdN (i := 48 * i + 4 * c + 2) hE dX11_summedBy_28 (kp_4 hM) (by omega) (by decide) ?_
        refine rx_int _ _ (kr_a (by decide) (by decide) (by decide)) ?_
        refine rx_int _ (-1) (q4 rfl) ?_
        refine rx_if_lt (tgt := 58) hE dX11_summedBy_29 (by decide) (fun c29 => ?_) (fun c29 => absurd (by decide) c29)
        refine rx_aload_n hE dX11_summedBy_58 (i := 0) rfl rfl ?_
        refine rx_iload_n hE dX11_summedBy_59 (i := 1) rfl rfl ?_
        refine rx_aload_n hE dX11_summedBy_60 (i := 0) rfl rfl ?_
        refine rx_getf hE dX11_summedBy_61 fl_X11_20_10 (kp_o hM) rfl ?_
        refine rx_iload_n hE dX11_summedBy_64 (i := 3) rfl rfl ?_
        refine rx_ialdN (i := 48 * i + 4 * c) hE dX11_summedBy_65 (kp_4 hM) (by omega) (by decide) ?_
        refine rx_int _ _ (kr_a (by decide) (by decide) (by decide)) ?_
        refine rx_int _ (nI b) q0 ?_
        refine rx_aload_n hE dX11_summedBy_66 (i := 0) rfl rfl ?_
        refine rx_getf hE dX11_summedBy_67 fl_X11_20_10 (kp_o hM) rfl ?_
        refine rx_iload_n hE dX11_summedBy_70 (i := 3) rfl rfl ?_
        refine rx_iconst hE dX11_summedBy_71 (v := 1) (by decide) ?_
        refine rx_iadd hE dX11_summedBy_72 ?_
        refine rx_int _ (nI (48 * i + 4 * c + 1)) (nI_add _ _) ?_
        refine rx_ialdN (i := 48 * i + 4 * c + 1) hE dX11_summedBy_73 (kp_4 hM) (by omega) (by decide) ?_
        refine rx_int _ _ (kr_a (by decide) (by decide) (by decide)) ?_
        refine rx_int _ (nI (b + p.length)) q1 ?_
        have hpr := q3
        have hwp := w1
        have hkv := w2.val (fun i => L 9 i)
        refine rx_call0 (rx_callV (av := [.int (nI i), .int (nI (b)), .int (nI (b + p.length))]) hE dX11_summedBy_74 lk_X11_327 (c_X11_reckons hM p (kval (fun i => L 9 i) p) hi rfl (by omega) (by intro j x hj; exact (hpr j x hj)) hwp hkv) (kp_o hM) np_X11_reckons rfl rfl (by decide) (Nat.le_of_ble_eq_true rfl) rfl ?_)
        rintro v M' ⟨rfl, op', rfl⟩
        refine rx_mem (M' := kp M (kput (k_f S 18 0) J) (k_l L 8 op')) (by rw [k_ff, k_ll]) ?_
        exact rx_lret hE hQ rfl dX11_summedBy_77 ⟨by rw [← hF]; rfl, 0, op', rfl⟩
      · refine rx_iload_n hE dX11_summedBy_2 (i := 2) rfl rfl ?_
        refine rx_aload_n hE dX11_summedBy_3 (i := 0) rfl rfl ?_
        refine rx_getf hE dX11_summedBy_4 fl_X11_23_10 (kp_o hM) rfl ?_
        refine rx_iload_n hE dX11_summedBy_7 (i := 1) rfl rfl ?_
        refine rx_ialdN (i := i) hE dX11_summedBy_8 (kp_5 hM) (by omega) (by decide) ?_
        refine rx_int _ _ (kr_a (by decide) (by decide) (by decide)) ?_
        refine rx_icmp_ge (tgt := 84) hE dX11_summedBy_9 (by decide) (fun c9 => absurd (by have : S 5 i ≤ _ := c9; rw [hn] at this; exact this) (nI_ge (by omega) (by omega))) (fun c9 => ?_)
        refine rx_bipush hE dX11_summedBy_12 (v := 48) (by decide) ?_
        refine rx_iload_n hE dX11_summedBy_14 (i := 1) rfl rfl ?_
        refine rx_imul hE dX11_summedBy_15 ?_
        refine rx_int _ (nI (48 * i)) (pk_mul _ _) ?_
        refine rx_iconst hE dX11_summedBy_16 (v := 4) (by decide) ?_
        refine rx_iload_n hE dX11_summedBy_17 (i := 2) rfl rfl ?_
        refine rx_imul hE dX11_summedBy_18 ?_
        refine rx_int _ (nI (4 * c)) (pk_mul _ _) ?_
        refine rx_iadd hE dX11_summedBy_19 ?_
        refine rx_int _ (nI (48 * i + 4 * c)) (nI_add _ _) ?_
        refine rx_istore_n_3 hE dX11_summedBy_20 (by decide) rfl ?_
        refine rx_aload_n hE dX11_summedBy_21 (i := 0) rfl rfl ?_
        refine rx_getf hE dX11_summedBy_22 fl_X11_20_10 (kp_o hM) rfl ?_
        refine rx_iload_n hE dX11_summedBy_25 (i := 3) rfl rfl ?_
        refine rx_iconst hE dX11_summedBy_26 (v := 2) (by decide) ?_
        refine rx_iadd hE dX11_summedBy_27 ?_
        refine rx_int _ (nI (48 * i + 4 * c + 2)) (nI_add _ _) ?_
        refine rx_ialdN (i := 48 * i + 4 * c + 2) hE dX11_summedBy_28 (kp_4 hM) (by omega) (by decide) ?_
        refine rx_int _ _ (kr_a (by decide) (by decide) (by decide)) ?_
        refine rx_int _ (nI (b + p.length)) (q5 tt rfl).1 ?_
        refine rx_if_lt (tgt := 58) hE dX11_summedBy_29 (by decide) (fun c29 => absurd c29 (nI_pos (by have h9 : b + p.length + tt.length ≤ 400 := (q5 tt rfl).2.2.1; omega))) (fun c29 => ?_)
        refine rx_aload_n hE dX11_summedBy_32 (i := 0) rfl rfl ?_
        refine rx_iload_n hE dX11_summedBy_33 (i := 1) rfl rfl ?_
        refine rx_aload_n hE dX11_summedBy_34 (i := 0) rfl rfl ?_
        refine rx_getf hE dX11_summedBy_35 fl_X11_20_10 (kp_o hM) rfl ?_
        refine rx_iload_n hE dX11_summedBy_38 (i := 3) rfl rfl ?_
        refine rx_iconst hE dX11_summedBy_39 (v := 2) (by decide) ?_
        refine rx_iadd hE dX11_summedBy_40 ?_
        refine rx_int _ (nI (48 * i + 4 * c + 2)) (nI_add _ _) ?_
        refine rx_ialdN (i := 48 * i + 4 * c + 2) hE dX11_summedBy_41 (kp_4 hM) (by omega) (by decide) ?_
        refine rx_int _ _ (kr_a (by decide) (by decide) (by decide)) ?_
        refine rx_int _ (nI (b + p.length)) (q5 tt rfl).1 ?_
        refine rx_aload_n hE dX11_summedBy_42 (i := 0) rfl rfl ?_
        refine rx_getf hE dX11_summedBy_43 fl_X11_20_10 (kp_o hM) rfl ?_
        refine rx_iload_n hE dX11_summedBy_46 (i := 3) rfl rfl ?_
        refine rx_iconst hE dX11_summedBy_47 (v := 3) (by decide) ?_
        refine rx_iadd hE dX11_summedBy_48 ?_
        refine rx_int _ (nI (48 * i + 4 * c + 3)) (nI_add _ _) ?_
        refine rx_ialdN (i := 48 * i + 4 * c + 3) hE dX11_summedBy_49 (kp_4 hM) (by omega) (by decide) ?_
        refine rx_int _ _ (kr_a (by decide) (by decide) (by decide)) ?_
        refine rx_int _ (nI (b + p.length + tt.length)) (q5 tt rfl).2.1 ?_
        have hpr := (q5 tt rfl).2.2.2
        have h400 := (q5 tt rfl).2.2.1
        have hwp := (w3 tt rfl).1
        have hkv := (w3 tt rfl).2.one.val (fun i => L 9 i)
        refine rx_call0 (rx_callV (av := [.int (nI i), .int (nI (b + p.length)), .int (nI (b + p.length + tt.length))]) hE dX11_summedBy_50 lk_X11_327 (c_X11_reckons hM tt (kval (fun i => L 9 i) tt) hi rfl (by omega) (by intro j x hj; exact (hpr j x hj)) hwp hkv) (kp_o hM) np_X11_reckons rfl rfl (by decide) (Nat.le_of_ble_eq_true rfl) rfl ?_)
        rintro v M' ⟨rfl, op', rfl⟩
        refine rx_mem (M' := kp M (kput (k_f S 18 0) J) (k_l L 8 op')) (by rw [k_ff, k_ll]) ?_
        refine rx_lconst hE dX11_summedBy_53 (v := 1) (by decide) ?_
        refine rx_lcmp hE dX11_summedBy_54 ?_
        refine rx_if_ne (tgt := 78) hE dX11_summedBy_55 (by decide) (fun c55 => ?_) (fun c55 => ?_)
        · have c55 : ¬ kval (fun i => L 9 i) tt = 1 := fun q => c55 ((lg_cmp_eq _ _).mpr q)
          refine rx_iinc_2 hE dX11_summedBy_78 (v := 1) (by decide) (by decide) rfl ?_
          rw [nI_1]
          refine rx_goto (tgt := 2) hE dX11_summedBy_81 (by decide) ?_
          exact ih (c + 1) 0 op' _ (fun j y hy => by have := hcl (j + 1) y (by simpa using hy); rw [show c + (j + 1) = c + 1 + j by omega] at this; exact this) (fun y hy => hcw y (List.mem_cons_of_mem _ hy)) (by omega) (by rw [← hF]; show _ = (if _ then _ else _); rw [if_neg c55])
        · have c55 : kval (fun i => L 9 i) tt = 1 := (lg_cmp_eq _ _).mp c55
          refine rx_aload_n hE dX11_summedBy_58 (i := 0) rfl rfl ?_
          refine rx_iload_n hE dX11_summedBy_59 (i := 1) rfl rfl ?_
          refine rx_aload_n hE dX11_summedBy_60 (i := 0) rfl rfl ?_
          refine rx_getf hE dX11_summedBy_61 fl_X11_20_10 (kp_o hM) rfl ?_
          refine rx_iload_n hE dX11_summedBy_64 (i := 3) rfl rfl ?_
          refine rx_ialdN (i := 48 * i + 4 * c) hE dX11_summedBy_65 (kp_4 hM) (by omega) (by decide) ?_
          refine rx_int _ _ (kr_a (by decide) (by decide) (by decide)) ?_
          refine rx_int _ (nI b) q0 ?_
          refine rx_aload_n hE dX11_summedBy_66 (i := 0) rfl rfl ?_
          refine rx_getf hE dX11_summedBy_67 fl_X11_20_10 (kp_o hM) rfl ?_
          refine rx_iload_n hE dX11_summedBy_70 (i := 3) rfl rfl ?_
          refine rx_iconst hE dX11_summedBy_71 (v := 1) (by decide) ?_
          refine rx_iadd hE dX11_summedBy_72 ?_
          refine rx_int _ (nI (48 * i + 4 * c + 1)) (nI_add _ _) ?_
          refine rx_ialdN (i := 48 * i + 4 * c + 1) hE dX11_summedBy_73 (kp_4 hM) (by omega) (by decide) ?_
          refine rx_int _ _ (kr_a (by decide) (by decide) (by decide)) ?_
          refine rx_int _ (nI (b + p.length)) q1 ?_
          have hpr := q3
          have hwp := w1
          have hkv := w2.val (fun i => L 9 i)
          refine rx_call0 (rx_callV (av := [.int (nI i), .int (nI (b)), .int (nI (b + p.length))]) hE dX11_summedBy_74 lk_X11_327 (c_X11_reckons hM p (kval (fun i => L 9 i) p) hi rfl (by omega) (by intro j x hj; exact (hpr j x hj)) hwp hkv) (kp_o hM) np_X11_reckons rfl rfl (by decide) (Nat.le_of_ble_eq_true rfl) rfl ?_)
          rintro v M' ⟨rfl, op', rfl⟩
          refine rx_mem (M' := kp M (kput (k_f S 18 0) J) (k_l L 8 op')) (by rw [k_ff, k_ll]) ?_
          exact rx_lret hE hQ rfl dX11_summedBy_77 ⟨by rw [← hF]; show _ = some (Value.long (if _ then _ else _)); rw [if_pos c55], 0, op', rfl⟩
  refine rx_iconst hE dX11_summedBy_0 (v := 0) (by decide) ?_
  refine rx_istore_n_2 hE dX11_summedBy_1 (by decide) rfl ?_
  refine rx_mem (M' := kp M (kput (k_f S 18 (S 0 18)) J) (k_l L 8 (L 8))) (by rw [kf_id, k_lid]) ?_
  exact loop cl 0 (S 0 18) (L 8) none (fun j x hj => by rw [Nat.zero_add]; exact hrel.2.2.1 j x hj) hrel.2.2.2 (by omega) rfl
def kpop : Nat → Nat → Nat
  | 0, _ => 0
  | f + 1, q => if q = 0 then 0 else 1 + kpop f (q &&& (q - 1))
theorem kpop_tab : ∀ q, q < 64 → (¬ q = 0 → kpop 7 q = 1 + kpop 7 (q &&& (q - 1)) ∧ q &&& (q - 1) < q ∧ nI q &&& (nI q - 1) = nI (q &&& (q - 1))) ∧ kpop 7 q ≤ 6 ∧ j_bc (nI q) = nI (kpop 7 q) := by decide +kernel
set_option maxRecDepth 100000 in
set_option maxHeartbeats 4000000 in
theorem c_X11_bits {M : gM} {m : Nat} (hm : m < 64) : SX 0 0 0 mX11_bits [.int (nI m)] (M) (fun v M' => v = some (.int (j_bc (nI m))) ∧ M' = M) := by
  refine SX.intro [some (.int (nI m)), none, none] (by decide +kernel) (Nat.le_of_ble_eq_true rfl) rfl (fun E hE hQ => ?_)
  have loop : ∀ (q n : Nat), q < 64 → some (Value.int (nI (n + kpop 7 q))) = some (Value.int (j_bc (nI m))) → RX E mX11_bits.2.2.1 0 0 4 [some (.int (nI m)), some (.int (nI n)), some (.int (nI q))] [] M := by
    intro q
    induction q using Nat.strongRecOn with
    | ind q ih0 =>
    intro n hq hF
    have hq0 := kpop_tab q hq
    have ih : ∀ q' , q' < q → ∀ n', q' < 64 → some (Value.int (nI (n' + kpop 7 q'))) = some (Value.int (j_bc (nI m))) → RX E mX11_bits.2.2.1 0 0 4 [some (.int (nI m)), some (.int (nI n')), some (.int (nI q'))] [] M := fun q' h n' => ih0 q' h n'
    refine rx_iload_n hE dX11_bits_4 (i := 2) rfl rfl ?_
    refine rx_if_eq (tgt := 20) hE dX11_bits_5 (by decide) (fun c5 => ?_) (fun c5 => ?_)
    · have hz : q = 0 := (nI_eq (b := 0) (by omega) (by decide)).mp c5
      refine rx_iload_n hE dX11_bits_20 (i := 1) rfl rfl ?_
      exact rx_iret hE hQ rfl dX11_bits_21 ⟨by rw [← hF, hz]; rfl, rfl⟩
    · have hz : ¬ q = 0 := fun h => c5 (by rw [h]; rfl)
      refine rx_iinc_1 hE dX11_bits_8 (v := 1) (by decide) (by decide) rfl ?_
      rw [nI_1]
      refine rx_iload_n hE dX11_bits_11 (i := 2) rfl rfl ?_
      refine rx_iload_n hE dX11_bits_12 (i := 2) rfl rfl ?_
      refine rx_iconst hE dX11_bits_13 (v := 1) (by decide) ?_
      refine rx_isub hE dX11_bits_14 ?_
      refine rx_iand hE dX11_bits_15 ?_
      rw [(hq0.1 hz).2.2]
      refine rx_istore_n_2 hE dX11_bits_16 (by decide) rfl ?_
      refine rx_goto (tgt := 4) hE dX11_bits_17 (by decide) ?_
      exact ih (q &&& (q - 1)) (hq0.1 hz).2.1 (n + 1) (by omega) (by rw [← hF, (hq0.1 hz).1]; congr 3; omega)
  refine rx_iconst hE dX11_bits_0 (v := 0) (by decide) ?_
  refine rx_istore_n_1 hE dX11_bits_1 (by decide) rfl ?_
  refine rx_iload_n hE dX11_bits_2 (i := 0) rfl rfl ?_
  refine rx_istore_n_2 hE dX11_bits_3 (by decide) rfl ?_
  exact loop m 0 hm (by rw [Nat.zero_add]; exact (congrArg (fun x => some (Value.int x)) (kpop_tab m hm).2.2.symm))
