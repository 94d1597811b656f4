/-! ===== notes and images of the class ===== -/
def xnw (T : Nat → Nat → Int32) (c : Nat) (n0 road many : Int32) : Nat → Nat → Int32 := j_f (j_s (j_s (j_s T 1 (upd (T 1) c n0)) 2 (upd (T 2) c road)) 3 (upd (T 3) c many)) 3 (nI (c + 1))
set_option maxRecDepth 100000 in
set_option maxHeartbeats 1000000 in
theorem c_X4_add {n : Nat} {X : gX} {O : gO} {Q : gU} {G : gK} {S : gS} {L : gLg} (hM : 408 ≤ n) {c : Nat} (hc : X 29 0 3 = nI c) (hc10 : c < 10) (n0 road many : Int32) : SX 0 0 0 mX4_add [.ref 255, .int n0, .int road, .int many] (xm n X O Q G S L) (fun v M' => v = none ∧ M' = xm n (x_r X 29 (xnw (X 29) c n0 road many)) O Q G S L) := by
  refine SX.intro [some (.ref 255), some (.int n0), some (.int road), some (.int many)] (by decide +kernel) (Nat.le_of_ble_eq_true rfl) rfl (fun E hE hQ => ?_)
  refine rx_aload_n hE dX4_add_0 (i := 0) rfl rfl ?_
  refine rx_getf hE dX4_add_1 fl_X4_21_4 (xa_n0 (xN_29 hM)) rfl ?_
  refine rx_int _ (nI c) hc ?_
  refine rx_if_lt (tgt := 56) hE dX4_add_4 (by decide) (fun c4 => absurd c4 (nI_pos (by omega))) (fun c4 => ?_)
  refine rx_aload_n hE dX4_add_7 (i := 0) rfl rfl ?_
  refine rx_getf hE dX4_add_8 fl_X4_21_4 (xa_n0 (xN_29 hM)) rfl ?_
  refine rx_int _ (nI c) hc ?_
  refine rx_bipush hE dX4_add_11 (v := 10) (by decide) ?_
  refine rx_icmp_ge (tgt := 56) hE dX4_add_13 (by decide) (fun c13 => absurd c13 (nI_ge (a := c) (b := 10) hc10 (by decide))) (fun c13 => ?_)
  refine rx_aload_n hE dX4_add_16 (i := 0) rfl rfl ?_
  refine rx_getf hE dX4_add_17 fl_X4_9_4 (xa_n0 (xN_29 hM)) rfl ?_
  refine rx_aload_n hE dX4_add_20 (i := 0) rfl rfl ?_
  refine rx_getf hE dX4_add_21 fl_X4_21_4 (xa_n0 (xN_29 hM)) rfl ?_
  refine rx_int _ (nI c) hc ?_
  refine rx_iload_n hE dX4_add_24 (i := 1) rfl rfl ?_
  refine rx_iastN (i := c) hE dX4_add_25 (xa_n1 (xN_29 hM)) (by omega) (by decide) ?_
  refine rx_mem (M' := xm n (x_r X 29 (j_s (X 29) 1 (upd (X 29 1) c n0))) O Q G S L) (xw_n1 (xN_29 hM)) ?_
  refine rx_aload_n hE dX4_add_26 (i := 0) rfl rfl ?_
  refine rx_getf hE dX4_add_27 fl_X4_15_4 (xa_n0 (xN_29 hM)) rfl ?_
  refine rx_aload_n hE dX4_add_30 (i := 0) rfl rfl ?_
  refine rx_getf hE dX4_add_31 fl_X4_21_4 (xa_n0 (xN_29 hM)) rfl ?_
  refine rx_int _ (nI c) hc ?_
  refine rx_iload_n hE dX4_add_34 (i := 2) rfl rfl ?_
  refine rx_iastN (i := c) hE dX4_add_35 (xa_n2 (xN_29 hM)) (by omega) (by decide) ?_
  refine rx_mem (M' := xm n (x_r X 29 (j_s (j_s (X 29) 1 (upd (X 29 1) c n0)) 2 (upd (X 29 2) c road))) O Q G S L) ((xw_n2 (xN_29 hM)).trans (by rw [x_rr, x_r_eq]; rfl)) ?_
  refine rx_aload_n hE dX4_add_36 (i := 0) rfl rfl ?_
  refine rx_getf hE dX4_add_37 fl_X4_18_4 (xa_n0 (xN_29 hM)) rfl ?_
  refine rx_aload_n hE dX4_add_40 (i := 0) rfl rfl ?_
  refine rx_getf hE dX4_add_41 fl_X4_21_4 (xa_n0 (xN_29 hM)) rfl ?_
  refine rx_int _ (nI c) hc ?_
  refine rx_iload_n hE dX4_add_44 (i := 3) rfl rfl ?_
  refine rx_iastN (i := c) hE dX4_add_45 (xa_n3 (xN_29 hM)) (by omega) (by decide) ?_
  refine rx_mem (M' := xm n (x_r X 29 (j_s (j_s (j_s (X 29) 1 (upd (X 29 1) c n0)) 2 (upd (X 29 2) c road)) 3 (upd (X 29 3) c many))) O Q G S L) ((xw_n3 (xN_29 hM)).trans (by rw [x_rr, x_r_eq]; rfl)) ?_
  refine rx_aload_n hE dX4_add_46 (i := 0) rfl rfl ?_
  refine rx_dup hE dX4_add_47 rfl ?_
  refine rx_getf hE dX4_add_48 fl_X4_21_4 (xa_n0 (xN_29 hM)) rfl ?_
  refine rx_int _ (nI c) hc ?_
  refine rx_iconst hE dX4_add_51 (v := 1) (by decide) ?_
  refine rx_iadd hE dX4_add_52 ?_
  refine rx_int _ (nI (c + 1)) (nI_1 _) ?_
  refine rx_put hE dX4_add_53 fl_X4_21_4 fw_4_3 (xa_n0 (xN_29 hM)) (fun _ => rfl) (fun _ => rfl) (Nat.le_of_ble_eq_true rfl) ?_
  refine rx_mem (M' := xm n (x_r X 29 (xnw (X 29) c n0 road many)) O Q G S L) ((xw_n0 (xN_29 hM)).trans (by rw [x_rr, x_r_eq]; rfl)) ?_
  exact rx_vret hE hQ rfl dX4_add_56 ⟨rfl, rfl⟩
set_option maxRecDepth 100000 in
set_option maxHeartbeats 1000000 in
theorem c_X10_note {n : Nat} {X : gX} {O : gO} {Q : gU} {G : gK} {S : gS} {L : gLg} (hM : 408 ≤ n) {J : gJn} (hJ : X 2 = J) {c : Nat} (hc : X 29 0 3 = nI c) (hc10 : c ≤ 10) (n0 road many : Int32) : SX 2 0 0 mX10_note [.ref 16, .int n0, .int road, .int many] (xm n X O Q G S L) (fun v M' => v = some (.int (q_note J c n0 road many)) ∧ M' = xm n (if n0 = -1 then x_r X 29 (j_f (X 29) 3 0) else if qnG J c n0 road many then X else x_r X 29 (xnw (X 29) c n0 road many)) O Q G S L) := by
  refine SX.intro [some (.ref 16), some (.int n0), some (.int road), some (.int many), none] (by decide +kernel) (Nat.le_of_ble_eq_true rfl) rfl (fun E hE hQ => ?_)
  refine rx_iload_n hE dX10_note_0 (i := 1) rfl rfl ?_
  refine rx_iconst hE dX10_note_1 (v := -1) (by decide) ?_
  refine rx_icmp_ne (tgt := 15) hE dX10_note_2 (by decide) (fun c2 => ?_) (fun c2 => ?_)
  · refine rx_iload_n hE dX10_note_15 (i := 1) rfl rfl ?_
    refine rx_iconst hE dX10_note_16 (v := 0) (by decide) ?_
    refine rx_bipush hE dX10_note_17 (v := 60) (by decide) ?_
    refine rx_call0 (rx_callS (av := [.int _, .int _, .int _]) hE dX10_note_19 lk_X10_143 (c_X10_within _ _ _) np_X10_within rfl rfl (by decide) (Nat.le_of_ble_eq_true rfl) rfl ?_)
    rintro v M' ⟨rfl, rfl⟩
    refine rx_if_eq (tgt := 50) hE dX10_note_22 (by decide) (fun c22 => ?_) (fun c22 => ?_)
    · refine rx_iconst hE dX10_note_50 (v := 0) (by decide) ?_
      refine rx_istore_4 hE dX10_note_51 (by decide) rfl ?_
      refine rx_iload hE dX10_note_53 rfl ?_
      refine rx_if_eq (tgt := 70) hE dX10_note_55 (by decide) (fun c55 => ?_) (fun c55 => absurd rfl c55)
      refine rx_bipush hE dX10_note_70 (v := -2) (by decide) ?_
      exact rx_iret hE hQ rfl dX10_note_72 ⟨by unfold q_note; rw [if_neg c2, if_pos (Or.inl c22)], by rw [if_neg c2, if_pos (Or.inl c22)]⟩
    · refine rx_aload_n hE dX10_note_25 (i := 0) rfl rfl ?_
      refine rx_getf hE dX10_note_26 fl_X10_19_9 (xa_0 hM) rfl ?_
      refine rx_iload_n hE dX10_note_29 (i := 2) rfl rfl ?_
      refine rx_call0 (rx_callV (av := [.int _]) hE dX10_note_30 lk_X10_147 (x_hasRoad (X := X) xJ_2 hM (J := J) hJ _) (xa_j xJ_2 hM) np_X2_hasRoad rfl rfl (by decide) (Nat.le_of_ble_eq_true rfl) rfl ?_)
      rintro v M' ⟨rfl, rfl⟩
      refine rx_if_eq (tgt := 50) hE dX10_note_33 (by decide) (fun c33 => ?_) (fun c33 => ?_)
      · refine rx_iconst hE dX10_note_50 (v := 0) (by decide) ?_
        refine rx_istore_4 hE dX10_note_51 (by decide) rfl ?_
        refine rx_iload hE dX10_note_53 rfl ?_
        refine rx_if_eq (tgt := 70) hE dX10_note_55 (by decide) (fun c55 => ?_) (fun c55 => absurd rfl c55)
        refine rx_bipush hE dX10_note_70 (v := -2) (by decide) ?_
        exact rx_iret hE hQ rfl dX10_note_72 ⟨by unfold q_note; rw [if_neg c2, if_pos (Or.inr (Or.inl c33))], by rw [if_neg c2, if_pos (Or.inr (Or.inl c33))]⟩
      · refine rx_iload_n hE dX10_note_36 (i := 3) rfl rfl ?_
        refine rx_iconst hE dX10_note_37 (v := 0) (by decide) ?_
        refine rx_bipush hE dX10_note_38 (v := 9) (by decide) ?_
        refine rx_call0 (rx_callS (av := [.int _, .int _, .int _]) hE dX10_note_40 lk_X10_143 (c_X10_within _ _ _) np_X10_within rfl rfl (by decide) (Nat.le_of_ble_eq_true rfl) rfl ?_)
        rintro v M' ⟨rfl, rfl⟩
        refine rx_if_eq (tgt := 50) hE dX10_note_43 (by decide) (fun c43 => ?_) (fun c43 => ?_)
        · refine rx_iconst hE dX10_note_50 (v := 0) (by decide) ?_
          refine rx_istore_4 hE dX10_note_51 (by decide) rfl ?_
          refine rx_iload hE dX10_note_53 rfl ?_
          refine rx_if_eq (tgt := 70) hE dX10_note_55 (by decide) (fun c55 => ?_) (fun c55 => absurd rfl c55)
          refine rx_bipush hE dX10_note_70 (v := -2) (by decide) ?_
          exact rx_iret hE hQ rfl dX10_note_72 ⟨by unfold q_note; rw [if_neg c2, if_pos (Or.inr (Or.inr (Or.inl c43)))], by rw [if_neg c2, if_pos (Or.inr (Or.inr (Or.inl c43)))]⟩
        · refine rx_iconst hE dX10_note_46 (v := 1) (by decide) ?_
          refine rx_goto (tgt := 51) hE dX10_note_47 (by decide) ?_
          refine rx_istore_4 hE dX10_note_51 (by decide) rfl ?_
          refine rx_iload hE dX10_note_53 rfl ?_
          refine rx_if_eq (tgt := 70) hE dX10_note_55 (by decide) (fun c55 => absurd c55 (by decide)) (fun c55 => ?_)
          refine rx_aload_n hE dX10_note_58 (i := 0) rfl rfl ?_
          refine rx_getf hE dX10_note_59 fl_X10_63_9 (xa_0 hM) rfl ?_
          refine rx_getfN hE dX10_note_62 fl_X10_128_4 (xa_n0 (xN_29 hM)) rfl ?_
          refine rx_int _ (nI c) hc ?_
          refine rx_bipush hE dX10_note_65 (v := 10) (by decide) ?_
          refine rx_icmp_lt (tgt := 73) hE dX10_note_67 (by decide) (fun c67 => ?_) (fun c67 => ?_)
          · have hcc : ¬ c = 10 := fun q => by rw [q] at c67; exact absurd c67 (by decide)
            have hg : ¬ qnG J c n0 road many := fun q => q.elim c22 (fun z => z.elim c33 (fun z => z.elim c43 hcc))
            refine rx_aload_n hE dX10_note_73 (i := 0) rfl rfl ?_
            refine rx_getf hE dX10_note_74 fl_X10_63_9 (xa_0 hM) rfl ?_
            refine rx_iload_n hE dX10_note_77 (i := 1) rfl rfl ?_
            refine rx_iload_n hE dX10_note_78 (i := 2) rfl rfl ?_
            refine rx_iload_n hE dX10_note_79 (i := 3) rfl rfl ?_
            refine rx_call0 (rx_callV (av := [.int _, .int _, .int _]) hE dX10_note_80 lk_X10_297 (c_X4_add (X := X) hM hc (by omega) n0 road many) (xa_n0 (xN_29 hM)) np_X4_add rfl rfl (by decide) (Nat.le_of_ble_eq_true rfl) rfl ?_)
            rintro v M' ⟨rfl, rfl⟩
            refine rx_aload_n hE dX10_note_83 (i := 0) rfl rfl ?_
            refine rx_getf hE dX10_note_84 fl_X10_63_9 (xa_0 hM) rfl ?_
            refine rx_getfN hE dX10_note_87 fl_X10_128_4 (xa_n0 (xN_29 hM)) rfl ?_
            refine rx_int _ (nI (c + 1)) rfl ?_
            exact rx_iret hE hQ rfl dX10_note_90 ⟨by unfold q_note; rw [if_neg c2, if_neg hg], by rw [if_neg c2, if_neg hg]⟩
          · have hcc : c = 10 := Classical.byContradiction (fun q => c67 (nI_lt (b := 10) (by omega) (by decide)))
            refine rx_bipush hE dX10_note_70 (v := -2) (by decide) ?_
            exact rx_iret hE hQ rfl dX10_note_72 ⟨by unfold q_note; rw [if_neg c2, if_pos (Or.inr (Or.inr (Or.inr hcc)))], by rw [if_neg c2, if_pos (Or.inr (Or.inr (Or.inr hcc)))]⟩
  · refine rx_aload_n hE dX10_note_5 (i := 0) rfl rfl ?_
    refine rx_getf hE dX10_note_6 fl_X10_63_9 (xa_0 hM) rfl ?_
    refine rx_iconst hE dX10_note_9 (v := 0) (by decide) ?_
    refine rx_putN hE dX10_note_10 fl_X10_128_4 fw_4_3 (xa_n0 (xN_29 hM)) (fun _ => rfl) (fun _ => rfl) (Nat.le_of_ble_eq_true rfl) ?_
    refine rx_mem (xw_n0 (xN_29 hM)) ?_
    refine rx_iconst hE dX10_note_13 (v := 0) (by decide) ?_
    exact rx_iret hE hQ rfl dX10_note_14 ⟨by unfold q_note; rw [if_pos c2], by rw [if_pos c2]⟩
def xnq (T T' : Nat → Nat → Int32) : Prop := T' 0 3 = T 0 3 ∧ ∀ i, i < 10 → T' 1 i = T 1 i ∧ T' 2 i = T 2 i ∧ T' 3 i = T 3 i
theorem cpy10 (f g : Nat → Int32) {i : Nat} (hi : i < 10) : va_cpy f g (0 : Int32).toNatClampNeg (0 : Int32).toNatClampNeg (10 : Int32).toNatClampNeg i = f i := by
  rw [show (0 : Int32).toNatClampNeg = 0 from rfl, show (10 : Int32).toNatClampNeg = 10 from rfl, pk_cpy_in (by omega) (by omega), Nat.zero_add, Nat.sub_zero]
set_option maxRecDepth 100000 in
set_option maxHeartbeats 1000000 in
theorem c_X4_copyFrom {n : Nat} {X : gX} {O : gO} {Q : gU} {G : gK} {S : gS} {L : gLg} (hM : 408 ≤ n) {r a r2 a2 : Nat} (hN : xN n r a) (hN2 : xN n r2 a2) (hne : r2 ≠ r) : SX 1 0 0 mX4_copyFrom [.ref a, .ref a2] (xm n X O Q G S L) (fun v M' => v = none ∧ ∃ T', M' = xm n (x_r X r T') O Q G S L ∧ xnq (X r2) T') := by
  refine SX.intro [some (.ref a), some (.ref a2)] (by decide +kernel) (Nat.le_of_ble_eq_true rfl) rfl (fun E hE hQ => ?_)
  refine rx_aload_n hE dX4_copyFrom_0 (i := 1) rfl rfl ?_
  refine rx_getf hE dX4_copyFrom_1 fl_X4_9_4 (xa_n0 hN2) rfl ?_
  refine rx_iconst hE dX4_copyFrom_4 (v := 0) (by decide) ?_
  refine rx_aload_n hE dX4_copyFrom_5 (i := 0) rfl rfl ?_
  refine rx_getf hE dX4_copyFrom_6 fl_X4_9_4 (xa_n0 hN) rfl ?_
  refine rx_iconst hE dX4_copyFrom_9 (v := 0) (by decide) ?_
  refine rx_bipush hE dX4_copyFrom_10 (v := 10) (by decide) ?_
  refine rx_copyi hE dX4_copyFrom_12 ac_X4_25 rfl (by decide) (Nat.le_of_ble_eq_true rfl) (xa_n1 hN2) (xa_n1 hN) (by decide) (by decide) (by decide) (by decide) (by decide) ?_
  refine rx_mem (M' := xm n (x_r X r (j_s (X r) 1 (va_cpy (X r2 1) (X r 1) (0 : Int32).toNatClampNeg (0 : Int32).toNatClampNeg (10 : Int32).toNatClampNeg))) O Q G S L) (xw_n1 hN) ?_
  refine rx_aload_n hE dX4_copyFrom_15 (i := 1) rfl rfl ?_
  refine rx_getf hE dX4_copyFrom_16 fl_X4_15_4 (xa_n0 hN2) rfl ?_
  refine rx_iconst hE dX4_copyFrom_19 (v := 0) (by decide) ?_
  refine rx_aload_n hE dX4_copyFrom_20 (i := 0) rfl rfl ?_
  refine rx_getf hE dX4_copyFrom_21 fl_X4_15_4 (xa_n0 hN) rfl ?_
  refine rx_iconst hE dX4_copyFrom_24 (v := 0) (by decide) ?_
  refine rx_bipush hE dX4_copyFrom_25 (v := 10) (by decide) ?_
  refine rx_copyi hE dX4_copyFrom_27 ac_X4_25 rfl (by decide) (Nat.le_of_ble_eq_true rfl) (xa_n2 hN2) (xa_n2 hN) (by decide) (by decide) (by decide) (by decide) (by decide) ?_
  refine rx_mem (M' := xm n (x_r X r (j_s (j_s (X r) 1 (va_cpy (X r2 1) (X r 1) (0 : Int32).toNatClampNeg (0 : Int32).toNatClampNeg (10 : Int32).toNatClampNeg)) 2 (va_cpy (X r2 2) (X r 2) (0 : Int32).toNatClampNeg (0 : Int32).toNatClampNeg (10 : Int32).toNatClampNeg))) O Q G S L) ((xw_n2 hN).trans (by rw [x_rr, x_r_eq, x_r_ne X _ hne]; rfl)) ?_
  refine rx_aload_n hE dX4_copyFrom_30 (i := 1) rfl rfl ?_
  refine rx_getf hE dX4_copyFrom_31 fl_X4_18_4 (xa_n0 hN2) rfl ?_
  refine rx_iconst hE dX4_copyFrom_34 (v := 0) (by decide) ?_
  refine rx_aload_n hE dX4_copyFrom_35 (i := 0) rfl rfl ?_
  refine rx_getf hE dX4_copyFrom_36 fl_X4_18_4 (xa_n0 hN) rfl ?_
  refine rx_iconst hE dX4_copyFrom_39 (v := 0) (by decide) ?_
  refine rx_bipush hE dX4_copyFrom_40 (v := 10) (by decide) ?_
  refine rx_copyi hE dX4_copyFrom_42 ac_X4_25 rfl (by decide) (Nat.le_of_ble_eq_true rfl) (xa_n3 hN2) (xa_n3 hN) (by decide) (by decide) (by decide) (by decide) (by decide) ?_
  refine rx_mem (M' := xm n (x_r X r (j_s (j_s (j_s (X r) 1 (va_cpy (X r2 1) (X r 1) (0 : Int32).toNatClampNeg (0 : Int32).toNatClampNeg (10 : Int32).toNatClampNeg)) 2 (va_cpy (X r2 2) (X r 2) (0 : Int32).toNatClampNeg (0 : Int32).toNatClampNeg (10 : Int32).toNatClampNeg)) 3 (va_cpy (X r2 3) (X r 3) (0 : Int32).toNatClampNeg (0 : Int32).toNatClampNeg (10 : Int32).toNatClampNeg))) O Q G S L) ((xw_n3 hN).trans (by rw [x_rr, x_r_eq, x_r_ne X _ hne]; rfl)) ?_
  refine rx_aload_n hE dX4_copyFrom_45 (i := 0) rfl rfl ?_
  refine rx_aload_n hE dX4_copyFrom_46 (i := 1) rfl rfl ?_
  refine rx_getf hE dX4_copyFrom_47 fl_X4_21_4 (xa_n0 hN2) rfl ?_
  refine rx_put hE dX4_copyFrom_50 fl_X4_21_4 fw_4_3 (xa_n0 hN) (fun _ => rfl) (fun _ => rfl) (Nat.le_of_ble_eq_true rfl) ?_
  refine rx_mem (M' := xm n (x_r X r (j_f (j_s (j_s (j_s (X r) 1 (va_cpy (X r2 1) (X r 1) (0 : Int32).toNatClampNeg (0 : Int32).toNatClampNeg (10 : Int32).toNatClampNeg)) 2 (va_cpy (X r2 2) (X r 2) (0 : Int32).toNatClampNeg (0 : Int32).toNatClampNeg (10 : Int32).toNatClampNeg)) 3 (va_cpy (X r2 3) (X r 3) (0 : Int32).toNatClampNeg (0 : Int32).toNatClampNeg (10 : Int32).toNatClampNeg)) 3 (X r2 0 3))) O Q G S L) ((xw_n0 hN).trans (by rw [x_rr, x_r_eq, x_r_ne X _ hne])) ?_
  exact rx_vret hE hQ rfl dX4_copyFrom_53 ⟨rfl, (j_f (j_s (j_s (j_s (X r) 1 (va_cpy (X r2 1) (X r 1) (0 : Int32).toNatClampNeg (0 : Int32).toNatClampNeg (10 : Int32).toNatClampNeg)) 2 (va_cpy (X r2 2) (X r 2) (0 : Int32).toNatClampNeg (0 : Int32).toNatClampNeg (10 : Int32).toNatClampNeg)) 3 (va_cpy (X r2 3) (X r 3) (0 : Int32).toNatClampNeg (0 : Int32).toNatClampNeg (10 : Int32).toNatClampNeg)) 3 (X r2 0 3)), rfl, rfl, fun i hi => ⟨cpy10 _ _ hi, cpy10 _ _ hi, cpy10 _ _ hi⟩⟩
def xim (X : gX) (k : Nat) (J K : gJn) (T' : Nat → Nat → Int32) : gX := x_r (x_r (x_r (x_r X (34 + 4 * k) J) (35 + 4 * k) K) (36 + 4 * k) T') (33 + 4 * k) (j_f (j_f (j_f (X (33 + 4 * k)) 3 1) 4 (X 0 0 17)) 5 (X 0 0 18))
theorem xim_eq {X : gX} {k : Nat} {J K : gJn} {T' v : Nat → Nat → Int32} (w : Nat → Nat → Int32) : x_r (x_r (x_r (x_r (x_r X (33 + 4 * k) v) (34 + 4 * k) J) (35 + 4 * k) K) (36 + 4 * k) T') (33 + 4 * k) w = x_r (x_r (x_r (x_r X (34 + 4 * k) J) (35 + 4 * k) K) (36 + 4 * k) T') (33 + 4 * k) w := by
  funext i
  unfold x_r
  by_cases h : i = 33 + 4 * k
  · rw [if_pos h, if_pos h]
  · rw [if_neg h, if_neg h, if_neg h]
set_option maxRecDepth 100000 in
set_option maxHeartbeats 1000000 in
theorem c_X10_image {n : Nat} {X : gX} {O : gO} {Q : gU} {G : gK} {S : gS} {L : gLg} (hM : 408 ≤ n) {J K : gJn} (hJ : X 2 = J) (hK : X 3 = K) (k0 : Int32) : SX 3 0 0 mX10_image [.ref 16, .int k0] (xm n X O Q G S L) (fun v M' => if q_in k0 0 3 = 0 then (v = some (.int (-1)) ∧ M' = xm n X O Q G S L) else (v = some (.int (J 9 3)) ∧ ∃ T', xnq (X 29) T' ∧ M' = xm n (xim X k0.toNatClampNeg J K T') O Q G S L)) := by
  refine SX.intro [some (.ref 16), some (.int k0), none] (by decide +kernel) (Nat.le_of_ble_eq_true rfl) rfl (fun E hE hQ => ?_)
  refine rx_iload_n hE dX10_image_0 (i := 1) rfl rfl ?_
  refine rx_iconst hE dX10_image_1 (v := 0) (by decide) ?_
  refine rx_iconst hE dX10_image_2 (v := 3) (by decide) ?_
  refine rx_call0 (rx_callS (av := [.int _, .int _, .int _]) hE dX10_image_3 lk_X10_143 (c_X10_within _ _ _) np_X10_within rfl rfl (by decide) (Nat.le_of_ble_eq_true rfl) rfl ?_)
  rintro v M' ⟨rfl, rfl⟩
  refine rx_if_ne (tgt := 11) hE dX10_image_6 (by decide) (fun c6 => ?_) (fun c6 => ?_)
  · obtain ⟨k, hk0, hk, rfl⟩ := q_in_of (a := 0) (b := 3) (by decide) c6
    have hk4 : k < 4 := by omega
    have hcl := nI_clamp (n := k) (by omega)
    refine rx_aload_n hE dX10_image_11 (i := 0) rfl rfl ?_
    refine rx_getf hE dX10_image_12 fl_X10_69_9 (xa_0 hM) rfl ?_
    refine rx_iload_n hE dX10_image_15 (i := 1) rfl rfl ?_
    refine rx_aaldN hE (by decide) rfl dX10_image_16 (xa_30 hM) (by omega) (by decide) ?_
    rw [if_pos hk4]
    refine rx_astore_n_2 hE dX10_image_17 (by decide) rfl ?_
    refine rx_aload_n hE dX10_image_18 (i := 2) rfl rfl ?_
    refine rx_iconst hE dX10_image_19 (v := 1) (by decide) ?_
    refine rx_putN hE dX10_image_20 fl_X10_335_1 fw_1_3 (xI_at hk4 hM) (fun _ => rfl) (fun _ => rfl) (Nat.le_of_ble_eq_true rfl) ?_
    refine rx_mem (M' := xm n (x_r X (33 + 4 * k) (j_f (X (33 + 4 * k)) 3 1)) O Q G S L) (xw_i3 hk4) ?_
    refine rx_aload_n hE dX10_image_23 (i := 2) rfl rfl ?_
    refine rx_getfN hE dX10_image_24 fl_X10_338_1 (xI_at hk4 hM) rfl ?_
    refine rx_aload_n hE dX10_image_27 (i := 0) rfl rfl ?_
    refine rx_getf hE dX10_image_28 fl_X10_19_9 (xa_0 hM) rfl ?_
    refine rx_call0 (rx_callV (av := [.ref _]) hE dX10_image_31 lk_X10_124 (x_copyFrom (X := (x_r X (33 + 4 * k) (j_f (X (33 + 4 * k)) 3 1))) (xJ_in hk4) xJ_2 (Or.inr (by omega)) hM (J := J) (by rw [x_r_ne _ _ (show 2 ≠ 33 + 4 * k by omega)]; exact hJ)) (xa_j (xJ_in hk4) hM) np_X2_copyFrom rfl rfl (by decide) (Nat.le_of_ble_eq_true rfl) rfl ?_)
    rintro v M' ⟨rfl, rfl⟩
    refine rx_aload_n hE dX10_image_34 (i := 2) rfl rfl ?_
    refine rx_getfN hE dX10_image_35 fl_X10_339_1 (xI_at hk4 hM) rfl ?_
    refine rx_aload_n hE dX10_image_38 (i := 0) rfl rfl ?_
    refine rx_getf hE dX10_image_39 fl_X10_23_9 (xa_0 hM) rfl ?_
    refine rx_call0 (rx_callV (av := [.ref _]) hE dX10_image_42 lk_X10_124 (x_copyFrom (X := (x_r (x_r X (33 + 4 * k) (j_f (X (33 + 4 * k)) 3 1)) (34 + 4 * k) J)) (xJ_it hk4) xJ_3 (Or.inr (by omega)) hM (J := K) (by rw [x_r_ne _ _ (show 3 ≠ 34 + 4 * k by omega), x_r_ne _ _ (show 3 ≠ 33 + 4 * k by omega)]; exact hK)) (xa_j (xJ_it hk4) hM) np_X2_copyFrom rfl rfl (by decide) (Nat.le_of_ble_eq_true rfl) rfl ?_)
    rintro v M' ⟨rfl, rfl⟩
    refine rx_aload_n hE dX10_image_45 (i := 2) rfl rfl ?_
    refine rx_getfN hE dX10_image_46 fl_X10_340_1 (xI_at hk4 hM) rfl ?_
    refine rx_aload_n hE dX10_image_49 (i := 0) rfl rfl ?_
    refine rx_getf hE dX10_image_50 fl_X10_63_9 (xa_0 hM) rfl ?_
    refine rx_call0 (rx_callV (av := [.ref _]) hE dX10_image_53 lk_X10_341 (c_X4_copyFrom (X := (x_r (x_r (x_r X (33 + 4 * k) (j_f (X (33 + 4 * k)) 3 1)) (34 + 4 * k) J) (35 + 4 * k) K)) hM (xN_i hk4 hM) (xN_29 hM) (by omega)) (xa_n0 (xN_i hk4 hM)) np_X4_copyFrom rfl rfl (by decide) (Nat.le_of_ble_eq_true rfl) rfl ?_)
    rintro v M' ⟨rfl, T', rfl, hT'⟩
    rw [x_r_ne _ _ (show 29 ≠ 35 + 4 * k by omega), x_r_ne _ _ (show 29 ≠ 34 + 4 * k by omega), x_r_ne _ _ (show 29 ≠ 33 + 4 * k by omega)] at hT'
    refine rx_aload_n hE dX10_image_56 (i := 2) rfl rfl ?_
    refine rx_aload_n hE dX10_image_57 (i := 0) rfl rfl ?_
    refine rx_getf hE dX10_image_58 fl_X10_103_9 (xa_0 hM) rfl ?_
    refine rx_int _ (X 0 0 17) (congrFun (congrFun (by rw [x_r_ne _ _ (show 0 ≠ 36 + 4 * k by omega), x_r_ne _ _ (show 0 ≠ 35 + 4 * k by omega), x_r_ne _ _ (show 0 ≠ 34 + 4 * k by omega), x_r_ne _ _ (show 0 ≠ 33 + 4 * k by omega)]) 0) 17) ?_
    refine rx_putN hE dX10_image_61 fl_X10_344_1 fw_1_4 (xI_at hk4 hM) (fun _ => rfl) (fun _ => rfl) (Nat.le_of_ble_eq_true rfl) ?_
    refine rx_mem (M' := xm n (x_r (x_r (x_r (x_r (x_r X (33 + 4 * k) (j_f (X (33 + 4 * k)) 3 1)) (34 + 4 * k) J) (35 + 4 * k) K) (36 + 4 * k) T') (33 + 4 * k) (j_f (j_f (X (33 + 4 * k)) 3 1) 4 (X 0 0 17))) O Q G S L) ((xw_i4 hk4).trans (by rw [x_r_ne _ _ (show 33 + 4 * k ≠ 36 + 4 * k by omega), x_r_ne _ _ (show 33 + 4 * k ≠ 35 + 4 * k by omega), x_r_ne _ _ (show 33 + 4 * k ≠ 34 + 4 * k by omega), x_r_eq])) ?_
    refine rx_aload_n hE dX10_image_64 (i := 2) rfl rfl ?_
    refine rx_aload_n hE dX10_image_65 (i := 0) rfl rfl ?_
    refine rx_getf hE dX10_image_66 fl_X10_106_9 (xa_0 hM) rfl ?_
    refine rx_int _ (X 0 0 18) (congrFun (congrFun (by rw [x_r_ne _ _ (show 0 ≠ 33 + 4 * k by omega), x_r_ne _ _ (show 0 ≠ 36 + 4 * k by omega), x_r_ne _ _ (show 0 ≠ 35 + 4 * k by omega), x_r_ne _ _ (show 0 ≠ 34 + 4 * k by omega), x_r_ne _ _ (show 0 ≠ 33 + 4 * k by omega)]) 0) 18) ?_
    refine rx_putN hE dX10_image_69 fl_X10_345_1 fw_1_5 (xI_at hk4 hM) (fun _ => rfl) (fun _ => rfl) (Nat.le_of_ble_eq_true rfl) ?_
    refine rx_mem (M' := xm n (xim X k J K T') O Q G S L) ((xw_i5 hk4).trans (by rw [x_rr, x_r_eq, xim_eq]; rfl)) ?_
    refine rx_aload_n hE dX10_image_72 (i := 0) rfl rfl ?_
    refine rx_getf hE dX10_image_73 fl_X10_19_9 (xa_0 hM) rfl ?_
    refine rx_getfN hE dX10_image_76 fl_X10_185_2 (xa_j xJ_2 hM) rfl ?_
    refine rx_int _ (J 9 3) (congrFun (congrFun (by unfold xim; rw [x_r_ne _ _ (show 2 ≠ 33 + 4 * k by omega), x_r_ne _ _ (show 2 ≠ 36 + 4 * k by omega), x_r_ne _ _ (show 2 ≠ 35 + 4 * k by omega), x_r_ne _ _ (show 2 ≠ 34 + 4 * k by omega)]; exact hJ) 9) 3) ?_
    exact rx_iret hE hQ rfl dX10_image_79 (by rw [if_neg c6, hcl]; exact ⟨rfl, T', hT', rfl⟩)
  · refine rx_iconst hE dX10_image_9 (v := -1) (by decide) ?_
    exact rx_iret hE hQ rfl dX10_image_10 (by rw [if_pos c6]; exact ⟨rfl, rfl⟩)
def xbk (X : gX) (k : Nat) (T' : Nat → Nat → Int32) : gX := x_r (x_r (x_r (x_r (x_r X 2 (X (34 + 4 * k))) 3 (X (35 + 4 * k))) 29 T') 0 (j_f (j_f (X 0) 17 (X (33 + 4 * k) 0 4)) 18 (X (33 + 4 * k) 0 5))) 8 (j_f (X 8) 2 0)
set_option maxRecDepth 100000 in
set_option maxHeartbeats 1000000 in
theorem c_X10_back {n : Nat} {X : gX} {O : gO} {Q : gU} {G : gK} {S : gS} {L : gLg} (hM : 408 ≤ n) (k0 : Int32) : SX 3 0 0 mX10_back [.ref 16, .int k0] (xm n X O Q G S L) (fun v M' => if q_in k0 0 3 = 0 ∨ X (33 + 4 * k0.toNatClampNeg) 0 3 = 0 then (v = some (.int (-1)) ∧ M' = xm n X O Q G S L) else (v = some (.int (X (34 + 4 * k0.toNatClampNeg) 9 3)) ∧ ∃ T', xnq (X (36 + 4 * k0.toNatClampNeg)) T' ∧ M' = xm n (xbk X k0.toNatClampNeg T') O Q G S L)) := by
  refine SX.intro [some (.ref 16), some (.int k0), none] (by decide +kernel) (Nat.le_of_ble_eq_true rfl) rfl (fun E hE hQ => ?_)
  refine rx_iload_n hE dX10_back_0 (i := 1) rfl rfl ?_
  refine rx_iconst hE dX10_back_1 (v := 0) (by decide) ?_
  refine rx_iconst hE dX10_back_2 (v := 3) (by decide) ?_
  refine rx_call0 (rx_callS (av := [.int _, .int _, .int _]) hE dX10_back_3 lk_X10_143 (c_X10_within _ _ _) np_X10_within rfl rfl (by decide) (Nat.le_of_ble_eq_true rfl) rfl ?_)
  rintro v M' ⟨rfl, rfl⟩
  refine rx_if_eq (tgt := 21) hE dX10_back_6 (by decide) (fun c6 => ?_) (fun c6 => ?_)
  · refine rx_iconst hE dX10_back_21 (v := -1) (by decide) ?_
    exact rx_iret hE hQ rfl dX10_back_22 (by rw [if_pos (Or.inl c6)]; exact ⟨rfl, rfl⟩)
  · obtain ⟨k, hk0, hk, rfl⟩ := q_in_of (a := 0) (b := 3) (by decide) c6
    have hk4 : k < 4 := by omega
    have hcl := nI_clamp (n := k) (by omega)
    refine rx_aload_n hE dX10_back_9 (i := 0) rfl rfl ?_
    refine rx_getf hE dX10_back_10 fl_X10_69_9 (xa_0 hM) rfl ?_
    refine rx_iload_n hE dX10_back_13 (i := 1) rfl rfl ?_
    refine rx_aaldN hE (by decide) rfl dX10_back_14 (xa_30 hM) (by omega) (by decide) ?_
    rw [if_pos hk4]
    refine rx_getfN hE dX10_back_15 fl_X10_335_1 (xI_at hk4 hM) rfl ?_
    refine rx_int _ (X (33 + 4 * k) 0 3) rfl ?_
    refine rx_if_ne (tgt := 23) hE dX10_back_18 (by decide) (fun c18 => ?_) (fun c18 => ?_)
    · refine rx_aload_n hE dX10_back_23 (i := 0) rfl rfl ?_
      refine rx_getf hE dX10_back_24 fl_X10_69_9 (xa_0 hM) rfl ?_
      refine rx_iload_n hE dX10_back_27 (i := 1) rfl rfl ?_
      refine rx_aaldN hE (by decide) rfl dX10_back_28 (xa_30 hM) (by omega) (by decide) ?_
      rw [if_pos hk4]
      refine rx_astore_n_2 hE dX10_back_29 (by decide) rfl ?_
      refine rx_aload_n hE dX10_back_30 (i := 0) rfl rfl ?_
      refine rx_getf hE dX10_back_31 fl_X10_19_9 (xa_0 hM) rfl ?_
      refine rx_aload_n hE dX10_back_34 (i := 2) rfl rfl ?_
      refine rx_getfN hE dX10_back_35 fl_X10_338_1 (xI_at hk4 hM) rfl ?_
      refine rx_call0 (rx_callV (av := [.ref _]) hE dX10_back_38 lk_X10_124 (x_copyFrom (X := X) xJ_2 (xJ_in hk4) (Or.inl (by omega)) hM (J := X (34 + 4 * k)) rfl) (xa_j xJ_2 hM) np_X2_copyFrom rfl rfl (by decide) (Nat.le_of_ble_eq_true rfl) rfl ?_)
      rintro v M' ⟨rfl, rfl⟩
      refine rx_aload_n hE dX10_back_41 (i := 0) rfl rfl ?_
      refine rx_getf hE dX10_back_42 fl_X10_23_9 (xa_0 hM) rfl ?_
      refine rx_aload_n hE dX10_back_45 (i := 2) rfl rfl ?_
      refine rx_getfN hE dX10_back_46 fl_X10_339_1 (xI_at hk4 hM) rfl ?_
      refine rx_call0 (rx_callV (av := [.ref _]) hE dX10_back_49 lk_X10_124 (x_copyFrom (X := (x_r X 2 (X (34 + 4 * k)))) xJ_3 (xJ_it hk4) (Or.inl (by omega)) hM (J := X (35 + 4 * k)) (x_r_ne _ _ (by omega))) (xa_j xJ_3 hM) np_X2_copyFrom rfl rfl (by decide) (Nat.le_of_ble_eq_true rfl) rfl ?_)
      rintro v M' ⟨rfl, rfl⟩
      refine rx_aload_n hE dX10_back_52 (i := 0) rfl rfl ?_
      refine rx_getf hE dX10_back_53 fl_X10_63_9 (xa_0 hM) rfl ?_
      refine rx_aload_n hE dX10_back_56 (i := 2) rfl rfl ?_
      refine rx_getfN hE dX10_back_57 fl_X10_340_1 (xI_at hk4 hM) rfl ?_
      refine rx_call0 (rx_callV (av := [.ref _]) hE dX10_back_60 lk_X10_341 (c_X4_copyFrom (X := (x_r (x_r X 2 (X (34 + 4 * k))) 3 (X (35 + 4 * k)))) hM (xN_29 hM) (xN_i hk4 hM) (by omega)) (xa_n0 (xN_29 hM)) np_X4_copyFrom rfl rfl (by decide) (Nat.le_of_ble_eq_true rfl) rfl ?_)
      rintro v M' ⟨rfl, T', rfl, hT'⟩
      rw [x_r_ne _ _ (show 36 + 4 * k ≠ 3 by omega), x_r_ne _ _ (show 36 + 4 * k ≠ 2 by omega)] at hT'
      refine rx_aload_n hE dX10_back_63 (i := 0) rfl rfl ?_
      refine rx_aload_n hE dX10_back_64 (i := 2) rfl rfl ?_
      refine rx_getfN hE dX10_back_65 fl_X10_344_1 (xI_at hk4 hM) rfl ?_
      refine rx_int _ (X (33 + 4 * k) 0 4) (congrFun (congrFun (by rw [x_r_ne _ _ (show 33 + 4 * k ≠ 29 by omega), x_r_ne _ _ (show 33 + 4 * k ≠ 3 by omega), x_r_ne _ _ (show 33 + 4 * k ≠ 2 by omega)]) 0) 4) ?_
      refine rx_put hE dX10_back_68 fl_X10_103_9 fw_9_17 (xa_0 hM) (fun _ => rfl) (fun _ => rfl) (Nat.le_of_ble_eq_true rfl) ?_
      refine rx_mem (M' := xm n (x_r (x_r (x_r (x_r X 2 (X (34 + 4 * k))) 3 (X (35 + 4 * k))) 29 T') 0 (j_f (X 0) 17 (X (33 + 4 * k) 0 4))) O Q G S L) xw_0_f17 ?_
      refine rx_aload_n hE dX10_back_71 (i := 0) rfl rfl ?_
      refine rx_aload_n hE dX10_back_72 (i := 2) rfl rfl ?_
      refine rx_getfN hE dX10_back_73 fl_X10_345_1 (xI_at hk4 hM) rfl ?_
      refine rx_int _ (X (33 + 4 * k) 0 5) (congrFun (congrFun (by rw [x_r_ne _ _ (show 33 + 4 * k ≠ 0 by omega), x_r_ne _ _ (show 33 + 4 * k ≠ 29 by omega), x_r_ne _ _ (show 33 + 4 * k ≠ 3 by omega), x_r_ne _ _ (show 33 + 4 * k ≠ 2 by omega)]) 0) 5) ?_
      refine rx_put hE dX10_back_76 fl_X10_106_9 fw_9_18 (xa_0 hM) (fun _ => rfl) (fun _ => rfl) (Nat.le_of_ble_eq_true rfl) ?_
      refine rx_mem (M' := xm n (x_r (x_r (x_r (x_r X 2 (X (34 + 4 * k))) 3 (X (35 + 4 * k))) 29 T') 0 (j_f (j_f (X 0) 17 (X (33 + 4 * k) 0 4)) 18 (X (33 + 4 * k) 0 5))) O Q G S L) (xw_0_f18.trans (by rw [x_rr, x_r_eq])) ?_
      refine rx_aload_n hE dX10_back_79 (i := 0) rfl rfl ?_
      refine rx_getf hE dX10_back_80 fl_X10_56_9 (xa_0 hM) rfl ?_
      refine rx_iconst hE dX10_back_83 (v := 0) (by decide) ?_
      refine rx_putN hE dX10_back_84 fl_X10_131_0 fw_0_2 (xa_8 hM) (fun _ => rfl) (fun _ => rfl) (Nat.le_of_ble_eq_true rfl) ?_
      refine rx_mem (M' := xm n (xbk X k T') O Q G S L) xw_8_f2 ?_
      refine rx_aload_n hE dX10_back_87 (i := 0) rfl rfl ?_
      refine rx_getf hE dX10_back_88 fl_X10_19_9 (xa_0 hM) rfl ?_
      refine rx_getfN hE dX10_back_91 fl_X10_185_2 (xa_j xJ_2 hM) rfl ?_
      refine rx_int _ (X (34 + 4 * k) 9 3) rfl ?_
      exact rx_iret hE hQ rfl dX10_back_94 (by rw [hcl, if_neg (fun q => q.elim c6 c18)]; exact ⟨rfl, T', hT', rfl⟩)
    · refine rx_iconst hE dX10_back_21 (v := -1) (by decide) ?_
      exact rx_iret hE hQ rfl dX10_back_22 (by rw [hcl, if_pos (Or.inr c18)]; exact ⟨rfl, rfl⟩)
