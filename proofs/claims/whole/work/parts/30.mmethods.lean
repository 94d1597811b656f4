theorem k_ff (S : gS) (i : Nat) (a b : Int32) : k_f (k_f S i a) i b = k_f S i b := by
  funext k j
  unfold k_f
  by_cases h : k = 0
  · rw [if_pos h, if_pos h]
    show upd (upd (S 0) i a) i b j = upd (S 0) i b j
    unfold upd
    split <;> rfl
  · rw [if_neg h, if_neg h, if_neg h]
theorem k_ll (L : gLg) (i : Nat) (a b : Nat → Int64) : k_l (k_l L i a) i b = k_l L i b := by
  funext k
  unfold k_l
  by_cases h : k = i
  · rw [if_pos h, if_pos h]
  · rw [if_neg h, if_neg h, if_neg h]
theorem k_lo {a b : Nat} (ha : a < 16) (hb : b < 100000) : nI (a + 16 * b) &&& 15 = nI a := by
  rw [pk_andN (n := a + 16 * b) (by omega) 4 (by decide)]
  congr 1
  omega
theorem k_hi {a b : Nat} (ha : a < 16) (hb : b < 100000) : nI (a + 16 * b) >>> ((4 : Int32) &&& 31) = nI b := by
  rw [pk_shrN (n := a + 16 * b) (by omega) ((4 : Int32) &&& 31) 4 (by decide)]
  congr 1
  omega
theorem k_lid (L : gLg) (i : Nat) : k_l L i (L i) = L := by
  funext k
  unfold k_l
  split
  · rename_i h
    rw [h]
  · rfl
theorem kf_18 (S : gS) (v : Int32) : k_f S 18 v 0 18 = v := rfl
theorem kst_nil (op : Nat → Int64) : kst op [] := fun i x h => by simp at h
set_option maxRecDepth 100000 in
set_option maxHeartbeats 4000000 in
theorem c_X11_reckons {M : gM} {S : gS} {L : gLg} {J : gJn} (hM : 408 ≤ M.1) {t b e : Nat} (p : List (Nat × Nat)) (r : Int64) (ht : t < 6) (hbe : b + p.length = e) (he400 : e ≤ 400) (hp : ∀ j x, p[j]? = some x → S 2 (400 * t + (b + j)) = nI (x.1 + 16 * x.2)) (hw : kwf p 0) (he : kev (fun i => L 9 i) p [] = some [r]) : SX 1 0 0 mX11_reckons [.ref 384, .int (nI t), .int (nI b), .int (nI e)] (kp M (kput S J) L) (fun v M' => v = some (.long r) ∧ ∃ op : Nat → Int64, M' = kp M (kput (k_f S 18 0) J) (k_l L 8 op)) := by
  refine SX.intro [some (.ref 384), some (.int (nI t)), some (.int (nI b)), some (.int (nI e)), none, none, none, none, none, none, none] (by decide +kernel) (Nat.le_of_ble_eq_true rfl) rfl (fun E hE hQ => ?_)
  have loop : ∀ (q : List (Nat × Nat)) (i : Nat) (st : List Int64) (op : Nat → Int64) (l5 l6 l7 l8 l9 l10 : Option Value), (∀ j x, q[j]? = some x → S 2 (400 * t + (i + j)) = nI (x.1 + 16 * x.2)) → i + q.length = e → kwf q st.length → kst op st → st.length ≤ 60 → kev (fun i => L 9 i) q st = some [r] → RX E mX11_reckons.2.2.1 0 0 8 [some (.ref 384), some (.int (nI t)), some (.int (nI b)), some (.int (nI e)), some (.int (nI i)), l5, l6, l7, l8, l9, l10] [] (kp M (kput (k_f S 18 (nI st.length)) J) (k_l L 8 op)) := by
    intro q
    induction q with
    | nil =>
      intro i st op l5 l6 l7 l8 l9 l10 hx hl hw hst hs60 he
      simp only [List.length_nil] at hl
      refine rx_iload hE dX11_reckons_8 rfl ?_
      refine rx_iload_n hE dX11_reckons_10 (i := 3) rfl rfl ?_
      refine rx_icmp_ge (tgt := 135) hE dX11_reckons_11 (by decide) (fun c11 => ?_) (fun c11 => absurd (nI_le (by omega) (by omega)) c11)
      refine rx_aload_n hE dX11_reckons_135 (i := 0) rfl rfl ?_
      obtain ⟨r', hr'⟩ : ∃ x, st = [x] := ⟨r, by simpa [kev] using he⟩
      subst hr'
      have hrr : r' = r := by simpa [kev] using he
      subst hrr
      refine rx_call0 (rx_callV (av := []) hE dX11_reckons_136 lk_X11_286 (c_X11_pop hM (h := 0) rfl (by omega)) (kp_o hM) np_X11_pop rfl rfl (by decide) (Nat.le_of_ble_eq_true rfl) rfl ?_)
      rintro v M' ⟨rfl, rfl⟩
      refine rx_mem (M' := kp M (kput (k_f S 18 0) J) (k_l L 8 op)) (by rw [k_ff]; rfl) ?_
      exact rx_lret hE hQ rfl dX11_reckons_139 ⟨by rw [show (k_l L 8 op) 8 0 = r' from kst_top hst], op, rfl⟩
    | cons x q ih =>
      intro i st op l5 l6 l7 l8 l9 l10 hx hl hw hst hs60 he
      have hx0 := hx 0 x rfl
      rw [Nat.add_zero] at hx0
      obtain ⟨hv, hw2, hw3⟩ := hw
      have hwd : x.1 = 1 → x.2 < 12 := fun q => by rw [if_pos (by omega)] at hw3; exact hw3.1 q
      simp only [kev] at he
      refine rx_iload hE dX11_reckons_8 rfl ?_
      refine rx_iload_n hE dX11_reckons_10 (i := 3) rfl rfl ?_
      refine rx_icmp_ge (tgt := 135) hE dX11_reckons_11 (by decide) (fun c11 => absurd c11 (nI_ge (by simp at hl; omega) (by omega))) (fun c11 => ?_)
      refine rx_aload_n hE dX11_reckons_14 (i := 0) rfl rfl ?_
      refine rx_getf hE dX11_reckons_15 fl_X11_13_10 (kp_o hM) rfl ?_
      refine rx_sipush hE dX11_reckons_18 (v := 400) (by decide) ?_
      refine rx_iload_n hE dX11_reckons_21 (i := 1) rfl rfl ?_
      refine rx_imul hE dX11_reckons_22 ?_
      refine rx_int _ (nI (400 * t)) (pk_mul _ _) ?_
      refine rx_iload hE dX11_reckons_23 rfl ?_
      refine rx_iadd hE dX11_reckons_25 ?_
      refine rx_int _ (nI (400 * t + i)) (nI_add _ _) ?_
      refine rx_ialdN (i := 400 * t + i) hE dX11_reckons_26 (kp_2 hM) (by simp at hl; omega) (by decide) ?_
      refine rx_int _ _ (kr_a (by decide) (by decide) (by decide)) ?_
      refine rx_int _ (nI (x.1 + 16 * x.2)) hx0 ?_
      refine rx_bipush hE dX11_reckons_27 (v := 15) (by decide) ?_
      refine rx_iand hE dX11_reckons_29 ?_
      refine rx_int _ (nI x.1) (k_lo (by omega) hv) ?_
      refine rx_istore_5 hE dX11_reckons_30 (by decide) rfl ?_
      refine rx_aload_n hE dX11_reckons_32 (i := 0) rfl rfl ?_
      refine rx_getf hE dX11_reckons_33 fl_X11_13_10 (kp_o hM) rfl ?_
      refine rx_sipush hE dX11_reckons_36 (v := 400) (by decide) ?_
      refine rx_iload_n hE dX11_reckons_39 (i := 1) rfl rfl ?_
      refine rx_imul hE dX11_reckons_40 ?_
      refine rx_int _ (nI (400 * t)) (pk_mul _ _) ?_
      refine rx_iload hE dX11_reckons_41 rfl ?_
      refine rx_iadd hE dX11_reckons_43 ?_
      refine rx_int _ (nI (400 * t + i)) (nI_add _ _) ?_
      refine rx_ialdN (i := 400 * t + i) hE dX11_reckons_44 (kp_2 hM) (by simp at hl; omega) (by decide) ?_
      refine rx_int _ _ (kr_a (by decide) (by decide) (by decide)) ?_
      refine rx_int _ (nI (x.1 + 16 * x.2)) hx0 ?_
      refine rx_iconst hE dX11_reckons_45 (v := 4) (by decide) ?_
      refine rx_ishr hE dX11_reckons_46 ?_
      refine rx_int _ (nI x.2) (k_hi (by omega) hv) ?_
      refine rx_istore_6 hE dX11_reckons_47 (by decide) rfl ?_
      refine rx_iload hE dX11_reckons_49 rfl ?_
      refine rx_if_ne (tgt := 64) hE dX11_reckons_51 (by decide) (fun c51 => ?_) (fun c51 => ?_)
      · have d0 : ¬ x.1 = 0 := fun q => c51 (by rw [q]; rfl)
        refine rx_iload hE dX11_reckons_64 rfl ?_
        refine rx_iconst hE dX11_reckons_66 (v := 1) (by decide) ?_
        refine rx_icmp_ne (tgt := 84) hE dX11_reckons_67 (by decide) (fun c67 => ?_) (fun c67 => ?_)
        · have d1 : ¬ x.1 = 1 := fun q => c67 (by rw [q]; rfl)
          refine rx_iload hE dX11_reckons_84 rfl ?_
          refine rx_bipush hE dX11_reckons_86 (v := 11) (by decide) ?_
          refine rx_icmp_ne (tgt := 104) hE dX11_reckons_88 (by decide) (fun c88 => ?_) (fun c88 => ?_)
          · have d2 : ¬ x.1 = 11 := fun q => c88 (by rw [q]; rfl)
            rw [if_neg (by omega), if_neg d2] at hw3
            rw [if_neg d0, if_neg d1, if_neg d2] at he
            obtain ⟨y1, y2, st2, rfl⟩ : ∃ y1 y2 st2, st = y1 :: y2 :: st2 := by
              match st, hw3.1 with
              | y1 :: y2 :: st2, _ => exact ⟨y1, y2, st2, rfl⟩
            have hlen : (y1 :: y2 :: st2).length = st2.length + 1 + 1 := rfl
            rw [hlen] at hs60
            refine rx_aload_n hE dX11_reckons_104 (i := 0) rfl rfl ?_
            refine rx_call0 (rx_callV (av := []) hE dX11_reckons_105 lk_X11_286 (c_X11_pop hM (h := st2.length + 1) rfl (by omega)) (kp_o hM) np_X11_pop rfl rfl (by decide) (Nat.le_of_ble_eq_true rfl) rfl ?_)
            rintro v M' ⟨rfl, rfl⟩
            refine rx_mem (M' := kp M (kput (k_f S 18 (nI (st2.length + 1))) J) (k_l L 8 op)) (by rw [k_ff]) ?_
            have ht1 : op (st2.length + 1) = y1 := kst_top hst
            rw [show (k_l L 8 op) 8 (st2.length + 1) = y1 from ht1]
            refine rx_lstore_7 hE dX11_reckons_108 (by decide) rfl ?_
            refine rx_aload_n hE dX11_reckons_110 (i := 0) rfl rfl ?_
            refine rx_call0 (rx_callV (av := []) hE dX11_reckons_111 lk_X11_286 (c_X11_pop hM (h := st2.length) rfl (by omega)) (kp_o hM) np_X11_pop rfl rfl (by decide) (Nat.le_of_ble_eq_true rfl) rfl ?_)
            rintro v M' ⟨rfl, rfl⟩
            refine rx_mem (M' := kp M (kput (k_f S 18 (nI (st2.length))) J) (k_l L 8 op)) (by rw [k_ff]) ?_
            have ht2 : op st2.length = y2 := kst_top (kst_tail hst)
            rw [show (k_l L 8 op) 8 st2.length = y2 from ht2]
            refine rx_lstore_9 hE dX11_reckons_114 (by decide) rfl ?_
            refine rx_aload_n hE dX11_reckons_116 (i := 0) rfl rfl ?_
            refine rx_iload hE dX11_reckons_117 rfl ?_
            refine rx_lload hE dX11_reckons_119 rfl ?_
            refine rx_lload hE dX11_reckons_121 rfl ?_
            refine rx_call0 (rx_callS (av := [.int (nI x.1), .long y2, .long y1]) hE dX11_reckons_123 lk_X11_290 (c_X11_one y2 y1 hw2 (by omega) d2) np_X11_one rfl rfl (by decide) (Nat.le_of_ble_eq_true rfl) rfl ?_)
            rintro v M' ⟨rfl, rfl⟩
            refine rx_call0 (rx_callV (av := [.long (j_join (csig x.1) y2 y1)]) hE dX11_reckons_126 lk_X11_282 (c_X11_push hM (h := st2.length) (j_join (csig x.1) y2 y1) rfl (by omega)) (kp_o hM) np_X11_push rfl rfl (by decide) (Nat.le_of_ble_eq_true rfl) rfl ?_)
            rintro v M' ⟨rfl, rfl⟩
            refine rx_mem (M' := kp M (kput (k_f S 18 (nI (st2.length + 1))) J) (k_l L 8 (vp_updL op st2.length (j_join (csig x.1) y2 y1)))) (by rw [k_ff, k_ll]; rfl) ?_
            refine rx_iinc_4 hE dX11_reckons_129 (v := 1) (by decide) (by decide) rfl ?_
            rw [nI_1]
            refine rx_goto (tgt := 8) hE dX11_reckons_132 (by decide) ?_
            exact ih (i + 1) (j_join (csig x.1) y2 y1 :: st2) _ _ _ _ _ _ _ (fun j y hy => by have := hx (j + 1) y (by simpa using hy); rw [show i + (j + 1) = i + 1 + j by omega] at this; exact this) (by simp at hl; omega) hw3.2 (kst_push (kst_tail (kst_tail hst))) (by simp only [List.length_cons] at hs60 ⊢; omega) he
          · have d2 : x.1 = 11 := (nI_eq (b := 11) (by omega) (by decide)).mp c88
            rw [if_neg (by omega), if_pos d2] at hw3
            rw [if_neg d0, if_neg d1, if_pos d2] at he
            obtain ⟨y1, st2, rfl⟩ : ∃ y1 st2, st = y1 :: st2 := by
              match st, hw3.1 with
              | y1 :: st2, _ => exact ⟨y1, st2, rfl⟩
            rw [show (y1 :: st2).length = st2.length + 1 from rfl] at hs60
            refine rx_aload_n hE dX11_reckons_91 (i := 0) rfl rfl ?_
            refine rx_lconst hE dX11_reckons_92 (v := 1) (by decide) ?_
            refine rx_aload_n hE dX11_reckons_93 (i := 0) rfl rfl ?_
            refine rx_call0 (rx_callV (av := []) hE dX11_reckons_94 lk_X11_286 (c_X11_pop hM (h := st2.length) rfl (by omega)) (kp_o hM) np_X11_pop rfl rfl (by decide) (Nat.le_of_ble_eq_true rfl) rfl ?_)
            rintro v M' ⟨rfl, rfl⟩
            refine rx_mem (M' := kp M (kput (k_f S 18 (nI (st2.length))) J) (k_l L 8 op)) (by rw [k_ff]) ?_
            have ht1 : op st2.length = y1 := kst_top hst
            rw [show (k_l L 8 op) 8 st2.length = y1 from ht1]
            refine rx_lsub hE dX11_reckons_97 ?_
            refine rx_call0 (rx_callV (av := [.long (1 - y1)]) hE dX11_reckons_98 lk_X11_282 (c_X11_push hM (h := st2.length) (1 - y1) rfl (by omega)) (kp_o hM) np_X11_push rfl rfl (by decide) (Nat.le_of_ble_eq_true rfl) rfl ?_)
            rintro v M' ⟨rfl, rfl⟩
            refine rx_mem (M' := kp M (kput (k_f S 18 (nI (st2.length + 1))) J) (k_l L 8 (vp_updL op st2.length (1 - y1)))) (by rw [k_ff, k_ll]; rfl) ?_
            refine rx_goto (tgt := 129) hE dX11_reckons_101 (by decide) ?_
            refine rx_iinc_4 hE dX11_reckons_129 (v := 1) (by decide) (by decide) rfl ?_
            rw [nI_1]
            refine rx_goto (tgt := 8) hE dX11_reckons_132 (by decide) ?_
            exact ih (i + 1) ((1 - y1) :: st2) _ _ _ _ _ _ _ (fun j y hy => by have := hx (j + 1) y (by simpa using hy); rw [show i + (j + 1) = i + 1 + j by omega] at this; exact this) (by simp at hl; omega) hw3.2 (kst_push (kst_tail hst)) hs60 he
        · have d1 : x.1 = 1 := (nI_eq (b := 1) (by omega) (by decide)).mp c67
          rw [if_pos (by omega)] at hw3
          rw [if_neg d0, if_pos d1] at he
          refine rx_aload_n hE dX11_reckons_70 (i := 0) rfl rfl ?_
          refine rx_aload_n hE dX11_reckons_71 (i := 0) rfl rfl ?_
          refine rx_getf hE dX11_reckons_72 fl_X11_36_10 (kp_o hM) rfl ?_
          refine rx_iload hE dX11_reckons_75 rfl ?_
          refine rx_laldN hE dX11_reckons_77 (kp_9 hM) (hwd (by omega)) (by decide) ?_
          refine rx_call0 (rx_callV (av := [.long (L 9 x.2)]) hE dX11_reckons_78 lk_X11_282 (c_X11_push hM (h := st.length) (L 9 x.2) rfl (by omega)) (kp_o hM) np_X11_push rfl rfl (by decide) (Nat.le_of_ble_eq_true rfl) rfl ?_)
          rintro v M' ⟨rfl, rfl⟩
          refine rx_mem (M' := kp M (kput (k_f S 18 (nI (st.length + 1))) J) (k_l L 8 (vp_updL op st.length (L 9 x.2)))) (by rw [k_ff, k_ll]; rfl) ?_
          refine rx_goto (tgt := 129) hE dX11_reckons_81 (by decide) ?_
          refine rx_iinc_4 hE dX11_reckons_129 (v := 1) (by decide) (by decide) rfl ?_
          rw [nI_1]
          refine rx_goto (tgt := 8) hE dX11_reckons_132 (by decide) ?_
          exact ih (i + 1) (L 9 x.2 :: st) _ _ _ _ _ _ _ (fun j y hy => by have := hx (j + 1) y (by simpa using hy); rw [show i + (j + 1) = i + 1 + j by omega] at this; exact this) (by simp at hl; omega) hw3.2.2 (kst_push hst) (by have := hw3.2.1; simp only [List.length_cons]; omega) he
      · have d0 : x.1 = 0 := (nI_eq (b := 0) (by omega) (by decide)).mp c51
        rw [if_pos (by omega)] at hw3
        rw [if_pos d0] at he
        refine rx_aload_n hE dX11_reckons_54 (i := 0) rfl rfl ?_
        refine rx_iload hE dX11_reckons_55 rfl ?_
        refine rx_i2l hE dX11_reckons_57 ?_
        refine rx_call0 (rx_callV (av := [.long (nI x.2).toInt64]) hE dX11_reckons_58 lk_X11_282 (c_X11_push hM (h := st.length) (nI x.2).toInt64 rfl (by omega)) (kp_o hM) np_X11_push rfl rfl (by decide) (Nat.le_of_ble_eq_true rfl) rfl ?_)
        rintro v M' ⟨rfl, rfl⟩
        refine rx_mem (M' := kp M (kput (k_f S 18 (nI (st.length + 1))) J) (k_l L 8 (vp_updL op st.length (nI x.2).toInt64))) (by rw [k_ff, k_ll]; rfl) ?_
        refine rx_goto (tgt := 129) hE dX11_reckons_61 (by decide) ?_
        refine rx_iinc_4 hE dX11_reckons_129 (v := 1) (by decide) (by decide) rfl ?_
        rw [nI_1]
        refine rx_goto (tgt := 8) hE dX11_reckons_132 (by decide) ?_
        exact ih (i + 1) ((nI x.2).toInt64 :: st) _ _ _ _ _ _ _ (fun j y hy => by have := hx (j + 1) y (by simpa using hy); rw [show i + (j + 1) = i + 1 + j by omega] at this; exact this) (by simp at hl; omega) hw3.2.2 (kst_push hst) (by have := hw3.2.1; simp only [List.length_cons]; omega) he
  refine rx_aload_n hE dX11_reckons_0 (i := 0) rfl rfl ?_
  refine rx_iconst hE dX11_reckons_1 (v := 0) (by decide) ?_
  refine rx_put hE dX11_reckons_2 fl_X11_279_10 fw_10_18 (kp_o hM) (fun _ => rfl) (fun _ => rfl) (Nat.le_of_ble_eq_true rfl) ?_
  refine rx_mem (kw_c18.trans (kx_f (by decide))) ?_
  refine rx_iload_n hE dX11_reckons_5 (i := 2) rfl rfl ?_
  refine rx_istore_4 hE dX11_reckons_6 (by decide) rfl ?_
  refine rx_mem (M' := kp M (kput (k_f S 18 (nI ([] : List Int64).length)) J) (k_l L 8 (L 8))) (by rw [k_lid]; rfl) ?_
  exact loop p b [] (L 8) none none none none none none hp hbe hw (kst_nil _) (by simp) he
