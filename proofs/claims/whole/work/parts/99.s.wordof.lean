/-! ===== wordOf ===== -/
def avI (o : Option Nat) : Int32 := match o with
  | none => -1
  | some j => nI j
def woS (T : Nat → Int32) (N p : Nat) (b : Int32) (al : Option Nat) : Option Nat := match al with
  | none => none
  | some j => if j < trl T N p ∧ T (p + j) = b then some (j + 1) else none
def woL (T : Nat → Int32) (N p : Nat) : List Int32 → Nat → Option Nat → Int32
  | [], w, al => if al = some (trl T N p) then nI w else -1
  | b :: bs, w, al => if b = 32 then (if al = some (trl T N p) then nI w else woL T N p bs (w + 1) (some 0)) else woL T N p bs w (woS T N p b al)
theorem drop_gD {l : List Int32} {k : Nat} (h : k < l.length) : l.drop k = l.getD k 0 :: l.drop (k + 1) := by
  rw [List.drop_eq_getElem_cons h, List.getD_eq_getElem?_getD, List.getElem?_eq_getElem h]
  rfl
theorem avI_eq {al : Option Nat} {L : Nat} (hL : L < 2 ^ 31) (hj : ∀ j, al = some j → j < 2 ^ 31) (h : avI al = nI L) : al = some L := by
  cases al with
  | none =>
    have e : (-1 : Int32) = nI L := h
    have e2 := congrArg Int32.toInt e
    rw [nI_toInt hL] at e2
    have : (-1 : Int32).toInt = -1 := by decide
    omega
  | some j => rw [nI_inj (hj j rfl) hL h]
theorem tk_is1 {T : Nat → Int32} {N p : Nat} : tk T N p = 1 ↔ (p < N ∧ tlt (T p)) := by
  constructor
  · intro h
    have hp := tk_lt (T := T) (N := N) (p := p) (by rw [h]; decide)
    refine ⟨hp, Classical.byContradiction (fun q => ?_)⟩
    unfold tk at h
    rw [if_neg (fun z => z hp), if_neg q] at h
    split at h <;> exact absurd h (by decide)
  · rintro ⟨h1, h2⟩
    exact (tk_1 h1 h2).1
set_option maxRecDepth 100000 in
set_option maxHeartbeats 1000000 in
theorem c_X8_wordOf {n : Nat} {X : gX} {O : gO} {Q : gU} {G : gK} {S : gS} {L : gLg} (hM : 408 ≤ n) {T : Nat → Int32} {N p : Nat} {f : Int32} (hN : N ≤ 400) (hpN : p ≤ N) (hc : ctk (X 1) T N p f) {i : Nat} (hi : i < 6) : SX 4 0 0 mX8_wordOf [.ref 17, .ref (3 + i)] (xm n X O Q G S L) (fun v M' => v = some (.int (if tk T N p = 1 then woL T N p (tX i) 0 (some 0) else -1)) ∧ M' = xm n X O Q G S L) := by
  refine SX.intro [some (.ref 17), some (.ref (3 + i)), none, none, none, none] (by decide +kernel) (Nat.le_of_ble_eq_true rfl) rfl (fun E hE hQ => ?_)
  have hte := te_le (T := T) hpN
  have hlen := (tX_len i hi).2
  refine rx_aload_n hE dX8_wordOf_0 (i := 0) rfl rfl ?_
  refine rx_getf hE dX8_wordOf_1 fl_X8_22_8 (xa_1 hM) rfl ?_
  refine rx_int _ (nI (tk T N p)) hc.2.1 ?_
  refine rx_iconst hE dX8_wordOf_4 (v := 1) (by decide) ?_
  refine rx_icmp_eq (tgt := 10) hE dX8_wordOf_5 (by decide) (fun c5 => ?_) (fun c5 => ?_)
  · have h1 : tk T N p = 1 := (tk_eq (k := 1) (by decide)).mp c5
    rw [if_pos h1] at hQ
    have htl : trl T N p = te T N p - p := by
      have q := tk_is1.mp h1
      rw [(tk_1 q.1 q.2).2]
      rfl
    generalize hR0 : woL T N p (tX i) 0 (some 0) = R at hQ
    have l1 : ∀ (m1 k : Nat) (w : Nat) (al : Option Nat) (l5 : Option Value), k + m1 = (tX i).length + 1 → (k ≤ (tX i).length → woL T N p ((tX i).drop k) w al = R) → (k = (tX i).length + 1 → R = -1) → (∀ j, al = some j → j ≤ 400) → RX E mX8_wordOf.2.2.1 0 0 17 [some (.ref 17), some (.ref (3 + i)), some (.int (nI w)), some (.int (avI al)), some (.int (nI k)), l5] [] (xm n X O Q G S L) := by
      intro m1
      induction m1 with
      | zero =>
        intro k w al l5 hkn h1 h2 hj
        refine rx_iload hE dX8_wordOf_17 rfl ?_
        refine rx_aload_n hE dX8_wordOf_19 (i := 1) rfl rfl ?_
        refine rx_call0 (rx_callT (av := []) hE hi dX8_wordOf_20 lk_X8_37 (c_J0_length hi) np_J0_length_8abf5 rfl rfl (by decide) (Nat.le_of_ble_eq_true rfl) rfl ?_)
        rintro v M' ⟨rfl, rfl⟩
        refine rx_icmp_gt (tgt := 132) hE dX8_wordOf_23 (by decide) (fun c23 => ?_) (fun c23 => absurd (nI_lt (a := (tX i).length) (b := k) (by omega) (by omega)) c23)
        refine rx_iconst hE dX8_wordOf_132 (v := -1) (by decide) ?_
        exact rx_iret hE hQ rfl dX8_wordOf_133 ⟨by rw [h2 (by omega)], rfl⟩
      | succ m1 ihm1 =>
        intro k w al l5 hkn h1 h2 hj
        refine rx_iload hE dX8_wordOf_17 rfl ?_
        refine rx_aload_n hE dX8_wordOf_19 (i := 1) rfl rfl ?_
        refine rx_call0 (rx_callT (av := []) hE hi dX8_wordOf_20 lk_X8_37 (c_J0_length hi) np_J0_length_8abf5 rfl rfl (by decide) (Nat.le_of_ble_eq_true rfl) rfl ?_)
        rintro v M' ⟨rfl, rfl⟩
        refine rx_icmp_gt (tgt := 132) hE dX8_wordOf_23 (by decide) (fun c23 => absurd c23 (Int32.not_lt.mpr (nI_le (a := k) (b := (tX i).length) (by omega) (by omega)))) (fun c23 => ?_)
        refine rx_iload hE dX8_wordOf_26 rfl ?_
        refine rx_aload_n hE dX8_wordOf_28 (i := 1) rfl rfl ?_
        refine rx_call0 (rx_callT (av := []) hE hi dX8_wordOf_29 lk_X8_37 (c_J0_length hi) np_J0_length_8abf5 rfl rfl (by decide) (Nat.le_of_ble_eq_true rfl) rfl ?_)
        rintro v M' ⟨rfl, rfl⟩
        refine rx_icmp_eq (tgt := 46) hE dX8_wordOf_32 (by decide) (fun c32 => ?_) (fun c32 => ?_)
        · have hkl : k = (tX i).length := nI_inj (by omega) (by omega) c32
          have hR := h1 (by omega)
          rw [hkl, List.drop_length] at hR
          refine rx_iload_n hE dX8_wordOf_46 (i := 3) rfl rfl ?_
          refine rx_aload_n hE dX8_wordOf_47 (i := 0) rfl rfl ?_
          refine rx_getf hE dX8_wordOf_48 fl_X8_19_8 (xa_1 hM) rfl ?_
          refine rx_int _ (nI (te T N p)) hc.1.2.2.1 ?_
          refine rx_aload_n hE dX8_wordOf_51 (i := 0) rfl rfl ?_
          refine rx_getf hE dX8_wordOf_52 fl_X8_25_8 (xa_1 hM) rfl ?_
          refine rx_int _ (nI p) hc.2.2.1 ?_
          refine rx_isub hE dX8_wordOf_55 ?_
          refine rx_int _ (nI (te T N p - p)) (nI_mn hte.1) ?_
          refine rx_icmp_ne (tgt := 61) hE dX8_wordOf_56 (by decide) (fun c56 => ?_) (fun c56 => ?_)
          · refine rx_iinc_2 hE dX8_wordOf_61 (v := 1) (by decide) (by decide) rfl ?_
            rw [nI_1]
            refine rx_iconst hE dX8_wordOf_64 (v := 0) (by decide) ?_
            refine rx_istore_n_3 hE dX8_wordOf_65 (by decide) rfl ?_
            refine rx_goto (tgt := 126) hE dX8_wordOf_66 (by decide) ?_
            refine rx_iinc_4 hE dX8_wordOf_126 (v := 1) (by decide) (by decide) rfl ?_
            rw [nI_1]
            refine rx_goto (tgt := 17) hE dX8_wordOf_129 (by decide) ?_
            exact ihm1 (k + 1) (w + 1) (some 0) _ (by omega) (fun z => absurd z (by omega)) (fun _ => by rw [← hR]; exact if_neg (fun z => c56 (by rw [z, ← htl]; rfl))) (fun j z => by injection z with z; omega)
          · refine rx_iload_n hE dX8_wordOf_59 (i := 2) rfl rfl ?_
            exact rx_iret hE hQ rfl dX8_wordOf_60 ⟨by rw [← hR]; exact congrArg (fun x => some (Value.int x)) (if_pos (by rw [htl]; exact avI_eq (by omega) (fun j z => by have := hj j z; omega) c56)).symm, rfl⟩
        · have hkl : k < (tX i).length := Classical.byContradiction (fun z => c32 (by rw [show k = (tX i).length by omega]))
          refine rx_aload_n hE dX8_wordOf_35 (i := 1) rfl rfl ?_
          refine rx_iload hE dX8_wordOf_36 rfl ?_
          refine rx_call0 (rx_callT (av := [.int (nI k)]) hE hi dX8_wordOf_38 lk_X8_42 (c_J0_charAt hi (show k < (tX i).length by omega)) np_J0_charAt_5068e rfl rfl (by decide) (Nat.le_of_ble_eq_true rfl) rfl ?_)
          rintro v M' ⟨rfl, rfl⟩
          refine rx_bipush hE dX8_wordOf_41 (v := 32) (by decide) ?_
          refine rx_icmp_ne (tgt := 69) hE dX8_wordOf_43 (by decide) (fun c43 => ?_) (fun c43 => ?_)
          · have hR := h1 (by omega)
            rw [drop_gD hkl] at hR
            have hR : woL T N p ((tX i).drop (k + 1)) w (woS T N p ((tX i).getD k 0) al) = R := by
              rw [← hR]
              exact (if_neg c43).symm
            refine rx_iload_n hE dX8_wordOf_69 (i := 3) rfl rfl ?_
            refine rx_if_lt (tgt := 126) hE dX8_wordOf_70 (by decide) (fun c70 => ?_) (fun c70 => ?_)
            · have hal : al = none := by
                cases al with
                | none => rfl
                | some j => exact absurd c70 (Int32.not_lt.mpr (nI_le (a := 0) (b := j) (Nat.zero_le _) (by have := hj j rfl; omega)))
              subst hal
              refine rx_iinc_4 hE dX8_wordOf_126 (v := 1) (by decide) (by decide) rfl ?_
              rw [nI_1]
              refine rx_goto (tgt := 17) hE dX8_wordOf_129 (by decide) ?_
              exact ihm1 (k + 1) w none _ (by omega) (fun _ => hR) (fun z => absurd z (by omega)) hj
            · obtain ⟨j, rfl⟩ : ∃ j, al = some j := by
                cases al with
                | none => exact absurd (show (-1 : Int32) < 0 by decide) c70
                | some j => exact ⟨j, rfl⟩
              have hjb := hj j rfl
              refine rx_iload_n hE dX8_wordOf_73 (i := 3) rfl rfl ?_
              refine rx_aload_n hE dX8_wordOf_74 (i := 0) rfl rfl ?_
              refine rx_getf hE dX8_wordOf_75 fl_X8_19_8 (xa_1 hM) rfl ?_
              refine rx_int _ (nI (te T N p)) hc.1.2.2.1 ?_
              refine rx_aload_n hE dX8_wordOf_78 (i := 0) rfl rfl ?_
              refine rx_getf hE dX8_wordOf_79 fl_X8_25_8 (xa_1 hM) rfl ?_
              refine rx_int _ (nI p) hc.2.2.1 ?_
              refine rx_isub hE dX8_wordOf_82 ?_
              refine rx_int _ (nI (te T N p - p)) (nI_mn hte.1) ?_
              refine rx_icmp_ge (tgt := 110) hE dX8_wordOf_83 (by decide) (fun c83 => ?_) (fun c83 => ?_)
              · have hnj : ¬ j < trl T N p := fun z => absurd c83 (nI_ge (a := j) (b := te T N p - p) (by omega) (by omega))
                refine rx_iconst hE dX8_wordOf_110 (v := 0) (by decide) ?_
                refine rx_istore_5 hE dX8_wordOf_111 (by decide) rfl ?_
                refine rx_iload hE dX8_wordOf_113 rfl ?_
                refine rx_if_eq (tgt := 124) hE dX8_wordOf_115 (by decide) (fun c115 => ?_) (fun c115 => absurd rfl c115)
                refine rx_iconst hE dX8_wordOf_124 (v := -1) (by decide) ?_
                refine rx_istore_n_3 hE dX8_wordOf_125 (by decide) rfl ?_
                refine rx_iinc_4 hE dX8_wordOf_126 (v := 1) (by decide) (by decide) rfl ?_
                rw [nI_1]
                refine rx_goto (tgt := 17) hE dX8_wordOf_129 (by decide) ?_
                exact ihm1 (k + 1) w none _ (by omega) (fun _ => by rw [← hR]; exact congrArg _ (if_neg (fun z => hnj z.1)).symm) (fun z => absurd z (by omega)) (fun j z => absurd z (by simp))
              · have hyj : j < trl T N p := Classical.byContradiction (fun z => c83 (nI_le (a := te T N p - p) (b := j) (by omega) (by omega)))
                refine rx_aload_n hE dX8_wordOf_86 (i := 0) rfl rfl ?_
                refine rx_getf hE dX8_wordOf_87 fl_X8_9_8 (xa_1 hM) rfl ?_
                refine rx_aload_n hE dX8_wordOf_90 (i := 0) rfl rfl ?_
                refine rx_getf hE dX8_wordOf_91 fl_X8_25_8 (xa_1 hM) rfl ?_
                refine rx_int _ (nI p) hc.2.2.1 ?_
                refine rx_iload_n hE dX8_wordOf_94 (i := 3) rfl rfl ?_
                refine rx_iadd hE dX8_wordOf_95 ?_
                refine rx_int _ (nI (p + j)) (nI_add p j) ?_
                refine rx_baldN (i := p + j) hE dX8_wordOf_96 (xa_1_1 hM) (by omega) (by decide) ?_
                refine rx_int _ (T (p + j)) (congrFun hc.1.2.1 (p + j)) ?_
                refine rx_aload_n hE dX8_wordOf_97 (i := 1) rfl rfl ?_
                refine rx_iload hE dX8_wordOf_98 rfl ?_
                refine rx_call0 (rx_callT (av := [.int (nI k)]) hE hi dX8_wordOf_100 lk_X8_42 (c_J0_charAt hi (show k < (tX i).length by omega)) np_J0_charAt_5068e rfl rfl (by decide) (Nat.le_of_ble_eq_true rfl) rfl ?_)
                rintro v M' ⟨rfl, rfl⟩
                refine rx_icmp_ne (tgt := 110) hE dX8_wordOf_103 (by decide) (fun c103 => ?_) (fun c103 => ?_)
                · refine rx_iconst hE dX8_wordOf_110 (v := 0) (by decide) ?_
                  refine rx_istore_5 hE dX8_wordOf_111 (by decide) rfl ?_
                  refine rx_iload hE dX8_wordOf_113 rfl ?_
                  refine rx_if_eq (tgt := 124) hE dX8_wordOf_115 (by decide) (fun c115 => ?_) (fun c115 => absurd rfl c115)
                  refine rx_iconst hE dX8_wordOf_124 (v := -1) (by decide) ?_
                  refine rx_istore_n_3 hE dX8_wordOf_125 (by decide) rfl ?_
                  refine rx_iinc_4 hE dX8_wordOf_126 (v := 1) (by decide) (by decide) rfl ?_
                  rw [nI_1]
                  refine rx_goto (tgt := 17) hE dX8_wordOf_129 (by decide) ?_
                  exact ihm1 (k + 1) w none _ (by omega) (fun _ => by rw [← hR]; exact congrArg _ (if_neg (fun z => c103 z.2)).symm) (fun z => absurd z (by omega)) (fun j z => absurd z (by simp))
                · refine rx_iconst hE dX8_wordOf_106 (v := 1) (by decide) ?_
                  refine rx_goto (tgt := 111) hE dX8_wordOf_107 (by decide) ?_
                  refine rx_istore_5 hE dX8_wordOf_111 (by decide) rfl ?_
                  refine rx_iload hE dX8_wordOf_113 rfl ?_
                  refine rx_if_eq (tgt := 124) hE dX8_wordOf_115 (by decide) (fun c115 => absurd c115 (by decide)) (fun c115 => ?_)
                  refine rx_iload_n hE dX8_wordOf_118 (i := 3) rfl rfl ?_
                  refine rx_iconst hE dX8_wordOf_119 (v := 1) (by decide) ?_
                  refine rx_iadd hE dX8_wordOf_120 ?_
                  refine rx_int _ (nI (j + 1)) (nI_1 j) ?_
                  refine rx_goto (tgt := 125) hE dX8_wordOf_121 (by decide) ?_
                  refine rx_istore_n_3 hE dX8_wordOf_125 (by decide) rfl ?_
                  refine rx_iinc_4 hE dX8_wordOf_126 (v := 1) (by decide) (by decide) rfl ?_
                  rw [nI_1]
                  refine rx_goto (tgt := 17) hE dX8_wordOf_129 (by decide) ?_
                  exact ihm1 (k + 1) w (some (j + 1)) _ (by omega) (fun _ => by rw [← hR]; exact congrArg _ (if_pos ⟨hyj, c103⟩).symm) (fun z => absurd z (by omega)) (fun j' z => by injection z with z; omega)
          · have hR := h1 (by omega)
            rw [drop_gD hkl] at hR
            have hR : (if al = some (trl T N p) then nI w else woL T N p ((tX i).drop (k + 1)) (w + 1) (some 0)) = R := by
              rw [← hR]
              exact (if_pos c43).symm
            refine rx_iload_n hE dX8_wordOf_46 (i := 3) rfl rfl ?_
            refine rx_aload_n hE dX8_wordOf_47 (i := 0) rfl rfl ?_
            refine rx_getf hE dX8_wordOf_48 fl_X8_19_8 (xa_1 hM) rfl ?_
            refine rx_int _ (nI (te T N p)) hc.1.2.2.1 ?_
            refine rx_aload_n hE dX8_wordOf_51 (i := 0) rfl rfl ?_
            refine rx_getf hE dX8_wordOf_52 fl_X8_25_8 (xa_1 hM) rfl ?_
            refine rx_int _ (nI p) hc.2.2.1 ?_
            refine rx_isub hE dX8_wordOf_55 ?_
            refine rx_int _ (nI (te T N p - p)) (nI_mn hte.1) ?_
            refine rx_icmp_ne (tgt := 61) hE dX8_wordOf_56 (by decide) (fun c56 => ?_) (fun c56 => ?_)
            · refine rx_iinc_2 hE dX8_wordOf_61 (v := 1) (by decide) (by decide) rfl ?_
              rw [nI_1]
              refine rx_iconst hE dX8_wordOf_64 (v := 0) (by decide) ?_
              refine rx_istore_n_3 hE dX8_wordOf_65 (by decide) rfl ?_
              refine rx_goto (tgt := 126) hE dX8_wordOf_66 (by decide) ?_
              refine rx_iinc_4 hE dX8_wordOf_126 (v := 1) (by decide) (by decide) rfl ?_
              rw [nI_1]
              refine rx_goto (tgt := 17) hE dX8_wordOf_129 (by decide) ?_
              exact ihm1 (k + 1) (w + 1) (some 0) _ (by omega) (fun _ => by rw [← hR]; exact (if_neg (fun z => c56 (by rw [z, ← htl]; rfl))).symm) (fun z => absurd z (by omega)) (fun j z => by injection z with z; omega)
            · refine rx_iload_n hE dX8_wordOf_59 (i := 2) rfl rfl ?_
              exact rx_iret hE hQ rfl dX8_wordOf_60 ⟨by rw [← hR]; exact congrArg (fun x => some (Value.int x)) (if_pos (by rw [htl]; exact avI_eq (by omega) (fun j z => by have := hj j z; omega) c56)).symm, rfl⟩
    refine rx_iconst hE dX8_wordOf_10 (v := 0) (by decide) ?_
    refine rx_istore_n_2 hE dX8_wordOf_11 (by decide) rfl ?_
    refine rx_iconst hE dX8_wordOf_12 (v := 0) (by decide) ?_
    refine rx_istore_n_3 hE dX8_wordOf_13 (by decide) rfl ?_
    refine rx_iconst hE dX8_wordOf_14 (v := 0) (by decide) ?_
    refine rx_istore_4 hE dX8_wordOf_15 (by decide) rfl ?_
    exact l1 ((tX i).length + 1) 0 0 (some 0) _ (by omega) (fun _ => by rw [← hR0]; rfl) (fun z => absurd z (by omega)) (fun j z => by injection z with z; omega)
  · refine rx_iconst hE dX8_wordOf_8 (v := -1) (by decide) ?_
    exact rx_iret hE hQ rfl dX8_wordOf_9 ⟨by rw [if_neg (fun z => c5 (by rw [z]; rfl))], rfl⟩
section WOP
variable {T : Nat → Int32} {N p : Nat}
def tlO (o : Option (List Int32)) : List Int32 := match o with
  | none => []
  | some bs => 32 :: bs
def rsO (T : Nat → Int32) (N p k : Nat) (o : Option (List Int32)) : Int32 := match o with
  | none => -1
  | some bs => woL T N p bs (k + 1) (some 0)
def wfL (l : List Nat) : List Int32 := l.map (fun d => nI (96 + d))
theorem l_n32 : ∀ d, d ≤ 26 → ¬ nI (96 + d) = 32 := by decide
theorem rsO_s (k : Nat) (bs : List Int32) : rsO T N p k (some bs) = woL T N p bs (k + 1) (some 0) := rfl
theorem rsO_n (k : Nat) : rsO T N p k none = -1 := rfl
theorem woL_end (o : Option (List Int32)) (k : Nat) (al : Option Nat) : woL T N p (tlO o) k al = if al = some (trl T N p) then nI k else rsO T N p k o := by
  cases o with
  | none => rfl
  | some bs => exact if_pos rfl
theorem woL_none (o : Option (List Int32)) (k : Nat) : ∀ (l : List Nat), (∀ d ∈ l, d ≤ 26) → woL T N p (wfL l ++ tlO o) k none = rsO T N p k o
  | [], _ => by
    show woL T N p (tlO o) k none = _
    rw [woL_end, if_neg (by simp)]
  | d :: l, h => by
    show (if nI (96 + d) = 32 then _ else woL T N p (wfL l ++ tlO o) k none) = _
    rw [if_neg (l_n32 d (h d (by simp)))]
    exact woL_none o k l (fun d' hd' => h d' (by simp [hd']))
def mtc (T : Nat → Int32) (N p : Nat) (l : List Nat) (j : Nat) : Prop := trl T N p = j + l.length ∧ ∀ i, i < l.length → T (p + (j + i)) = nI (96 + l.getD i 0)
theorem woL_some (o : Option (List Int32)) (k : Nat) : ∀ (l : List Nat) (j : Nat), (∀ d ∈ l, d ≤ 26) → (mtc T N p l j → woL T N p (wfL l ++ tlO o) k (some j) = nI k) ∧ (¬ mtc T N p l j → woL T N p (wfL l ++ tlO o) k (some j) = rsO T N p k o)
  | [], j, _ => by
    have e : woL T N p (wfL [] ++ tlO o) k (some j) = if some j = some (trl T N p) then nI k else rsO T N p k o := woL_end o k (some j)
    rw [e]
    constructor
    · intro h
      rw [if_pos (by rw [h.1]; rfl)]
    · intro h
      rw [if_neg (fun z => h ⟨by injection z with z; rw [← z]; rfl, fun i hi => absurd hi (Nat.not_lt_zero i)⟩)]
  | d :: l, j, h => by
    have e : woL T N p (wfL (d :: l) ++ tlO o) k (some j) = woL T N p (wfL l ++ tlO o) k (if j < trl T N p ∧ T (p + j) = nI (96 + d) then some (j + 1) else none) := if_neg (l_n32 d (h d (by simp)))
    have hl : ∀ d' ∈ l, d' ≤ 26 := fun d' hd' => h d' (by simp [hd'])
    rw [e]
    by_cases c : j < trl T N p ∧ T (p + j) = nI (96 + d)
    · rw [if_pos c]
      have ih := woL_some o k l (j + 1) hl
      have eq : mtc T N p (d :: l) j ↔ mtc T N p l (j + 1) := by
        unfold mtc
        constructor
        · rintro ⟨h1, h2⟩
          refine ⟨by rw [h1, List.length_cons]; omega, fun i hi => ?_⟩
          have := h2 (i + 1) (by rw [List.length_cons]; omega)
          rw [show j + (i + 1) = j + 1 + i by omega] at this
          simpa using this
        · rintro ⟨h1, h2⟩
          refine ⟨by rw [h1, List.length_cons]; omega, fun i hi => ?_⟩
          cases i with
          | zero => simpa using c.2
          | succ i =>
            have := h2 i (by rw [List.length_cons] at hi; omega)
            rw [show j + 1 + i = j + (i + 1) by omega] at this
            simpa using this
      exact ⟨fun z => ih.1 (eq.mp z), fun z => ih.2 (fun y => z (eq.mpr y))⟩
    · rw [if_neg c, woL_none o k l hl]
      refine ⟨fun z => absurd ⟨?_, ?_⟩ c, fun _ => rfl⟩
      · have := z.1
        rw [List.length_cons] at this
        omega
      · simpa using z.2 0 (by rw [List.length_cons]; omega)
theorem mtc_spl {l : List Nat} : mtc T N p l 0 ↔ spl T N p l := by
  unfold mtc spl
  simp only [Nat.zero_add]
theorem woL_w {c : Int64} {l : List Nat} (hq : ¬ qwd T N p c = 0 ↔ spl T N p l) (hl : ∀ d ∈ l, d ≤ 26) (o : Option (List Int32)) (k : Nat) : woL T N p (wfL l ++ tlO o) k (some 0) = if qwd T N p c = 0 then rsO T N p k o else nI k := by
  have h := woL_some (T := T) (N := N) (p := p) o k l 0 hl
  by_cases e : qwd T N p c = 0
  · rw [if_pos e]
    exact h.2 (fun z => hq.mpr (mtc_spl.mp z) e)
  · rw [if_neg e]
    exact h.1 (mtc_spl.mpr (hq.mp e))
theorem qwd_no {c : Int64} (hp : p ≤ N) (h : ¬ tk T N p = 1) : qwd T N p c = 0 := Classical.byContradiction (fun z => h (wd_te hp z).2.1)
set_option maxRecDepth 20000 in
theorem woT_0 (hp : p ≤ N) : (if tk T N p = 1 then woL T N p (tX 0) 0 (some 0) else -1) = (if qwd T N p 366619534830 = 0 then (if qwd T N p 605220 = 0 then (if qwd T N p 3540584 = 0 then (if qwd T N p 20037189 = 0 then -1 else 3) else 2) else 1) else 0) := by
  by_cases h : tk T N p = 1
  · rw [if_pos h]
    have e : tX 0 = wfL [10, 21, 14, 3, 20, 9, 15, 14] ++ tlO (some (wfL [18, 15, 1, 4] ++ tlO (some (wfL [3, 12, 1, 19, 8] ++ tlO (some (wfL [19, 3, 15, 18, 5] ++ tlO none)))))) := by decide +kernel
    rw [e]
    rw [woL_w (qw_junction hp) (by decide), rsO_s]
    rw [woL_w (qw_road hp) (by decide), rsO_s]
    rw [woL_w (qw_clash hp) (by decide), rsO_s]
    rw [woL_w (qw_score hp) (by decide), rsO_n]
    rfl
  · rw [if_neg h]
    simp only [qwd_no hp h, if_true]
set_option maxRecDepth 20000 in
theorem woT_1 (hp : p ≤ N) : (if tk T N p = 1 then woL T N p (tX 1) 0 (some 0) else -1) = (if qwd T N p 12468 = 0 then -1 else 0) := by
  by_cases h : tk T N p = 1
  · rw [if_pos h]
    have e : tX 1 = wfL [12, 5, 20] ++ tlO none := by decide +kernel
    rw [e]
    rw [woL_w (qw_let hp) (by decide), rsO_n]
    rfl
  · rw [if_neg h]
    simp only [qwd_no hp h, if_true]
set_option maxRecDepth 20000 in
theorem woT_2 (hp : p ≤ N) : (if tk T N p = 1 then woL T N p (tX 2) 0 (some 0) else -1) = (if qwd T N p 294 = 0 then -1 else 0) := by
  by_cases h : tk T N p = 1
  · rw [if_pos h]
    have e : tX 2 = wfL [9, 6] ++ tlO none := by decide +kernel
    rw [e]
    rw [woL_w (qw_if hp) (by decide), rsO_n]
    rfl
  · rw [if_neg h]
    simp only [qwd_no hp h, if_true]
set_option maxRecDepth 20000 in
theorem woT_3 (hp : p ≤ N) : (if tk T N p = 1 then woL T N p (tX 3) 0 (some 0) else -1) = (if qwd T N p 1476 = 0 then (if qwd T N p 498 = 0 then -1 else 1) else 0) := by
  by_cases h : tk T N p = 1
  · rw [if_pos h]
    have e : tX 3 = wfL [1, 14, 4] ++ tlO (some (wfL [15, 18] ++ tlO none)) := by decide +kernel
    rw [e]
    rw [woL_w (qw_and hp) (by decide), rsO_s]
    rw [woL_w (qw_or hp) (by decide), rsO_n]
    rfl
  · rw [if_neg h]
    simp only [qwd_no hp h, if_true]
set_option maxRecDepth 20000 in
theorem woT_4 (hp : p ≤ N) : (if tk T N p = 1 then woL T N p (tX 4) 0 (some 0) else -1) = (if qwd T N p 14836 = 0 then -1 else 0) := by
  by_cases h : tk T N p = 1
  · rw [if_pos h]
    have e : tX 4 = wfL [14, 15, 20] ++ tlO none := by decide +kernel
    rw [e]
    rw [woL_w (qw_not hp) (by decide), rsO_n]
    rfl
  · rw [if_neg h]
    simp only [qwd_no hp h, if_true]
set_option maxRecDepth 20000 in
theorem woT_5 (hp : p ≤ N) : (if tk T N p = 1 then woL T N p (tX 5) 0 (some 0) else -1) = qwh T N p := by
  unfold qwh
  by_cases h : tk T N p = 1
  · rw [if_pos h]
    have e : tX 5 = wfL [18, 15, 1, 4] ++ tlO (some (wfL [23, 1, 9, 20] ++ tlO (some (wfL [5, 22, 5, 18, 25] ++ tlO (some (wfL [16, 1, 18, 20] ++ tlO (some (wfL [19, 3, 15, 18, 5, 4] ++ tlO (some (wfL [12, 5, 20] ++ tlO (some (wfL [19, 15, 21, 14, 4] ++ tlO (some (wfL [19, 9, 14, 3, 5] ++ tlO (some (wfL [23, 5, 14, 20] ++ tlO (some (wfL [1, 12, 12] ++ tlO (some (wfL [2, 5, 1, 20] ++ tlO (some (wfL [8, 15, 21, 18] ++ tlO none)))))))))))))))))))))) := by decide +kernel
    rw [e]
    rw [woL_w (qw_road hp) (by decide), rsO_s]
    rw [woL_w (qw_wait hp) (by decide), rsO_s]
    rw [woL_w (qw_every hp) (by decide), rsO_s]
    rw [woL_w (qw_part hp) (by decide), rsO_s]
    rw [woL_w (qw_scored hp) (by decide), rsO_s]
    rw [woL_w (qw_let hp) (by decide), rsO_s]
    rw [woL_w (qw_sound hp) (by decide), rsO_s]
    rw [woL_w (qw_since hp) (by decide), rsO_s]
    rw [woL_w (qw_went hp) (by decide), rsO_s]
    rw [woL_w (qw_all hp) (by decide), rsO_s]
    rw [woL_w (qw_beat hp) (by decide), rsO_s]
    rw [woL_w (qw_hour hp) (by decide), rsO_n]
    rfl
  · rw [if_neg h]
    simp only [qwd_no hp h, if_true]
end WOP
theorem c_X8_wordJ {n : Nat} {X : gX} {O : gO} {Q : gU} {G : gK} {S : gS} {L : gLg} (hM : 408 ≤ n) {T : Nat → Int32} {N p : Nat} {f : Int32} (hN : N ≤ 400) (hpN : p ≤ N) (hc : ctk (X 1) T N p f) : SX 4 0 0 mX8_wordOf [.ref 17, .ref 3] (xm n X O Q G S L) (fun v M' => v = some (.int ((if qwd T N p 366619534830 = 0 then (if qwd T N p 605220 = 0 then (if qwd T N p 3540584 = 0 then (if qwd T N p 20037189 = 0 then -1 else 3) else 2) else 1) else 0))) ∧ M' = xm n X O Q G S L) := by
  have h := c_X8_wordOf (O := O) (Q := Q) (G := G) (S := S) (L := L) hM hN hpN hc (i := 0) (by decide)
  rw [woT_0 hpN] at h
  exact h
theorem c_X8_wordLet {n : Nat} {X : gX} {O : gO} {Q : gU} {G : gK} {S : gS} {L : gLg} (hM : 408 ≤ n) {T : Nat → Int32} {N p : Nat} {f : Int32} (hN : N ≤ 400) (hpN : p ≤ N) (hc : ctk (X 1) T N p f) : SX 4 0 0 mX8_wordOf [.ref 17, .ref 4] (xm n X O Q G S L) (fun v M' => v = some (.int ((if qwd T N p 12468 = 0 then -1 else 0))) ∧ M' = xm n X O Q G S L) := by
  have h := c_X8_wordOf (O := O) (Q := Q) (G := G) (S := S) (L := L) hM hN hpN hc (i := 1) (by decide)
  rw [woT_1 hpN] at h
  exact h
theorem c_X8_wordIf {n : Nat} {X : gX} {O : gO} {Q : gU} {G : gK} {S : gS} {L : gLg} (hM : 408 ≤ n) {T : Nat → Int32} {N p : Nat} {f : Int32} (hN : N ≤ 400) (hpN : p ≤ N) (hc : ctk (X 1) T N p f) : SX 4 0 0 mX8_wordOf [.ref 17, .ref 5] (xm n X O Q G S L) (fun v M' => v = some (.int ((if qwd T N p 294 = 0 then -1 else 0))) ∧ M' = xm n X O Q G S L) := by
  have h := c_X8_wordOf (O := O) (Q := Q) (G := G) (S := S) (L := L) hM hN hpN hc (i := 2) (by decide)
  rw [woT_2 hpN] at h
  exact h
theorem c_X8_wordAO {n : Nat} {X : gX} {O : gO} {Q : gU} {G : gK} {S : gS} {L : gLg} (hM : 408 ≤ n) {T : Nat → Int32} {N p : Nat} {f : Int32} (hN : N ≤ 400) (hpN : p ≤ N) (hc : ctk (X 1) T N p f) : SX 4 0 0 mX8_wordOf [.ref 17, .ref 6] (xm n X O Q G S L) (fun v M' => v = some (.int ((if qwd T N p 1476 = 0 then (if qwd T N p 498 = 0 then -1 else 1) else 0))) ∧ M' = xm n X O Q G S L) := by
  have h := c_X8_wordOf (O := O) (Q := Q) (G := G) (S := S) (L := L) hM hN hpN hc (i := 3) (by decide)
  rw [woT_3 hpN] at h
  exact h
theorem c_X8_wordNot {n : Nat} {X : gX} {O : gO} {Q : gU} {G : gK} {S : gS} {L : gLg} (hM : 408 ≤ n) {T : Nat → Int32} {N p : Nat} {f : Int32} (hN : N ≤ 400) (hpN : p ≤ N) (hc : ctk (X 1) T N p f) : SX 4 0 0 mX8_wordOf [.ref 17, .ref 7] (xm n X O Q G S L) (fun v M' => v = some (.int ((if qwd T N p 14836 = 0 then -1 else 0))) ∧ M' = xm n X O Q G S L) := by
  have h := c_X8_wordOf (O := O) (Q := Q) (G := G) (S := S) (L := L) hM hN hpN hc (i := 4) (by decide)
  rw [woT_4 hpN] at h
  exact h
theorem c_X8_wordW {n : Nat} {X : gX} {O : gO} {Q : gU} {G : gK} {S : gS} {L : gLg} (hM : 408 ≤ n) {T : Nat → Int32} {N p : Nat} {f : Int32} (hN : N ≤ 400) (hpN : p ≤ N) (hc : ctk (X 1) T N p f) : SX 4 0 0 mX8_wordOf [.ref 17, .ref 8] (xm n X O Q G S L) (fun v M' => v = some (.int (qwh T N p)) ∧ M' = xm n X O Q G S L) := by
  have h := c_X8_wordOf (O := O) (Q := Q) (G := G) (S := S) (L := L) hM hN hpN hc (i := 5) (by decide)
  rw [woT_5 hpN] at h
  exact h
