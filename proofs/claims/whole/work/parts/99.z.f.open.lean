/-! ===== the open row ===== -/
def kop (S : gS) (O : List Nat) : Prop := S 0 16 = nI O.length ∧ (∀ j x, O.reverse[j]? = some x → S 7 j = nI x) ∧ S 0 13 = nI (dpO O) ∧ ∀ x ∈ O, x = 91 ∨ x = 11 ∨ x = 12 ∨ x = 13
def kft (t : Nat) (S S' : gS) : Prop := (∀ k, k ≠ 0 → k ≠ 2 → k ≠ 3 → k ≠ 7 → S' k = S k) ∧ (∀ i, i ≠ 8 → i ≠ 9 → i ≠ 10 → i ≠ 12 → i ≠ 13 → i ≠ 16 → S' 0 i = S 0 i) ∧ ∀ i, i < 400 * t → S' 2 i = S 2 i
theorem kft.refl (t : Nat) (S : gS) : kft t S S := ⟨fun _ _ _ _ _ => rfl, fun _ _ _ _ _ _ _ => rfl, fun _ _ => rfl⟩
theorem kft.trans {t : Nat} {S S' S'' : gS} (h : kft t S S') (h' : kft t S' S'') : kft t S S'' := ⟨fun k a b c d => (h'.1 k a b c d).trans (h.1 k a b c d), fun i a b c d e f => (h'.2.1 i a b c d e f).trans (h.2.1 i a b c d e f), fun i a => (h'.2.2 i a).trans (h.2.2 i a)⟩
theorem kfr.t {t : Nat} {S S' : gS} (h : kfr t S S') : kft t S S' := ⟨fun k a b c _ => h.1 k a b c, fun i a b c d _ _ => h.2.1 i a b c d, h.2.2⟩
theorem kft.f (t : Nat) (S : gS) {i : Nat} (hi : i = 8 ∨ i = 9 ∨ i = 10 ∨ i = 12 ∨ i = 13 ∨ i = 16) (v : Int32) : kft t S (k_f S i v) := ⟨fun k a _ _ _ => kf_row v a, fun j a b c d e f => kf_ne v (by omega), fun _ _ => by rw [kf_row v (by decide)]⟩
theorem kft.s7 (t : Nat) (S : gS) (v : Nat → Int32) : kft t S (k_s S 7 v) := ⟨fun k a b c d => if_neg d, fun i _ _ _ _ _ _ => rfl, fun _ _ => rfl⟩
theorem kop.fr {t : Nat} {S S' : gS} {O : List Nat} (h : kop S O) (f : kfr t S S') : kop S' O := by
  refine ⟨(f.2.1 16 (by decide) (by decide) (by decide) (by decide)).trans h.1, fun j x hj => ?_, (f.2.1 13 (by decide) (by decide) (by decide) (by decide)).trans h.2.2.1, h.2.2.2⟩
  rw [f.1 7 (by decide) (by decide) (by decide)]
  exact h.2.1 j x hj
theorem kq1.f {S : gS} {T : Nat → Int32} {N t q c : Nat} {l : gSg} (h : kq1 S T N t q c l) {i : Nat} (hi : i = 13 ∨ i = 16) (v : Int32) : kq1 (k_f S i v) T N t q c l := by
  rcases hi with rfl | rfl <;> exact ⟨h.1, h.2.1, h.2.2.1, h.2.2.2.1, h.2.2.2.2.1, h.2.2.2.2.2.1, h.2.2.2.2.2.2⟩
theorem kq1.s7 {S : gS} {T : Nat → Int32} {N t q c : Nat} {l : gSg} (h : kq1 S T N t q c l) (v : Nat → Int32) : kq1 (k_s S 7 v) T N t q c l := h
theorem kop_top {S : gS} {x : Nat} {O : List Nat} (h : kop S (x :: O)) : S 7 O.length = nI x := by
  refine h.2.1 O.length x ?_
  rw [List.reverse_cons, List.getElem?_append_right (by rw [List.length_reverse]; exact Nat.le_refl _), List.length_reverse, Nat.sub_self]
  rfl
theorem kop_pop {S S' : gS} {x : Nat} {O : List Nat} (h : kop S (x :: O)) (h7 : S' 7 = S 7) (h16 : S' 0 16 = nI O.length) (h13 : S' 0 13 = nI (dpO O)) : kop S' O := by
  refine ⟨h16, fun j y hj => ?_, h13, fun y hy => h.2.2.2 y (List.mem_cons_of_mem _ hy)⟩
  rw [h7]
  refine h.2.1 j y ?_
  have hl := (List.getElem?_eq_some_iff.mp hj).1
  rw [List.reverse_cons, List.getElem?_append_left hl]
  exact hj
theorem kop_push {S S' : gS} {x : Nat} {O : List Nat} (h : kop S O) (hx : x = 91 ∨ x = 11 ∨ x = 12 ∨ x = 13) (h7 : S' 7 = upd (S 7) O.length (nI x)) (h16 : S' 0 16 = nI (O.length + 1)) (h13 : S' 0 13 = nI (dpO (x :: O))) : kop S' (x :: O) := by
  refine ⟨h16, fun j y hj => ?_, h13, fun y hy => ?_⟩
  · rw [h7]
    unfold upd
    rw [List.reverse_cons] at hj
    by_cases e : j = O.length
    · subst e
      rw [if_pos rfl]
      rw [List.getElem?_append_right (by rw [List.length_reverse]; exact Nat.le_refl _), List.length_reverse, Nat.sub_self] at hj
      exact congrArg nI (Option.some.inj hj)
    · rw [if_neg e]
      have hl := (List.getElem?_eq_some_iff.mp hj).1
      rw [List.length_append, List.length_reverse] at hl
      have hl2 : j < O.reverse.length := by
        have : [x].length = 1 := rfl
        rw [List.length_reverse]
        omega
      rw [List.getElem?_append_left hl2] at hj
      exact h.2.1 j y hj
  · rcases List.mem_cons.mp hy with e | e
    · rw [e]; exact hx
    · exact h.2.2.2 y e
theorem qst_nI {x : Nat} (h : x = 91 ∨ x = 11 ∨ x = 12 ∨ x = 13) : qst (nI x) = nI (stN x) := by
  rcases h with rfl | rfl | rfl | rfl <;> decide
theorem stN_le (x : Nat) : stN x ≤ 3 := by
  unfold stN
  split
  · decide
  · split
    · decide
    · split <;> decide
theorem ly_len (k : Nat) : ∀ O : List Nat, (lyL k O).length + (lyR k O).length = O.length
  | [] => rfl
  | s :: O => by
    unfold lyL lyR
    by_cases h : k ≤ stN s
    · rw [if_pos h, if_pos h, List.length_cons, List.length_cons, ← ly_len k O]
      omega
    · rw [if_neg h, if_neg h]
      show 0 + _ = _
      omega
theorem ly_mem {k : Nat} (hk : 1 ≤ k) : ∀ O : List Nat, 91 ∈ lyR k O ↔ 91 ∈ O
  | [] => Iff.rfl
  | s :: O => by
    unfold lyR
    by_cases h : k ≤ stN s
    · rw [if_pos h, ly_mem hk O, List.mem_cons]
      refine ⟨Or.inr, fun z => ?_⟩
      rcases z with z | z
      · rw [← z] at h
        exact absurd h (by have : stN 91 = 0 := rfl; omega)
      · exact z
    · rw [if_neg h]
theorem ly_dp {k : Nat} : ∀ O : List Nat, dpO (lyR k O) ≤ dpO O
  | [] => Nat.le_refl _
  | s :: O => by
    unfold lyR
    by_cases h : k ≤ stN s
    · rw [if_pos h]
      exact Nat.le_trans (ly_dp O) (Nat.le_add_left _ _)
    · rw [if_neg h]
      exact Nat.le_refl _
theorem ly3_id : ∀ O : List Nat, lyL 3 (lyR 3 O) = [] ∧ lyR 3 (lyR 3 O) = lyR 3 O
  | [] => ⟨rfl, rfl⟩
  | s :: O => by
    by_cases h : 3 ≤ stN s
    · rw [show lyR 3 (s :: O) = lyR 3 O from if_pos h]
      exact ly3_id O
    · rw [show lyR 3 (s :: O) = s :: O from if_neg h]
      exact ⟨if_neg h, if_neg h⟩
theorem ly1_91 : ∀ O : List Nat, (∀ x ∈ O, x = 91 ∨ x = 11 ∨ x = 12 ∨ x = 13) → 91 ∈ O → ∃ O2, lyR 1 O = 91 :: O2
  | [], _, h => absurd h (by simp)
  | s :: O, hs, h => by
    rcases hs s (by simp) with rfl | rfl | rfl | rfl
    · exact ⟨O, rfl⟩
    all_goals
      refine ly1_91 O (fun x hx => hs x (List.mem_cons_of_mem _ hx)) ?_
      rcases List.mem_cons.mp h with z | z
      · exact absurd z (by decide)
      · exact z
theorem mt_ly3 {T : Nat → Int32} {N m p c : Nat} {O : List Nat} {l : gSg} {r : gRs} (h : mtR T N m true O p l c r) : mtR T N m true (lyR 3 O) p (l ++ lyL 3 O) c r := by
  cases m with
  | zero => exact h
  | succ m =>
    have e := ly3_id O
    have e3 := ly_mem (k := 3) (by decide) O
    unfold mtR at h ⊢
    rw [e.1, e.2, List.append_nil, e3]
    exact h
theorem qin_is (f : Nat → Int32) : ∀ (m k : Nat), (qinF f m k = 1 ∧ ∃ j, k ≤ j ∧ j < k + m ∧ f j = 91) ∨ (qinF f m k = 0 ∧ ∀ j, k ≤ j → j < k + m → ¬ f j = 91)
  | 0, k => Or.inr ⟨rfl, fun j a b => absurd b (by omega)⟩
  | m + 1, k => by
    unfold qinF
    by_cases h : f k = 91
    · rw [if_pos h]
      exact Or.inl ⟨rfl, k, Nat.le_refl _, by omega, h⟩
    · rw [if_neg h]
      rcases qin_is f m (k + 1) with ⟨e, j, a, b, d⟩ | ⟨e, d⟩
      · exact Or.inl ⟨e, j, by omega, by omega, d⟩
      · refine Or.inr ⟨e, fun j a b => ?_⟩
        by_cases z : j = k
        · rw [z]; exact h
        · exact d j (by omega) (by omega)
theorem kop_in {S : gS} {O : List Nat} (h : kop S O) : qinF (S 7) O.length 0 = if 91 ∈ O then 1 else 0 := by
  have h0 : ∀ j, j < O.length → ∃ x, x ∈ O ∧ O.reverse[j]? = some x ∧ S 7 j = nI x := fun j hj => by
    have hj2 : j < O.reverse.length := by rw [List.length_reverse]; exact hj
    refine ⟨O.reverse[j], List.mem_reverse.mp (List.getElem_mem hj2), List.getElem?_eq_getElem hj2, h.2.1 j _ (List.getElem?_eq_getElem hj2)⟩
  have hlt : ∀ x ∈ O, x < 100 := fun x hx => by have := h.2.2.2 x hx; omega
  rcases qin_is (S 7) O.length 0 with ⟨e, j, a, b, d⟩ | ⟨e, d⟩
  · rw [e]
    obtain ⟨x, hx, _, h3⟩ := h0 j (by omega)
    rw [h3] at d
    have hx91 : x = 91 := nI_inj (by have := hlt x hx; omega) (by decide) d
    rw [if_pos (by rw [← hx91]; exact hx)]
  · rw [e, if_neg]
    intro hm
    obtain ⟨j, hj, he⟩ := List.getElem_of_mem (List.mem_reverse.mpr hm)
    have hj2 : j < O.length := by rw [List.length_reverse] at hj; exact hj
    refine d j (by omega) (by omega) ?_
    rw [h.2.1 j 91 (by rw [List.getElem?_eq_getElem hj, he])]
    rfl
theorem c_X11_insideQ {M : gM} {S : gS} {L : gLg} {O : List Nat} (hM : 408 ≤ M.1) (h : kop S O) (hl : O.length ≤ 400) : SX 0 0 0 mX11_isInside [.ref 384] (kp M S L) (fun v M' => v = some (.int (if 91 ∈ O then 1 else 0)) ∧ M' = kp M S L) := by
  have c := c_X11_isInside (M := M) (L := L) hM hl h.1
  rw [kop_in h] at c
  exact c
set_option maxRecDepth 100000 in
set_option maxHeartbeats 1000000 in
theorem c_X11_layDown {M : gM} {S : gS} {L : gLg} (hM : 408 ≤ M.1) {T : Nat → Int32} {N t q c : Nat} {l : gSg} (ht : t < 6) (hq : kq1 S T N t q c l) {O0 : List Nat} {k : Nat} (hk1 : 1 ≤ k) (hk3 : k ≤ 3) (ho0 : kop S O0) (hl0 : l.length + O0.length < 400) : SX 1 0 0 mX11_layDown [.ref 384, .int (nI k)] (kp M S L) (fun v M' => v = none ∧ ∃ S', M' = kp M S' L ∧ kft t S S' ∧ kq1 S' T N t q c (l ++ lyL k O0) ∧ kop S' (lyR k O0)) := by
  refine SX.intro [some (.ref 384), some (.int (nI k))] (by decide +kernel) (Nat.le_of_ble_eq_true rfl) rfl (fun E hE hQ => ?_)
  have l1 : ∀ (O : List Nat) (S1 : gS) (l1 : gSg), kft t S S1 → kq1 S1 T N t q c l1 → kop S1 O → l1.length + O.length < 400 → l1 ++ lyL k O = l ++ lyL k O0 → lyR k O = lyR k O0 → RX E mX11_layDown.2.2.1 0 0 0 [some (.ref 384), some (.int (nI k))] [] (kp M S1 L) := by
    intro O
    induction O with
    | nil =>
      intro S1 l1 fx q1 ho hl1 hE1 hE2
      rw [show lyL k [] = [] from rfl, List.append_nil] at hE1
      rw [show lyR k [] = [] from rfl] at hE2
      refine rx_aload_n hE dX11_layDown_0 (i := 0) rfl rfl ?_
      refine rx_getf hE dX11_layDown_1 fl_X11_167_10 (kp_o hM) rfl ?_
      refine rx_int _ (nI 0) ho.1 ?_
      refine rx_if_le (tgt := 76) hE dX11_layDown_4 (by decide) (fun c4 => ?_) (fun c4 => absurd (show nI 0 ≤ 0 by decide) c4)
      exact rx_vret hE hQ rfl dX11_layDown_76 ⟨rfl, S1, rfl, fx, hE1 ▸ q1, hE2 ▸ ho⟩
    | cons x O ih =>
      intro S1 l1 fx q1 ho hl1 hE1 hE2
      have hxs := ho.2.2.2 x (by simp)
      refine rx_aload_n hE dX11_layDown_0 (i := 0) rfl rfl ?_
      refine rx_getf hE dX11_layDown_1 fl_X11_167_10 (kp_o hM) rfl ?_
      refine rx_int _ (nI (x :: O).length) ho.1 ?_
      refine rx_if_le (tgt := 76) hE dX11_layDown_4 (by decide) (fun c4 => absurd c4 (fun z => absurd ((nI_le0 (by rw [List.length_cons] at hl1 ⊢; omega)).mp z) (by rw [List.length_cons]; omega))) (fun c4 => ?_)
      refine rx_aload_n hE dX11_layDown_7 (i := 0) rfl rfl ?_
      refine rx_getf hE dX11_layDown_8 fl_X11_29_10 (kp_o hM) rfl ?_
      refine rx_aload_n hE dX11_layDown_11 (i := 0) rfl rfl ?_
      refine rx_getf hE dX11_layDown_12 fl_X11_167_10 (kp_o hM) rfl ?_
      refine rx_int _ (nI (x :: O).length) ho.1 ?_
      refine rx_iconst hE dX11_layDown_15 (v := 1) (by decide) ?_
      refine rx_isub hE dX11_layDown_16 ?_
      refine rx_int _ (nI O.length) (by rw [List.length_cons, ← nI_1, Int32.add_sub_cancel]) ?_
      refine rx_ialdN (i := O.length) hE dX11_layDown_17 (kp_7 hM) (by rw [List.length_cons] at hl1; omega) (by decide) ?_
      refine rx_int _ (nI x) (kop_top ho) ?_
      refine rx_call0 (rx_callS (av := [.int (nI x)]) hE dX11_layDown_18 lk_X11_170 (c_X11_strength (nI x)) np_X11_strength rfl rfl (by decide) (Nat.le_of_ble_eq_true rfl) rfl ?_)
      rintro v M' ⟨rfl, rfl⟩
      refine rx_int _ (nI (stN x)) (qst_nI hxs) ?_
      refine rx_iload_n hE dX11_layDown_21 (i := 1) rfl rfl ?_
      refine rx_icmp_lt (tgt := 76) hE dX11_layDown_22 (by decide) (fun c22 => ?_) (fun c22 => ?_)
      · have hk : ¬ k ≤ stN x := fun z => absurd c22 (Int32.not_lt.mpr (nI_le (a := k) (b := stN x) z (by have := stN_le x; omega)))
        exact rx_vret hE hQ rfl dX11_layDown_76 ⟨rfl, S1, rfl, fx, by rw [← hE1, show lyL k (x :: O) = [] from if_neg hk, List.append_nil]; exact q1, by rw [← hE2, show lyR k (x :: O) = x :: O from if_neg hk]; exact ho⟩
      · have hk : k ≤ stN x := Classical.byContradiction (fun z => c22 (nI_lt (a := stN x) (b := k) (by omega) (by omega)))
        refine rx_aload_n hE dX11_layDown_25 (i := 0) rfl rfl ?_
        refine rx_dup hE dX11_layDown_26 rfl ?_
        refine rx_getf hE dX11_layDown_27 fl_X11_167_10 (kp_o hM) rfl ?_
        refine rx_int _ (nI (x :: O).length) ho.1 ?_
        refine rx_iconst hE dX11_layDown_30 (v := 1) (by decide) ?_
        refine rx_isub hE dX11_layDown_31 ?_
        refine rx_int _ (nI O.length) (by rw [List.length_cons, ← nI_1, Int32.add_sub_cancel]) ?_
        refine rx_put hE dX11_layDown_32 fl_X11_167_10 fw_10_16 (kp_o hM) (fun _ => rfl) (fun _ => rfl) (Nat.le_of_ble_eq_true rfl) ?_
        refine rx_mem (M' := kp M (k_f S1 16 (nI O.length)) L) kw_c16 ?_
        refine rx_aload_n hE dX11_layDown_35 (i := 0) rfl rfl ?_
        refine rx_aload_n hE dX11_layDown_36 (i := 0) rfl rfl ?_
        refine rx_getf hE dX11_layDown_37 fl_X11_29_10 (kp_o hM) rfl ?_
        refine rx_aload_n hE dX11_layDown_40 (i := 0) rfl rfl ?_
        refine rx_getf hE dX11_layDown_41 fl_X11_167_10 (kp_o hM) rfl ?_
        refine rx_int _ (nI O.length) rfl ?_
        refine rx_ialdN (i := O.length) hE dX11_layDown_44 (kp_7 hM) (by rw [List.length_cons] at hl1; omega) (by decide) ?_
        refine rx_int _ (nI x) ((congrFun (kf_row (S := S1) (i := 16) (nI O.length) (k := 7) (by decide)) _).trans (kop_top ho)) ?_
        refine rx_iconst hE dX11_layDown_45 (v := 0) (by decide) ?_
        refine rx_call0 (rx_callV (av := [.int (nI x), .int (nI 0)]) hE dX11_layDown_46 lk_X11_174 (c_X11_putsQ (S := (k_f S1 16 (nI O.length))) hM ht (q1.f (Or.inr rfl) _) (by rw [List.length_cons] at hl1; omega) x 0) (kp_o hM) np_X11_puts rfl rfl (by decide) (Nat.le_of_ble_eq_true rfl) rfl ?_)
        rintro v M' ⟨rfl, S2, rfl, f2, q2⟩
        refine rx_aload_n hE dX11_layDown_49 (i := 0) rfl rfl ?_
        refine rx_getf hE dX11_layDown_50 fl_X11_29_10 (kp_o hM) rfl ?_
        refine rx_aload_n hE dX11_layDown_53 (i := 0) rfl rfl ?_
        refine rx_getf hE dX11_layDown_54 fl_X11_167_10 (kp_o hM) rfl ?_
        refine rx_int _ (nI O.length) ((f2.2.1 16 (by decide) (by decide) (by decide) (by decide)).trans rfl) ?_
        refine rx_ialdN (i := O.length) hE dX11_layDown_57 (kp_7 hM) (by rw [List.length_cons] at hl1; omega) (by decide) ?_
        refine rx_int _ (nI x) ((congrFun (f2.1 7 (by decide) (by decide) (by decide)) _).trans ((congrFun (kf_row (S := S1) (i := 16) (nI O.length) (k := 7) (by decide)) _).trans (kop_top ho))) ?_
        refine rx_bipush hE dX11_layDown_58 (v := 11) (by decide) ?_
        refine rx_icmp_ne (tgt := 0) hE dX11_layDown_60 (by decide) (fun c60 => ?_) (fun c60 => ?_)
        · have hx11 : ¬ x = 11 := fun z => c60 (by rw [z]; rfl)
          exact ih S2 (l1 ++ [(x, 0)]) (fx.trans ((kft.f t _ (by omega) _).trans f2.t)) q2 (kop_pop ho (by rw [f2.1 7 (by decide) (by decide) (by decide)]; rfl) (f2.2.1 16 (by decide) (by decide) (by decide) (by decide)) ((f2.2.1 13 (by decide) (by decide) (by decide) (by decide)).trans (ho.2.2.1.trans (by show nI ((if x = 91 ∨ x = 11 then 1 else 0) + dpO O) = _; rw [if_neg (by have h91 : stN 91 = 0 := rfl; intro z; exact z.elim (fun z => by rw [z] at hk; omega) hx11), Nat.zero_add])))) (by rw [List.length_append, List.length_cons, List.length_nil]; rw [List.length_cons] at hl1; omega) (by rw [← hE1, show lyL k (x :: O) = (x, 0) :: lyL k O from if_pos hk]; simp only [List.append_assoc, List.cons_append, List.nil_append]) (by rw [← hE2, show lyR k (x :: O) = lyR k O from if_pos hk])
        · have hx11 : x = 11 := nI_inj (by omega) (by decide) c60
          refine rx_aload_n hE dX11_layDown_63 (i := 0) rfl rfl ?_
          refine rx_dup hE dX11_layDown_64 rfl ?_
          refine rx_getf hE dX11_layDown_65 fl_X11_164_10 (kp_o hM) rfl ?_
          refine rx_int _ (nI (dpO O + 1)) ((f2.2.1 13 (by decide) (by decide) (by decide) (by decide)).trans (ho.2.2.1.trans (by rw [hx11]; show nI (1 + dpO O) = _; rw [Nat.add_comm]))) ?_
          refine rx_iconst hE dX11_layDown_68 (v := 1) (by decide) ?_
          refine rx_isub hE dX11_layDown_69 ?_
          refine rx_int _ (nI (dpO O)) (sA_eq _) ?_
          refine rx_put hE dX11_layDown_70 fl_X11_164_10 fw_10_13 (kp_o hM) (fun _ => rfl) (fun _ => rfl) (Nat.le_of_ble_eq_true rfl) ?_
          refine rx_mem (M' := kp M (k_f S2 13 (nI (dpO O))) L) kw_c13 ?_
          refine rx_goto (tgt := 0) hE dX11_layDown_73 (by decide) ?_
          exact ih (k_f S2 13 (nI (dpO O))) (l1 ++ [(x, 0)]) (fx.trans ((kft.f t _ (by omega) _).trans (f2.t.trans (kft.f t _ (by omega) _)))) (q2.f (Or.inl rfl) _) (kop_pop ho (by rw [kf_row _ (by decide), f2.1 7 (by decide) (by decide) (by decide)]; rfl) ((kf_ne _ (by decide)).trans (f2.2.1 16 (by decide) (by decide) (by decide) (by decide))) rfl) (by rw [List.length_append, List.length_cons, List.length_nil]; rw [List.length_cons] at hl1; omega) (by rw [← hE1, show lyL k (x :: O) = (x, 0) :: lyL k O from if_pos hk]; simp only [List.append_assoc, List.cons_append, List.nil_append]) (by rw [← hE2, show lyR k (x :: O) = lyR k O from if_pos hk])
  exact l1 O0 S l (kft.refl t S) hq ho0 hl0 rfl rfl
