def jdy (J1 J : gJn) : Prop := (∀ f, f ≠ 1 → f ≠ 3 → f ≠ 7 → f ≠ 9 → J1 f = J f) ∧ J1 9 3 = J 9 3 ∧ J1 9 4 = J 9 4
theorem jst.back2 {J J' J1 : gJn} (h : jst J' J1) (hd : jdy J1 J) (g : Nat → Int32) : jback (j_s J' 7 g) J = j_s J1 7 g := by
  funext f
  unfold jback
  by_cases a9 : f = 9
  · subst a9
    rw [if_pos rfl]
    funext i
    show (if i = 3 ∨ i = 4 then J 9 i else J' 9 i) = J1 9 i
    by_cases hi : i = 3 ∨ i = 4
    · rw [if_pos hi]
      rcases hi with rfl | rfl
      · exact hd.2.1.symm
      · exact hd.2.2.symm
    · rw [if_neg hi, h.2.2 i (by omega) (by omega)]
  · rw [if_neg a9]
    by_cases a7 : f = 7
    · subst a7
      rw [if_pos (by decide)]
      rfl
    · have e : (j_s J1 7 g) f = J1 f := if_neg a7
      rw [e]
      by_cases a1 : f = 1 ∨ f = 3 ∨ f = 7
      · rw [if_pos a1]
        rcases a1 with rfl | rfl | rfl
        · exact h.1
        · exact h.2.1
        · exact absurd rfl a7
      · rw [if_neg a1]
        exact (hd.1 f (by omega) (by omega) a7 a9).symm
theorem j_c_c (J : gJn) (c : Nat) (v v' : Int32) : j_c (j_c J c v) c v' = j_c J c v' := by
  funext f
  unfold j_c
  by_cases h : f = 9
  · rw [if_pos h, if_pos h]
    show upd (upd (J 9) c v) c v' = _
    funext i
    unfold upd
    split <;> rfl
  · rw [if_neg h, if_neg h, if_neg h]
theorem j_c_id (J : gJn) (c : Nat) : j_c J c (J 9 c) = J := by
  funext f
  unfold j_c
  by_cases h : f = 9
  · subst h
    rw [if_pos rfl]
    funext i
    unfold upd
    split
    · next h => rw [h]
    · rfl
  · rw [if_neg h]
theorem jfit.c1 {J : gJn} (h : jfit J) {q : Nat} (h0 : 0 < q) (h9 : q ≤ 9) : jfit (j_c J 1 (nI q)) := ⟨h.1, ⟨q, h0, h9, rfl⟩, h.2.2⟩
theorem jfit.c5 {J : gJn} (h : jfit J) (v : Int32) : jfit (j_c J 5 v) := h
theorem jfit.s8 {J : gJn} (h : jfit J) (v : Nat → Int32) : jfit (j_s J 8 v) := h
def qnc (t : gJn → Nat → Int32 → Bool) (R : Nat) : Nat → gJn → Int32 → Int32
  | 0, _, is => is
  | n + 1, J, is => qnc t R n (jone t J) (if is = 0 then 0 else if jcrF (jone t J) 0 R = 0 then 1 else 0)
def qlr (t : gJn → Nat → Int32 → Bool) (R N : Nat) (J : gJn) : Nat → Nat → Int32
  | _, 0 => -2
  | q, m + 1 => if qnc t R N (j_c J 1 (nI q)) 1 = 0 then qlr t R N J (q + 1) m else nI q
def q_leastRoom (t : gJn → Nat → Int32 → Bool) (J : gJn) (n : Int32) : Int32 := if j_isTold J = 0 ∨ q_in n 1 60 = 0 then -1 else qlr t (jR J) n.toNatClampNeg J 1 9
theorem jcrF_s7 (J : gJn) (g : Nat → Int32) : ∀ (n k : Nat), jcrF (j_s J 7 g) k n = jcrF J k n
  | 0, _ => rfl
  | n + 1, k => by
    show (if J 0 k ≤ 20 then jcrF (j_s J 7 g) (k + 1) n else 1) = (if J 0 k ≤ 20 then jcrF J (k + 1) n else 1)
    rw [jcrF_s7 J g n]
set_option maxRecDepth 100000 in
set_option maxHeartbeats 4000000 in
theorem c_X11_leastRoom {M : gM} {S : gS} {L : gLg} {J : gJn} {g : Nat → Int32} (hM : 408 ≤ M.1) {t : gJn → Nat → Int32 → Bool} (hk : kok S J t) (n : Int32) : SX 7 0 0 mX11_leastRoom [.ref 384, .int n] (kp M (kput S (j_s J 7 g)) L) (fun v M' => v = some (.int (q_leastRoom t J n)) ∧ kD M S J M') := by
  refine SX.intro [some (.ref 384), some (.int n), none, none, none, none, none] (by decide +kernel) (Nat.le_of_ble_eq_true rfl) rfl (fun E hE hQ => ?_)
  refine rx_aload_n hE dX11_leastRoom_0 (i := 0) rfl rfl ?_
  refine rx_call0 (rx_callV (av := []) hE dX11_leastRoom_1 lk_X11_294 (c_X11_isJunction hM) (kp_o hM) np_X11_isJunction rfl rfl (by decide) (Nat.le_of_ble_eq_true rfl) rfl ?_)
  rintro v M' ⟨rfl, rfl⟩
  refine rx_int _ (j_isTold J) hk.isJ ?_
  refine rx_if_eq (tgt := 19) hE dX11_leastRoom_4 (by decide) (fun c4 => ?_) (fun c4 => ?_)
  · refine rx_iconst hE dX11_leastRoom_19 (v := -1) (by decide) ?_
    exact rx_iret hE hQ rfl dX11_leastRoom_20 ⟨by simp [q_leastRoom, *], kD.refl M S L J g⟩
  · refine rx_iload_n hE dX11_leastRoom_7 (i := 1) rfl rfl ?_
    refine rx_i2l hE dX11_leastRoom_8 ?_
    refine rx_lconst hE dX11_leastRoom_9 (v := 1) (by decide) ?_
    refine rx_ldc2 hE dX11_leastRoom_10 kl_X11_419 ?_
    refine rx_call0 (rx_callS (av := [.long _, .long _, .long _]) hE dX11_leastRoom_13 lk_X11_130 (c_X11_in _ _ _) np_X11_in rfl rfl (by decide) (Nat.le_of_ble_eq_true rfl) rfl ?_)
    rintro v M' ⟨rfl, rfl⟩
    refine rx_int _ (q_in _ (1) (60)) (k_in_eq _ _ _ (by decide) (by decide)) ?_
    refine rx_if_ne (tgt := 21) hE dX11_leastRoom_16 (by decide) (fun c16 => ?_) (fun c16 => ?_)
    · have hg : ¬ (j_isTold J = 0 ∨ q_in n 1 60 = 0) := by simp [*]
      obtain ⟨hb, hf, hT9⟩ := hk.told c4
      obtain ⟨N, hN0, hN, rfl⟩ := q_in_of (a := 1) (b := 60) (by decide) c16
      have hr6 := hf.1.2.1
      have fin : ∀ (S' : gS) (L' : gLg) (g' : Nat → Int32) (m ans x : Int32) (l5 l6 : Option Value), kq S S' → some (Value.int ans) = some (Value.int (qlr t (jR J) N J 1 9)) → RX E mX11_leastRoom.2.2.1 0 0 117 [some (.ref 384), some (.int (nI N)), some (.int (J 9 1)), some (.int ans), some (.int x), l5, l6] [] (kp M (kput S' (j_s (j_c J 1 m) 7 g')) L') := by
        intro S' L' g' m ans x l5 l6 hz hv
        have hv : some (Value.int ans) = some (Value.int (q_leastRoom t J (nI N))) := by rw [hv]; unfold q_leastRoom; rw [if_neg hg, nI_clamp (n := N) (by omega)]
        refine rx_aload_n hE dX11_leastRoom_117 (i := 0) rfl rfl ?_
        refine rx_getf hE dX11_leastRoom_118 fl_X11_39_10 (kp_o hM) rfl ?_
        refine rx_iconst hE dX11_leastRoom_121 (v := 2) (by decide) ?_
        refine rx_iload_n hE dX11_leastRoom_122 (i := 2) rfl rfl ?_
        refine rx_iastN (i := 2) hE dX11_leastRoom_123 (kp_10 hM) (by omega) (by decide) ?_
        refine rx_mem (M' := kp M (kput S' (j_s J 7 g')) L') (by rw [kx_c 2 1 (by decide), j_c_s7, j_c_c, j_c_id]) ?_
        refine rx_iload_n hE dX11_leastRoom_124 (i := 3) rfl rfl ?_
        exact rx_iret hE hQ rfl dX11_leastRoom_125 ⟨hv, S', L', g', rfl, hz⟩
      have outer : ∀ (n q : Nat) (S' : gS) (L' : gLg) (g' : Nat → Int32) (m : Int32) (l5 l6 : Option Value), q + n = 10 → 0 < q → kz S t J S' → qlr t (jR J) N J q n = qlr t (jR J) N J 1 9 → RX E mX11_leastRoom.2.2.1 0 0 38 [some (.ref 384), some (.int (nI N)), some (.int (J 9 1)), some (.int (-2)), some (.int (nI q)), l5, l6] [] (kp M (kput S' (j_s (j_c J 1 m) 7 g')) L') := by
        intro n
        induction n with
        | zero =>
          intro q S' L' g' m l5 l6 hk2 hq0 hz hQ0
          refine rx_iload hE dX11_leastRoom_38 rfl ?_
          refine rx_bipush hE dX11_leastRoom_40 (v := 9) (by decide) ?_
          refine rx_icmp_gt (tgt := 117) hE dX11_leastRoom_42 (by decide) (fun c42 => ?_) (fun c42 => absurd (nI_lt (a := 9) (b := q) (by omega) (by omega)) c42)
          exact fin S' L' g' _ _ _ _ _ hz.2.2 (by rw [← hQ0]; rfl)
        | succ n ih =>
          intro q S' L' g' m l5 l6 hk2 hq0 hz hQ0
          have inner : ∀ (n' k : Nat) (S' : gS) (L' : gLg) (g' : Nat → Int32) (J' : gJn) (is : Int32), k + n' = N → jT J' = jT J + k → kz S t J S' → jst J' (j_c J 1 (nI q)) → jfit J' → qnc t (jR J) n' J' is = qnc t (jR J) N (j_c J 1 (nI q)) 1 → RX E mX11_leastRoom.2.2.1 0 0 63 [some (.ref 384), some (.int (nI N)), some (.int (J 9 1)), some (.int (-2)), some (.int (nI q)), some (.int is), some (.int (nI k))] [] (kp M (kput S' (j_s J' 7 g')) L') := by
            intro n'
            induction n' with
            | zero =>
              intro k S' L' g' J' is hk2 hT2 hz hs hf' hF
              have hR' : J' 9 2 = nI (jR J) := by rw [hs.2.2 2 (by decide) (by decide)]; exact hf.1.1
              refine rx_iload hE dX11_leastRoom_63 rfl ?_
              refine rx_iload_n hE dX11_leastRoom_65 (i := 1) rfl rfl ?_
              refine rx_icmp_ge (tgt := 99) hE dX11_leastRoom_66 (by decide) (fun c66 => ?_) (fun c66 => absurd (show nI N ≤ nI k from nI_le (by omega) (by omega)) c66)
              refine rx_iload hE dX11_leastRoom_99 rfl ?_
              refine rx_if_eq (tgt := 107) hE dX11_leastRoom_101 (by decide) (fun c101 => ?_) (fun c101 => ?_)
              · refine rx_aload_n hE dX11_leastRoom_107 (i := 0) rfl rfl ?_
                refine rx_call0 (rx_callV (av := []) hE dX11_leastRoom_108 lk_X11_382 (c_X11_laysBack hM hz.2.1) (kp_o hM) np_X11_laysBack rfl rfl (by decide) (Nat.le_of_ble_eq_true rfl) rfl ?_)
                rintro v M' ⟨rfl, rfl⟩
                rw [hs.back2 (J := J) ⟨fun f a b c d => if_neg d, rfl, rfl⟩ g']
                refine rx_iinc_4 hE dX11_leastRoom_111 (v := 1) (by decide) (by decide) rfl ?_
                rw [nI_1]
                refine rx_goto (tgt := 38) hE dX11_leastRoom_114 (by decide) ?_
                exact ih (q + 1) S' L' g' (nI q) _ _ (by omega) (by omega) hz (by rw [← hQ0]; show _ = (if qnc t (jR J) N (j_c J 1 (nI q)) 1 = 0 then _ else nI q); rw [if_pos (by rw [← hF]; exact c101)])
              · refine rx_iload hE dX11_leastRoom_104 rfl ?_
                refine rx_istore_n_3 hE dX11_leastRoom_106 (by decide) rfl ?_
                refine rx_aload_n hE dX11_leastRoom_107 (i := 0) rfl rfl ?_
                refine rx_call0 (rx_callV (av := []) hE dX11_leastRoom_108 lk_X11_382 (c_X11_laysBack hM hz.2.1) (kp_o hM) np_X11_laysBack rfl rfl (by decide) (Nat.le_of_ble_eq_true rfl) rfl ?_)
                rintro v M' ⟨rfl, rfl⟩
                rw [hs.back2 (J := J) ⟨fun f a b c d => if_neg d, rfl, rfl⟩ g']
                refine rx_iinc_4 hE dX11_leastRoom_111 (v := 1) (by decide) (by decide) rfl ?_
                rw [nI_1]
                refine rx_goto (tgt := 38) hE dX11_leastRoom_114 (by decide) ?_
                refine rx_iload hE dX11_leastRoom_38 rfl ?_
                refine rx_bipush hE dX11_leastRoom_40 (v := 9) (by decide) ?_
                refine rx_icmp_gt (tgt := 117) hE dX11_leastRoom_42 (by decide) (fun c42 => ?_) (fun c42 => ?_)
                · exact fin S' L' g' _ _ _ _ _ hz.2.2 (by rw [← hQ0]; show some (Value.int (nI q)) = some (Value.int (if qnc t (jR J) N (j_c J 1 (nI q)) 1 = 0 then _ else nI q)); rw [if_neg (by rw [← hF]; exact c101)])
                · refine rx_iload_n hE dX11_leastRoom_45 (i := 3) rfl rfl ?_
                  refine rx_if_ge (tgt := 117) hE dX11_leastRoom_46 (by decide) (fun c46 => ?_) (fun c46 => absurd (nI_pos' (by omega)) c46)
                  exact fin S' L' g' _ _ _ _ _ hz.2.2 (by rw [← hQ0]; show some (Value.int (nI q)) = some (Value.int (if qnc t (jR J) N (j_c J 1 (nI q)) 1 = 0 then _ else nI q)); rw [if_neg (by rw [← hF]; exact c101)])
            | succ n' ihn =>
              intro k S' L' g' J' is hk2 hT2 hz hs hf' hF
              have hR' : J' 9 2 = nI (jR J) := by rw [hs.2.2 2 (by decide) (by decide)]; exact hf.1.1
              refine rx_iload hE dX11_leastRoom_63 rfl ?_
              refine rx_iload_n hE dX11_leastRoom_65 (i := 1) rfl rfl ?_
              refine rx_icmp_ge (tgt := 99) hE dX11_leastRoom_66 (by decide) (fun c66 => absurd c66 (nI_ge (a := k) (b := N) (by omega) (by omega))) (fun c66 => ?_)
              refine rx_aload_n hE dX11_leastRoom_69 (i := 0) rfl rfl ?_
              refine rx_call0 (rx_callV (av := []) hE dX11_leastRoom_70 lk_X11_362 (c_X11_passg hM hz.1.1 hz.1.2.1 hz.1.2.2 hf') (kp_o hM) np_X11_passes rfl rfl (by decide) (Nat.le_of_ble_eq_true rfl) rfl ?_)
              rintro v M' ⟨rfl, S1, L1, g1, rfl, hI, hg1⟩
              have hz1 := hz.ip hI
              clear hI
              refine rx_pop hE dX11_leastRoom_73 rfl ?_
              refine rx_iload hE dX11_leastRoom_74 rfl ?_
              refine rx_if_eq (tgt := 90) hE dX11_leastRoom_76 (by decide) (fun c76 => ?_) (fun c76 => ?_)
              · refine rx_iconst hE dX11_leastRoom_90 (v := 0) (by decide) ?_
                refine rx_istore_5 hE dX11_leastRoom_91 (by decide) rfl ?_
                refine rx_iinc_6 hE dX11_leastRoom_93 (v := 1) (by decide) (by decide) rfl ?_
                rw [nI_1]
                refine rx_goto (tgt := 63) hE dX11_leastRoom_96 (by decide) ?_
                exact ihn (k + 1) S1 L1 g1 (jone t J') _ (by omega) (by rw [jone_T t hf'.1]; omega) hz1 (hs.trans (jst.one t J')) (hf'.one t (by omega)) (by rw [← hF]; show _ = qnc t (jR J) n' (jone t J') (if is = 0 then 0 else if jcrF (jone t J') 0 (jR J) = 0 then 1 else 0); simp [*])
              · refine rx_aload_n hE dX11_leastRoom_79 (i := 0) rfl rfl ?_
                refine rx_call0 (rx_callV (av := []) hE dX11_leastRoom_80 lk_X11_421 (c_X11_isAnyCrowd (J := j_s (jone t J') 7 g1) hM (R := jR J) (by show jone t J' 9 2 = _; rw [jone_9 t J' (by decide) (by decide)]; exact hR') hr6) (kp_o hM) np_X11_isAnyCrowd rfl rfl (by decide) (Nat.le_of_ble_eq_true rfl) rfl ?_)
                rintro v M' ⟨rfl, rfl⟩
                refine rx_int _ (jcrF (jone t J') 0 (jR J)) (jcrF_s7 _ _ _ _) ?_
                refine rx_if_ne (tgt := 90) hE dX11_leastRoom_83 (by decide) (fun c83 => ?_) (fun c83 => ?_)
                · refine rx_iconst hE dX11_leastRoom_90 (v := 0) (by decide) ?_
                  refine rx_istore_5 hE dX11_leastRoom_91 (by decide) rfl ?_
                  refine rx_iinc_6 hE dX11_leastRoom_93 (v := 1) (by decide) (by decide) rfl ?_
                  rw [nI_1]
                  refine rx_goto (tgt := 63) hE dX11_leastRoom_96 (by decide) ?_
                  exact ihn (k + 1) S1 L1 g1 (jone t J') _ (by omega) (by rw [jone_T t hf'.1]; omega) hz1 (hs.trans (jst.one t J')) (hf'.one t (by omega)) (by rw [← hF]; show _ = qnc t (jR J) n' (jone t J') (if is = 0 then 0 else if jcrF (jone t J') 0 (jR J) = 0 then 1 else 0); simp [*])
                · refine rx_iconst hE dX11_leastRoom_86 (v := 1) (by decide) ?_
                  refine rx_goto (tgt := 91) hE dX11_leastRoom_87 (by decide) ?_
                  refine rx_istore_5 hE dX11_leastRoom_91 (by decide) rfl ?_
                  refine rx_iinc_6 hE dX11_leastRoom_93 (v := 1) (by decide) (by decide) rfl ?_
                  rw [nI_1]
                  refine rx_goto (tgt := 63) hE dX11_leastRoom_96 (by decide) ?_
                  exact ihn (k + 1) S1 L1 g1 (jone t J') _ (by omega) (by rw [jone_T t hf'.1]; omega) hz1 (hs.trans (jst.one t J')) (hf'.one t (by omega)) (by rw [← hF]; show _ = qnc t (jR J) n' (jone t J') (if is = 0 then 0 else if jcrF (jone t J') 0 (jR J) = 0 then 1 else 0); simp [*])
          refine rx_iload hE dX11_leastRoom_38 rfl ?_
          refine rx_bipush hE dX11_leastRoom_40 (v := 9) (by decide) ?_
          refine rx_icmp_gt (tgt := 117) hE dX11_leastRoom_42 (by decide) (fun c42 => absurd c42 (nI_nlt (a := 9) (b := q) (by omega) (by decide))) (fun c42 => ?_)
          refine rx_iload_n hE dX11_leastRoom_45 (i := 3) rfl rfl ?_
          refine rx_if_ge (tgt := 117) hE dX11_leastRoom_46 (by decide) (fun c46 => absurd c46 (by decide)) (fun c46 => ?_)
          refine rx_iconst hE dX11_leastRoom_49 (v := 1) (by decide) ?_
          refine rx_istore_5 hE dX11_leastRoom_50 (by decide) rfl ?_
          refine rx_aload_n hE dX11_leastRoom_52 (i := 0) rfl rfl ?_
          refine rx_getf hE dX11_leastRoom_53 fl_X11_39_10 (kp_o hM) rfl ?_
          refine rx_iconst hE dX11_leastRoom_56 (v := 2) (by decide) ?_
          refine rx_iload hE dX11_leastRoom_57 rfl ?_
          refine rx_iastN (i := 2) hE dX11_leastRoom_59 (kp_10 hM) (by omega) (by decide) ?_
          refine rx_mem (M' := kp M (kput S' (j_s (j_c J 1 (nI q)) 7 g')) L') (by rw [kx_c 2 1 (by decide), j_c_s7, j_c_c]) ?_
          refine rx_iconst hE dX11_leastRoom_60 (v := 0) (by decide) ?_
          refine rx_istore_6 hE dX11_leastRoom_61 (by decide) rfl ?_
          exact inner N 0 S' L' g' _ 1 (by omega) rfl hz (jst.refl _) (hf.c1 (by omega) (by omega)) rfl
      refine rx_aload_n hE dX11_leastRoom_21 (i := 0) rfl rfl ?_
      refine rx_getf hE dX11_leastRoom_22 fl_X11_39_10 (kp_o hM) rfl ?_
      refine rx_iconst hE dX11_leastRoom_25 (v := 2) (by decide) ?_
      refine rx_ialdN (i := 2) hE dX11_leastRoom_26 (kp_10 hM) (by omega) (by decide) ?_
      refine rx_int _ _ kr_c1 ?_
      refine rx_int _ (J 9 1) rfl ?_
      refine rx_istore_n_2 hE dX11_leastRoom_27 (by decide) rfl ?_
      refine rx_bipush hE dX11_leastRoom_28 (v := -2) (by decide) ?_
      refine rx_istore_n_3 hE dX11_leastRoom_30 (by decide) rfl ?_
      refine rx_aload_n hE dX11_leastRoom_31 (i := 0) rfl rfl ?_
      refine rx_call0 (rx_callV (av := []) hE dX11_leastRoom_32 lk_X11_376 (c_X11_keeps hM) (kp_o hM) np_X11_keeps rfl rfl (by decide) (Nat.le_of_ble_eq_true rfl) rfl ?_)
      rintro v M' ⟨rfl, rfl⟩
      have hz := kz.keep hb J g
      refine rx_iconst hE dX11_leastRoom_35 (v := 1) (by decide) ?_
      refine rx_istore_4 hE dX11_leastRoom_36 (by decide) rfl ?_
      refine rx_mem (M' := kp M (kput (k_s S 13 (kfl (S 13) (krow (j_s J 7 g)) 44)) (j_s (j_c J 1 (J 9 1)) 7 g)) L) (by rw [j_c_id]) ?_
      exact outer 9 1 _ _ g (J 9 1) _ _ (by omega) (by omega) hz rfl
    · refine rx_iconst hE dX11_leastRoom_19 (v := -1) (by decide) ?_
      exact rx_iret hE hQ rfl dX11_leastRoom_20 ⟨by simp [q_leastRoom, *], kD.refl M S L J g⟩
