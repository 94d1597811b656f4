/-! ===== a beat ===== -/
def jR (J : gJn) : Nat := (J 9 2).toNatClampNeg
def jP (J : gJn) : Nat → Nat := fun i => (J 2 i).toNatClampNeg
def jB (J : gJn) : Nat := (J 9 0).toNatClampNeg
def jT (J : gJn) : Nat := (J 9 3).toNatClampNeg
def jQ (J : gJn) : Nat := jT J % jB J
def jok (J : gJn) : Prop := J 9 2 = nI (jR J) ∧ jR J ≤ 6 ∧ jpt J (jP J) ∧ J 9 0 = nI (jB J) ∧ 0 < jB J ∧ jB J ≤ 12 ∧ J 9 3 = nI (jT J) ∧ jT J < 1000000
theorem jok.bob {J : gJn} (h : jok J) : j_bob J = nI (jQ J) := by
  obtain ⟨-, -, -, h1, h2, h3, h4, h5⟩ := h
  unfold j_bob
  rw [h1, if_neg (nI_nle h2 (by omega)), h4]
  exact pk_rem (by omega) h2 (by omega)
theorem jok.q12 {J : gJn} (h : jok J) : jQ J < 12 := Nat.lt_of_lt_of_le (Nat.mod_lt _ h.2.2.2.2.1) h.2.2.2.2.2.1
theorem jarS_f (k : Nat) (J : gJn) {f : Nat} (hf : f ≠ 0) : jarS k J f = J f := by
  unfold jarS
  split
  · rfl
  · split
    · rfl
    · split
      · show (if f = 0 then _ else J f) = J f
        rw [if_neg hf]
      · rfl
theorem jarF_f {f : Nat} (hf : f ≠ 0) : ∀ (n k : Nat) (J : gJn), jarF k n J f = J f
  | 0, _, _ => rfl
  | n + 1, k, J => by
    show jarF (k + 1) n (jarS k J) f = J f
    rw [jarF_f hf n (k + 1) (jarS k J), jarS_f k J hf]
theorem jok.arr {J : gJn} (h : jok J) (n k : Nat) : jok (jarF k n J) := by
  have h9 := jarF_f (f := 9) (by decide) n k J
  have h2 := jarF_f (f := 2) (by decide) n k J
  unfold jok jR jB jT jpt jP at *
  rw [h9, h2]
  exact h
theorem jsfF_agree (f : Nat → Int32) (wd : Int32 → Int64) : ∀ (m k top : Nat) (op op' : Nat → Int64), (∀ i, i < top → op i = op' i) → jsfF f wd k m top op = jsfF f wd k m top op'
  | 0, _, _, _, _, _ => rfl
  | m + 1, k, top, op, op', h => by
    have up : ∀ (t : Nat) (v v' : Int64), v = v' → t ≤ top → ∀ i, i < t + 1 → vp_updL op t v i = vp_updL op' t v' i := by
      intro t v v' hv ht i hi
      unfold vp_updL
      by_cases q : i = t
      · rw [if_pos q, if_pos q, hv]
      · rw [if_neg q, if_neg q]
        exact h i (by omega)
    simp only [jsfF]
    by_cases c1 : f k ≤ -20
    · rw [if_pos c1, if_pos c1]
      by_cases c2 : f k = -32 ∧ 0 < top
      · rw [if_pos c2, if_pos c2]
        refine jsfF_agree f wd m (k + 1) top _ _ (fun i hi => ?_)
        have := up (top - 1) (if op (top - 1) = 0 then 1 else 0) (if op' (top - 1) = 0 then 1 else 0) (by rw [h (top - 1) (by omega)]) (by omega) i (by omega)
        exact this
      · rw [if_neg c2, if_neg c2]
        by_cases c3 : f k = -33 ∧ 0 < top
        · rw [if_pos c3, if_pos c3]
          exact h (top - 1) (by omega)
        · rw [if_neg c3, if_neg c3]
          by_cases c4 : f k = -34 ∧ 1 < top
          · rw [if_pos c4, if_pos c4, h (top - 1) (by omega), h (top - 2) (by omega)]
            split
            · exact jsfF_agree f wd m (k + 1) 0 _ _ (fun i hi => absurd hi (Nat.not_lt_zero i))
            · rfl
          · rw [if_neg c4, if_neg c4]
            by_cases c5 : 1 < top
            · rw [if_pos c5, if_pos c5, h (top - 1) (by omega), h (top - 2) (by omega)]
              exact jsfF_agree f wd m (k + 1) (top - 1) _ _ (fun i hi => up (top - 2) _ _ rfl (by omega) i (by omega))
            · rw [if_neg c5, if_neg c5]
              exact jsfF_agree f wd m (k + 1) top _ _ h
    · rw [if_neg c1, if_neg c1]
      by_cases c2 : top < 32
      · rw [if_pos c2, if_pos c2]
        exact jsfF_agree f wd m (k + 1) (top + 1) _ _ (fun i hi => up top _ _ rfl (by omega) i (by omega))
      · rw [if_neg c2, if_neg c2]
        exact jsfF_agree f wd m (k + 1) top _ _ h
def jsf (f : Nat → Int32) (n : Nat) (wd : Int32 → Int64) : Int64 := jsfF f wd 0 n 0 (fun _ => 0)
theorem jsf_any (f : Nat → Int32) (n : Nat) (wd : Int32 → Int64) (g : Nat → Int64) : jsfF f wd 0 n 0 g = jsf f n wd := jsfF_agree f wd n 0 0 _ _ (fun i hi => absurd hi (Nat.not_lt_zero i))
def jobF (J : gJn) (t : Nat → Int32 → Bool) : Nat → Nat → Int32 → Int32
  | _, 0, s => s
  | k, n + 1, s => jobF J t (k + 1) n (if J 3 k &&& s = 0 then s ||| (if t k s = true then (1 : Int32) <<< (nI k &&& 31) else 0) else s)
def jt0 (J : gJn) (k : Nat) (_ : Int32) : Bool := decide (jbit (J 8 (jQ J)) k = 1)
def jt1 (f : Nat → Int32) (n : Nat) (J : gJn) (k : Nat) (s : Int32) : Bool := decide (0 < jsf f n (j_word (jP J) (jR J) (jQ J) J k s))
def jset (t : gJn → Nat → Int32 → Bool) (J : gJn) : Int32 := jobF (jarF 0 (jR J) J) (t (jarF 0 (jR J) J)) 0 (jR J) 0
def jone (t : gJn → Nat → Int32 → Bool) (J : gJn) : gJn := j_go (jP J) (jR J) (jset t J) (jarF 0 (jR J) J)
def jmanyF (t : gJn → Nat → Int32 → Bool) : Nat → gJn → gJn
  | 0, J => J
  | n + 1, J => jmanyF t n (jone t J)
set_option maxRecDepth 100000 in
set_option maxHeartbeats 4000000 in
theorem c_X2_oneBeat0 {M : gM} {a : Nat} {J : gJn} (hb : jb M a) (hj : jok J) : SX 5 0 0 mX2_oneBeat [.ref a, .null] (jp M a J) (fun v M' => v = some (.int (jset jt0 J)) ∧ M' = jp M a (jone jt0 J)) := by
  refine SX.intro [some (.ref a), some (.null), none, none, none, none] (by decide +kernel) (Nat.le_of_ble_eq_true rfl) rfl (fun E hE hQ => ?_)
  have hR := hj.1
  have hR6 := hj.2.1
  have hj1 := hj.arr (jR J) 0
  have e9 := jarF_f (f := 9) (by decide) (jR J) 0 J
  have e2 := jarF_f (f := 2) (by decide) (jR J) 0 J
  generalize hJ1 : jarF 0 (jR J) J = J1 at hj1 e9 e2
  have eR : jR J1 = jR J := by unfold jR; rw [e9]
  have eP : jP J1 = jP J := by unfold jP; rw [e2]
  have hR1 : J1 9 2 = nI (jR J) := by rw [e9]; exact hR
  have hp1 : jpt J1 (jP J) := by rw [← eP]; exact hj1.2.2.1
  have hset : jset (jt0) J = jobF J1 ((jt0) J1) 0 (jR J) 0 := by unfold jset; rw [hJ1]
  have hone : jone (jt0) J = j_go (jP J) (jR J) (jset (jt0) J) J1 := by unfold jone; rw [hJ1]
  have loop : ∀ (n k : Nat) (s : Int32) (l5 : Option Value), k + n = jR J → jobF J1 ((jt0) J1) k n s = jobF J1 ((jt0) J1) 0 (jR J) 0 → RX E mX2_oneBeat.2.2.1 0 0 19 [some (.ref a), some .null, some (.int s), some (.int (J1 8 (jQ J1))), some (.int (nI k)), l5] [] (jp M a J1) := by
    intro n
    induction n with
    | zero =>
      intro k s l5 hk hF
      refine rx_iload hE dX2_oneBeat_19 rfl ?_
      refine rx_aload_n hE dX2_oneBeat_21 (i := 0) rfl rfl ?_
      refine rx_getf hE dX2_oneBeat_22 fl_X2_46_2 (jp_o hb) rfl ?_
      refine rx_icmp_ge (tgt := 104) hE dX2_oneBeat_25 (by decide) (fun c25 => ?_) (fun c25 => absurd (by rw [hR1]; exact nI_le (by omega) (by omega)) c25)
      refine rx_aload_n hE dX2_oneBeat_104 (i := 0) rfl rfl ?_
      refine rx_iload_n hE dX2_oneBeat_105 (i := 2) rfl rfl ?_
      refine rx_call0 (rx_callV (av := [.int s]) hE dX2_oneBeat_106 lk_X2_111 (c_X2_goThrough s hb hR1 hR6 hp1) (jp_o hb) np_X2_goThrough rfl rfl (by decide) (Nat.le_of_ble_eq_true rfl) rfl ?_)
      rintro v M' ⟨rfl, rfl⟩
      refine rx_iload_n hE dX2_oneBeat_109 (i := 2) rfl rfl ?_
      exact rx_iret hE hQ rfl dX2_oneBeat_110 ⟨by rw [hset, ← hF]; rfl, by rw [hone, hset, ← hF]; rfl⟩
    | succ n ih =>
      intro k s l5 hk hF
      refine rx_iload hE dX2_oneBeat_19 rfl ?_
      refine rx_aload_n hE dX2_oneBeat_21 (i := 0) rfl rfl ?_
      refine rx_getf hE dX2_oneBeat_22 fl_X2_46_2 (jp_o hb) rfl ?_
      refine rx_icmp_ge (tgt := 104) hE dX2_oneBeat_25 (by decide) (fun c25 => absurd (by rw [hR1] at c25; exact c25) (nI_ge (by omega) (by omega))) (fun c25 => ?_)
      refine rx_aload_n hE dX2_oneBeat_28 (i := 0) rfl rfl ?_
      refine rx_getf hE dX2_oneBeat_29 fl_X2_21_2 (jp_o hb) rfl ?_
      refine rx_iload hE dX2_oneBeat_32 rfl ?_
      refine rx_ialdN hE dX2_oneBeat_34 (jp_4 hb) (by omega) (by decide) ?_
      refine rx_iload_n hE dX2_oneBeat_35 (i := 2) rfl rfl ?_
      refine rx_iand hE dX2_oneBeat_36 ?_
      refine rx_if_ne (tgt := 98) hE dX2_oneBeat_37 (by decide) (fun c37 => ?_) (fun c37 => ?_)
      · refine rx_iinc_4 hE dX2_oneBeat_98 (v := 1) (by decide) (by decide) rfl ?_
        rw [nI_1]
        refine rx_goto (tgt := 19) hE dX2_oneBeat_101 (by decide) ?_
        exact ih (k + 1) _ _ (by omega) (by rw [← hF]; clear hF ih; first | (simp [jobF, jt0, *]; done) | (simp_all [jobF, jt0]; done))
      · refine rx_aload_nN hE dX2_oneBeat_40 (i := 1) rfl rfl ?_
        refine rx_ifnonnullN hE dX2_oneBeat_41 ?_
        refine rx_iload_n hE dX2_oneBeat_44 (i := 3) rfl rfl ?_
        refine rx_iload hE dX2_oneBeat_45 rfl ?_
        refine rx_ishr hE dX2_oneBeat_47 ?_
        refine rx_iconst hE dX2_oneBeat_48 (v := 1) (by decide) ?_
        refine rx_iand hE dX2_oneBeat_49 ?_
        refine rx_iconst hE dX2_oneBeat_50 (v := 1) (by decide) ?_
        refine rx_icmp_ne (tgt := 58) hE dX2_oneBeat_51 (by decide) (fun c51 => ?_) (fun c51 => ?_)
        · have c51 : ¬ jbit (J1 8 (jQ J1)) k = 1 := c51
          refine rx_iconst hE dX2_oneBeat_58 (v := 0) (by decide) ?_
          refine rx_goto (tgt := 80) hE dX2_oneBeat_59 (by decide) ?_
          refine rx_istore_5 hE dX2_oneBeat_80 (by decide) rfl ?_
          refine rx_iload_n hE dX2_oneBeat_82 (i := 2) rfl rfl ?_
          refine rx_iload hE dX2_oneBeat_83 rfl ?_
          refine rx_if_eq (tgt := 95) hE dX2_oneBeat_85 (by decide) (fun c85 => ?_) (fun c85 => ?_)
          · refine rx_iconst hE dX2_oneBeat_95 (v := 0) (by decide) ?_
            refine rx_ior hE dX2_oneBeat_96 ?_
            refine rx_istore_n_2 hE dX2_oneBeat_97 (by decide) rfl ?_
            refine rx_iinc_4 hE dX2_oneBeat_98 (v := 1) (by decide) (by decide) rfl ?_
            rw [nI_1]
            refine rx_goto (tgt := 19) hE dX2_oneBeat_101 (by decide) ?_
            exact ih (k + 1) _ _ (by omega) (by rw [← hF]; clear hF ih; first | (simp [jobF, jt0, *]; done) | (simp_all [jobF, jt0]; done))
          · refine rx_iconst hE dX2_oneBeat_88 (v := 1) (by decide) ?_
            refine rx_iload hE dX2_oneBeat_89 rfl ?_
            refine rx_ishl hE dX2_oneBeat_91 ?_
            refine rx_goto (tgt := 96) hE dX2_oneBeat_92 (by decide) ?_
            refine rx_ior hE dX2_oneBeat_96 ?_
            refine rx_istore_n_2 hE dX2_oneBeat_97 (by decide) rfl ?_
            refine rx_iinc_4 hE dX2_oneBeat_98 (v := 1) (by decide) (by decide) rfl ?_
            rw [nI_1]
            refine rx_goto (tgt := 19) hE dX2_oneBeat_101 (by decide) ?_
            exact ih (k + 1) _ _ (by omega) (by rw [← hF]; clear hF ih; first | (simp [jobF, jt0, *]; done) | (simp_all [jobF, jt0]; done))
        · have c51 : jbit (J1 8 (jQ J1)) k = 1 := c51
          refine rx_iconst hE dX2_oneBeat_54 (v := 1) (by decide) ?_
          refine rx_goto (tgt := 80) hE dX2_oneBeat_55 (by decide) ?_
          refine rx_istore_5 hE dX2_oneBeat_80 (by decide) rfl ?_
          refine rx_iload_n hE dX2_oneBeat_82 (i := 2) rfl rfl ?_
          refine rx_iload hE dX2_oneBeat_83 rfl ?_
          refine rx_if_eq (tgt := 95) hE dX2_oneBeat_85 (by decide) (fun c85 => ?_) (fun c85 => ?_)
          · refine rx_iconst hE dX2_oneBeat_95 (v := 0) (by decide) ?_
            refine rx_ior hE dX2_oneBeat_96 ?_
            refine rx_istore_n_2 hE dX2_oneBeat_97 (by decide) rfl ?_
            refine rx_iinc_4 hE dX2_oneBeat_98 (v := 1) (by decide) (by decide) rfl ?_
            rw [nI_1]
            refine rx_goto (tgt := 19) hE dX2_oneBeat_101 (by decide) ?_
            exact ih (k + 1) _ _ (by omega) (by rw [← hF]; clear hF ih; first | (simp [jobF, jt0, *]; done) | (simp_all [jobF, jt0]; done))
          · refine rx_iconst hE dX2_oneBeat_88 (v := 1) (by decide) ?_
            refine rx_iload hE dX2_oneBeat_89 rfl ?_
            refine rx_ishl hE dX2_oneBeat_91 ?_
            refine rx_goto (tgt := 96) hE dX2_oneBeat_92 (by decide) ?_
            refine rx_ior hE dX2_oneBeat_96 ?_
            refine rx_istore_n_2 hE dX2_oneBeat_97 (by decide) rfl ?_
            refine rx_iinc_4 hE dX2_oneBeat_98 (v := 1) (by decide) (by decide) rfl ?_
            rw [nI_1]
            refine rx_goto (tgt := 19) hE dX2_oneBeat_101 (by decide) ?_
            exact ih (k + 1) _ _ (by omega) (by rw [← hF]; clear hF ih; first | (simp [jobF, jt0, *]; done) | (simp_all [jobF, jt0]; done))
  refine rx_aload_n hE dX2_oneBeat_0 (i := 0) rfl rfl ?_
  refine rx_call0 (rx_callV (av := []) hE dX2_oneBeat_1 lk_X2_102 (c_X2_arrive hb hR hR6) (jp_o hb) np_X2_arrive rfl rfl (by decide) (Nat.le_of_ble_eq_true rfl) rfl ?_)
  rintro v M' ⟨rfl, rfl⟩
  rw [hJ1]
  refine rx_iconst hE dX2_oneBeat_4 (v := 0) (by decide) ?_
  refine rx_istore_n_2 hE dX2_oneBeat_5 (by decide) rfl ?_
  refine rx_aload_n hE dX2_oneBeat_6 (i := 0) rfl rfl ?_
  refine rx_getf hE dX2_oneBeat_7 fl_X2_36_2 (jp_o hb) rfl ?_
  refine rx_aload_n hE dX2_oneBeat_10 (i := 0) rfl rfl ?_
  refine rx_call0 (rx_callV (av := []) hE dX2_oneBeat_11 lk_X2_86 (c_X2_beatOfBar hb) (jp_o hb) np_X2_beatOfBar rfl rfl (by decide) (Nat.le_of_ble_eq_true rfl) rfl ?_)
  rintro v M' ⟨rfl, rfl⟩
  refine rx_int _ (nI (jQ J1)) hj1.bob ?_
  refine rx_ialdN hE dX2_oneBeat_14 (jp_9 hb) hj1.q12 (by decide) ?_
  refine rx_istore_n_3 hE dX2_oneBeat_15 (by decide) rfl ?_
  refine rx_iconst hE dX2_oneBeat_16 (v := 0) (by decide) ?_
  refine rx_istore_4 hE dX2_oneBeat_17 (by decide) rfl ?_
  exact loop (jR J) 0 0 none (by omega) rfl
set_option maxRecDepth 100000 in
set_option maxHeartbeats 4000000 in
theorem c_X2_oneBeat1 {M : gM} {a p n0 : Nat} {J : gJn} {f : Nat → Int32} {g : Nat → Int64} (hb : jb M a) (hr0 : rb M p) (hd : p + 3 ≤ a ∨ a + 10 ≤ p) (hn : n0 < 2 ^ 31) (hj : jok J) : SX 5 0 0 mX2_oneBeat [.ref a, .ref p] (jp (rp M p n0 f g) a J) (fun v M' => v = some (.int (jset (jt1 f n0) J)) ∧ ∃ op : Nat → Int64, M' = jp (rp M p n0 f op) a (jone (jt1 f n0) J)) := by
  refine SX.intro [some (.ref a), some (.ref p), none, none, none, none] (by decide +kernel) (Nat.le_of_ble_eq_true rfl) rfl (fun E hE hQ => ?_)
  have hR := hj.1
  have hR6 := hj.2.1
  have hj1 := hj.arr (jR J) 0
  have e9 := jarF_f (f := 9) (by decide) (jR J) 0 J
  have e2 := jarF_f (f := 2) (by decide) (jR J) 0 J
  generalize hJ1 : jarF 0 (jR J) J = J1 at hj1 e9 e2
  have eR : jR J1 = jR J := by unfold jR; rw [e9]
  have eP : jP J1 = jP J := by unfold jP; rw [e2]
  have hR1 : J1 9 2 = nI (jR J) := by rw [e9]; exact hR
  have hp1 : jpt J1 (jP J) := by rw [← eP]; exact hj1.2.2.1
  have hset : jset (jt1 f n0) J = jobF J1 ((jt1 f n0) J1) 0 (jR J) 0 := by unfold jset; rw [hJ1]
  have hone : jone (jt1 f n0) J = j_go (jP J) (jR J) (jset (jt1 f n0) J) J1 := by unfold jone; rw [hJ1]
  have loop : ∀ (n k : Nat) (s : Int32) (op : Nat → Int64) (l5 : Option Value), k + n = jR J → jobF J1 ((jt1 f n0) J1) k n s = jobF J1 ((jt1 f n0) J1) 0 (jR J) 0 → RX E mX2_oneBeat.2.2.1 0 0 19 [some (.ref a), some (.ref p), some (.int s), some (.int (J1 8 (jQ J1))), some (.int (nI k)), l5] [] (jp (rp M p n0 f op) a J1) := by
    intro n
    induction n with
    | zero =>
      intro k s op l5 hk hF
      refine rx_iload hE dX2_oneBeat_19 rfl ?_
      refine rx_aload_n hE dX2_oneBeat_21 (i := 0) rfl rfl ?_
      refine rx_getf hE dX2_oneBeat_22 fl_X2_46_2 (jp_o hb) rfl ?_
      refine rx_icmp_ge (tgt := 104) hE dX2_oneBeat_25 (by decide) (fun c25 => ?_) (fun c25 => absurd (by rw [hR1]; exact nI_le (by omega) (by omega)) c25)
      refine rx_aload_n hE dX2_oneBeat_104 (i := 0) rfl rfl ?_
      refine rx_iload_n hE dX2_oneBeat_105 (i := 2) rfl rfl ?_
      refine rx_call0 (rx_callV (av := [.int s]) hE dX2_oneBeat_106 lk_X2_111 (c_X2_goThrough s hb hR1 hR6 hp1) (jp_o hb) np_X2_goThrough rfl rfl (by decide) (Nat.le_of_ble_eq_true rfl) rfl ?_)
      rintro v M' ⟨rfl, rfl⟩
      refine rx_iload_n hE dX2_oneBeat_109 (i := 2) rfl rfl ?_
      exact rx_iret hE hQ rfl dX2_oneBeat_110 ⟨by rw [hset, ← hF]; rfl, op, by rw [hone, hset, ← hF]; rfl⟩
    | succ n ih =>
      intro k s op l5 hk hF
      refine rx_iload hE dX2_oneBeat_19 rfl ?_
      refine rx_aload_n hE dX2_oneBeat_21 (i := 0) rfl rfl ?_
      refine rx_getf hE dX2_oneBeat_22 fl_X2_46_2 (jp_o hb) rfl ?_
      refine rx_icmp_ge (tgt := 104) hE dX2_oneBeat_25 (by decide) (fun c25 => absurd (by rw [hR1] at c25; exact c25) (nI_ge (by omega) (by omega))) (fun c25 => ?_)
      refine rx_aload_n hE dX2_oneBeat_28 (i := 0) rfl rfl ?_
      refine rx_getf hE dX2_oneBeat_29 fl_X2_21_2 (jp_o hb) rfl ?_
      refine rx_iload hE dX2_oneBeat_32 rfl ?_
      refine rx_ialdN hE dX2_oneBeat_34 (jp_4 hb) (by omega) (by decide) ?_
      refine rx_iload_n hE dX2_oneBeat_35 (i := 2) rfl rfl ?_
      refine rx_iand hE dX2_oneBeat_36 ?_
      refine rx_if_ne (tgt := 98) hE dX2_oneBeat_37 (by decide) (fun c37 => ?_) (fun c37 => ?_)
      · refine rx_iinc_4 hE dX2_oneBeat_98 (v := 1) (by decide) (by decide) rfl ?_
        rw [nI_1]
        refine rx_goto (tgt := 19) hE dX2_oneBeat_101 (by decide) ?_
        exact ih (k + 1) _ _ _ (by omega) (by rw [← hF]; clear hF ih; first | (simp [jobF, jbit, *]; done) | (simp_all [jobF, jbit]; done))
      · refine rx_aload_n hE dX2_oneBeat_40 (i := 1) rfl rfl ?_
        refine rx_ifnonnull (tgt := 62) hE dX2_oneBeat_41 (by decide) ?_
        refine rx_aload_n hE dX2_oneBeat_62 (i := 1) rfl rfl ?_
        refine rx_aload_n hE dX2_oneBeat_63 (i := 0) rfl rfl ?_
        refine rx_iload hE dX2_oneBeat_64 rfl ?_
        refine rx_iload_n hE dX2_oneBeat_66 (i := 2) rfl rfl ?_
        refine rx_call0 (rx_callV (av := [.ref a, .int (nI k), .int s]) hE dX2_oneBeat_67 lk_X2_105 (c_X6_sumFor s hb hr0 hd hn hR1 hR6 hp1 hj1.bob hj1.q12 (r := k) (by omega)) (rb_at hr0 hd 0 (by decide)) np_X6_sumFor rfl rfl (by decide) (Nat.le_of_ble_eq_true rfl) rfl ?_)
        rintro v M' ⟨op', rfl, rfl⟩
        rw [jsf_any]
        refine rx_lconst hE dX2_oneBeat_70 (v := 0) (by decide) ?_
        refine rx_lcmp hE dX2_oneBeat_71 ?_
        refine rx_if_le (tgt := 79) hE dX2_oneBeat_72 (by decide) (fun c72 => ?_) (fun c72 => ?_)
        · have t72 : jt1 f n0 J1 k s = false := decide_eq_false (by rw [eP, eR]; exact Int64.not_lt.mpr ((lg_cmp_le _ _).mp c72))
          clear c72
          refine rx_iconst hE dX2_oneBeat_79 (v := 0) (by decide) ?_
          refine rx_istore_5 hE dX2_oneBeat_80 (by decide) rfl ?_
          refine rx_iload_n hE dX2_oneBeat_82 (i := 2) rfl rfl ?_
          refine rx_iload hE dX2_oneBeat_83 rfl ?_
          refine rx_if_eq (tgt := 95) hE dX2_oneBeat_85 (by decide) (fun c85 => ?_) (fun c85 => ?_)
          · refine rx_iconst hE dX2_oneBeat_95 (v := 0) (by decide) ?_
            refine rx_ior hE dX2_oneBeat_96 ?_
            refine rx_istore_n_2 hE dX2_oneBeat_97 (by decide) rfl ?_
            refine rx_iinc_4 hE dX2_oneBeat_98 (v := 1) (by decide) (by decide) rfl ?_
            rw [nI_1]
            refine rx_goto (tgt := 19) hE dX2_oneBeat_101 (by decide) ?_
            exact ih (k + 1) _ _ _ (by omega) (by rw [← hF]; clear hF ih; first | (simp [jobF, jbit, *]; done) | (simp_all [jobF, jbit]; done))
          · refine rx_iconst hE dX2_oneBeat_88 (v := 1) (by decide) ?_
            refine rx_iload hE dX2_oneBeat_89 rfl ?_
            refine rx_ishl hE dX2_oneBeat_91 ?_
            refine rx_goto (tgt := 96) hE dX2_oneBeat_92 (by decide) ?_
            refine rx_ior hE dX2_oneBeat_96 ?_
            refine rx_istore_n_2 hE dX2_oneBeat_97 (by decide) rfl ?_
            refine rx_iinc_4 hE dX2_oneBeat_98 (v := 1) (by decide) (by decide) rfl ?_
            rw [nI_1]
            refine rx_goto (tgt := 19) hE dX2_oneBeat_101 (by decide) ?_
            exact ih (k + 1) _ _ _ (by omega) (by rw [← hF]; clear hF ih; first | (simp [jobF, jbit, *]; done) | (simp_all [jobF, jbit]; done))
        · have t72 : jt1 f n0 J1 k s = true := decide_eq_true (by rw [eP, eR]; exact Int64.not_le.mp (fun q => c72 ((lg_cmp_le _ _).mpr q)))
          clear c72
          refine rx_iconst hE dX2_oneBeat_75 (v := 1) (by decide) ?_
          refine rx_goto (tgt := 80) hE dX2_oneBeat_76 (by decide) ?_
          refine rx_istore_5 hE dX2_oneBeat_80 (by decide) rfl ?_
          refine rx_iload_n hE dX2_oneBeat_82 (i := 2) rfl rfl ?_
          refine rx_iload hE dX2_oneBeat_83 rfl ?_
          refine rx_if_eq (tgt := 95) hE dX2_oneBeat_85 (by decide) (fun c85 => ?_) (fun c85 => ?_)
          · refine rx_iconst hE dX2_oneBeat_95 (v := 0) (by decide) ?_
            refine rx_ior hE dX2_oneBeat_96 ?_
            refine rx_istore_n_2 hE dX2_oneBeat_97 (by decide) rfl ?_
            refine rx_iinc_4 hE dX2_oneBeat_98 (v := 1) (by decide) (by decide) rfl ?_
            rw [nI_1]
            refine rx_goto (tgt := 19) hE dX2_oneBeat_101 (by decide) ?_
            exact ih (k + 1) _ _ _ (by omega) (by rw [← hF]; clear hF ih; first | (simp [jobF, jbit, *]; done) | (simp_all [jobF, jbit]; done))
          · refine rx_iconst hE dX2_oneBeat_88 (v := 1) (by decide) ?_
            refine rx_iload hE dX2_oneBeat_89 rfl ?_
            refine rx_ishl hE dX2_oneBeat_91 ?_
            refine rx_goto (tgt := 96) hE dX2_oneBeat_92 (by decide) ?_
            refine rx_ior hE dX2_oneBeat_96 ?_
            refine rx_istore_n_2 hE dX2_oneBeat_97 (by decide) rfl ?_
            refine rx_iinc_4 hE dX2_oneBeat_98 (v := 1) (by decide) (by decide) rfl ?_
            rw [nI_1]
            refine rx_goto (tgt := 19) hE dX2_oneBeat_101 (by decide) ?_
            exact ih (k + 1) _ _ _ (by omega) (by rw [← hF]; clear hF ih; first | (simp [jobF, jbit, *]; done) | (simp_all [jobF, jbit]; done))
  refine rx_aload_n hE dX2_oneBeat_0 (i := 0) rfl rfl ?_
  refine rx_call0 (rx_callV (av := []) hE dX2_oneBeat_1 lk_X2_102 (c_X2_arrive hb hR hR6) (jp_o hb) np_X2_arrive rfl rfl (by decide) (Nat.le_of_ble_eq_true rfl) rfl ?_)
  rintro v M' ⟨rfl, rfl⟩
  rw [hJ1]
  refine rx_iconst hE dX2_oneBeat_4 (v := 0) (by decide) ?_
  refine rx_istore_n_2 hE dX2_oneBeat_5 (by decide) rfl ?_
  refine rx_aload_n hE dX2_oneBeat_6 (i := 0) rfl rfl ?_
  refine rx_getf hE dX2_oneBeat_7 fl_X2_36_2 (jp_o hb) rfl ?_
  refine rx_aload_n hE dX2_oneBeat_10 (i := 0) rfl rfl ?_
  refine rx_call0 (rx_callV (av := []) hE dX2_oneBeat_11 lk_X2_86 (c_X2_beatOfBar hb) (jp_o hb) np_X2_beatOfBar rfl rfl (by decide) (Nat.le_of_ble_eq_true rfl) rfl ?_)
  rintro v M' ⟨rfl, rfl⟩
  refine rx_int _ (nI (jQ J1)) hj1.bob ?_
  refine rx_ialdN hE dX2_oneBeat_14 (jp_9 hb) hj1.q12 (by decide) ?_
  refine rx_istore_n_3 hE dX2_oneBeat_15 (by decide) rfl ?_
  refine rx_iconst hE dX2_oneBeat_16 (v := 0) (by decide) ?_
  refine rx_istore_4 hE dX2_oneBeat_17 (by decide) rfl ?_
  exact loop (jR J) 0 0 g none (by omega) rfl
