/-! ===== what is asked of the reference: the frame of a question ===== -/
def q_in (x a b : Int32) : Int32 := if x < a then 0 else if b < x then 0 else 1
theorem lg_lt (x y : Int32) : x.toInt64 < y.toInt64 ↔ x < y := by
  rw [Int64.lt_iff_toInt_lt, Int32.lt_iff_toInt_lt, Int32.toInt_toInt64, Int32.toInt_toInt64]
theorem k_in_eq (x a b : Int32) {A B : Int64} (hA : A = a.toInt64) (hB : B = b.toInt64) : k_in x.toInt64 A B = q_in x a b := by
  subst hA hB
  unfold k_in q_in
  simp only [lg_lt]
theorem q_in_of {x : Int32} {a b : Nat} (hb : a < 2 ^ 31 ∧ b < 2 ^ 31) (h : ¬ q_in x (nI a) (nI b) = 0) : ∃ n, a ≤ n ∧ n ≤ b ∧ x = nI n := by
  unfold q_in at h
  by_cases h1 : x < nI a
  · rw [if_pos h1] at h
    exact absurd rfl h
  · rw [if_neg h1] at h
    by_cases h2 : nI b < x
    · rw [if_pos h2] at h
      exact absurd rfl h
    · have e1 : ¬ x.toInt < (nI a).toInt := fun q => h1 (Int32.lt_iff_toInt_lt.mpr q)
      have e2 : ¬ (nI b).toInt < x.toInt := fun q => h2 (Int32.lt_iff_toInt_lt.mpr q)
      rw [nI_toInt hb.1] at e1
      rw [nI_toInt hb.2] at e2
      have h0 : ¬ x < 0 := fun q => by
        rw [Int32.lt_iff_toInt_lt] at q
        have e0 : (0 : Int32).toInt = 0 := by decide
        omega
      obtain ⟨n, hn, rfl⟩ := nI_of h0
      rw [nI_toInt hn] at e1 e2
      exact ⟨n, by omega, by omega, rfl⟩
def kq (S S' : gS) : Prop := (∀ k, k = 1 ∨ k = 2 ∨ k = 4 ∨ k = 5 ∨ k = 10 ∨ k = 12 ∨ k = 20 ∨ k = 21 ∨ k = 22 ∨ k = 23 → S' k = S k) ∧ ∀ i, i = 1 ∨ i = 2 ∨ i = 21 ∨ i = 22 ∨ i = 24 ∨ i = 27 → S' 0 i = S 0 i
theorem kq.refl (S : gS) : kq S S := ⟨fun _ _ => rfl, fun _ _ => rfl⟩
theorem kq.trans {S S' S'' : gS} (h : kq S S') (h' : kq S' S'') : kq S S'' := ⟨fun k hk => (h'.1 k hk).trans (h.1 k hk), fun k hk => (h'.2 k hk).trans (h.2 k hk)⟩
theorem kq.f (S : gS) {i : Nat} (v : Int32) (hi : ¬ (i = 1 ∨ i = 2 ∨ i = 21 ∨ i = 22 ∨ i = 24 ∨ i = 27)) : kq S (k_f S i v) := ⟨fun k hk => if_neg (by omega), fun j hj => by
  show upd (S 0) i v j = S 0 j
  exact upd_ne (fun q => hi (by rw [← q]; exact hj))⟩
theorem kq.s (S : gS) {c : Nat} (v : Nat → Int32) (hc : ¬ (c = 0 ∨ c = 1 ∨ c = 2 ∨ c = 4 ∨ c = 5 ∨ c = 10 ∨ c = 12 ∨ c = 20 ∨ c = 21 ∨ c = 22 ∨ c = 23)) : kq S (k_s S c v) := ⟨fun k hk => if_neg (by omega), fun j hj => by
  show (if 0 = c then v else S 0) j = S 0 j
  rw [if_neg (by omega)]⟩
/-- behind a question: all as it was but what went last, and rows that a question fills -/
def kD (M : gM) (S : gS) (J : gJn) (M' : gM) : Prop := ∃ (S' : gS) (L' : gLg) (g : Nat → Int32), M' = kp M (kput S' (j_s J 7 g)) L' ∧ kq S S'
theorem j_s_id (J : gJn) (f : Nat) : j_s J f (J f) = J := by
  funext i
  unfold j_s
  split
  · next h => rw [h]
  · rfl
theorem kD.refl (M : gM) (S : gS) (L : gLg) (J : gJn) (g : Nat → Int32) : kD M S J (kp M (kput S (j_s J 7 g)) L) := ⟨S, L, g, rfl, kq.refl S⟩
theorem krow_s7 (J : gJn) (g : Nat → Int32) {i : Nat} (hi : i < 44) : krow (j_s J 7 g) i = krow J i := by
  rw [krow_val _ hi, krow_val _ hi]
  have e : ∀ m, (j_s J 7 g) (ktab m) = J (ktab m) := fun m => if_neg (by rcases ktab_lt m with h | h | h | h | h <;> rw [h] <;> decide)
  rw [e]
  rfl
def kb (S : gS) (t : gJn → Nat → Int32 → Bool) : Prop := S 10 0 = 1 ∧ S 0 24 < 0 ∧ kT S t
def kz (S0 : gS) (t : gJn → Nat → Int32 → Bool) (J0 : gJn) (S : gS) : Prop := kb S t ∧ kfull (S 13) J0 ∧ kq S0 S
theorem kb.q {S S' : gS} {t : gJn → Nat → Int32 → Bool} (h : kb S t) (hq : kq S S') : kb S' t := ⟨by rw [hq.1 10 (by decide)]; exact h.1, by rw [hq.2 24 (by decide)]; exact h.2.1, kT_eq (hq.1 2 (by decide)) (hq.1 4 (by decide)) (hq.1 5 (by decide)) (hq.2 21 (by decide)) h.2.2⟩
theorem kz.keep {S : gS} {t : gJn → Nat → Int32 → Bool} (h : kb S t) (J : gJn) (g : Nat → Int32) : kz S t J (k_s S 13 (kfl (S 13) (krow (j_s J 7 g)) 44)) := ⟨h.q (kq.s S _ (by decide)), fun i hi => (if_pos hi).trans (krow_s7 J g hi), kq.s S _ (by decide)⟩
theorem kz.ip {S0 S S' : gS} {L L' : gLg} {t : gJn → Nat → Int32 → Bool} {J0 : gJn} (h : kz S0 t J0 S) (hI : kIp S L S' L') : kz S0 t J0 S' := by
  obtain ⟨tp, rfl, _⟩ := hI
  exact ⟨h.1.q (kq.f S tp (by decide)), h.2.1, h.2.2.trans (kq.f S tp (by decide))⟩
theorem kz.s {S0 S : gS} {t : gJn → Nat → Int32 → Bool} {J0 : gJn} (h : kz S0 t J0 S) {c : Nat} (v : Nat → Int32) (hc : ¬ (c = 0 ∨ c = 1 ∨ c = 2 ∨ c = 4 ∨ c = 5 ∨ c = 10 ∨ c = 12 ∨ c = 20 ∨ c = 21 ∨ c = 22 ∨ c = 23)) (h13 : c ≠ 13) : kz S0 t J0 (k_s S c v) := ⟨h.1.q (kq.s S v hc), by
  show kfull ((if 13 = c then v else S 13)) J0
  rw [if_neg (Ne.symm h13)]
  exact h.2.1, h.2.2.trans (kq.s S v hc)⟩
/-- told, or not yet -/
def kok (S : gS) (J : gJn) (t : gJn → Nat → Int32 → Bool) : Prop := (kb S t ∧ jfit J ∧ jT J ≤ 999) ∨ (S 10 0 = 0 ∧ J 9 0 = 0 ∧ J 9 2 = 0)
theorem kok.told {S : gS} {J : gJn} {t : gJn → Nat → Int32 → Bool} (h : kok S J t) (hc : ¬ j_isTold J = 0) : kb S t ∧ jfit J ∧ jT J ≤ 999 := by
  rcases h with h | ⟨_, h, _⟩
  · exact h
  · exact absurd (by unfold j_isTold; rw [h]; decide) hc
theorem kok.isJ {S : gS} {J : gJn} {t : gJn → Nat → Int32 → Bool} (h : kok S J t) : k_isJ S = j_isTold J := by
  unfold k_isJ j_isTold
  rcases h with ⟨h, hj, _⟩ | ⟨h, h2, _⟩
  · rw [if_pos h.1, if_neg hj.1.nB]
  · rw [h, h2]
    decide
theorem kok.road {S : gS} {J : gJn} {t : gJn → Nat → Int32 → Bool} (h : kok S J t) {x : Int32} (hc : ¬ j_hasRoad J x = 0) : kb S t ∧ jfit J ∧ jT J ≤ 999 ∧ ∃ r, r < jR J ∧ x = nI r := by
  unfold j_hasRoad at hc
  by_cases h0 : x < 0
  · rw [if_pos h0] at hc
    exact absurd rfl hc
  · rw [if_neg h0] at hc
    obtain ⟨r, hr, rfl⟩ := nI_of h0
    rcases h with ⟨h, hj, hT⟩ | ⟨_, _, h2⟩
    · refine ⟨h, hj, hT, r, ?_, rfl⟩
      rw [hj.1.1] at hc
      by_cases hl : r < jR J
      · exact hl
      · rw [if_pos (nI_le (by omega) hr)] at hc
        exact absurd rfl hc
    · rw [h2, if_pos (nI_pos' hr)] at hc
      exact absurd rfl hc
/-- what no beat changes -/
def jst (J' J : gJn) : Prop := J' 1 = J 1 ∧ J' 3 = J 3 ∧ ∀ i, i ≠ 3 → i ≠ 4 → J' 9 i = J 9 i
theorem jst.refl (J : gJn) : jst J J := ⟨rfl, rfl, fun _ _ _ => rfl⟩
theorem jst.trans {J J' J'' : gJn} (h : jst J' J) (h' : jst J'' J') : jst J'' J := ⟨h'.1.trans h.1, h'.2.1.trans h.2.1, fun i a b => (h'.2.2 i a b).trans (h.2.2 i a b)⟩
theorem jst.one (t : gJn → Nat → Int32 → Bool) (J : gJn) : jst (jone t J) J := ⟨jone_f t J (by decide) (by decide) (by decide) (by decide) (by decide) (by decide), jone_f t J (by decide) (by decide) (by decide) (by decide) (by decide) (by decide), fun i a b => jone_9 t J a b⟩
theorem jst.many (t : gJn → Nat → Int32 → Bool) : ∀ (n : Nat) (J : gJn), jst (jmanyF t n J) J
  | 0, J => jst.refl J
  | n + 1, J => (jst.one t J).trans (jst.many t n (jone t J))
theorem jst.R {J J' : gJn} (h : jst J' J) : jR J' = jR J := by unfold jR; rw [h.2.2 2 (by decide) (by decide)]
theorem jst.back {J J' : gJn} (h : jst J' J) (g : Nat → Int32) : jback (j_s J' 7 g) J = j_s J 7 g := jback_one (J := j_s J' 7 g) h.1 h.2.1 h.2.2
def q_ahead (t : gJn → Nat → Int32 → Bool) (J : gJn) (road n what : Int32) : Int32 := if j_isTold J = 0 ∨ q_in n 0 100 = 0 ∨ q_in what 0 2 = 0 ∨ (¬ 2 ≤ what ∧ j_hasRoad J road = 0) then -10000 else if what = 0 then jmanyF t n.toNatClampNeg J 0 road.toNatClampNeg else if what = 1 then jmanyF t n.toNatClampNeg J 4 road.toNatClampNeg else jmanyF t n.toNatClampNeg J 9 4
def qclr (t : gJn → Nat → Int32 → Bool) (r : Nat) : Nat → gJn → Int32
  | 0, _ => -2
  | n + 1, J => if jone t J 0 r = 0 then J 9 3 else qclr t r n (jone t J)
def q_clear (t : gJn → Nat → Int32 → Bool) (J : gJn) (road : Int32) : Int32 := if j_hasRoad J road = 0 then -1 else qclr t road.toNatClampNeg 200 J
theorem jok.m1 (t : gJn → Nat → Int32 → Bool) (J : gJn) : jone t J 9 3 - 1 = J 9 3 := by rw [jone_93, Int32.add_sub_cancel]
set_option maxRecDepth 100000 in
set_option maxHeartbeats 4000000 in
theorem c_X11_ahead {M : gM} {S : gS} {L : gLg} {J : gJn} {g : Nat → Int32} (hM : 408 ≤ M.1) {t : gJn → Nat → Int32 → Bool} (hk : kok S J t) (road n what : Int32) : SX 8 0 0 mX11_ahead [.ref 384, .int road, .int n, .int what] (kp M (kput S (j_s J 7 g)) L) (fun v M' => v = some (.int (q_ahead t J road n what)) ∧ kD M S J M') := by
  refine SX.intro [some (.ref 384), some (.int road), some (.int n), some (.int what), none] (by decide +kernel) (Nat.le_of_ble_eq_true rfl) rfl (fun E hE hQ => ?_)
  refine rx_aload_n hE dX11_ahead_0 (i := 0) rfl rfl ?_
  refine rx_call0 (rx_callV (av := []) hE dX11_ahead_1 lk_X11_294 (c_X11_isJunction hM) (kp_o hM) np_X11_isJunction rfl rfl (by decide) (Nat.le_of_ble_eq_true rfl) rfl ?_)
  rintro v M' ⟨rfl, rfl⟩
  refine rx_int _ (j_isTold J) hk.isJ ?_
  refine rx_if_eq (tgt := 44) hE dX11_ahead_4 (by decide) (fun c4 => ?_) (fun c4 => ?_)
  · refine rx_sipush hE dX11_ahead_44 (v := -10000) (by decide) ?_
    exact rx_iret hE hQ rfl dX11_ahead_47 ⟨by simp [q_ahead, *], kD.refl M S L J g⟩
  · refine rx_iload_n hE dX11_ahead_7 (i := 2) rfl rfl ?_
    refine rx_i2l hE dX11_ahead_8 ?_
    refine rx_lconst hE dX11_ahead_9 (v := 0) (by decide) ?_
    refine rx_ldc2 hE dX11_ahead_10 kl_X11_372 ?_
    refine rx_call0 (rx_callS (av := [.long _, .long _, .long _]) hE dX11_ahead_13 lk_X11_130 (c_X11_in _ _ _) np_X11_in rfl rfl (by decide) (Nat.le_of_ble_eq_true rfl) rfl ?_)
    rintro v M' ⟨rfl, rfl⟩
    refine rx_int _ (q_in _ (0) (100)) (k_in_eq _ _ _ (by decide) (by decide)) ?_
    refine rx_if_eq (tgt := 44) hE dX11_ahead_16 (by decide) (fun c16 => ?_) (fun c16 => ?_)
    · refine rx_sipush hE dX11_ahead_44 (v := -10000) (by decide) ?_
      exact rx_iret hE hQ rfl dX11_ahead_47 ⟨by simp [q_ahead, *], kD.refl M S L J g⟩
    · refine rx_iload_n hE dX11_ahead_19 (i := 3) rfl rfl ?_
      refine rx_i2l hE dX11_ahead_20 ?_
      refine rx_lconst hE dX11_ahead_21 (v := 0) (by decide) ?_
      refine rx_ldc2 hE dX11_ahead_22 kl_X11_374 ?_
      refine rx_call0 (rx_callS (av := [.long _, .long _, .long _]) hE dX11_ahead_25 lk_X11_130 (c_X11_in _ _ _) np_X11_in rfl rfl (by decide) (Nat.le_of_ble_eq_true rfl) rfl ?_)
      rintro v M' ⟨rfl, rfl⟩
      refine rx_int _ (q_in _ (0) (2)) (k_in_eq _ _ _ (by decide) (by decide)) ?_
      refine rx_if_eq (tgt := 44) hE dX11_ahead_28 (by decide) (fun c28 => ?_) (fun c28 => ?_)
      · refine rx_sipush hE dX11_ahead_44 (v := -10000) (by decide) ?_
        exact rx_iret hE hQ rfl dX11_ahead_47 ⟨by simp [q_ahead, *], kD.refl M S L J g⟩
      · refine rx_iload_n hE dX11_ahead_31 (i := 3) rfl rfl ?_
        refine rx_iconst hE dX11_ahead_32 (v := 2) (by decide) ?_
        refine rx_icmp_ge (tgt := 48) hE dX11_ahead_33 (by decide) (fun c33 => ?_) (fun c33 => ?_)
        · have hg : ¬ (j_isTold J = 0 ∨ q_in n 0 100 = 0 ∨ q_in what 0 2 = 0 ∨ (¬ 2 ≤ what ∧ j_hasRoad J road = 0)) := by simp [*]
          obtain ⟨hb, hf, hT9⟩ := hk.told c4
          obtain ⟨N, hN0, hN, rfl⟩ := q_in_of (a := 0) (b := 100) (by decide) c16
          have hroad : (∃ r, r < jR J ∧ road = nI r) ∨ 2 ≤ what := Or.inr c33
          refine rx_aload_n hE dX11_ahead_48 (i := 0) rfl rfl ?_
          refine rx_call0 (rx_callV (av := []) hE dX11_ahead_49 lk_X11_376 (c_X11_keeps hM) (kp_o hM) np_X11_keeps rfl rfl (by decide) (Nat.le_of_ble_eq_true rfl) rfl ?_)
          rintro v M' ⟨rfl, rfl⟩
          have hz := kz.keep hb J g
          refine rx_aload_n hE dX11_ahead_52 (i := 0) rfl rfl ?_
          refine rx_iload_n hE dX11_ahead_53 (i := 2) rfl rfl ?_
          refine rx_call0 (rx_callV (av := [.int (nI N)]) hE dX11_ahead_54 lk_X11_379 (c_X11_passesAll hM hz.1.1 hz.1.2.1 hz.1.2.2 hf (by omega)) (kp_o hM) np_X11_passesAll rfl rfl (by decide) (Nat.le_of_ble_eq_true rfl) rfl ?_)
          rintro v M' ⟨rfl, S1, L1, g1, rfl, hI⟩
          have hz1 := hz.ip hI
          clear hI
          refine rx_iload_n hE dX11_ahead_57 (i := 3) rfl rfl ?_
          refine rx_if_ne (tgt := 69) hE dX11_ahead_58 (by decide) (fun c58 => ?_) (fun c58 => ?_)
          · refine rx_iload_n hE dX11_ahead_69 (i := 3) rfl rfl ?_
            refine rx_iconst hE dX11_ahead_70 (v := 1) (by decide) ?_
            refine rx_icmp_ne (tgt := 82) hE dX11_ahead_71 (by decide) (fun c71 => ?_) (fun c71 => ?_)
            · refine rx_aload_n hE dX11_ahead_82 (i := 0) rfl rfl ?_
              refine rx_getf hE dX11_ahead_83 fl_X11_39_10 (kp_o hM) rfl ?_
              refine rx_bipush hE dX11_ahead_86 (v := 53) (by decide) ?_
              refine rx_ialdN (i := 53) hE dX11_ahead_88 (kp_10 hM) (by omega) (by decide) ?_
              refine rx_int _ _ kr_c4 ?_
              refine rx_istore_4 hE dX11_ahead_89 (by decide) rfl ?_
              refine rx_aload_n hE dX11_ahead_91 (i := 0) rfl rfl ?_
              refine rx_call0 (rx_callV (av := []) hE dX11_ahead_92 lk_X11_382 (c_X11_laysBack hM hz1.2.1) (kp_o hM) np_X11_laysBack rfl rfl (by decide) (Nat.le_of_ble_eq_true rfl) rfl ?_)
              rintro v M' ⟨rfl, rfl⟩
              refine rx_iload hE dX11_ahead_95 rfl ?_
              exact rx_iret hE hQ rfl dX11_ahead_97 ⟨by unfold q_ahead; rw [if_neg hg, nI_clamp (n := N) (by omega)]; (first | rw [if_pos c58, nI_clamp (n := r) (by omega)] | rw [if_neg c58, if_pos c71, nI_clamp (n := r) (by omega)] | rw [if_neg c58, if_neg c71]) <;> rfl, S1, L1, _, by rw [(jst.many t N J).back g1], hz1.2.2⟩
            · obtain ⟨r, hr, rfl⟩ := hroad.resolve_right (by rw [c71]; decide)
              have hr6 := hf.1.2.1
              refine rx_aload_n hE dX11_ahead_74 (i := 0) rfl rfl ?_
              refine rx_iload_n hE dX11_ahead_75 (i := 1) rfl rfl ?_
              refine rx_call0 (rx_callV (av := [.int (nI r)]) hE dX11_ahead_76 lk_X11_315 (c_X11_wentFrom hM (r := r) (by omega)) (kp_o hM) np_X11_wentFrom rfl rfl (by decide) (Nat.le_of_ble_eq_true rfl) rfl ?_)
              rintro v M' ⟨rfl, rfl⟩
              refine rx_goto (tgt := 89) hE dX11_ahead_79 (by decide) ?_
              refine rx_istore_4 hE dX11_ahead_89 (by decide) rfl ?_
              refine rx_aload_n hE dX11_ahead_91 (i := 0) rfl rfl ?_
              refine rx_call0 (rx_callV (av := []) hE dX11_ahead_92 lk_X11_382 (c_X11_laysBack hM hz1.2.1) (kp_o hM) np_X11_laysBack rfl rfl (by decide) (Nat.le_of_ble_eq_true rfl) rfl ?_)
              rintro v M' ⟨rfl, rfl⟩
              refine rx_iload hE dX11_ahead_95 rfl ?_
              exact rx_iret hE hQ rfl dX11_ahead_97 ⟨by unfold q_ahead; rw [if_neg hg, nI_clamp (n := N) (by omega)]; (first | rw [if_pos c58, nI_clamp (n := r) (by omega)] | rw [if_neg c58, if_pos c71, nI_clamp (n := r) (by omega)] | rw [if_neg c58, if_neg c71]) <;> rfl, S1, L1, _, by rw [(jst.many t N J).back g1], hz1.2.2⟩
          · obtain ⟨r, hr, rfl⟩ := hroad.resolve_right (by rw [c58]; decide)
            have hr6 := hf.1.2.1
            refine rx_aload_n hE dX11_ahead_61 (i := 0) rfl rfl ?_
            refine rx_iload_n hE dX11_ahead_62 (i := 1) rfl rfl ?_
            refine rx_call0 (rx_callV (av := [.int (nI r)]) hE dX11_ahead_63 lk_X11_312 (c_X11_waitOn hM (r := r) (by omega)) (kp_o hM) np_X11_waitOn rfl rfl (by decide) (Nat.le_of_ble_eq_true rfl) rfl ?_)
            rintro v M' ⟨rfl, rfl⟩
            refine rx_goto (tgt := 89) hE dX11_ahead_66 (by decide) ?_
            refine rx_istore_4 hE dX11_ahead_89 (by decide) rfl ?_
            refine rx_aload_n hE dX11_ahead_91 (i := 0) rfl rfl ?_
            refine rx_call0 (rx_callV (av := []) hE dX11_ahead_92 lk_X11_382 (c_X11_laysBack hM hz1.2.1) (kp_o hM) np_X11_laysBack rfl rfl (by decide) (Nat.le_of_ble_eq_true rfl) rfl ?_)
            rintro v M' ⟨rfl, rfl⟩
            refine rx_iload hE dX11_ahead_95 rfl ?_
            exact rx_iret hE hQ rfl dX11_ahead_97 ⟨by unfold q_ahead; rw [if_neg hg, nI_clamp (n := N) (by omega)]; (first | rw [if_pos c58, nI_clamp (n := r) (by omega)] | rw [if_neg c58, if_pos c71, nI_clamp (n := r) (by omega)] | rw [if_neg c58, if_neg c71]) <;> rfl, S1, L1, _, by rw [(jst.many t N J).back g1], hz1.2.2⟩
        · refine rx_aload_n hE dX11_ahead_36 (i := 0) rfl rfl ?_
          refine rx_iload_n hE dX11_ahead_37 (i := 1) rfl rfl ?_
          refine rx_call0 (rx_callV (av := [.int _]) hE dX11_ahead_38 lk_X11_309 (c_X11_isRoad hM _) (kp_o hM) np_X11_isRoad rfl rfl (by decide) (Nat.le_of_ble_eq_true rfl) rfl ?_)
          rintro v M' ⟨rfl, rfl⟩
          refine rx_int _ (j_hasRoad J _) rfl ?_
          refine rx_if_ne (tgt := 48) hE dX11_ahead_41 (by decide) (fun c41 => ?_) (fun c41 => ?_)
          · have hg : ¬ (j_isTold J = 0 ∨ q_in n 0 100 = 0 ∨ q_in what 0 2 = 0 ∨ (¬ 2 ≤ what ∧ j_hasRoad J road = 0)) := by simp [*]
            obtain ⟨hb, hf, hT9⟩ := hk.told c4
            obtain ⟨N, hN0, hN, rfl⟩ := q_in_of (a := 0) (b := 100) (by decide) c16
            have hroad : (∃ r, r < jR J ∧ road = nI r) ∨ 2 ≤ what := Or.inl (hk.road c41).2.2.2
            refine rx_aload_n hE dX11_ahead_48 (i := 0) rfl rfl ?_
            refine rx_call0 (rx_callV (av := []) hE dX11_ahead_49 lk_X11_376 (c_X11_keeps hM) (kp_o hM) np_X11_keeps rfl rfl (by decide) (Nat.le_of_ble_eq_true rfl) rfl ?_)
            rintro v M' ⟨rfl, rfl⟩
            have hz := kz.keep hb J g
            refine rx_aload_n hE dX11_ahead_52 (i := 0) rfl rfl ?_
            refine rx_iload_n hE dX11_ahead_53 (i := 2) rfl rfl ?_
            refine rx_call0 (rx_callV (av := [.int (nI N)]) hE dX11_ahead_54 lk_X11_379 (c_X11_passesAll hM hz.1.1 hz.1.2.1 hz.1.2.2 hf (by omega)) (kp_o hM) np_X11_passesAll rfl rfl (by decide) (Nat.le_of_ble_eq_true rfl) rfl ?_)
            rintro v M' ⟨rfl, S1, L1, g1, rfl, hI⟩
            have hz1 := hz.ip hI
            clear hI
            refine rx_iload_n hE dX11_ahead_57 (i := 3) rfl rfl ?_
            refine rx_if_ne (tgt := 69) hE dX11_ahead_58 (by decide) (fun c58 => ?_) (fun c58 => ?_)
            · refine rx_iload_n hE dX11_ahead_69 (i := 3) rfl rfl ?_
              refine rx_iconst hE dX11_ahead_70 (v := 1) (by decide) ?_
              refine rx_icmp_ne (tgt := 82) hE dX11_ahead_71 (by decide) (fun c71 => ?_) (fun c71 => ?_)
              · refine rx_aload_n hE dX11_ahead_82 (i := 0) rfl rfl ?_
                refine rx_getf hE dX11_ahead_83 fl_X11_39_10 (kp_o hM) rfl ?_
                refine rx_bipush hE dX11_ahead_86 (v := 53) (by decide) ?_
                refine rx_ialdN (i := 53) hE dX11_ahead_88 (kp_10 hM) (by omega) (by decide) ?_
                refine rx_int _ _ kr_c4 ?_
                refine rx_istore_4 hE dX11_ahead_89 (by decide) rfl ?_
                refine rx_aload_n hE dX11_ahead_91 (i := 0) rfl rfl ?_
                refine rx_call0 (rx_callV (av := []) hE dX11_ahead_92 lk_X11_382 (c_X11_laysBack hM hz1.2.1) (kp_o hM) np_X11_laysBack rfl rfl (by decide) (Nat.le_of_ble_eq_true rfl) rfl ?_)
                rintro v M' ⟨rfl, rfl⟩
                refine rx_iload hE dX11_ahead_95 rfl ?_
                exact rx_iret hE hQ rfl dX11_ahead_97 ⟨by unfold q_ahead; rw [if_neg hg, nI_clamp (n := N) (by omega)]; (first | rw [if_pos c58, nI_clamp (n := r) (by omega)] | rw [if_neg c58, if_pos c71, nI_clamp (n := r) (by omega)] | rw [if_neg c58, if_neg c71]) <;> rfl, S1, L1, _, by rw [(jst.many t N J).back g1], hz1.2.2⟩
              · obtain ⟨r, hr, rfl⟩ := hroad.resolve_right (by rw [c71]; decide)
                have hr6 := hf.1.2.1
                refine rx_aload_n hE dX11_ahead_74 (i := 0) rfl rfl ?_
                refine rx_iload_n hE dX11_ahead_75 (i := 1) rfl rfl ?_
                refine rx_call0 (rx_callV (av := [.int (nI r)]) hE dX11_ahead_76 lk_X11_315 (c_X11_wentFrom hM (r := r) (by omega)) (kp_o hM) np_X11_wentFrom rfl rfl (by decide) (Nat.le_of_ble_eq_true rfl) rfl ?_)
                rintro v M' ⟨rfl, rfl⟩
                refine rx_goto (tgt := 89) hE dX11_ahead_79 (by decide) ?_
                refine rx_istore_4 hE dX11_ahead_89 (by decide) rfl ?_
                refine rx_aload_n hE dX11_ahead_91 (i := 0) rfl rfl ?_
                refine rx_call0 (rx_callV (av := []) hE dX11_ahead_92 lk_X11_382 (c_X11_laysBack hM hz1.2.1) (kp_o hM) np_X11_laysBack rfl rfl (by decide) (Nat.le_of_ble_eq_true rfl) rfl ?_)
                rintro v M' ⟨rfl, rfl⟩
                refine rx_iload hE dX11_ahead_95 rfl ?_
                exact rx_iret hE hQ rfl dX11_ahead_97 ⟨by unfold q_ahead; rw [if_neg hg, nI_clamp (n := N) (by omega)]; (first | rw [if_pos c58, nI_clamp (n := r) (by omega)] | rw [if_neg c58, if_pos c71, nI_clamp (n := r) (by omega)] | rw [if_neg c58, if_neg c71]) <;> rfl, S1, L1, _, by rw [(jst.many t N J).back g1], hz1.2.2⟩
            · obtain ⟨r, hr, rfl⟩ := hroad.resolve_right (by rw [c58]; decide)
              have hr6 := hf.1.2.1
              refine rx_aload_n hE dX11_ahead_61 (i := 0) rfl rfl ?_
              refine rx_iload_n hE dX11_ahead_62 (i := 1) rfl rfl ?_
              refine rx_call0 (rx_callV (av := [.int (nI r)]) hE dX11_ahead_63 lk_X11_312 (c_X11_waitOn hM (r := r) (by omega)) (kp_o hM) np_X11_waitOn rfl rfl (by decide) (Nat.le_of_ble_eq_true rfl) rfl ?_)
              rintro v M' ⟨rfl, rfl⟩
              refine rx_goto (tgt := 89) hE dX11_ahead_66 (by decide) ?_
              refine rx_istore_4 hE dX11_ahead_89 (by decide) rfl ?_
              refine rx_aload_n hE dX11_ahead_91 (i := 0) rfl rfl ?_
              refine rx_call0 (rx_callV (av := []) hE dX11_ahead_92 lk_X11_382 (c_X11_laysBack hM hz1.2.1) (kp_o hM) np_X11_laysBack rfl rfl (by decide) (Nat.le_of_ble_eq_true rfl) rfl ?_)
              rintro v M' ⟨rfl, rfl⟩
              refine rx_iload hE dX11_ahead_95 rfl ?_
              exact rx_iret hE hQ rfl dX11_ahead_97 ⟨by unfold q_ahead; rw [if_neg hg, nI_clamp (n := N) (by omega)]; (first | rw [if_pos c58, nI_clamp (n := r) (by omega)] | rw [if_neg c58, if_pos c71, nI_clamp (n := r) (by omega)] | rw [if_neg c58, if_neg c71]) <;> rfl, S1, L1, _, by rw [(jst.many t N J).back g1], hz1.2.2⟩
          · refine rx_sipush hE dX11_ahead_44 (v := -10000) (by decide) ?_
            exact rx_iret hE hQ rfl dX11_ahead_47 ⟨by simp [q_ahead, *], kD.refl M S L J g⟩
set_option maxRecDepth 100000 in
set_option maxHeartbeats 4000000 in
theorem c_X11_clear {M : gM} {S : gS} {L : gLg} {J : gJn} {g : Nat → Int32} (hM : 408 ≤ M.1) {t : gJn → Nat → Int32 → Bool} (hk : kok S J t) (road : Int32) : SX 7 0 0 mX11_clear [.ref 384, .int road] (kp M (kput S (j_s J 7 g)) L) (fun v M' => v = some (.int (q_clear t J road)) ∧ kD M S J M') := by
  refine SX.intro [some (.ref 384), some (.int road), none, none] (by decide +kernel) (Nat.le_of_ble_eq_true rfl) rfl (fun E hE hQ => ?_)
  refine rx_aload_n hE dX11_clear_0 (i := 0) rfl rfl ?_
  refine rx_iload_n hE dX11_clear_1 (i := 1) rfl rfl ?_
  refine rx_call0 (rx_callV (av := [.int _]) hE dX11_clear_2 lk_X11_309 (c_X11_isRoad hM _) (kp_o hM) np_X11_isRoad rfl rfl (by decide) (Nat.le_of_ble_eq_true rfl) rfl ?_)
  rintro v M' ⟨rfl, rfl⟩
  refine rx_int _ (j_hasRoad J _) rfl ?_
  refine rx_if_ne (tgt := 10) hE dX11_clear_5 (by decide) (fun c5 => ?_) (fun c5 => ?_)
  · obtain ⟨hb, hf, hT9, r, hr, rfl⟩ := hk.road c5
    have hr6 := hf.1.2.1
    have fin : ∀ (S' : gS) (L' : gLg) (g' : Nat → Int32) (J' : gJn) (ans x : Int32), kz S t J S' → jst J' J → some (Value.int ans) = some (Value.int (qclr t r 200 J)) → RX E mX11_clear.2.2.1 0 0 59 [some (.ref 384), some (.int (nI r)), some (.int ans), some (.int x)] [] (kp M (kput S' (j_s J' 7 g')) L') := by
      intro S' L' g' J' ans x hz hs hv
      have hv : some (Value.int ans) = some (Value.int (q_clear t J (nI r))) := by rw [hv]; unfold q_clear; rw [if_neg c5, nI_clamp (n := r) (by omega)]
      refine rx_aload_n hE dX11_clear_59 (i := 0) rfl rfl ?_
      refine rx_call0 (rx_callV (av := []) hE dX11_clear_60 lk_X11_382 (c_X11_laysBack hM hz.2.1) (kp_o hM) np_X11_laysBack rfl rfl (by decide) (Nat.le_of_ble_eq_true rfl) rfl ?_)
      rintro v M' ⟨rfl, rfl⟩
      refine rx_iload_n hE dX11_clear_63 (i := 2) rfl rfl ?_
      exact rx_iret hE hQ rfl dX11_clear_64 ⟨hv, S', L', _, by rw [hs.back g'], hz.2.2⟩
    have loop : ∀ (n k : Nat) (S' : gS) (L' : gLg) (g' : Nat → Int32) (J' : gJn), k + n = 200 → jT J' = jT J + k → kz S t J S' → jst J' J → jfit J' → qclr t r n J' = qclr t r 200 J → RX E mX11_clear.2.2.1 0 0 19 [some (.ref 384), some (.int (nI r)), some (.int (-2)), some (.int (nI k))] [] (kp M (kput S' (j_s J' 7 g')) L') := by
      intro n
      induction n with
      | zero =>
        intro k S' L' g' J' hk2 hT2 hz hs hf' hF
        refine rx_iload_n hE dX11_clear_19 (i := 3) rfl rfl ?_
        refine rx_sipush hE dX11_clear_20 (v := 200) (by decide) ?_
        refine rx_icmp_ge (tgt := 59) hE dX11_clear_23 (by decide) (fun c23 => ?_) (fun c23 => absurd (show nI 200 ≤ nI k from nI_le (by omega) (by omega)) c23)
        exact fin S' L' g' J' _ _ hz hs (by rw [← hF]; rfl)
      | succ n ih =>
        intro k S' L' g' J' hk2 hT2 hz hs hf' hF
        have hR : jR J' = jR J := hs.R
        refine rx_iload_n hE dX11_clear_19 (i := 3) rfl rfl ?_
        refine rx_sipush hE dX11_clear_20 (v := 200) (by decide) ?_
        refine rx_icmp_ge (tgt := 59) hE dX11_clear_23 (by decide) (fun c23 => absurd c23 (nI_ge (a := k) (b := 200) (by omega) (by omega))) (fun c23 => ?_)
        refine rx_iload_n hE dX11_clear_26 (i := 2) rfl rfl ?_
        refine rx_if_ge (tgt := 59) hE dX11_clear_27 (by decide) (fun c27 => absurd c27 (by decide)) (fun c27 => ?_)
        refine rx_aload_n hE dX11_clear_30 (i := 0) rfl rfl ?_
        refine rx_call0 (rx_callV (av := []) hE dX11_clear_31 lk_X11_362 (c_X11_passg hM hz.1.1 hz.1.2.1 hz.1.2.2 hf') (kp_o hM) np_X11_passes rfl rfl (by decide) (Nat.le_of_ble_eq_true rfl) rfl ?_)
        rintro v M' ⟨rfl, S1, L1, g1, rfl, hI, hg1⟩
        have hz1 := hz.ip hI
        clear hI
        refine rx_pop hE dX11_clear_34 rfl ?_
        refine rx_aload_n hE dX11_clear_35 (i := 0) rfl rfl ?_
        refine rx_iload_n hE dX11_clear_36 (i := 1) rfl rfl ?_
        refine rx_call0 (rx_callV (av := [.int (nI r)]) hE dX11_clear_37 lk_X11_312 (c_X11_waitOn hM (r := r) (by omega)) (kp_o hM) np_X11_waitOn rfl rfl (by decide) (Nat.le_of_ble_eq_true rfl) rfl ?_)
        rintro v M' ⟨rfl, rfl⟩
        refine rx_if_ne (tgt := 53) hE dX11_clear_40 (by decide) (fun c40 => ?_) (fun c40 => ?_)
        · have hc : ¬ jone t J' 0 r = 0 := c40
          refine rx_iinc_3 hE dX11_clear_53 (v := 1) (by decide) (by decide) rfl ?_
          rw [nI_1]
          refine rx_goto (tgt := 19) hE dX11_clear_56 (by decide) ?_
          exact ih (k + 1) S1 L1 g1 (jone t J') (by omega) (by rw [jone_T t hf'.1]; omega) hz1 (hs.trans (jst.one t J')) (hf'.one t (by omega)) (by rw [← hF]; show _ = (if jone t J' 0 r = 0 then J' 9 3 else _); rw [if_neg hc])
        · have hc : jone t J' 0 r = 0 := c40
          refine rx_aload_n hE dX11_clear_43 (i := 0) rfl rfl ?_
          refine rx_getf hE dX11_clear_44 fl_X11_39_10 (kp_o hM) rfl ?_
          refine rx_bipush hE dX11_clear_47 (v := 10) (by decide) ?_
          refine rx_ialdN (i := 10) hE dX11_clear_49 (kp_10 hM) (by omega) (by decide) ?_
          refine rx_int _ _ kr_c3 ?_
          refine rx_iconst hE dX11_clear_50 (v := 1) (by decide) ?_
          refine rx_isub hE dX11_clear_51 ?_
          refine rx_int _ (J' 9 3) (jok.m1 t J') ?_
          refine rx_istore_n_2 hE dX11_clear_52 (by decide) rfl ?_
          refine rx_iinc_3 hE dX11_clear_53 (v := 1) (by decide) (by decide) rfl ?_
          rw [nI_1]
          refine rx_goto (tgt := 19) hE dX11_clear_56 (by decide) ?_
          refine rx_iload_n hE dX11_clear_19 (i := 3) rfl rfl ?_
          refine rx_sipush hE dX11_clear_20 (v := 200) (by decide) ?_
          refine rx_icmp_ge (tgt := 59) hE dX11_clear_23 (by decide) (fun c23 => ?_) (fun c23 => ?_)
          · exact fin S1 L1 g1 _ _ _ hz1 (hs.trans (jst.one t J')) (by rw [← hF]; show some (Value.int (J' 9 3)) = some (Value.int (if jone t J' 0 r = 0 then J' 9 3 else _)); rw [if_pos hc])
          · refine rx_iload_n hE dX11_clear_26 (i := 2) rfl rfl ?_
            refine rx_if_ge (tgt := 59) hE dX11_clear_27 (by decide) (fun c27 => ?_) (fun c27 => absurd (by rw [hf'.1.2.2.2.2.2.2.1]; exact nI_pos' (by omega)) c27)
            exact fin S1 L1 g1 _ _ _ hz1 (hs.trans (jst.one t J')) (by rw [← hF]; show some (Value.int (J' 9 3)) = some (Value.int (if jone t J' 0 r = 0 then J' 9 3 else _)); rw [if_pos hc])
    refine rx_bipush hE dX11_clear_10 (v := -2) (by decide) ?_
    refine rx_istore_n_2 hE dX11_clear_12 (by decide) rfl ?_
    refine rx_aload_n hE dX11_clear_13 (i := 0) rfl rfl ?_
    refine rx_call0 (rx_callV (av := []) hE dX11_clear_14 lk_X11_376 (c_X11_keeps hM) (kp_o hM) np_X11_keeps rfl rfl (by decide) (Nat.le_of_ble_eq_true rfl) rfl ?_)
    rintro v M' ⟨rfl, rfl⟩
    have hz := kz.keep hb J g
    refine rx_iconst hE dX11_clear_17 (v := 0) (by decide) ?_
    refine rx_istore_n_3 hE dX11_clear_18 (by decide) rfl ?_
    exact loop 200 0 _ _ g J (by omega) (by omega) hz (jst.refl J) hf rfl
  · refine rx_iconst hE dX11_clear_8 (v := -1) (by decide) ?_
    exact rx_iret hE hQ rfl dX11_clear_9 ⟨by simp [q_clear, *], kD.refl M S L J g⟩
