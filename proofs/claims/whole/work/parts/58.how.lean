/-! ===== how it is ===== -/
def qchain (w : Int32) : List Int32 → Int32 → Int32 → Int32
  | [], _, d => d
  | x :: l, k, d => if w = k then x else qchain w l (k + 1) d
def q_road (J : gJn) (road what : Int32) : Int32 := if j_hasRoad J road = 0 then -1 else qchain what [J 0 road.toNatClampNeg, J 1 road.toNatClampNeg, J 2 road.toNatClampNeg, J 3 road.toNatClampNeg, J 4 road.toNatClampNeg, J 5 road.toNatClampNeg, j_since J road.toNatClampNeg] 0 (-1)
def q_scored (J : gJn) (b : Int32) : Int32 := if j_hasBeat J b = 0 then -1 else J 8 b.toNatClampNeg
def q_count (J : gJn) (rules force c u x tp what : Int32) : Int32 := qchain what [J 9 0, J 9 1, J 9 2, rules, force, J 9 3, j_bob J, jsum (J 0) (jR J), jsum (J 4) (jR J), jsum (J 5) (jR J), c, u, x, tp] 0 (-1)
theorem qchain_0 (x : Int32) (l : List Int32) (k d : Int32) : qchain k (x :: l) k d = x := if_pos rfl
theorem qchain_n {w : Int32} (x : Int32) (l : List Int32) {k d : Int32} (h : ¬ w = k) : qchain w (x :: l) k d = qchain w l (k + 1) d := if_neg h
theorem kok.R {S : gS} {J : gJn} {t : gJn → Nat → Int32 → Bool} (h : kok S J t) : J 9 2 = nI (jR J) ∧ jR J ≤ 6 := by
  rcases h with ⟨_, h, _⟩ | ⟨_, _, h⟩
  · exact ⟨h.1.1, h.1.2.1⟩
  · unfold jR
    rw [h]
    decide
theorem kok.bob {S : gS} {J : gJn} {t : gJn → Nat → Int32 → Bool} (h : kok S J t) : k_bob S J = j_bob J := by
  rcases h with ⟨h, hj, _⟩ | ⟨h, h2, _⟩
  · rw [hj.1.bobk h.1, hj.1.bob]
  · unfold k_bob j_bob
    rw [h, h2, if_neg (by decide), if_pos (by decide)]
theorem kok.beat {S : gS} {J : gJn} {t : gJn → Nat → Int32 → Bool} (h : kok S J t) (b : Int32) : k_isBeat S J b = j_hasBeat J b := by
  unfold k_isBeat j_hasBeat
  rcases h with ⟨h, _, _⟩ | ⟨h, h2, _⟩
  · rw [if_pos h.1]
  · rw [h, h2, if_neg (by decide)]
    by_cases hb : b < 0
    · rw [if_pos hb]
    · rw [if_neg hb, if_pos (Int32.not_lt.mp hb)]
theorem kok.beatN {S : gS} {J : gJn} {t : gJn → Nat → Int32 → Bool} (h : kok S J t) {x : Int32} (hc : ¬ j_hasBeat J x = 0) : kb S t ∧ jfit J ∧ jT J ≤ 999 ∧ ∃ b, b < jB J ∧ x = nI b := by
  unfold j_hasBeat at hc
  by_cases h0 : x < 0
  · rw [if_pos h0] at hc
    exact absurd rfl hc
  · rw [if_neg h0] at hc
    obtain ⟨r, hr, rfl⟩ := nI_of h0
    rcases h with ⟨h, hj, hT⟩ | ⟨_, h2, _⟩
    · refine ⟨h, hj, hT, r, ?_, rfl⟩
      rw [hj.1.2.2.2.1] at hc
      by_cases hl : r < jB J
      · exact hl
      · rw [if_pos (nI_le (by omega) hr)] at hc
        exact absurd rfl hc
    · rw [h2, if_pos (nI_pos' hr)] at hc
      exact absurd rfl hc
set_option maxRecDepth 100000 in
set_option maxHeartbeats 4000000 in
theorem c_X11_beatOfBar2 {M : gM} {S : gS} {L : gLg} {J : gJn} (hM : 408 ≤ M.1) (hB : S 10 0 = 1 → ¬ J 9 0 = 0) : SX 1 0 0 mX11_beatOfBar [.ref 384] (kp M (kput S J) L) (fun v M' => v = some (.int (k_bob S J)) ∧ M' = kp M (kput S J) L) := by
  refine SX.intro [some (.ref 384)] (by decide +kernel) (Nat.le_of_ble_eq_true rfl) rfl (fun E hE hQ => ?_)
  refine rx_aload_n hE dX11_beatOfBar_0 (i := 0) rfl rfl ?_
  refine rx_call0 (rx_callV (av := []) hE dX11_beatOfBar_1 lk_X11_294 (c_X11_isJunction hM) (kp_o hM) np_X11_isJunction rfl rfl (by decide) (Nat.le_of_ble_eq_true rfl) rfl ?_)
  rintro v M' ⟨rfl, rfl⟩
  refine rx_if_eq (tgt := 24) hE dX11_beatOfBar_4 (by decide) (fun c4 => ?_) (fun c4 => ?_)
  · have c4 : ¬ S 10 0 = 1 := fun q => by simp [k_isJ, q] at c4
    refine rx_iconst hE dX11_beatOfBar_24 (v := 0) (by decide) ?_
    exact rx_iret hE hQ rfl dX11_beatOfBar_25 ⟨by simp [k_bob, *], rfl⟩
  · have c4 : S 10 0 = 1 := by unfold k_isJ at c4; split at c4 <;> simp_all
    refine rx_aload_n hE dX11_beatOfBar_7 (i := 0) rfl rfl ?_
    refine rx_getf hE dX11_beatOfBar_8 fl_X11_39_10 (kp_o hM) rfl ?_
    refine rx_bipush hE dX11_beatOfBar_11 (v := 10) (by decide) ?_
    refine rx_ialdN (i := 10) hE dX11_beatOfBar_13 (kp_10 hM) (by omega) (by decide) ?_
    refine rx_int _ _ kr_c3 ?_
    refine rx_aload_n hE dX11_beatOfBar_14 (i := 0) rfl rfl ?_
    refine rx_getf hE dX11_beatOfBar_15 fl_X11_39_10 (kp_o hM) rfl ?_
    refine rx_iconst hE dX11_beatOfBar_18 (v := 1) (by decide) ?_
    refine rx_ialdN (i := 1) hE dX11_beatOfBar_19 (kp_10 hM) (by omega) (by decide) ?_
    refine rx_int _ _ kr_c0 ?_
    refine rx_irem hE dX11_beatOfBar_20 (hB c4) ?_
    refine rx_goto (tgt := 25) hE dX11_beatOfBar_21 (by decide) ?_
    exact rx_iret hE hQ rfl dX11_beatOfBar_25 ⟨by simp [k_bob, *], rfl⟩
set_option maxRecDepth 100000 in
set_option maxHeartbeats 4000000 in
theorem c_X11_road {M : gM} {S : gS} {L : gLg} {J : gJn} {g : Nat → Int32} (hM : 408 ≤ M.1) {t : gJn → Nat → Int32 → Bool} (hk : kok S J t) (road what : Int32) : SX 1 0 0 mX11_road [.ref 384, .int road, .int what] (kp M (kput S (j_s J 7 g)) L) (fun v M' => v = some (.int (q_road J road what)) ∧ kD M S J M') := by
  refine SX.intro [some (.ref 384), some (.int road), some (.int what)] (by decide +kernel) (Nat.le_of_ble_eq_true rfl) rfl (fun E hE hQ => ?_)
  refine rx_aload_n hE dX11_road_0 (i := 0) rfl rfl ?_
  refine rx_iload_n hE dX11_road_1 (i := 1) rfl rfl ?_
  refine rx_call0 (rx_callV (av := [.int _]) hE dX11_road_2 lk_X11_309 (c_X11_isRoad hM _) (kp_o hM) np_X11_isRoad rfl rfl (by decide) (Nat.le_of_ble_eq_true rfl) rfl ?_)
  rintro v M' ⟨rfl, rfl⟩
  refine rx_int _ (j_hasRoad J _) rfl ?_
  refine rx_if_ne (tgt := 10) hE dX11_road_5 (by decide) (fun c5 => ?_) (fun c5 => ?_)
  · obtain ⟨hb, hf, hT9, r, hr, rfl⟩ := hk.road c5
    have hr6 := hf.1.2.1
    refine rx_iload_n hE dX11_road_10 (i := 2) rfl rfl ?_
    by_cases hs0 : what = 0
    · subst hs0
      refine rx_tableIn (off := 41) (tgt := 52) hE dX11_road_11 (by decide) (by decide) rfl (by decide) ?_
      refine rx_aload_n hE dX11_road_52 (i := 0) rfl rfl ?_
      refine rx_iload_n hE dX11_road_53 (i := 1) rfl rfl ?_
      refine rx_call0 (rx_callV (av := [.int (nI r)]) hE dX11_road_54 lk_X11_312 (c_X11_waitOn hM (r := r) (by omega)) (kp_o hM) np_X11_waitOn rfl rfl (by decide) (Nat.le_of_ble_eq_true rfl) rfl ?_)
      rintro v M' ⟨rfl, rfl⟩
      refine rx_int _ (J 0 r) rfl ?_
      exact rx_iret hE hQ rfl dX11_road_57 ⟨by unfold q_road; rw [if_neg c5, nI_clamp (n := r) (by omega)]; rfl, kD.refl M S L J g⟩
    by_cases hs1 : what = 1
    · subst hs1
      refine rx_tableIn (off := 47) (tgt := 58) hE dX11_road_11 (by decide) (by decide) rfl (by decide) ?_
      refine rx_aload_n hE dX11_road_58 (i := 0) rfl rfl ?_
      refine rx_getf hE dX11_road_59 fl_X11_39_10 (kp_o hM) rfl ?_
      refine rx_bipush hE dX11_road_62 (v := 54) (by decide) ?_
      refine rx_iload_n hE dX11_road_64 (i := 1) rfl rfl ?_
      refine rx_mem rfl ?_
      refine rx_iadd hE dX11_road_65 ?_
      refine rx_int _ (nI (54 + r)) (nI_add 54 r) ?_
      refine rx_ialdN (i := 54 + r) hE dX11_road_66 (kp_10 hM) (by omega) (by decide) ?_
      refine rx_int _ (J 1 r) (kr_1 (by omega)) ?_
      exact rx_iret hE hQ rfl dX11_road_67 ⟨by unfold q_road; rw [if_neg c5, nI_clamp (n := r) (by omega)]; rfl, kD.refl M S L J g⟩
    by_cases hs2 : what = 2
    · subst hs2
      refine rx_tableIn (off := 57) (tgt := 68) hE dX11_road_11 (by decide) (by decide) rfl (by decide) ?_
      refine rx_aload_n hE dX11_road_68 (i := 0) rfl rfl ?_
      refine rx_iload_n hE dX11_road_69 (i := 1) rfl rfl ?_
      refine rx_call0 (rx_callV (av := [.int (nI r)]) hE dX11_road_70 lk_X11_300 (c_X11_partOf hM (r := r) (by omega)) (kp_o hM) np_X11_partOf rfl rfl (by decide) (Nat.le_of_ble_eq_true rfl) rfl ?_)
      rintro v M' ⟨rfl, rfl⟩
      refine rx_int _ (J 2 r) rfl ?_
      exact rx_iret hE hQ rfl dX11_road_73 ⟨by unfold q_road; rw [if_neg c5, nI_clamp (n := r) (by omega)]; rfl, kD.refl M S L J g⟩
    by_cases hs3 : what = 3
    · subst hs3
      refine rx_tableIn (off := 63) (tgt := 74) hE dX11_road_11 (by decide) (by decide) rfl (by decide) ?_
      refine rx_aload_n hE dX11_road_74 (i := 0) rfl rfl ?_
      refine rx_getf hE dX11_road_75 fl_X11_39_10 (kp_o hM) rfl ?_
      refine rx_bipush hE dX11_road_78 (v := 72) (by decide) ?_
      refine rx_iload_n hE dX11_road_80 (i := 1) rfl rfl ?_
      refine rx_iadd hE dX11_road_81 ?_
      refine rx_int _ (nI (72 + r)) (nI_add 72 r) ?_
      refine rx_ialdN (i := 72 + r) hE dX11_road_82 (kp_10 hM) (by omega) (by decide) ?_
      refine rx_int _ (J 3 r) (kr_3 (by omega)) ?_
      exact rx_iret hE hQ rfl dX11_road_83 ⟨by unfold q_road; rw [if_neg c5, nI_clamp (n := r) (by omega)]; rfl, kD.refl M S L J g⟩
    by_cases hs4 : what = 4
    · subst hs4
      refine rx_tableIn (off := 73) (tgt := 84) hE dX11_road_11 (by decide) (by decide) rfl (by decide) ?_
      refine rx_aload_n hE dX11_road_84 (i := 0) rfl rfl ?_
      refine rx_iload_n hE dX11_road_85 (i := 1) rfl rfl ?_
      refine rx_call0 (rx_callV (av := [.int (nI r)]) hE dX11_road_86 lk_X11_315 (c_X11_wentFrom hM (r := r) (by omega)) (kp_o hM) np_X11_wentFrom rfl rfl (by decide) (Nat.le_of_ble_eq_true rfl) rfl ?_)
      rintro v M' ⟨rfl, rfl⟩
      refine rx_int _ (J 4 r) rfl ?_
      exact rx_iret hE hQ rfl dX11_road_89 ⟨by unfold q_road; rw [if_neg c5, nI_clamp (n := r) (by omega)]; rfl, kD.refl M S L J g⟩
    by_cases hs5 : what = 5
    · subst hs5
      refine rx_tableIn (off := 79) (tgt := 90) hE dX11_road_11 (by decide) (by decide) rfl (by decide) ?_
      refine rx_aload_n hE dX11_road_90 (i := 0) rfl rfl ?_
      refine rx_iload_n hE dX11_road_91 (i := 1) rfl rfl ?_
      refine rx_call0 (rx_callV (av := [.int (nI r)]) hE dX11_road_92 lk_X11_318 (c_X11_waitedOn hM (r := r) (by omega)) (kp_o hM) np_X11_waitedOn rfl rfl (by decide) (Nat.le_of_ble_eq_true rfl) rfl ?_)
      rintro v M' ⟨rfl, rfl⟩
      refine rx_int _ (J 5 r) rfl ?_
      exact rx_iret hE hQ rfl dX11_road_95 ⟨by unfold q_road; rw [if_neg c5, nI_clamp (n := r) (by omega)]; rfl, kD.refl M S L J g⟩
    by_cases hs6 : what = 6
    · subst hs6
      refine rx_tableIn (off := 85) (tgt := 96) hE dX11_road_11 (by decide) (by decide) rfl (by decide) ?_
      refine rx_aload_n hE dX11_road_96 (i := 0) rfl rfl ?_
      refine rx_iload_n hE dX11_road_97 (i := 1) rfl rfl ?_
      refine rx_call0 (rx_callV (av := [.int (nI r)]) hE dX11_road_98 lk_X11_321 (c_X11_sinceOf hM (r := r) (by omega)) (kp_o hM) np_X11_sinceOf rfl rfl (by decide) (Nat.le_of_ble_eq_true rfl) rfl ?_)
      rintro v M' ⟨rfl, rfl⟩
      refine rx_int _ (j_since J r) ((show k_since (j_s J 7 g) r = k_since J r from rfl).trans (w_7 (hf.ls r (by omega)))) ?_
      exact rx_iret hE hQ rfl dX11_road_101 ⟨by unfold q_road; rw [if_neg c5, nI_clamp (n := r) (by omega)]; rfl, kD.refl M S L J g⟩
    refine rx_tableOut (tgt := 102) hE dX11_road_11 (by have a0 := lv_neT hs0 (a := 0) (by decide); have a1 := lv_neT hs1 (a := 1) (by decide); have a2 := lv_neT hs2 (a := 2) (by decide); have a3 := lv_neT hs3 (a := 3) (by decide); have a4 := lv_neT hs4 (a := 4) (by decide); have a5 := lv_neT hs5 (a := 5) (by decide); have a6 := lv_neT hs6 (a := 6) (by decide); omega) (by decide) ?_
    refine rx_iconst hE dX11_road_102 (v := -1) (by decide) ?_
    exact rx_iret hE hQ rfl dX11_road_103 ⟨by unfold q_road; rw [if_neg c5]; simp [qchain, hs0, hs1, hs2, hs3, hs4, hs5, hs6], kD.refl M S L J g⟩
  · refine rx_iconst hE dX11_road_8 (v := -1) (by decide) ?_
    exact rx_iret hE hQ rfl dX11_road_9 ⟨by simp [q_road, *], kD.refl M S L J g⟩
set_option maxRecDepth 100000 in
set_option maxHeartbeats 4000000 in
theorem c_X11_scored {M : gM} {S : gS} {L : gLg} {J : gJn} {g : Nat → Int32} (hM : 408 ≤ M.1) {t : gJn → Nat → Int32 → Bool} (hk : kok S J t) (b : Int32) : SX 2 0 0 mX11_scored [.ref 384, .int b] (kp M (kput S (j_s J 7 g)) L) (fun v M' => v = some (.int (q_scored J b)) ∧ kD M S J M') := by
  refine SX.intro [some (.ref 384), some (.int b)] (by decide +kernel) (Nat.le_of_ble_eq_true rfl) rfl (fun E hE hQ => ?_)
  refine rx_aload_n hE dX11_scored_0 (i := 0) rfl rfl ?_
  refine rx_iload_n hE dX11_scored_1 (i := 1) rfl rfl ?_
  refine rx_call0 (rx_callV (av := [.int _]) hE dX11_scored_2 lk_X11_324 (c_X11_isBeat hM _) (kp_o hM) np_X11_isBeat rfl rfl (by decide) (Nat.le_of_ble_eq_true rfl) rfl ?_)
  rintro v M' ⟨rfl, rfl⟩
  refine rx_int _ (j_hasBeat J _) (hk.beat _) ?_
  refine rx_if_eq (tgt := 20) hE dX11_scored_5 (by decide) (fun c5 => ?_) (fun c5 => ?_)
  · refine rx_iconst hE dX11_scored_20 (v := -1) (by decide) ?_
    exact rx_iret hE hQ rfl dX11_scored_21 ⟨by simp [q_scored, *], kD.refl M S L J g⟩
  · obtain ⟨hb, hf, hT9, b, hbb, rfl⟩ := hk.beatN c5
    have hB12 := hf.1.2.2.2.2.2.1
    refine rx_aload_n hE dX11_scored_8 (i := 0) rfl rfl ?_
    refine rx_getf hE dX11_scored_9 fl_X11_39_10 (kp_o hM) rfl ?_
    refine rx_bipush hE dX11_scored_12 (v := 41) (by decide) ?_
    refine rx_iload_n hE dX11_scored_14 (i := 1) rfl rfl ?_
    refine rx_iadd hE dX11_scored_15 ?_
    refine rx_int _ (nI (41 + b)) (nI_add 41 b) ?_
    refine rx_ialdN (i := 41 + b) hE dX11_scored_16 (kp_10 hM) (by omega) (by decide) ?_
    refine rx_int _ (J 8 b) (kr_8 (by omega)) ?_
    refine rx_goto (tgt := 21) hE dX11_scored_17 (by decide) ?_
    exact rx_iret hE hQ rfl dX11_scored_21 ⟨by unfold q_scored; rw [if_neg c5, nI_clamp (n := b) (by omega)], kD.refl M S L J g⟩
set_option maxRecDepth 100000 in
set_option maxHeartbeats 4000000 in
theorem c_X11_count {M : gM} {S : gS} {L : gLg} {J : gJn} {g : Nat → Int32} (hM : 408 ≤ M.1) {t : gJn → Nat → Int32 → Bool} (hk : kok S J t) (what : Int32) : SX 2 0 0 mX11_count [.ref 384, .int what] (kp M (kput S (j_s J 7 g)) L) (fun v M' => v = some (.int (q_count J (S 0 2) (S 0 21) (S 10 120) (S 0 27) (S 0 22) (S 0 1) what)) ∧ kD M S J M') := by
  refine SX.intro [some (.ref 384), some (.int what)] (by decide +kernel) (Nat.le_of_ble_eq_true rfl) rfl (fun E hE hQ => ?_)
  have hB : S 10 0 = 1 → ¬ J 9 0 = 0 := fun q => by
    rcases hk with ⟨_, hj, _⟩ | ⟨h, _, _⟩
    · exact fun z => hj.1.nB (by rw [z]; decide)
    · rw [h] at q
      exact absurd q (by decide)
  refine rx_iload_n hE dX11_count_0 (i := 1) rfl rfl ?_
  by_cases hs0 : what = 0
  · subst hs0
    refine rx_tableIn (off := 71) (tgt := 72) hE dX11_count_1 (by decide) (by decide) rfl (by decide) ?_
    refine rx_aload_n hE dX11_count_72 (i := 0) rfl rfl ?_
    refine rx_getf hE dX11_count_73 fl_X11_39_10 (kp_o hM) rfl ?_
    refine rx_iload_n hE dX11_count_76 (i := 1) rfl rfl ?_
    refine rx_iconst hE dX11_count_77 (v := 1) (by decide) ?_
    refine rx_iadd hE dX11_count_78 ?_
    refine rx_int _ (nI 1) (by decide) ?_
    refine rx_ialdN hE dX11_count_79 (kp_10 hM) (by decide) (by decide) ?_
    refine rx_int _ (J 9 0) rfl ?_
    exact rx_iret hE hQ rfl dX11_count_80 ⟨rfl, kD.refl M S L J g⟩
  by_cases hs1 : what = 1
  · subst hs1
    refine rx_tableIn (off := 71) (tgt := 72) hE dX11_count_1 (by decide) (by decide) rfl (by decide) ?_
    refine rx_aload_n hE dX11_count_72 (i := 0) rfl rfl ?_
    refine rx_getf hE dX11_count_73 fl_X11_39_10 (kp_o hM) rfl ?_
    refine rx_iload_n hE dX11_count_76 (i := 1) rfl rfl ?_
    refine rx_iconst hE dX11_count_77 (v := 1) (by decide) ?_
    refine rx_iadd hE dX11_count_78 ?_
    refine rx_int _ (nI 2) (by decide) ?_
    refine rx_ialdN hE dX11_count_79 (kp_10 hM) (by decide) (by decide) ?_
    refine rx_int _ (J 9 1) rfl ?_
    exact rx_iret hE hQ rfl dX11_count_80 ⟨rfl, kD.refl M S L J g⟩
  by_cases hs2 : what = 2
  · subst hs2
    refine rx_tableIn (off := 71) (tgt := 72) hE dX11_count_1 (by decide) (by decide) rfl (by decide) ?_
    refine rx_aload_n hE dX11_count_72 (i := 0) rfl rfl ?_
    refine rx_getf hE dX11_count_73 fl_X11_39_10 (kp_o hM) rfl ?_
    refine rx_iload_n hE dX11_count_76 (i := 1) rfl rfl ?_
    refine rx_iconst hE dX11_count_77 (v := 1) (by decide) ?_
    refine rx_iadd hE dX11_count_78 ?_
    refine rx_int _ (nI 3) (by decide) ?_
    refine rx_ialdN hE dX11_count_79 (kp_10 hM) (by decide) (by decide) ?_
    refine rx_int _ (J 9 2) rfl ?_
    exact rx_iret hE hQ rfl dX11_count_80 ⟨rfl, kD.refl M S L J g⟩
  by_cases hs3 : what = 3
  · subst hs3
    refine rx_tableIn (off := 80) (tgt := 81) hE dX11_count_1 (by decide) (by decide) rfl (by decide) ?_
    refine rx_aload_n hE dX11_count_81 (i := 0) rfl rfl ?_
    refine rx_getf hE dX11_count_82 fl_X11_267_10 (kp_o hM) rfl ?_
    refine rx_int _ _ (kr_f (by decide)) ?_
    exact rx_iret hE hQ rfl dX11_count_85 ⟨rfl, kD.refl M S L J g⟩
  by_cases hs4 : what = 4
  · subst hs4
    refine rx_tableIn (off := 85) (tgt := 86) hE dX11_count_1 (by decide) (by decide) rfl (by decide) ?_
    refine rx_aload_n hE dX11_count_86 (i := 0) rfl rfl ?_
    refine rx_getf hE dX11_count_87 fl_X11_42_10 (kp_o hM) rfl ?_
    refine rx_int _ _ (kr_f (by decide)) ?_
    exact rx_iret hE hQ rfl dX11_count_90 ⟨rfl, kD.refl M S L J g⟩
  by_cases hs5 : what = 5
  · subst hs5
    refine rx_tableIn (off := 90) (tgt := 91) hE dX11_count_1 (by decide) (by decide) rfl (by decide) ?_
    refine rx_aload_n hE dX11_count_91 (i := 0) rfl rfl ?_
    refine rx_getf hE dX11_count_92 fl_X11_39_10 (kp_o hM) rfl ?_
    refine rx_bipush hE dX11_count_95 (v := 10) (by decide) ?_
    refine rx_ialdN (i := 10) hE dX11_count_97 (kp_10 hM) (by omega) (by decide) ?_
    refine rx_int _ _ kr_c3 ?_
    exact rx_iret hE hQ rfl dX11_count_98 ⟨rfl, kD.refl M S L J g⟩
  by_cases hs6 : what = 6
  · subst hs6
    refine rx_tableIn (off := 98) (tgt := 99) hE dX11_count_1 (by decide) (by decide) rfl (by decide) ?_
    refine rx_aload_n hE dX11_count_99 (i := 0) rfl rfl ?_
    refine rx_call0 (rx_callV (av := []) hE dX11_count_100 lk_X11_331 (c_X11_beatOfBar2 hM (fun q => hB q)) (kp_o hM) np_X11_beatOfBar rfl rfl (by decide) (Nat.le_of_ble_eq_true rfl) rfl ?_)
    rintro v M' ⟨rfl, rfl⟩
    refine rx_int _ (j_bob J) ((show k_bob S (j_s J 7 g) = k_bob S J from rfl).trans hk.bob) ?_
    exact rx_iret hE hQ rfl dX11_count_103 ⟨rfl, kD.refl M S L J g⟩
  by_cases hs7 : what = 7
  · subst hs7
    refine rx_tableIn (off := 103) (tgt := 104) hE dX11_count_1 (by decide) (by decide) rfl (by decide) ?_
    refine rx_aload_n hE dX11_count_104 (i := 0) rfl rfl ?_
    refine rx_iconst hE dX11_count_105 (v := 0) (by decide) ?_
    refine rx_call0 (rx_callV (av := [.int 0]) hE dX11_count_106 lk_X11_340 (c_X11_sumOver (m := 0) (R := jR J) hM hk.R.1 hk.R.2 (by decide)) (kp_o hM) np_X11_sumOver rfl rfl (by decide) (Nat.le_of_ble_eq_true rfl) rfl ?_)
    rintro v M' ⟨rfl, rfl⟩
    refine rx_int _ (jsum (J 0) (jR J)) rfl ?_
    exact rx_iret hE hQ rfl dX11_count_109 ⟨rfl, kD.refl M S L J g⟩
  by_cases hs8 : what = 8
  · subst hs8
    refine rx_tableIn (off := 109) (tgt := 110) hE dX11_count_1 (by decide) (by decide) rfl (by decide) ?_
    refine rx_aload_n hE dX11_count_110 (i := 0) rfl rfl ?_
    refine rx_iconst hE dX11_count_111 (v := 2) (by decide) ?_
    refine rx_call0 (rx_callV (av := [.int 2]) hE dX11_count_112 lk_X11_340 (c_X11_sumOver (m := 2) (R := jR J) hM hk.R.1 hk.R.2 (by decide)) (kp_o hM) np_X11_sumOver rfl rfl (by decide) (Nat.le_of_ble_eq_true rfl) rfl ?_)
    rintro v M' ⟨rfl, rfl⟩
    refine rx_int _ (jsum (J 4) (jR J)) rfl ?_
    exact rx_iret hE hQ rfl dX11_count_115 ⟨rfl, kD.refl M S L J g⟩
  by_cases hs9 : what = 9
  · subst hs9
    refine rx_tableIn (off := 115) (tgt := 116) hE dX11_count_1 (by decide) (by decide) rfl (by decide) ?_
    refine rx_aload_n hE dX11_count_116 (i := 0) rfl rfl ?_
    refine rx_iconst hE dX11_count_117 (v := 3) (by decide) ?_
    refine rx_call0 (rx_callV (av := [.int 3]) hE dX11_count_118 lk_X11_340 (c_X11_sumOver (m := 3) (R := jR J) hM hk.R.1 hk.R.2 (by decide)) (kp_o hM) np_X11_sumOver rfl rfl (by decide) (Nat.le_of_ble_eq_true rfl) rfl ?_)
    rintro v M' ⟨rfl, rfl⟩
    refine rx_int _ (jsum (J 5) (jR J)) rfl ?_
    exact rx_iret hE hQ rfl dX11_count_121 ⟨rfl, kD.refl M S L J g⟩
  by_cases hs10 : what = 10
  · subst hs10
    refine rx_tableIn (off := 121) (tgt := 122) hE dX11_count_1 (by decide) (by decide) rfl (by decide) ?_
    refine rx_aload_n hE dX11_count_122 (i := 0) rfl rfl ?_
    refine rx_getf hE dX11_count_123 fl_X11_39_10 (kp_o hM) rfl ?_
    refine rx_bipush hE dX11_count_126 (v := 120) (by decide) ?_
    refine rx_ialdN (i := 120) hE dX11_count_128 (kp_10 hM) (by omega) (by decide) ?_
    refine rx_int _ (S 10 120) (kput_d (by decide)) ?_
    exact rx_iret hE hQ rfl dX11_count_129 ⟨rfl, kD.refl M S L J g⟩
  by_cases hs11 : what = 11
  · subst hs11
    refine rx_tableIn (off := 129) (tgt := 130) hE dX11_count_1 (by decide) (by decide) rfl (by decide) ?_
    refine rx_aload_n hE dX11_count_130 (i := 0) rfl rfl ?_
    refine rx_getf hE dX11_count_131 fl_X11_276_10 (kp_o hM) rfl ?_
    refine rx_int _ _ (kr_f (by decide)) ?_
    exact rx_iret hE hQ rfl dX11_count_134 ⟨rfl, kD.refl M S L J g⟩
  by_cases hs12 : what = 12
  · subst hs12
    refine rx_tableIn (off := 134) (tgt := 135) hE dX11_count_1 (by decide) (by decide) rfl (by decide) ?_
    refine rx_aload_n hE dX11_count_135 (i := 0) rfl rfl ?_
    refine rx_getf hE dX11_count_136 fl_X11_454_10 (kp_o hM) rfl ?_
    refine rx_int _ _ (kr_f (by decide)) ?_
    exact rx_iret hE hQ rfl dX11_count_139 ⟨rfl, kD.refl M S L J g⟩
  by_cases hs13 : what = 13
  · subst hs13
    refine rx_tableIn (off := 139) (tgt := 140) hE dX11_count_1 (by decide) (by decide) rfl (by decide) ?_
    refine rx_aload_n hE dX11_count_140 (i := 0) rfl rfl ?_
    refine rx_getf hE dX11_count_141 fl_X11_92_10 (kp_o hM) rfl ?_
    refine rx_int _ _ (kr_f (by decide)) ?_
    exact rx_iret hE hQ rfl dX11_count_144 ⟨rfl, kD.refl M S L J g⟩
  refine rx_tableOut (tgt := 145) hE dX11_count_1 (by have a0 := lv_neT hs0 (a := 0) (by decide); have a1 := lv_neT hs1 (a := 1) (by decide); have a2 := lv_neT hs2 (a := 2) (by decide); have a3 := lv_neT hs3 (a := 3) (by decide); have a4 := lv_neT hs4 (a := 4) (by decide); have a5 := lv_neT hs5 (a := 5) (by decide); have a6 := lv_neT hs6 (a := 6) (by decide); have a7 := lv_neT hs7 (a := 7) (by decide); have a8 := lv_neT hs8 (a := 8) (by decide); have a9 := lv_neT hs9 (a := 9) (by decide); have a10 := lv_neT hs10 (a := 10) (by decide); have a11 := lv_neT hs11 (a := 11) (by decide); have a12 := lv_neT hs12 (a := 12) (by decide); have a13 := lv_neT hs13 (a := 13) (by decide); omega) (by decide) ?_
  refine rx_iconst hE dX11_count_145 (v := -1) (by decide) ?_
  exact rx_iret hE hQ rfl dX11_count_146 ⟨by unfold q_count; simp [qchain, hs0, hs1, hs2, hs3, hs4, hs5, hs6, hs7, hs8, hs9, hs10, hs11, hs12, hs13], kD.refl M S L J g⟩
set_option maxRecDepth 100000 in
set_option maxHeartbeats 4000000 in
theorem c_X11_heard {M : gM} {S : gS} {L : gLg} {J : gJn} {g : Nat → Int32} (hM : 408 ≤ M.1) : SX 0 0 0 mX11_heard [.ref 384] (kp M (kput S (j_s J 7 g)) L) (fun v M' => v = some (.int (J 9 4)) ∧ M' = kp M (kput S (j_s J 7 g)) L) := by
  refine SX.intro [some (.ref 384)] (by decide +kernel) (Nat.le_of_ble_eq_true rfl) rfl (fun E hE hQ => ?_)
  refine rx_aload_n hE dX11_heard_0 (i := 0) rfl rfl ?_
  refine rx_getf hE dX11_heard_1 fl_X11_39_10 (kp_o hM) rfl ?_
  refine rx_bipush hE dX11_heard_4 (v := 53) (by decide) ?_
  refine rx_ialdN (i := 53) hE dX11_heard_6 (kp_10 hM) (by omega) (by decide) ?_
  refine rx_int _ _ kr_c4 ?_
  exact rx_iret hE hQ rfl dX11_heard_7 ⟨rfl, rfl⟩
