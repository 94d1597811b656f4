/-! ===== how it is: the class ===== -/
theorem xk.R {J : gJn} (h : xk J) : J 9 2 = nI (jR J) ∧ jR J ≤ 6 := by
  rcases h with ⟨h, _⟩ | ⟨_, h⟩
  · exact ⟨h.1.1, h.1.2.1⟩
  · unfold jR
    rw [h]
    decide
theorem x_sumR {n : Nat} {X : gX} {O : gO} {Q : gU} {G : gK} {S : gS} {L : gLg} {r a : Nat} {J : gJn} (h : xJ r a) (hM : 408 ≤ n) (hX : X r = J) (hR : J 9 2 = nI (jR J)) (h6 : jR J ≤ 6) {f : Nat} (hf : f = 0 ∨ f = 4 ∨ f = 5) : SX 0 0 0 mX2_sumOf [.ref a, .ref (a + (f + 1))] (xm n X O Q G S L) (fun v M' => v = some (.int (jsum (J f) (jR J))) ∧ M' = xm n X O Q G S L) := by
  have e := h.eq (n := n) (O := O) (Q := Q) (G := G) (S := S) (L := L) hX
  rw [e]
  refine c_X2_sumOf (h.b hM) hR h6 ?_
  rcases hf with rfl | rfl | rfl
  · exact jp_1 (h.b hM)
  · exact jp_5 (h.b hM)
  · exact jp_6 (h.b hM)
set_option maxRecDepth 100000 in
set_option maxHeartbeats 1000000 in
theorem c_X10_road {n : Nat} {X : gX} {O : gO} {Q : gU} {G : gK} {S : gS} {L : gLg} (hR : xR n X O Q) {J : gJn} (hJ : X 2 = J) (hk : xk J) {t : gJn → Nat → Int32 → Bool} (ht : xtf X Q (X 0 0 17) = t) (road what : Int32) : SX 2 0 0 mX10_road [.ref 16, .int road, .int what] (xm n X O Q G S L) (fun v M' => v = some (.int (q_road J road what)) ∧ xD n X O Q S L M') := by
  refine SX.intro [some (.ref 16), some (.int road), some (.int what)] (by decide +kernel) (Nat.le_of_ble_eq_true rfl) rfl (fun E hE hQ => ?_)
  have hM := hR.M
  refine rx_aload_n hE dX10_road_0 (i := 0) rfl rfl ?_
  refine rx_getf hE dX10_road_1 fl_X10_19_9 (xa_0 hM) rfl ?_
  refine rx_iload_n hE dX10_road_4 (i := 1) rfl rfl ?_
  refine rx_call0 (rx_callV (av := [.int _]) hE dX10_road_5 lk_X10_147 (x_hasRoad (X := X) xJ_2 hM (J := J) hJ _) (xa_j xJ_2 hM) np_X2_hasRoad rfl rfl (by decide) (Nat.le_of_ble_eq_true rfl) rfl ?_)
  rintro v M' ⟨rfl, rfl⟩
  refine rx_if_ne (tgt := 13) hE dX10_road_8 (by decide) (fun c8 => ?_) (fun c8 => ?_)
  · obtain ⟨hf, hT9, r, hr, rfl⟩ := hk.road c8
    have hr6 := hf.1.2.1
    refine rx_iload_n hE dX10_road_13 (i := 2) rfl rfl ?_
    by_cases hs0 : what = 0
    · subst hs0
      refine rx_tableIn (off := 42) (tgt := 56) hE dX10_road_14 (by decide) (by decide) rfl (by decide) ?_
      refine rx_aload_n hE dX10_road_56 (i := 0) rfl rfl ?_
      refine rx_getf hE dX10_road_57 fl_X10_19_9 (xa_0 hM) rfl ?_
      refine rx_getfN hE dX10_road_60 fl_X10_151_2 (xa_j xJ_2 hM) rfl ?_
      refine rx_iload_n hE dX10_road_63 (i := 1) rfl rfl ?_
      refine rx_ialdN (i := r) hE dX10_road_64 (xa_j1 xJ_2 hM) (by omega) (by decide) ?_
      refine rx_int _ (J 0 r) (congrFun (congrFun hJ 0) r) ?_
      exact rx_iret hE hQ rfl dX10_road_65 ⟨by unfold q_road; rw [if_neg c8, nI_clamp (n := r) (by omega)]; rfl, xD.refl n X O Q G S L⟩
    by_cases hs1 : what = 1
    · subst hs1
      refine rx_tableIn (off := 52) (tgt := 66) hE dX10_road_14 (by decide) (by decide) rfl (by decide) ?_
      refine rx_aload_n hE dX10_road_66 (i := 0) rfl rfl ?_
      refine rx_getf hE dX10_road_67 fl_X10_19_9 (xa_0 hM) rfl ?_
      refine rx_getfN hE dX10_road_70 fl_X10_154_2 (xa_j xJ_2 hM) rfl ?_
      refine rx_iload_n hE dX10_road_73 (i := 1) rfl rfl ?_
      refine rx_ialdN (i := r) hE dX10_road_74 (xa_j2 xJ_2 hM) (by omega) (by decide) ?_
      refine rx_int _ (J 1 r) (congrFun (congrFun hJ 1) r) ?_
      exact rx_iret hE hQ rfl dX10_road_75 ⟨by unfold q_road; rw [if_neg c8, nI_clamp (n := r) (by omega)]; rfl, xD.refl n X O Q G S L⟩
    by_cases hs2 : what = 2
    · subst hs2
      refine rx_tableIn (off := 62) (tgt := 76) hE dX10_road_14 (by decide) (by decide) rfl (by decide) ?_
      refine rx_aload_n hE dX10_road_76 (i := 0) rfl rfl ?_
      refine rx_getf hE dX10_road_77 fl_X10_19_9 (xa_0 hM) rfl ?_
      refine rx_getfN hE dX10_road_80 fl_X10_157_2 (xa_j xJ_2 hM) rfl ?_
      refine rx_iload_n hE dX10_road_83 (i := 1) rfl rfl ?_
      refine rx_ialdN (i := r) hE dX10_road_84 (xa_j3 xJ_2 hM) (by omega) (by decide) ?_
      refine rx_int _ (J 2 r) (congrFun (congrFun hJ 2) r) ?_
      exact rx_iret hE hQ rfl dX10_road_85 ⟨by unfold q_road; rw [if_neg c8, nI_clamp (n := r) (by omega)]; rfl, xD.refl n X O Q G S L⟩
    by_cases hs3 : what = 3
    · subst hs3
      refine rx_tableIn (off := 72) (tgt := 86) hE dX10_road_14 (by decide) (by decide) rfl (by decide) ?_
      refine rx_aload_n hE dX10_road_86 (i := 0) rfl rfl ?_
      refine rx_getf hE dX10_road_87 fl_X10_19_9 (xa_0 hM) rfl ?_
      refine rx_getfN hE dX10_road_90 fl_X10_160_2 (xa_j xJ_2 hM) rfl ?_
      refine rx_iload_n hE dX10_road_93 (i := 1) rfl rfl ?_
      refine rx_ialdN (i := r) hE dX10_road_94 (xa_j4 xJ_2 hM) (by omega) (by decide) ?_
      refine rx_int _ (J 3 r) (congrFun (congrFun hJ 3) r) ?_
      exact rx_iret hE hQ rfl dX10_road_95 ⟨by unfold q_road; rw [if_neg c8, nI_clamp (n := r) (by omega)]; rfl, xD.refl n X O Q G S L⟩
    by_cases hs4 : what = 4
    · subst hs4
      refine rx_tableIn (off := 82) (tgt := 96) hE dX10_road_14 (by decide) (by decide) rfl (by decide) ?_
      refine rx_aload_n hE dX10_road_96 (i := 0) rfl rfl ?_
      refine rx_getf hE dX10_road_97 fl_X10_19_9 (xa_0 hM) rfl ?_
      refine rx_getfN hE dX10_road_100 fl_X10_163_2 (xa_j xJ_2 hM) rfl ?_
      refine rx_iload_n hE dX10_road_103 (i := 1) rfl rfl ?_
      refine rx_ialdN (i := r) hE dX10_road_104 (xa_j5 xJ_2 hM) (by omega) (by decide) ?_
      refine rx_int _ (J 4 r) (congrFun (congrFun hJ 4) r) ?_
      exact rx_iret hE hQ rfl dX10_road_105 ⟨by unfold q_road; rw [if_neg c8, nI_clamp (n := r) (by omega)]; rfl, xD.refl n X O Q G S L⟩
    by_cases hs5 : what = 5
    · subst hs5
      refine rx_tableIn (off := 92) (tgt := 106) hE dX10_road_14 (by decide) (by decide) rfl (by decide) ?_
      refine rx_aload_n hE dX10_road_106 (i := 0) rfl rfl ?_
      refine rx_getf hE dX10_road_107 fl_X10_19_9 (xa_0 hM) rfl ?_
      refine rx_getfN hE dX10_road_110 fl_X10_166_2 (xa_j xJ_2 hM) rfl ?_
      refine rx_iload_n hE dX10_road_113 (i := 1) rfl rfl ?_
      refine rx_ialdN (i := r) hE dX10_road_114 (xa_j6 xJ_2 hM) (by omega) (by decide) ?_
      refine rx_int _ (J 5 r) (congrFun (congrFun hJ 5) r) ?_
      exact rx_iret hE hQ rfl dX10_road_115 ⟨by unfold q_road; rw [if_neg c8, nI_clamp (n := r) (by omega)]; rfl, xD.refl n X O Q G S L⟩
    by_cases hs6 : what = 6
    · subst hs6
      refine rx_tableIn (off := 102) (tgt := 116) hE dX10_road_14 (by decide) (by decide) rfl (by decide) ?_
      refine rx_aload_n hE dX10_road_116 (i := 0) rfl rfl ?_
      refine rx_getf hE dX10_road_117 fl_X10_19_9 (xa_0 hM) rfl ?_
      refine rx_iload_n hE dX10_road_120 (i := 1) rfl rfl ?_
      refine rx_call0 (rx_callV (av := [.int (nI r)]) hE dX10_road_121 lk_X10_169 (x_sinceLetIn (X := X) xJ_2 hM (J := J) hJ (k := r) (by omega)) (xa_j xJ_2 hM) np_X2_sinceLetIn rfl rfl (by decide) (Nat.le_of_ble_eq_true rfl) rfl ?_)
      rintro v M' ⟨rfl, rfl⟩
      exact rx_iret hE hQ rfl dX10_road_124 ⟨by unfold q_road; rw [if_neg c8, nI_clamp (n := r) (by omega)]; rfl, xD.refl n X O Q G S L⟩
    refine rx_tableOut (tgt := 125) hE dX10_road_14 (by have a0 := lv_neT hs0 (a := 0) (by decide); have a1 := lv_neT hs1 (a := 1) (by decide); have a2 := lv_neT hs2 (a := 2) (by decide); have a3 := lv_neT hs3 (a := 3) (by decide); have a4 := lv_neT hs4 (a := 4) (by decide); have a5 := lv_neT hs5 (a := 5) (by decide); have a6 := lv_neT hs6 (a := 6) (by decide); omega) (by decide) ?_
    refine rx_iconst hE dX10_road_125 (v := -1) (by decide) ?_
    exact rx_iret hE hQ rfl dX10_road_126 ⟨by unfold q_road; rw [if_neg c8]; simp [qchain, hs0, hs1, hs2, hs3, hs4, hs5, hs6], xD.refl n X O Q G S L⟩
  · refine rx_iconst hE dX10_road_11 (v := -1) (by decide) ?_
    exact rx_iret hE hQ rfl dX10_road_12 ⟨by simp [q_road, *], xD.refl n X O Q G S L⟩
set_option maxRecDepth 100000 in
set_option maxHeartbeats 1000000 in
theorem c_X10_scored {n : Nat} {X : gX} {O : gO} {Q : gU} {G : gK} {S : gS} {L : gLg} (hR : xR n X O Q) {J : gJn} (hJ : X 2 = J) (hk : xk J) {t : gJn → Nat → Int32 → Bool} (ht : xtf X Q (X 0 0 17) = t) (b : Int32) : SX 2 0 0 mX10_scored [.ref 16, .int b] (xm n X O Q G S L) (fun v M' => v = some (.int (q_scored J b)) ∧ xD n X O Q S L M') := by
  refine SX.intro [some (.ref 16), some (.int b)] (by decide +kernel) (Nat.le_of_ble_eq_true rfl) rfl (fun E hE hQ => ?_)
  have hM := hR.M
  refine rx_aload_n hE dX10_scored_0 (i := 0) rfl rfl ?_
  refine rx_getf hE dX10_scored_1 fl_X10_19_9 (xa_0 hM) rfl ?_
  refine rx_iload_n hE dX10_scored_4 (i := 1) rfl rfl ?_
  refine rx_call0 (rx_callV (av := [.int _]) hE dX10_scored_5 lk_X10_173 (x_hasBeat (X := X) xJ_2 hM (J := J) hJ _) (xa_j xJ_2 hM) np_X2_hasBeat rfl rfl (by decide) (Nat.le_of_ble_eq_true rfl) rfl ?_)
  rintro v M' ⟨rfl, rfl⟩
  refine rx_if_eq (tgt := 23) hE dX10_scored_8 (by decide) (fun c8 => ?_) (fun c8 => ?_)
  · refine rx_iconst hE dX10_scored_23 (v := -1) (by decide) ?_
    exact rx_iret hE hQ rfl dX10_scored_24 ⟨by unfold q_scored; rw [if_pos c8], xD.refl n X O Q G S L⟩
  · obtain ⟨hf, hT9, b, hbb, rfl⟩ := hk.beat c8
    have hB12 := hf.1.2.2.2.2.2.1
    refine rx_aload_n hE dX10_scored_11 (i := 0) rfl rfl ?_
    refine rx_getf hE dX10_scored_12 fl_X10_19_9 (xa_0 hM) rfl ?_
    refine rx_getfN hE dX10_scored_15 fl_X10_176_2 (xa_j xJ_2 hM) rfl ?_
    refine rx_iload_n hE dX10_scored_18 (i := 1) rfl rfl ?_
    refine rx_ialdN (i := b) hE dX10_scored_19 (xa_j9 xJ_2 hM) (by omega) (by decide) ?_
    refine rx_int _ (J 8 b) (congrFun (congrFun hJ 8) b) ?_
    refine rx_goto (tgt := 24) hE dX10_scored_20 (by decide) ?_
    exact rx_iret hE hQ rfl dX10_scored_24 ⟨by unfold q_scored; rw [if_neg c8, nI_clamp (n := b) (by omega)], xD.refl n X O Q G S L⟩
set_option maxRecDepth 100000 in
set_option maxHeartbeats 1000000 in
theorem c_X10_count {n : Nat} {X : gX} {O : gO} {Q : gU} {G : gK} {S : gS} {L : gLg} (hR : xR n X O Q) {J : gJn} (hJ : X 2 = J) (hk : xk J) {t : gJn → Nat → Int32 → Bool} (ht : xtf X Q (X 0 0 17) = t) (what : Int32) : SX 2 0 0 mX10_count [.ref 16, .int what] (xm n X O Q G S L) (fun v M' => v = some (.int (q_count J (X 0 0 16) (X 0 0 17) (X 29 0 3) (X 8 0 2) (X 0 0 18) (X 1 0 1) what)) ∧ xD n X O Q S L M') := by
  refine SX.intro [some (.ref 16), some (.int what)] (by decide +kernel) (Nat.le_of_ble_eq_true rfl) rfl (fun E hE hQ => ?_)
  have hM := hR.M
  refine rx_iload_n hE dX10_count_0 (i := 1) rfl rfl ?_
  by_cases hs0 : what = 0
  · subst hs0
    refine rx_tableIn (off := 71) (tgt := 72) hE dX10_count_1 (by decide) (by decide) rfl (by decide) ?_
    refine rx_aload_n hE dX10_count_72 (i := 0) rfl rfl ?_
    refine rx_getf hE dX10_count_73 fl_X10_19_9 (xa_0 hM) rfl ?_
    refine rx_getfN hE dX10_count_76 fl_X10_179_2 (xa_j xJ_2 hM) rfl ?_
    refine rx_int _ (J 9 0) (congrFun (congrFun hJ 9) 0) ?_
    exact rx_iret hE hQ rfl dX10_count_79 ⟨rfl, xD.refl n X O Q G S L⟩
  by_cases hs1 : what = 1
  · subst hs1
    refine rx_tableIn (off := 79) (tgt := 80) hE dX10_count_1 (by decide) (by decide) rfl (by decide) ?_
    refine rx_aload_n hE dX10_count_80 (i := 0) rfl rfl ?_
    refine rx_getf hE dX10_count_81 fl_X10_19_9 (xa_0 hM) rfl ?_
    refine rx_getfN hE dX10_count_84 fl_X10_182_2 (xa_j xJ_2 hM) rfl ?_
    refine rx_int _ (J 9 1) (congrFun (congrFun hJ 9) 1) ?_
    exact rx_iret hE hQ rfl dX10_count_87 ⟨rfl, xD.refl n X O Q G S L⟩
  by_cases hs2 : what = 2
  · subst hs2
    refine rx_tableIn (off := 87) (tgt := 88) hE dX10_count_1 (by decide) (by decide) rfl (by decide) ?_
    refine rx_aload_n hE dX10_count_88 (i := 0) rfl rfl ?_
    refine rx_getf hE dX10_count_89 fl_X10_19_9 (xa_0 hM) rfl ?_
    refine rx_getfN hE dX10_count_92 fl_X10_132_2 (xa_j xJ_2 hM) rfl ?_
    refine rx_int _ (J 9 2) (congrFun (congrFun hJ 9) 2) ?_
    exact rx_iret hE hQ rfl dX10_count_95 ⟨rfl, xD.refl n X O Q G S L⟩
  by_cases hs3 : what = 3
  · subst hs3
    refine rx_tableIn (off := 95) (tgt := 96) hE dX10_count_1 (by decide) (by decide) rfl (by decide) ?_
    refine rx_aload_n hE dX10_count_96 (i := 0) rfl rfl ?_
    refine rx_getf hE dX10_count_97 fl_X10_99_9 (xa_0 hM) rfl ?_
    exact rx_iret hE hQ rfl dX10_count_100 ⟨rfl, xD.refl n X O Q G S L⟩
  by_cases hs4 : what = 4
  · subst hs4
    refine rx_tableIn (off := 100) (tgt := 101) hE dX10_count_1 (by decide) (by decide) rfl (by decide) ?_
    refine rx_aload_n hE dX10_count_101 (i := 0) rfl rfl ?_
    refine rx_getf hE dX10_count_102 fl_X10_103_9 (xa_0 hM) rfl ?_
    exact rx_iret hE hQ rfl dX10_count_105 ⟨rfl, xD.refl n X O Q G S L⟩
  by_cases hs5 : what = 5
  · subst hs5
    refine rx_tableIn (off := 105) (tgt := 106) hE dX10_count_1 (by decide) (by decide) rfl (by decide) ?_
    refine rx_aload_n hE dX10_count_106 (i := 0) rfl rfl ?_
    refine rx_getf hE dX10_count_107 fl_X10_19_9 (xa_0 hM) rfl ?_
    refine rx_getfN hE dX10_count_110 fl_X10_185_2 (xa_j xJ_2 hM) rfl ?_
    refine rx_int _ (J 9 3) (congrFun (congrFun hJ 9) 3) ?_
    exact rx_iret hE hQ rfl dX10_count_113 ⟨rfl, xD.refl n X O Q G S L⟩
  by_cases hs6 : what = 6
  · subst hs6
    refine rx_tableIn (off := 113) (tgt := 114) hE dX10_count_1 (by decide) (by decide) rfl (by decide) ?_
    refine rx_aload_n hE dX10_count_114 (i := 0) rfl rfl ?_
    refine rx_getf hE dX10_count_115 fl_X10_19_9 (xa_0 hM) rfl ?_
    refine rx_call0 (rx_callV (av := []) hE dX10_count_118 lk_X10_188 (x_beatOfBar (X := X) xJ_2 hM (J := J) hJ) (xa_j xJ_2 hM) np_X2_beatOfBar rfl rfl (by decide) (Nat.le_of_ble_eq_true rfl) rfl ?_)
    rintro v M' ⟨rfl, rfl⟩
    exact rx_iret hE hQ rfl dX10_count_121 ⟨rfl, xD.refl n X O Q G S L⟩
  by_cases hs7 : what = 7
  · subst hs7
    refine rx_tableIn (off := 121) (tgt := 122) hE dX10_count_1 (by decide) (by decide) rfl (by decide) ?_
    refine rx_aload_n hE dX10_count_122 (i := 0) rfl rfl ?_
    refine rx_getf hE dX10_count_123 fl_X10_19_9 (xa_0 hM) rfl ?_
    refine rx_aload_n hE dX10_count_126 (i := 0) rfl rfl ?_
    refine rx_getf hE dX10_count_127 fl_X10_19_9 (xa_0 hM) rfl ?_
    refine rx_getfN hE dX10_count_130 fl_X10_151_2 (xa_j xJ_2 hM) rfl ?_
    refine rx_call0 (rx_callV (av := [.ref _]) hE dX10_count_133 lk_X10_191 (x_sumR (X := X) xJ_2 hM (J := J) hJ hk.R.1 hk.R.2 (f := 0) (by decide)) (xa_j xJ_2 hM) np_X2_sumOf rfl rfl (by decide) (Nat.le_of_ble_eq_true rfl) rfl ?_)
    rintro v M' ⟨rfl, rfl⟩
    exact rx_iret hE hQ rfl dX10_count_136 ⟨rfl, xD.refl n X O Q G S L⟩
  by_cases hs8 : what = 8
  · subst hs8
    refine rx_tableIn (off := 136) (tgt := 137) hE dX10_count_1 (by decide) (by decide) rfl (by decide) ?_
    refine rx_aload_n hE dX10_count_137 (i := 0) rfl rfl ?_
    refine rx_getf hE dX10_count_138 fl_X10_19_9 (xa_0 hM) rfl ?_
    refine rx_aload_n hE dX10_count_141 (i := 0) rfl rfl ?_
    refine rx_getf hE dX10_count_142 fl_X10_19_9 (xa_0 hM) rfl ?_
    refine rx_getfN hE dX10_count_145 fl_X10_163_2 (xa_j xJ_2 hM) rfl ?_
    refine rx_call0 (rx_callV (av := [.ref _]) hE dX10_count_148 lk_X10_191 (x_sumR (X := X) xJ_2 hM (J := J) hJ hk.R.1 hk.R.2 (f := 4) (by decide)) (xa_j xJ_2 hM) np_X2_sumOf rfl rfl (by decide) (Nat.le_of_ble_eq_true rfl) rfl ?_)
    rintro v M' ⟨rfl, rfl⟩
    exact rx_iret hE hQ rfl dX10_count_151 ⟨rfl, xD.refl n X O Q G S L⟩
  by_cases hs9 : what = 9
  · subst hs9
    refine rx_tableIn (off := 151) (tgt := 152) hE dX10_count_1 (by decide) (by decide) rfl (by decide) ?_
    refine rx_aload_n hE dX10_count_152 (i := 0) rfl rfl ?_
    refine rx_getf hE dX10_count_153 fl_X10_19_9 (xa_0 hM) rfl ?_
    refine rx_aload_n hE dX10_count_156 (i := 0) rfl rfl ?_
    refine rx_getf hE dX10_count_157 fl_X10_19_9 (xa_0 hM) rfl ?_
    refine rx_getfN hE dX10_count_160 fl_X10_166_2 (xa_j xJ_2 hM) rfl ?_
    refine rx_call0 (rx_callV (av := [.ref _]) hE dX10_count_163 lk_X10_191 (x_sumR (X := X) xJ_2 hM (J := J) hJ hk.R.1 hk.R.2 (f := 5) (by decide)) (xa_j xJ_2 hM) np_X2_sumOf rfl rfl (by decide) (Nat.le_of_ble_eq_true rfl) rfl ?_)
    rintro v M' ⟨rfl, rfl⟩
    exact rx_iret hE hQ rfl dX10_count_166 ⟨rfl, xD.refl n X O Q G S L⟩
  by_cases hs10 : what = 10
  · subst hs10
    refine rx_tableIn (off := 166) (tgt := 167) hE dX10_count_1 (by decide) (by decide) rfl (by decide) ?_
    refine rx_aload_n hE dX10_count_167 (i := 0) rfl rfl ?_
    refine rx_getf hE dX10_count_168 fl_X10_63_9 (xa_0 hM) rfl ?_
    refine rx_getfN hE dX10_count_171 fl_X10_128_4 (xa_n0 (xN_29 hM)) rfl ?_
    exact rx_iret hE hQ rfl dX10_count_174 ⟨rfl, xD.refl n X O Q G S L⟩
  by_cases hs11 : what = 11
  · subst hs11
    refine rx_tableIn (off := 174) (tgt := 175) hE dX10_count_1 (by decide) (by decide) rfl (by decide) ?_
    refine rx_aload_n hE dX10_count_175 (i := 0) rfl rfl ?_
    refine rx_getf hE dX10_count_176 fl_X10_56_9 (xa_0 hM) rfl ?_
    refine rx_getfN hE dX10_count_179 fl_X10_131_0 (xa_8 hM) rfl ?_
    exact rx_iret hE hQ rfl dX10_count_182 ⟨rfl, xD.refl n X O Q G S L⟩
  by_cases hs12 : what = 12
  · subst hs12
    refine rx_tableIn (off := 182) (tgt := 183) hE dX10_count_1 (by decide) (by decide) rfl (by decide) ?_
    refine rx_aload_n hE dX10_count_183 (i := 0) rfl rfl ?_
    refine rx_getf hE dX10_count_184 fl_X10_106_9 (xa_0 hM) rfl ?_
    exact rx_iret hE hQ rfl dX10_count_187 ⟨rfl, xD.refl n X O Q G S L⟩
  by_cases hs13 : what = 13
  · subst hs13
    refine rx_tableIn (off := 187) (tgt := 188) hE dX10_count_1 (by decide) (by decide) rfl (by decide) ?_
    refine rx_aload_n hE dX10_count_188 (i := 0) rfl rfl ?_
    refine rx_getf hE dX10_count_189 fl_X10_10_9 (xa_0 hM) rfl ?_
    refine rx_getfN hE dX10_count_192 fl_X10_110_8 (xa_1 hM) rfl ?_
    exact rx_iret hE hQ rfl dX10_count_195 ⟨rfl, xD.refl n X O Q G S L⟩
  refine rx_tableOut (tgt := 196) hE dX10_count_1 (by have a0 := lv_neT hs0 (a := 0) (by decide); have a1 := lv_neT hs1 (a := 1) (by decide); have a2 := lv_neT hs2 (a := 2) (by decide); have a3 := lv_neT hs3 (a := 3) (by decide); have a4 := lv_neT hs4 (a := 4) (by decide); have a5 := lv_neT hs5 (a := 5) (by decide); have a6 := lv_neT hs6 (a := 6) (by decide); have a7 := lv_neT hs7 (a := 7) (by decide); have a8 := lv_neT hs8 (a := 8) (by decide); have a9 := lv_neT hs9 (a := 9) (by decide); have a10 := lv_neT hs10 (a := 10) (by decide); have a11 := lv_neT hs11 (a := 11) (by decide); have a12 := lv_neT hs12 (a := 12) (by decide); have a13 := lv_neT hs13 (a := 13) (by decide); omega) (by decide) ?_
  refine rx_iconst hE dX10_count_196 (v := -1) (by decide) ?_
  exact rx_iret hE hQ rfl dX10_count_197 ⟨by unfold q_count; simp [qchain, hs0, hs1, hs2, hs3, hs4, hs5, hs6, hs7, hs8, hs9, hs10, hs11, hs12, hs13], xD.refl n X O Q G S L⟩
set_option maxRecDepth 100000 in
set_option maxHeartbeats 1000000 in
theorem c_X10_heard {n : Nat} {X : gX} {O : gO} {Q : gU} {G : gK} {S : gS} {L : gLg} (hR : xR n X O Q) {J : gJn} (hJ : X 2 = J) (hk : xk J) {t : gJn → Nat → Int32 → Bool} (ht : xtf X Q (X 0 0 17) = t) : SX 2 0 0 mX10_heard [.ref 16] (xm n X O Q G S L) (fun v M' => v = some (.int (J 9 4)) ∧ xD n X O Q S L M') := by
  refine SX.intro [some (.ref 16)] (by decide +kernel) (Nat.le_of_ble_eq_true rfl) rfl (fun E hE hQ => ?_)
  have hM := hR.M
  refine rx_aload_n hE dX10_heard_0 (i := 0) rfl rfl ?_
  refine rx_getf hE dX10_heard_1 fl_X10_19_9 (xa_0 hM) rfl ?_
  refine rx_getfN hE dX10_heard_4 fl_X10_195_2 (xa_j xJ_2 hM) rfl ?_
  refine rx_int _ (J 9 4) (congrFun (congrFun hJ 9) 4) ?_
  exact rx_iret hE hQ rfl dX10_heard_7 ⟨rfl, xD.refl n X O Q G S L⟩
set_option maxRecDepth 100000 in
set_option maxHeartbeats 1000000 in
theorem c_X10_force {n : Nat} {X : gX} {O : gO} {Q : gU} {G : gK} {S : gS} {L : gLg} (hM : 408 ≤ n) (rule : Int32) : SX 1 0 0 mX10_force [.ref 16, .int rule] (xm n X O Q G S L) (fun v M' => v = some (.int (if q_in rule (-1) (X 0 0 16 - 1) = 0 then -2 else X 0 0 17)) ∧ M' = xm n (if q_in rule (-1) (X 0 0 16 - 1) = 0 then X else x_r X 0 (j_f (X 0) 17 rule)) O Q G S L) := by
  refine SX.intro [some (.ref 16), some (.int rule), none] (by decide +kernel) (Nat.le_of_ble_eq_true rfl) rfl (fun E hE hQ => ?_)
  refine rx_iload_n hE dX10_force_0 (i := 1) rfl rfl ?_
  refine rx_iconst hE dX10_force_1 (v := -1) (by decide) ?_
  refine rx_aload_n hE dX10_force_2 (i := 0) rfl rfl ?_
  refine rx_getf hE dX10_force_3 fl_X10_99_9 (xa_0 hM) rfl ?_
  refine rx_iconst hE dX10_force_6 (v := 1) (by decide) ?_
  refine rx_isub hE dX10_force_7 ?_
  refine rx_call0 (rx_callS (av := [.int _, .int _, .int _]) hE dX10_force_8 lk_X10_143 (c_X10_within _ _ _) np_X10_within rfl rfl (by decide) (Nat.le_of_ble_eq_true rfl) rfl ?_)
  rintro v M' ⟨rfl, rfl⟩
  refine rx_if_ne (tgt := 17) hE dX10_force_11 (by decide) (fun c11 => ?_) (fun c11 => ?_)
  · refine rx_aload_n hE dX10_force_17 (i := 0) rfl rfl ?_
    refine rx_getf hE dX10_force_18 fl_X10_103_9 (xa_0 hM) rfl ?_
    refine rx_istore_n_2 hE dX10_force_21 (by decide) rfl ?_
    refine rx_aload_n hE dX10_force_22 (i := 0) rfl rfl ?_
    refine rx_iload_n hE dX10_force_23 (i := 1) rfl rfl ?_
    refine rx_put hE dX10_force_24 fl_X10_103_9 fw_9_17 (xa_0 hM) (fun _ => rfl) (fun _ => rfl) (Nat.le_of_ble_eq_true rfl) ?_
    refine rx_mem xw_0_f17 ?_
    refine rx_iload_n hE dX10_force_27 (i := 2) rfl rfl ?_
    exact rx_iret hE hQ rfl dX10_force_28 ⟨by rw [if_neg c11], by rw [if_neg c11]⟩
  · refine rx_bipush hE dX10_force_14 (v := -2) (by decide) ?_
    exact rx_iret hE hQ rfl dX10_force_16 ⟨by rw [if_pos c11], by rw [if_pos c11]⟩
set_option maxRecDepth 100000 in
set_option maxHeartbeats 1000000 in
theorem c_X10_seed {n : Nat} {X : gX} {O : gO} {Q : gU} {G : gK} {S : gS} {L : gLg} (hM : 408 ≤ n) (n0 : Int32) : SX 1 0 0 mX10_seed [.ref 16, .int n0] (xm n X O Q G S L) (fun v M' => v = some (.int (q_seed (X 0 0 18) n0)) ∧ M' = xm n (if 0 ≤ n0 then xd X n0 else X) O Q G S L) := by
  refine SX.intro [some (.ref 16), some (.int n0), none] (by decide +kernel) (Nat.le_of_ble_eq_true rfl) rfl (fun E hE hQ => ?_)
  refine rx_iload_n hE dX10_seed_0 (i := 1) rfl rfl ?_
  refine rx_if_ge (tgt := 6) hE dX10_seed_1 (by decide) (fun c1 => ?_) (fun c1 => ?_)
  · refine rx_aload_n hE dX10_seed_6 (i := 0) rfl rfl ?_
    refine rx_getf hE dX10_seed_7 fl_X10_106_9 (xa_0 hM) rfl ?_
    refine rx_istore_n_2 hE dX10_seed_10 (by decide) rfl ?_
    refine rx_aload_n hE dX10_seed_11 (i := 0) rfl rfl ?_
    refine rx_iload_n hE dX10_seed_12 (i := 1) rfl rfl ?_
    refine rx_put hE dX10_seed_13 fl_X10_106_9 fw_9_18 (xa_0 hM) (fun _ => rfl) (fun _ => rfl) (Nat.le_of_ble_eq_true rfl) ?_
    refine rx_mem (M' := xm n (xd X n0) O Q G S L) xw_0_f18 ?_
    refine rx_iload_n hE dX10_seed_16 (i := 2) rfl rfl ?_
    exact rx_iret hE hQ rfl dX10_seed_17 ⟨by unfold q_seed; rw [if_pos c1], by rw [if_pos c1]⟩
  · refine rx_iconst hE dX10_seed_4 (v := -1) (by decide) ?_
    exact rx_iret hE hQ rfl dX10_seed_5 ⟨by unfold q_seed; rw [if_neg c1], by rw [if_neg c1]⟩
set_option maxRecDepth 100000 in
set_option maxHeartbeats 1000000 in
theorem c_X10_end {n : Nat} {X : gX} {O : gO} {Q : gU} {G : gK} {S : gS} {L : gLg} (hM : 408 ≤ n) (n0 : Int32) : SX 1 0 0 mX10_end [.ref 16, .int n0] (xm n X O Q G S L) (fun v M' => v = some (.int (q_end (X 1 0 1) n0)) ∧ M' = xm n (if n0 < 0 ∨ ¬ n0 ≤ X 1 0 1 then X else x_r X 1 (j_f (X 1) 1 n0)) O Q G S L) := by
  refine SX.intro [some (.ref 16), some (.int n0)] (by decide +kernel) (Nat.le_of_ble_eq_true rfl) rfl (fun E hE hQ => ?_)
  refine rx_iload_n hE dX10_end_0 (i := 1) rfl rfl ?_
  refine rx_if_lt (tgt := 15) hE dX10_end_1 (by decide) (fun c1 => ?_) (fun c1 => ?_)
  · refine rx_iconst hE dX10_end_15 (v := -1) (by decide) ?_
    exact rx_iret hE hQ rfl dX10_end_16 ⟨by unfold q_end; rw [if_pos (Or.inl c1)], by rw [if_pos (Or.inl c1)]⟩
  · refine rx_iload_n hE dX10_end_4 (i := 1) rfl rfl ?_
    refine rx_aload_n hE dX10_end_5 (i := 0) rfl rfl ?_
    refine rx_getf hE dX10_end_6 fl_X10_10_9 (xa_0 hM) rfl ?_
    refine rx_getfN hE dX10_end_9 fl_X10_110_8 (xa_1 hM) rfl ?_
    refine rx_icmp_le (tgt := 17) hE dX10_end_12 (by decide) (fun c12 => ?_) (fun c12 => ?_)
    · refine rx_aload_n hE dX10_end_17 (i := 0) rfl rfl ?_
      refine rx_getf hE dX10_end_18 fl_X10_10_9 (xa_0 hM) rfl ?_
      refine rx_iload_n hE dX10_end_21 (i := 1) rfl rfl ?_
      refine rx_putN hE dX10_end_22 fl_X10_110_8 fw_8_1 (xa_1 hM) (fun _ => rfl) (fun _ => rfl) (Nat.le_of_ble_eq_true rfl) ?_
      refine rx_mem xw_1_f1 ?_
      refine rx_iload_n hE dX10_end_25 (i := 1) rfl rfl ?_
      exact rx_iret hE hQ rfl dX10_end_26 ⟨by unfold q_end; rw [if_neg (fun q => q.elim c1 (fun z => z c12))], by rw [if_neg (fun q => q.elim c1 (fun z => z c12))]⟩
    · refine rx_iconst hE dX10_end_15 (v := -1) (by decide) ?_
      exact rx_iret hE hQ rfl dX10_end_16 ⟨by unfold q_end; rw [if_pos (Or.inr c12)], by rw [if_pos (Or.inr c12)]⟩
def xtp (T : Nat → Nat → Int32) (f : Nat → Int32) (l : Int32) : Nat → Nat → Int32 := j_f (j_s T 1 f) 1 l
theorem xtp_s (T : Nat → Nat → Int32) (f f' : Nat → Int32) (l : Int32) : j_s (xtp T f l) 1 f' = xtp T f' l := by
  funext k
  unfold xtp j_s j_f
  by_cases h : k = 1
  · subst h
    rfl
  · rw [if_neg h]
    by_cases h0 : k = 0
    · subst h0
      rfl
    · rw [if_neg h0, if_neg h0]
      show (if k = 1 then f else T k) = (if k = 1 then f' else T k)
      rw [if_neg h, if_neg h]
theorem xtp_f (T : Nat → Nat → Int32) (f : Nat → Int32) (l l' : Int32) : j_f (xtp T f l) 1 l' = xtp T f l' := j_ff _ _ _ _
theorem xtp_t (T : Nat → Nat → Int32) (f f' : Nat → Int32) (l l' : Int32) : xtp (xtp T f l) f' l' = xtp T f' l' := by
  show j_f (j_s (xtp T f l) 1 f') 1 l' = _
  rw [xtp_s, xtp_f]
theorem xtp_id (T : Nat → Nat → Int32) : xtp T (T 1) (T 0 1) = T := by
  unfold xtp
  rw [j_s_id]
  exact j_f_id T 1
set_option maxRecDepth 100000 in
set_option maxHeartbeats 1000000 in
theorem c_X8_append {n : Nat} {X : gX} {O : gO} {Q : gU} {G : gK} {S : gS} {L : gLg} (hM : 408 ≤ n) {p : Nat} (hp : X 1 0 1 = nI p) (hp4 : p + 4 ≤ 400) (x : Int32) : SX 0 0 0 mX8_append [.ref 17, .int x] (xm n X O Q G S L) (fun v M' => v = none ∧ M' = xm n (x_r X 1 (xtp (X 1) (qf4 (X 1 1) p x) (nI (p + 4)))) O Q G S L) := by
  refine SX.intro [some (.ref 17), some (.int x), none] (by decide +kernel) (Nat.le_of_ble_eq_true rfl) rfl (fun E hE hQ => ?_)
  refine rx_mem (M' := xm n (x_r X 1 (xtp (X 1) (X 1 1) (nI (p)))) O Q G S L) (by rw [← hp, xtp_id, x_r_id]) ?_
  refine rx_bipush hE dX8_append_0 (v := 24) (by decide) ?_
  refine rx_istore_n_2 hE dX8_append_2 (by decide) rfl ?_
  refine rx_iload_n hE dX8_append_3 (i := 2) rfl rfl ?_
  refine rx_if_lt (tgt := 48) hE dX8_append_4 (by decide) (fun c4 => absurd c4 (by decide)) (fun c4 => ?_)
  refine rx_aload_n hE dX8_append_7 (i := 0) rfl rfl ?_
  refine rx_getf hE dX8_append_8 fl_X8_15_8 (xa_1 hM) rfl ?_
  refine rx_int _ (nI (p)) rfl ?_
  refine rx_aload_n hE dX8_append_11 (i := 0) rfl rfl ?_
  refine rx_getf hE dX8_append_12 fl_X8_9_8 (xa_1 hM) rfl ?_
  refine rx_alenB hE dX8_append_15 (xa_1_1 hM) ?_
  refine rx_icmp_ge (tgt := 48) hE dX8_append_16 (by decide) (fun c16 => absurd c16 (nI_ge (a := p) (b := 400) (by omega) (by decide))) (fun c16 => ?_)
  refine rx_aload_n hE dX8_append_19 (i := 0) rfl rfl ?_
  refine rx_getf hE dX8_append_20 fl_X8_9_8 (xa_1 hM) rfl ?_
  refine rx_aload_n hE dX8_append_23 (i := 0) rfl rfl ?_
  refine rx_getf hE dX8_append_24 fl_X8_15_8 (xa_1 hM) rfl ?_
  refine rx_int _ (nI (p)) rfl ?_
  refine rx_iload_n hE dX8_append_27 (i := 1) rfl rfl ?_
  refine rx_iload_n hE dX8_append_28 (i := 2) rfl rfl ?_
  refine rx_ishr hE dX8_append_29 ?_
  refine rx_i2b hE dX8_append_30 ?_
  refine rx_int _ (qby x 0) (by unfold qby; rfl) ?_
  refine rx_bastN hE dX8_append_31 (xa_1_1 hM) (by omega) (by decide) ?_
  refine rx_mem (M' := xm n (x_r X 1 (xtp (X 1) (upd (X 1 1) (p) (qby x 0)) (nI (p)))) O Q G S L) (xw_1_1.trans (by rw [x_rr, x_r_eq, show vp_nar .byte (qby x 0) = qby x 0 from pk_vb _, xtp_s]; rfl)) ?_
  refine rx_aload_n hE dX8_append_32 (i := 0) rfl rfl ?_
  refine rx_dup hE dX8_append_33 rfl ?_
  refine rx_getf hE dX8_append_34 fl_X8_15_8 (xa_1 hM) rfl ?_
  refine rx_int _ (nI (p)) rfl ?_
  refine rx_iconst hE dX8_append_37 (v := 1) (by decide) ?_
  refine rx_iadd hE dX8_append_38 ?_
  refine rx_int _ (nI (p + 1)) (nI_1 _) ?_
  refine rx_put hE dX8_append_39 fl_X8_15_8 fw_8_1 (xa_1 hM) (fun _ => rfl) (fun _ => rfl) (Nat.le_of_ble_eq_true rfl) ?_
  refine rx_mem (M' := xm n (x_r X 1 (xtp (X 1) (upd (X 1 1) (p) (qby x 0)) (nI (p + 1)))) O Q G S L) (xw_1_f1.trans (by rw [x_rr, x_r_eq, xtp_f])) ?_
  refine rx_iinc_2 hE dX8_append_42 (v := -8) (by decide) (by decide) rfl ?_
  refine rx_goto (tgt := 3) hE dX8_append_45 (by decide) ?_
  refine rx_iload_n hE dX8_append_3 (i := 2) rfl rfl ?_
  refine rx_if_lt (tgt := 48) hE dX8_append_4 (by decide) (fun c4 => absurd c4 (by decide)) (fun c4 => ?_)
  refine rx_aload_n hE dX8_append_7 (i := 0) rfl rfl ?_
  refine rx_getf hE dX8_append_8 fl_X8_15_8 (xa_1 hM) rfl ?_
  refine rx_int _ (nI (p + 1)) rfl ?_
  refine rx_aload_n hE dX8_append_11 (i := 0) rfl rfl ?_
  refine rx_getf hE dX8_append_12 fl_X8_9_8 (xa_1 hM) rfl ?_
  refine rx_alenB hE dX8_append_15 (xa_1_1 hM) ?_
  refine rx_icmp_ge (tgt := 48) hE dX8_append_16 (by decide) (fun c16 => absurd c16 (nI_ge (a := p + 1) (b := 400) (by omega) (by decide))) (fun c16 => ?_)
  refine rx_aload_n hE dX8_append_19 (i := 0) rfl rfl ?_
  refine rx_getf hE dX8_append_20 fl_X8_9_8 (xa_1 hM) rfl ?_
  refine rx_aload_n hE dX8_append_23 (i := 0) rfl rfl ?_
  refine rx_getf hE dX8_append_24 fl_X8_15_8 (xa_1 hM) rfl ?_
  refine rx_int _ (nI (p + 1)) rfl ?_
  refine rx_iload_n hE dX8_append_27 (i := 1) rfl rfl ?_
  refine rx_iload_n hE dX8_append_28 (i := 2) rfl rfl ?_
  refine rx_ishr hE dX8_append_29 ?_
  refine rx_i2b hE dX8_append_30 ?_
  refine rx_int _ (qby x 1) (by unfold qby; rfl) ?_
  refine rx_bastN hE dX8_append_31 (xa_1_1 hM) (by omega) (by decide) ?_
  refine rx_mem (M' := xm n (x_r X 1 (xtp (X 1) (upd (upd (X 1 1) (p) (qby x 0)) (p + 1) (qby x 1)) (nI (p + 1)))) O Q G S L) (xw_1_1.trans (by rw [x_rr, x_r_eq, show vp_nar .byte (qby x 1) = qby x 1 from pk_vb _, xtp_s]; rfl)) ?_
  refine rx_aload_n hE dX8_append_32 (i := 0) rfl rfl ?_
  refine rx_dup hE dX8_append_33 rfl ?_
  refine rx_getf hE dX8_append_34 fl_X8_15_8 (xa_1 hM) rfl ?_
  refine rx_int _ (nI (p + 1)) rfl ?_
  refine rx_iconst hE dX8_append_37 (v := 1) (by decide) ?_
  refine rx_iadd hE dX8_append_38 ?_
  refine rx_int _ (nI (p + 2)) (nI_1 _) ?_
  refine rx_put hE dX8_append_39 fl_X8_15_8 fw_8_1 (xa_1 hM) (fun _ => rfl) (fun _ => rfl) (Nat.le_of_ble_eq_true rfl) ?_
  refine rx_mem (M' := xm n (x_r X 1 (xtp (X 1) (upd (upd (X 1 1) (p) (qby x 0)) (p + 1) (qby x 1)) (nI (p + 2)))) O Q G S L) (xw_1_f1.trans (by rw [x_rr, x_r_eq, xtp_f])) ?_
  refine rx_iinc_2 hE dX8_append_42 (v := -8) (by decide) (by decide) rfl ?_
  refine rx_goto (tgt := 3) hE dX8_append_45 (by decide) ?_
  refine rx_iload_n hE dX8_append_3 (i := 2) rfl rfl ?_
  refine rx_if_lt (tgt := 48) hE dX8_append_4 (by decide) (fun c4 => absurd c4 (by decide)) (fun c4 => ?_)
  refine rx_aload_n hE dX8_append_7 (i := 0) rfl rfl ?_
  refine rx_getf hE dX8_append_8 fl_X8_15_8 (xa_1 hM) rfl ?_
  refine rx_int _ (nI (p + 2)) rfl ?_
  refine rx_aload_n hE dX8_append_11 (i := 0) rfl rfl ?_
  refine rx_getf hE dX8_append_12 fl_X8_9_8 (xa_1 hM) rfl ?_
  refine rx_alenB hE dX8_append_15 (xa_1_1 hM) ?_
  refine rx_icmp_ge (tgt := 48) hE dX8_append_16 (by decide) (fun c16 => absurd c16 (nI_ge (a := p + 2) (b := 400) (by omega) (by decide))) (fun c16 => ?_)
  refine rx_aload_n hE dX8_append_19 (i := 0) rfl rfl ?_
  refine rx_getf hE dX8_append_20 fl_X8_9_8 (xa_1 hM) rfl ?_
  refine rx_aload_n hE dX8_append_23 (i := 0) rfl rfl ?_
  refine rx_getf hE dX8_append_24 fl_X8_15_8 (xa_1 hM) rfl ?_
  refine rx_int _ (nI (p + 2)) rfl ?_
  refine rx_iload_n hE dX8_append_27 (i := 1) rfl rfl ?_
  refine rx_iload_n hE dX8_append_28 (i := 2) rfl rfl ?_
  refine rx_ishr hE dX8_append_29 ?_
  refine rx_i2b hE dX8_append_30 ?_
  refine rx_int _ (qby x 2) (by unfold qby; rfl) ?_
  refine rx_bastN hE dX8_append_31 (xa_1_1 hM) (by omega) (by decide) ?_
  refine rx_mem (M' := xm n (x_r X 1 (xtp (X 1) (upd (upd (upd (X 1 1) (p) (qby x 0)) (p + 1) (qby x 1)) (p + 2) (qby x 2)) (nI (p + 2)))) O Q G S L) (xw_1_1.trans (by rw [x_rr, x_r_eq, show vp_nar .byte (qby x 2) = qby x 2 from pk_vb _, xtp_s]; rfl)) ?_
  refine rx_aload_n hE dX8_append_32 (i := 0) rfl rfl ?_
  refine rx_dup hE dX8_append_33 rfl ?_
  refine rx_getf hE dX8_append_34 fl_X8_15_8 (xa_1 hM) rfl ?_
  refine rx_int _ (nI (p + 2)) rfl ?_
  refine rx_iconst hE dX8_append_37 (v := 1) (by decide) ?_
  refine rx_iadd hE dX8_append_38 ?_
  refine rx_int _ (nI (p + 3)) (nI_1 _) ?_
  refine rx_put hE dX8_append_39 fl_X8_15_8 fw_8_1 (xa_1 hM) (fun _ => rfl) (fun _ => rfl) (Nat.le_of_ble_eq_true rfl) ?_
  refine rx_mem (M' := xm n (x_r X 1 (xtp (X 1) (upd (upd (upd (X 1 1) (p) (qby x 0)) (p + 1) (qby x 1)) (p + 2) (qby x 2)) (nI (p + 3)))) O Q G S L) (xw_1_f1.trans (by rw [x_rr, x_r_eq, xtp_f])) ?_
  refine rx_iinc_2 hE dX8_append_42 (v := -8) (by decide) (by decide) rfl ?_
  refine rx_goto (tgt := 3) hE dX8_append_45 (by decide) ?_
  refine rx_iload_n hE dX8_append_3 (i := 2) rfl rfl ?_
  refine rx_if_lt (tgt := 48) hE dX8_append_4 (by decide) (fun c4 => absurd c4 (by decide)) (fun c4 => ?_)
  refine rx_aload_n hE dX8_append_7 (i := 0) rfl rfl ?_
  refine rx_getf hE dX8_append_8 fl_X8_15_8 (xa_1 hM) rfl ?_
  refine rx_int _ (nI (p + 3)) rfl ?_
  refine rx_aload_n hE dX8_append_11 (i := 0) rfl rfl ?_
  refine rx_getf hE dX8_append_12 fl_X8_9_8 (xa_1 hM) rfl ?_
  refine rx_alenB hE dX8_append_15 (xa_1_1 hM) ?_
  refine rx_icmp_ge (tgt := 48) hE dX8_append_16 (by decide) (fun c16 => absurd c16 (nI_ge (a := p + 3) (b := 400) (by omega) (by decide))) (fun c16 => ?_)
  refine rx_aload_n hE dX8_append_19 (i := 0) rfl rfl ?_
  refine rx_getf hE dX8_append_20 fl_X8_9_8 (xa_1 hM) rfl ?_
  refine rx_aload_n hE dX8_append_23 (i := 0) rfl rfl ?_
  refine rx_getf hE dX8_append_24 fl_X8_15_8 (xa_1 hM) rfl ?_
  refine rx_int _ (nI (p + 3)) rfl ?_
  refine rx_iload_n hE dX8_append_27 (i := 1) rfl rfl ?_
  refine rx_iload_n hE dX8_append_28 (i := 2) rfl rfl ?_
  refine rx_ishr hE dX8_append_29 ?_
  refine rx_i2b hE dX8_append_30 ?_
  refine rx_int _ (qby x 3) (by unfold qby; rfl) ?_
  refine rx_bastN hE dX8_append_31 (xa_1_1 hM) (by omega) (by decide) ?_
  refine rx_mem (M' := xm n (x_r X 1 (xtp (X 1) (upd (upd (upd (upd (X 1 1) (p) (qby x 0)) (p + 1) (qby x 1)) (p + 2) (qby x 2)) (p + 3) (qby x 3)) (nI (p + 3)))) O Q G S L) (xw_1_1.trans (by rw [x_rr, x_r_eq, show vp_nar .byte (qby x 3) = qby x 3 from pk_vb _, xtp_s]; rfl)) ?_
  refine rx_aload_n hE dX8_append_32 (i := 0) rfl rfl ?_
  refine rx_dup hE dX8_append_33 rfl ?_
  refine rx_getf hE dX8_append_34 fl_X8_15_8 (xa_1 hM) rfl ?_
  refine rx_int _ (nI (p + 3)) rfl ?_
  refine rx_iconst hE dX8_append_37 (v := 1) (by decide) ?_
  refine rx_iadd hE dX8_append_38 ?_
  refine rx_int _ (nI (p + 4)) (nI_1 _) ?_
  refine rx_put hE dX8_append_39 fl_X8_15_8 fw_8_1 (xa_1 hM) (fun _ => rfl) (fun _ => rfl) (Nat.le_of_ble_eq_true rfl) ?_
  refine rx_mem (M' := xm n (x_r X 1 (xtp (X 1) (upd (upd (upd (upd (X 1 1) (p) (qby x 0)) (p + 1) (qby x 1)) (p + 2) (qby x 2)) (p + 3) (qby x 3)) (nI (p + 4)))) O Q G S L) (xw_1_f1.trans (by rw [x_rr, x_r_eq, xtp_f])) ?_
  refine rx_iinc_2 hE dX8_append_42 (v := -8) (by decide) (by decide) rfl ?_
  refine rx_goto (tgt := 3) hE dX8_append_45 (by decide) ?_
  refine rx_iload_n hE dX8_append_3 (i := 2) rfl rfl ?_
  refine rx_if_lt (tgt := 48) hE dX8_append_4 (by decide) (fun c4 => ?_) (fun c4 => absurd (by decide) c4)
  exact rx_vret hE hQ rfl dX8_append_48 ⟨rfl, rfl⟩
set_option maxRecDepth 100000 in
set_option maxHeartbeats 1000000 in
theorem c_X10_feed {n : Nat} {X : gX} {O : gO} {Q : gU} {G : gK} {S : gS} {L : gLg} (hM : 408 ≤ n) {p : Nat} (hp : X 1 0 1 = nI p) (hp4 : p ≤ 400) (a b c d e : Int32) : SX 1 0 0 mX10_feed [.ref 16, .int a, .int b, .int c, .int d, .int e] (xm n X O Q G S L) (fun v M' => v = some (.int (q_feed p)) ∧ M' = xm n (if p + 20 ≤ 400 then x_r X 1 (xtp (X 1) (qf20 (X 1 1) p a b c d e) (nI (p + 20))) else X) O Q G S L) := by
  refine SX.intro [some (.ref 16), some (.int a), some (.int b), some (.int c), some (.int d), some (.int e)] (by decide +kernel) (Nat.le_of_ble_eq_true rfl) rfl (fun E hE hQ => ?_)
  refine rx_aload_n hE dX10_feed_0 (i := 0) rfl rfl ?_
  refine rx_getf hE dX10_feed_1 fl_X10_10_9 (xa_0 hM) rfl ?_
  refine rx_getfN hE dX10_feed_4 fl_X10_110_8 (xa_1 hM) rfl ?_
  refine rx_int _ (nI p) hp ?_
  refine rx_bipush hE dX10_feed_7 (v := 20) (by decide) ?_
  refine rx_iadd hE dX10_feed_9 ?_
  refine rx_int _ (nI (p + 20)) (nI_add p 20) ?_
  refine rx_sipush hE dX10_feed_10 (v := 400) (by decide) ?_
  refine rx_icmp_le (tgt := 18) hE dX10_feed_13 (by decide) (fun c13 => ?_) (fun c13 => ?_)
  · have hc : p + 20 ≤ 400 := (nI_leI (by omega) (by omega)).mp c13
    refine rx_aload_n hE dX10_feed_18 (i := 0) rfl rfl ?_
    refine rx_getf hE dX10_feed_19 fl_X10_10_9 (xa_0 hM) rfl ?_
    refine rx_iload_n hE dX10_feed_22 (i := 1) rfl rfl ?_
    refine rx_call0 (rx_callV (av := [.int a]) hE dX10_feed_23 lk_X10_113 (c_X8_append (X := X) hM (p := p) hp (by omega) a) (xa_1 hM) np_X8_append rfl rfl (by decide) (Nat.le_of_ble_eq_true rfl) rfl ?_)
    rintro v M' ⟨rfl, rfl⟩
    refine rx_aload_n hE dX10_feed_26 (i := 0) rfl rfl ?_
    refine rx_getf hE dX10_feed_27 fl_X10_10_9 (xa_0 hM) rfl ?_
    refine rx_iload_n hE dX10_feed_30 (i := 2) rfl rfl ?_
    refine rx_call0 (rx_callV (av := [.int b]) hE dX10_feed_31 lk_X10_113 (c_X8_append (X := (x_r X 1 (xtp (X 1) (qf4 (X 1 1) (p) a) (nI (p + 4))))) hM (p := p + 4) rfl (by omega) b) (xa_1 hM) np_X8_append rfl rfl (by decide) (Nat.le_of_ble_eq_true rfl) rfl ?_)
    rintro v M' ⟨rfl, rfl⟩
    refine rx_mem (M' := xm n (x_r X 1 (xtp (X 1) (qf4 (qf4 (X 1 1) (p) a) (p + 4) b) (nI (p + 8)))) O Q G S L) (by rw [x_rr, x_r_eq, xtp_t]; rfl) ?_
    refine rx_aload_n hE dX10_feed_34 (i := 0) rfl rfl ?_
    refine rx_getf hE dX10_feed_35 fl_X10_10_9 (xa_0 hM) rfl ?_
    refine rx_iload_n hE dX10_feed_38 (i := 3) rfl rfl ?_
    refine rx_call0 (rx_callV (av := [.int c]) hE dX10_feed_39 lk_X10_113 (c_X8_append (X := (x_r X 1 (xtp (X 1) (qf4 (qf4 (X 1 1) (p) a) (p + 4) b) (nI (p + 8))))) hM (p := p + 8) rfl (by omega) c) (xa_1 hM) np_X8_append rfl rfl (by decide) (Nat.le_of_ble_eq_true rfl) rfl ?_)
    rintro v M' ⟨rfl, rfl⟩
    refine rx_mem (M' := xm n (x_r X 1 (xtp (X 1) (qf4 (qf4 (qf4 (X 1 1) (p) a) (p + 4) b) (p + 8) c) (nI (p + 12)))) O Q G S L) (by rw [x_rr, x_r_eq, xtp_t]; rfl) ?_
    refine rx_aload_n hE dX10_feed_42 (i := 0) rfl rfl ?_
    refine rx_getf hE dX10_feed_43 fl_X10_10_9 (xa_0 hM) rfl ?_
    refine rx_iload hE dX10_feed_46 rfl ?_
    refine rx_call0 (rx_callV (av := [.int d]) hE dX10_feed_48 lk_X10_113 (c_X8_append (X := (x_r X 1 (xtp (X 1) (qf4 (qf4 (qf4 (X 1 1) (p) a) (p + 4) b) (p + 8) c) (nI (p + 12))))) hM (p := p + 12) rfl (by omega) d) (xa_1 hM) np_X8_append rfl rfl (by decide) (Nat.le_of_ble_eq_true rfl) rfl ?_)
    rintro v M' ⟨rfl, rfl⟩
    refine rx_mem (M' := xm n (x_r X 1 (xtp (X 1) (qf4 (qf4 (qf4 (qf4 (X 1 1) (p) a) (p + 4) b) (p + 8) c) (p + 12) d) (nI (p + 16)))) O Q G S L) (by rw [x_rr, x_r_eq, xtp_t]; rfl) ?_
    refine rx_aload_n hE dX10_feed_51 (i := 0) rfl rfl ?_
    refine rx_getf hE dX10_feed_52 fl_X10_10_9 (xa_0 hM) rfl ?_
    refine rx_iload hE dX10_feed_55 rfl ?_
    refine rx_call0 (rx_callV (av := [.int e]) hE dX10_feed_57 lk_X10_113 (c_X8_append (X := (x_r X 1 (xtp (X 1) (qf4 (qf4 (qf4 (qf4 (X 1 1) (p) a) (p + 4) b) (p + 8) c) (p + 12) d) (nI (p + 16))))) hM (p := p + 16) rfl (by omega) e) (xa_1 hM) np_X8_append rfl rfl (by decide) (Nat.le_of_ble_eq_true rfl) rfl ?_)
    rintro v M' ⟨rfl, rfl⟩
    refine rx_mem (M' := xm n (x_r X 1 (xtp (X 1) (qf4 (qf4 (qf4 (qf4 (qf4 (X 1 1) (p) a) (p + 4) b) (p + 8) c) (p + 12) d) (p + 16) e) (nI (p + 20)))) O Q G S L) (by rw [x_rr, x_r_eq, xtp_t]; rfl) ?_
    refine rx_aload_n hE dX10_feed_60 (i := 0) rfl rfl ?_
    refine rx_getf hE dX10_feed_61 fl_X10_10_9 (xa_0 hM) rfl ?_
    refine rx_getfN hE dX10_feed_64 fl_X10_110_8 (xa_1 hM) rfl ?_
    refine rx_int _ (nI (p + 20)) rfl ?_
    exact rx_iret hE hQ rfl dX10_feed_67 ⟨by unfold q_feed; rw [if_pos hc], by rw [if_pos hc]; rfl⟩
  · have hc : ¬ p + 20 ≤ 400 := fun q => c13 ((nI_leI (a := p + 20) (b := 400) (by omega) (by omega)).mpr q)
    refine rx_iconst hE dX10_feed_16 (v := -1) (by decide) ?_
    exact rx_iret hE hQ rfl dX10_feed_17 ⟨by unfold q_feed; rw [if_neg hc], by rw [if_neg hc]⟩
