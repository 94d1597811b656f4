def j_tr (x : Int32) : Int64 := if x = 0 then 0 else 1
def j_tb (c : Prop) [Decidable c] : Int64 := if c then 1 else 0
def j_join (s : Int32) (x y : Int64) : Int64 := if s = -20 then x + y else if s = -21 then x - y else if s = -22 then x * y else if s = -23 then (if y = 0 then 0 else x / y) else if s = -24 then (if y = 0 then 0 else x - x / y * y) else if s = -25 then j_tb (x < y) else if s = -26 then j_tb (x ≤ y) else if s = -27 then j_tb (x = y) else if s = -28 then j_tb (y ≤ x) else if s = -29 then j_tb (y < x) else if s = -30 then x &&& y else x ||| y
theorem j_join_out {s : Int32} (h0 : ¬ s = -20) (h1 : ¬ s = -21) (h2 : ¬ s = -22) (h3 : ¬ s = -23) (h4 : ¬ s = -24) (h5 : ¬ s = -25) (h6 : ¬ s = -26) (h7 : ¬ s = -27) (h8 : ¬ s = -28) (h9 : ¬ s = -29) (h10 : ¬ s = -30) : s.toInt < -30 ∨ -20 < s.toInt := by
  have a0 := lv_neT h0 (a := -20) (by decide)
  have a1 := lv_neT h1 (a := -21) (by decide)
  have a2 := lv_neT h2 (a := -22) (by decide)
  have a3 := lv_neT h3 (a := -23) (by decide)
  have a4 := lv_neT h4 (a := -24) (by decide)
  have a5 := lv_neT h5 (a := -25) (by decide)
  have a6 := lv_neT h6 (a := -26) (by decide)
  have a7 := lv_neT h7 (a := -27) (by decide)
  have a8 := lv_neT h8 (a := -28) (by decide)
  have a9 := lv_neT h9 (a := -29) (by decide)
  have a10 := lv_neT h10 (a := -30) (by decide)
  omega
set_option maxRecDepth 100000 in
set_option maxHeartbeats 4000000 in
theorem c_X6_truth {M : gM} (x : Int32) : SX 0 0 0 mX6_truth [.int x] (M) (fun v M' => v = some (.long (j_tr x)) ∧ M' = M) := by
  refine SX.intro [some (.int x)] (by decide +kernel) (Nat.le_of_ble_eq_true rfl) rfl (fun E hE hQ => ?_)
  refine rx_iload_n hE dX6_truth_0 (i := 0) rfl rfl ?_
  refine rx_if_eq (tgt := 8) hE dX6_truth_1 (by decide) (fun c1 => ?_) (fun c1 => ?_)
  · refine rx_lconst hE dX6_truth_8 (v := 0) (by decide) ?_
    exact rx_lret hE hQ rfl dX6_truth_9 ⟨by simp [j_tr, *], rfl⟩
  · refine rx_lconst hE dX6_truth_4 (v := 1) (by decide) ?_
    refine rx_goto (tgt := 9) hE dX6_truth_5 (by decide) ?_
    exact rx_lret hE hQ rfl dX6_truth_9 ⟨by simp [j_tr, *], rfl⟩
set_option maxRecDepth 100000 in
set_option maxHeartbeats 4000000 in
theorem c_X6_joined {M : gM} (s : Int32) (x y : Int64) : SX 1 0 0 mX6_joined [.int s, .long x, .long y] (M) (fun v M' => v = some (.long (j_join s x y)) ∧ M' = M) := by
  refine SX.intro [some (.int s), some (.long x), none, some (.long y), none] (by decide +kernel) (Nat.le_of_ble_eq_true rfl) rfl (fun E hE hQ => ?_)
  by_cases h20 : s = -20
  · subst h20
    refine rx_iload_n hE dX6_joined_0 (i := 0) rfl rfl ?_
    refine rx_tableIn (off := 59) (tgt := 60) hE dX6_joined_1 (by decide) (by decide) rfl (by decide) ?_
    refine rx_lload_n hE dX6_joined_60 (i := 1) rfl rfl ?_
    refine rx_lload_n hE dX6_joined_61 (i := 3) rfl rfl ?_
    refine rx_ladd hE dX6_joined_62 ?_
    exact rx_lret hE hQ rfl dX6_joined_63 ⟨by first | rfl | (simp [j_join, j_tb, j_tr, *]) | (simp_all [j_join, j_tb, j_tr, Int64.not_le, Int64.not_lt]), rfl⟩
  by_cases h21 : s = -21
  · subst h21
    refine rx_iload_n hE dX6_joined_0 (i := 0) rfl rfl ?_
    refine rx_tableIn (off := 63) (tgt := 64) hE dX6_joined_1 (by decide) (by decide) rfl (by decide) ?_
    refine rx_lload_n hE dX6_joined_64 (i := 1) rfl rfl ?_
    refine rx_lload_n hE dX6_joined_65 (i := 3) rfl rfl ?_
    refine rx_lsub hE dX6_joined_66 ?_
    exact rx_lret hE hQ rfl dX6_joined_67 ⟨by first | rfl | (simp [j_join, j_tb, j_tr, *]) | (simp_all [j_join, j_tb, j_tr, Int64.not_le, Int64.not_lt]), rfl⟩
  by_cases h22 : s = -22
  · subst h22
    refine rx_iload_n hE dX6_joined_0 (i := 0) rfl rfl ?_
    refine rx_tableIn (off := 67) (tgt := 68) hE dX6_joined_1 (by decide) (by decide) rfl (by decide) ?_
    refine rx_lload_n hE dX6_joined_68 (i := 1) rfl rfl ?_
    refine rx_lload_n hE dX6_joined_69 (i := 3) rfl rfl ?_
    refine rx_lmul hE dX6_joined_70 ?_
    exact rx_lret hE hQ rfl dX6_joined_71 ⟨by first | rfl | (simp [j_join, j_tb, j_tr, *]) | (simp_all [j_join, j_tb, j_tr, Int64.not_le, Int64.not_lt]), rfl⟩
  by_cases h23 : s = -23
  · subst h23
    refine rx_iload_n hE dX6_joined_0 (i := 0) rfl rfl ?_
    refine rx_tableIn (off := 71) (tgt := 72) hE dX6_joined_1 (by decide) (by decide) rfl (by decide) ?_
    refine rx_lload_n hE dX6_joined_72 (i := 3) rfl rfl ?_
    refine rx_lconst hE dX6_joined_73 (v := 0) (by decide) ?_
    refine rx_lcmp hE dX6_joined_74 ?_
    refine rx_if_ne (tgt := 82) hE dX6_joined_75 (by decide) (fun c75 => ?_) (fun c75 => ?_)
    · have c75 : ¬ y = 0 := fun h => c75 ((lg_cmp_eq y 0).mpr h)
      refine rx_lload_n hE dX6_joined_82 (i := 1) rfl rfl ?_
      refine rx_lload_n hE dX6_joined_83 (i := 3) rfl rfl ?_
      refine rx_ldiv hE dX6_joined_84 c75 ?_
      exact rx_lret hE hQ rfl dX6_joined_85 ⟨by first | rfl | (simp [j_join, j_tb, j_tr, *]) | (simp_all [j_join, j_tb, j_tr, Int64.not_le, Int64.not_lt]), rfl⟩
    · have c75 : y = 0 := (lg_cmp_eq y 0).mp c75
      refine rx_lconst hE dX6_joined_78 (v := 0) (by decide) ?_
      refine rx_goto (tgt := 85) hE dX6_joined_79 (by decide) ?_
      exact rx_lret hE hQ rfl dX6_joined_85 ⟨by first | rfl | (simp [j_join, j_tb, j_tr, *]) | (simp_all [j_join, j_tb, j_tr, Int64.not_le, Int64.not_lt]), rfl⟩
  by_cases h24 : s = -24
  · subst h24
    refine rx_iload_n hE dX6_joined_0 (i := 0) rfl rfl ?_
    refine rx_tableIn (off := 85) (tgt := 86) hE dX6_joined_1 (by decide) (by decide) rfl (by decide) ?_
    refine rx_lload_n hE dX6_joined_86 (i := 3) rfl rfl ?_
    refine rx_lconst hE dX6_joined_87 (v := 0) (by decide) ?_
    refine rx_lcmp hE dX6_joined_88 ?_
    refine rx_if_ne (tgt := 96) hE dX6_joined_89 (by decide) (fun c89 => ?_) (fun c89 => ?_)
    · have c89 : ¬ y = 0 := fun h => c89 ((lg_cmp_eq y 0).mpr h)
      refine rx_lload_n hE dX6_joined_96 (i := 1) rfl rfl ?_
      refine rx_lload_n hE dX6_joined_97 (i := 3) rfl rfl ?_
      refine rx_lrem hE dX6_joined_98 c89 ?_
      exact rx_lret hE hQ rfl dX6_joined_99 ⟨by first | rfl | (simp [j_join, j_tb, j_tr, *]) | (simp_all [j_join, j_tb, j_tr, Int64.not_le, Int64.not_lt]), rfl⟩
    · have c89 : y = 0 := (lg_cmp_eq y 0).mp c89
      refine rx_lconst hE dX6_joined_92 (v := 0) (by decide) ?_
      refine rx_goto (tgt := 99) hE dX6_joined_93 (by decide) ?_
      exact rx_lret hE hQ rfl dX6_joined_99 ⟨by first | rfl | (simp [j_join, j_tb, j_tr, *]) | (simp_all [j_join, j_tb, j_tr, Int64.not_le, Int64.not_lt]), rfl⟩
  by_cases h25 : s = -25
  · subst h25
    refine rx_iload_n hE dX6_joined_0 (i := 0) rfl rfl ?_
    refine rx_tableIn (off := 99) (tgt := 100) hE dX6_joined_1 (by decide) (by decide) rfl (by decide) ?_
    refine rx_lload_n hE dX6_joined_100 (i := 1) rfl rfl ?_
    refine rx_lload_n hE dX6_joined_101 (i := 3) rfl rfl ?_
    refine rx_lcmp hE dX6_joined_102 ?_
    refine rx_if_ge (tgt := 110) hE dX6_joined_103 (by decide) (fun c103 => ?_) (fun c103 => ?_)
    · rw [lg_cmp_ge] at c103
      refine rx_iconst hE dX6_joined_110 (v := 0) (by decide) ?_
      refine rx_call0 (rx_callS (av := [.int _]) hE dX6_joined_111 lk_X6_23 (c_X6_truth _) np_X6_truth rfl rfl (by decide) (Nat.le_of_ble_eq_true rfl) rfl ?_)
      rintro v M' ⟨rfl, rfl⟩
      exact rx_lret hE hQ rfl dX6_joined_114 ⟨by first | rfl | (simp [j_join, j_tb, j_tr, *]) | (simp_all [j_join, j_tb, j_tr, Int64.not_le, Int64.not_lt]), rfl⟩
    · rw [lg_cmp_ge] at c103
      refine rx_iconst hE dX6_joined_106 (v := 1) (by decide) ?_
      refine rx_goto (tgt := 111) hE dX6_joined_107 (by decide) ?_
      refine rx_call0 (rx_callS (av := [.int _]) hE dX6_joined_111 lk_X6_23 (c_X6_truth _) np_X6_truth rfl rfl (by decide) (Nat.le_of_ble_eq_true rfl) rfl ?_)
      rintro v M' ⟨rfl, rfl⟩
      exact rx_lret hE hQ rfl dX6_joined_114 ⟨by first | rfl | (simp [j_join, j_tb, j_tr, *]) | (simp_all [j_join, j_tb, j_tr, Int64.not_le, Int64.not_lt]), rfl⟩
  by_cases h26 : s = -26
  · subst h26
    refine rx_iload_n hE dX6_joined_0 (i := 0) rfl rfl ?_
    refine rx_tableIn (off := 114) (tgt := 115) hE dX6_joined_1 (by decide) (by decide) rfl (by decide) ?_
    refine rx_lload_n hE dX6_joined_115 (i := 1) rfl rfl ?_
    refine rx_lload_n hE dX6_joined_116 (i := 3) rfl rfl ?_
    refine rx_lcmp hE dX6_joined_117 ?_
    refine rx_if_gt (tgt := 125) hE dX6_joined_118 (by decide) (fun c118 => ?_) (fun c118 => ?_)
    · rw [lg_cmp_gt] at c118
      refine rx_iconst hE dX6_joined_125 (v := 0) (by decide) ?_
      refine rx_call0 (rx_callS (av := [.int _]) hE dX6_joined_126 lk_X6_23 (c_X6_truth _) np_X6_truth rfl rfl (by decide) (Nat.le_of_ble_eq_true rfl) rfl ?_)
      rintro v M' ⟨rfl, rfl⟩
      exact rx_lret hE hQ rfl dX6_joined_129 ⟨by first | rfl | (simp [j_join, j_tb, j_tr, *]) | (simp_all [j_join, j_tb, j_tr, Int64.not_le, Int64.not_lt]), rfl⟩
    · rw [lg_cmp_gt] at c118
      refine rx_iconst hE dX6_joined_121 (v := 1) (by decide) ?_
      refine rx_goto (tgt := 126) hE dX6_joined_122 (by decide) ?_
      refine rx_call0 (rx_callS (av := [.int _]) hE dX6_joined_126 lk_X6_23 (c_X6_truth _) np_X6_truth rfl rfl (by decide) (Nat.le_of_ble_eq_true rfl) rfl ?_)
      rintro v M' ⟨rfl, rfl⟩
      exact rx_lret hE hQ rfl dX6_joined_129 ⟨by first | rfl | (simp [j_join, j_tb, j_tr, *]) | (simp_all [j_join, j_tb, j_tr, Int64.not_le, Int64.not_lt]), rfl⟩
  by_cases h27 : s = -27
  · subst h27
    refine rx_iload_n hE dX6_joined_0 (i := 0) rfl rfl ?_
    refine rx_tableIn (off := 129) (tgt := 130) hE dX6_joined_1 (by decide) (by decide) rfl (by decide) ?_
    refine rx_lload_n hE dX6_joined_130 (i := 1) rfl rfl ?_
    refine rx_lload_n hE dX6_joined_131 (i := 3) rfl rfl ?_
    refine rx_lcmp hE dX6_joined_132 ?_
    refine rx_if_ne (tgt := 140) hE dX6_joined_133 (by decide) (fun c133 => ?_) (fun c133 => ?_)
    · rw [lg_cmp_eq] at c133
      refine rx_iconst hE dX6_joined_140 (v := 0) (by decide) ?_
      refine rx_call0 (rx_callS (av := [.int _]) hE dX6_joined_141 lk_X6_23 (c_X6_truth _) np_X6_truth rfl rfl (by decide) (Nat.le_of_ble_eq_true rfl) rfl ?_)
      rintro v M' ⟨rfl, rfl⟩
      exact rx_lret hE hQ rfl dX6_joined_144 ⟨by first | rfl | (simp [j_join, j_tb, j_tr, *]) | (simp_all [j_join, j_tb, j_tr, Int64.not_le, Int64.not_lt]), rfl⟩
    · rw [lg_cmp_eq] at c133
      refine rx_iconst hE dX6_joined_136 (v := 1) (by decide) ?_
      refine rx_goto (tgt := 141) hE dX6_joined_137 (by decide) ?_
      refine rx_call0 (rx_callS (av := [.int _]) hE dX6_joined_141 lk_X6_23 (c_X6_truth _) np_X6_truth rfl rfl (by decide) (Nat.le_of_ble_eq_true rfl) rfl ?_)
      rintro v M' ⟨rfl, rfl⟩
      exact rx_lret hE hQ rfl dX6_joined_144 ⟨by first | rfl | (simp [j_join, j_tb, j_tr, *]) | (simp_all [j_join, j_tb, j_tr, Int64.not_le, Int64.not_lt]), rfl⟩
  by_cases h28 : s = -28
  · subst h28
    refine rx_iload_n hE dX6_joined_0 (i := 0) rfl rfl ?_
    refine rx_tableIn (off := 144) (tgt := 145) hE dX6_joined_1 (by decide) (by decide) rfl (by decide) ?_
    refine rx_lload_n hE dX6_joined_145 (i := 1) rfl rfl ?_
    refine rx_lload_n hE dX6_joined_146 (i := 3) rfl rfl ?_
    refine rx_lcmp hE dX6_joined_147 ?_
    refine rx_if_lt (tgt := 155) hE dX6_joined_148 (by decide) (fun c148 => ?_) (fun c148 => ?_)
    · rw [lg_cmp_lt] at c148
      refine rx_iconst hE dX6_joined_155 (v := 0) (by decide) ?_
      refine rx_call0 (rx_callS (av := [.int _]) hE dX6_joined_156 lk_X6_23 (c_X6_truth _) np_X6_truth rfl rfl (by decide) (Nat.le_of_ble_eq_true rfl) rfl ?_)
      rintro v M' ⟨rfl, rfl⟩
      exact rx_lret hE hQ rfl dX6_joined_159 ⟨by first | rfl | (simp [j_join, j_tb, j_tr, *]) | (simp_all [j_join, j_tb, j_tr, Int64.not_le, Int64.not_lt]), rfl⟩
    · rw [lg_cmp_lt] at c148
      refine rx_iconst hE dX6_joined_151 (v := 1) (by decide) ?_
      refine rx_goto (tgt := 156) hE dX6_joined_152 (by decide) ?_
      refine rx_call0 (rx_callS (av := [.int _]) hE dX6_joined_156 lk_X6_23 (c_X6_truth _) np_X6_truth rfl rfl (by decide) (Nat.le_of_ble_eq_true rfl) rfl ?_)
      rintro v M' ⟨rfl, rfl⟩
      exact rx_lret hE hQ rfl dX6_joined_159 ⟨by first | rfl | (simp [j_join, j_tb, j_tr, *]) | (simp_all [j_join, j_tb, j_tr, Int64.not_le, Int64.not_lt]), rfl⟩
  by_cases h29 : s = -29
  · subst h29
    refine rx_iload_n hE dX6_joined_0 (i := 0) rfl rfl ?_
    refine rx_tableIn (off := 159) (tgt := 160) hE dX6_joined_1 (by decide) (by decide) rfl (by decide) ?_
    refine rx_lload_n hE dX6_joined_160 (i := 1) rfl rfl ?_
    refine rx_lload_n hE dX6_joined_161 (i := 3) rfl rfl ?_
    refine rx_lcmp hE dX6_joined_162 ?_
    refine rx_if_le (tgt := 170) hE dX6_joined_163 (by decide) (fun c163 => ?_) (fun c163 => ?_)
    · rw [lg_cmp_le] at c163
      refine rx_iconst hE dX6_joined_170 (v := 0) (by decide) ?_
      refine rx_call0 (rx_callS (av := [.int _]) hE dX6_joined_171 lk_X6_23 (c_X6_truth _) np_X6_truth rfl rfl (by decide) (Nat.le_of_ble_eq_true rfl) rfl ?_)
      rintro v M' ⟨rfl, rfl⟩
      exact rx_lret hE hQ rfl dX6_joined_174 ⟨by first | rfl | (simp [j_join, j_tb, j_tr, *]) | (simp_all [j_join, j_tb, j_tr, Int64.not_le, Int64.not_lt]), rfl⟩
    · rw [lg_cmp_le] at c163
      refine rx_iconst hE dX6_joined_166 (v := 1) (by decide) ?_
      refine rx_goto (tgt := 171) hE dX6_joined_167 (by decide) ?_
      refine rx_call0 (rx_callS (av := [.int _]) hE dX6_joined_171 lk_X6_23 (c_X6_truth _) np_X6_truth rfl rfl (by decide) (Nat.le_of_ble_eq_true rfl) rfl ?_)
      rintro v M' ⟨rfl, rfl⟩
      exact rx_lret hE hQ rfl dX6_joined_174 ⟨by first | rfl | (simp [j_join, j_tb, j_tr, *]) | (simp_all [j_join, j_tb, j_tr, Int64.not_le, Int64.not_lt]), rfl⟩
  by_cases h30 : s = -30
  · subst h30
    refine rx_iload_n hE dX6_joined_0 (i := 0) rfl rfl ?_
    refine rx_tableIn (off := 174) (tgt := 175) hE dX6_joined_1 (by decide) (by decide) rfl (by decide) ?_
    refine rx_lload_n hE dX6_joined_175 (i := 1) rfl rfl ?_
    refine rx_lload_n hE dX6_joined_176 (i := 3) rfl rfl ?_
    refine rx_land hE dX6_joined_177 ?_
    exact rx_lret hE hQ rfl dX6_joined_178 ⟨by first | rfl | (simp [j_join, j_tb, j_tr, *]) | (simp_all [j_join, j_tb, j_tr, Int64.not_le, Int64.not_lt]), rfl⟩
  refine rx_iload_n hE dX6_joined_0 (i := 0) rfl rfl ?_
  refine rx_tableOut (tgt := 179) hE dX6_joined_1 (j_join_out h20 h21 h22 h23 h24 h25 h26 h27 h28 h29 h30) (by decide) ?_
  refine rx_lload_n hE dX6_joined_179 (i := 1) rfl rfl ?_
  refine rx_lload_n hE dX6_joined_180 (i := 3) rfl rfl ?_
  refine rx_lor hE dX6_joined_181 ?_
  exact rx_lret hE hQ rfl dX6_joined_182 ⟨by simp [j_join, *], rfl⟩
def j_hour (J : gJn) : Int64 := if J 9 0 ≤ 0 then 0 else (J 9 3 / J 9 0).toInt64
def j_word (pn : Nat → Nat) (R bb : Nat) (J : gJn) (r : Nat) (set w : Int32) : Int64 := if w = 0 then (nI r).toInt64 else if w = 1 then (J 0 r).toInt64 else if w = 2 then (J 1 r).toInt64 else if w = 3 then (J 2 r).toInt64 else if w = 4 then (jbit (J 8 bb) r).toInt64 else if w = 5 then (j_bc set).toInt64 else if w = 6 then (jsw pn set r R).toInt64 else if w = 7 then (j_since J r).toInt64 else if w = 8 then (J 4 r).toInt64 else if w = 9 then (jsum (J 0) R).toInt64 else if w = 10 then (nI bb).toInt64 else j_hour J
theorem j_word_out {s : Int32} (h0 : ¬ s = 0) (h1 : ¬ s = 1) (h2 : ¬ s = 2) (h3 : ¬ s = 3) (h4 : ¬ s = 4) (h5 : ¬ s = 5) (h6 : ¬ s = 6) (h7 : ¬ s = 7) (h8 : ¬ s = 8) (h9 : ¬ s = 9) (h10 : ¬ s = 10) : s.toInt < 0 ∨ 10 < s.toInt := by
  have a0 := lv_neT h0 (a := 0) (by decide)
  have a1 := lv_neT h1 (a := 1) (by decide)
  have a2 := lv_neT h2 (a := 2) (by decide)
  have a3 := lv_neT h3 (a := 3) (by decide)
  have a4 := lv_neT h4 (a := 4) (by decide)
  have a5 := lv_neT h5 (a := 5) (by decide)
  have a6 := lv_neT h6 (a := 6) (by decide)
  have a7 := lv_neT h7 (a := 7) (by decide)
  have a8 := lv_neT h8 (a := 8) (by decide)
  have a9 := lv_neT h9 (a := 9) (by decide)
  have a10 := lv_neT h10 (a := 10) (by decide)
  omega
set_option maxRecDepth 100000 in
set_option maxHeartbeats 4000000 in
theorem c_X2_wordFor {M : gM} {a R bb r : Nat} {pn : Nat → Nat} {J : gJn} (set w : Int32) (hb : jb M a) (hR : J 9 2 = nI R) (hR6 : R ≤ 6) (hp : jpt J pn) (hbb : j_bob J = nI bb) (hb12 : bb < 12) (hr : r < 6) : SX 2 0 0 mX2_wordFor [.ref a, .int w, .int (nI r), .int set] (jp M a J) (fun v M' => v = some (.long (j_word pn R bb J r set w)) ∧ M' = jp M a J) := by
  refine SX.intro [some (.ref a), some (.int w), some (.int (nI r)), some (.int set)] (by decide +kernel) (Nat.le_of_ble_eq_true rfl) rfl (fun E hE hQ => ?_)
  by_cases h0 : w = 0
  · subst h0
    refine rx_iload_n hE dX2_wordFor_0 (i := 1) rfl rfl ?_
    refine rx_tableIn (off := 59) (tgt := 60) hE dX2_wordFor_1 (by decide) (by decide) rfl (by decide) ?_
    refine rx_iload_n hE dX2_wordFor_60 (i := 2) rfl rfl ?_
    refine rx_i2l hE dX2_wordFor_61 ?_
    exact rx_lret hE hQ rfl dX2_wordFor_62 ⟨rfl, rfl⟩
  by_cases h1 : w = 1
  · subst h1
    refine rx_iload_n hE dX2_wordFor_0 (i := 1) rfl rfl ?_
    refine rx_tableIn (off := 62) (tgt := 63) hE dX2_wordFor_1 (by decide) (by decide) rfl (by decide) ?_
    refine rx_aload_n hE dX2_wordFor_63 (i := 0) rfl rfl ?_
    refine rx_getf hE dX2_wordFor_64 fl_X2_9_2 (jp_o hb) rfl ?_
    refine rx_iload_n hE dX2_wordFor_67 (i := 2) rfl rfl ?_
    refine rx_ialdN hE dX2_wordFor_68 (jp_1 hb) (by omega) (by decide) ?_
    refine rx_i2l hE dX2_wordFor_69 ?_
    exact rx_lret hE hQ rfl dX2_wordFor_70 ⟨rfl, rfl⟩
  by_cases h2 : w = 2
  · subst h2
    refine rx_iload_n hE dX2_wordFor_0 (i := 1) rfl rfl ?_
    refine rx_tableIn (off := 70) (tgt := 71) hE dX2_wordFor_1 (by decide) (by decide) rfl (by decide) ?_
    refine rx_aload_n hE dX2_wordFor_71 (i := 0) rfl rfl ?_
    refine rx_getf hE dX2_wordFor_72 fl_X2_15_2 (jp_o hb) rfl ?_
    refine rx_iload_n hE dX2_wordFor_75 (i := 2) rfl rfl ?_
    refine rx_ialdN hE dX2_wordFor_76 (jp_2 hb) (by omega) (by decide) ?_
    refine rx_i2l hE dX2_wordFor_77 ?_
    exact rx_lret hE hQ rfl dX2_wordFor_78 ⟨rfl, rfl⟩
  by_cases h3 : w = 3
  · subst h3
    refine rx_iload_n hE dX2_wordFor_0 (i := 1) rfl rfl ?_
    refine rx_tableIn (off := 78) (tgt := 79) hE dX2_wordFor_1 (by decide) (by decide) rfl (by decide) ?_
    refine rx_aload_n hE dX2_wordFor_79 (i := 0) rfl rfl ?_
    refine rx_getf hE dX2_wordFor_80 fl_X2_18_2 (jp_o hb) rfl ?_
    refine rx_iload_n hE dX2_wordFor_83 (i := 2) rfl rfl ?_
    refine rx_ialdN hE dX2_wordFor_84 (jp_3 hb) (by omega) (by decide) ?_
    refine rx_i2l hE dX2_wordFor_85 ?_
    exact rx_lret hE hQ rfl dX2_wordFor_86 ⟨rfl, rfl⟩
  by_cases h4 : w = 4
  · subst h4
    refine rx_iload_n hE dX2_wordFor_0 (i := 1) rfl rfl ?_
    refine rx_tableIn (off := 86) (tgt := 87) hE dX2_wordFor_1 (by decide) (by decide) rfl (by decide) ?_
    refine rx_aload_n hE dX2_wordFor_87 (i := 0) rfl rfl ?_
    refine rx_getf hE dX2_wordFor_88 fl_X2_36_2 (jp_o hb) rfl ?_
    refine rx_aload_n hE dX2_wordFor_91 (i := 0) rfl rfl ?_
    refine rx_call0 (rx_callV (av := []) hE dX2_wordFor_92 lk_X2_86 (c_X2_beatOfBar hb) (jp_o hb) np_X2_beatOfBar rfl rfl (by decide) (Nat.le_of_ble_eq_true rfl) rfl ?_)
    rintro v M' ⟨rfl, rfl⟩
    refine rx_int _ (nI bb) hbb ?_
    refine rx_ialdN hE dX2_wordFor_95 (jp_9 hb) hb12 (by decide) ?_
    refine rx_iload_n hE dX2_wordFor_96 (i := 2) rfl rfl ?_
    refine rx_ishr hE dX2_wordFor_97 ?_
    refine rx_iconst hE dX2_wordFor_98 (v := 1) (by decide) ?_
    refine rx_iand hE dX2_wordFor_99 ?_
    refine rx_i2l hE dX2_wordFor_100 ?_
    exact rx_lret hE hQ rfl dX2_wordFor_101 ⟨rfl, rfl⟩
  by_cases h5 : w = 5
  · subst h5
    refine rx_iload_n hE dX2_wordFor_0 (i := 1) rfl rfl ?_
    refine rx_tableIn (off := 101) (tgt := 102) hE dX2_wordFor_1 (by decide) (by decide) rfl (by decide) ?_
    refine rx_iload_n hE dX2_wordFor_102 (i := 3) rfl rfl ?_
    refine rx_call0 (rx_callS (av := [.int _]) hE dX2_wordFor_103 lk_X2_90 (c_bitCount _) np_J6_bitCount_0f7a4 rfl rfl (by decide) (Nat.le_of_ble_eq_true rfl) rfl ?_)
    rintro v M' ⟨rfl, rfl⟩
    refine rx_i2l hE dX2_wordFor_106 ?_
    exact rx_lret hE hQ rfl dX2_wordFor_107 ⟨rfl, rfl⟩
  by_cases h6 : w = 6
  · subst h6
    refine rx_iload_n hE dX2_wordFor_0 (i := 1) rfl rfl ?_
    refine rx_tableIn (off := 107) (tgt := 108) hE dX2_wordFor_1 (by decide) (by decide) rfl (by decide) ?_
    refine rx_aload_n hE dX2_wordFor_108 (i := 0) rfl rfl ?_
    refine rx_iload_n hE dX2_wordFor_109 (i := 3) rfl rfl ?_
    refine rx_iload_n hE dX2_wordFor_110 (i := 2) rfl rfl ?_
    refine rx_call0 (rx_callV (av := [.int _, .int _]) hE dX2_wordFor_111 lk_X2_76 (c_X2_soundWith _ hb hR hR6 hp hr) (jp_o hb) np_X2_soundWith rfl rfl (by decide) (Nat.le_of_ble_eq_true rfl) rfl ?_)
    rintro v M' ⟨rfl, rfl⟩
    refine rx_i2l hE dX2_wordFor_114 ?_
    exact rx_lret hE hQ rfl dX2_wordFor_115 ⟨rfl, rfl⟩
  by_cases h7 : w = 7
  · subst h7
    refine rx_iload_n hE dX2_wordFor_0 (i := 1) rfl rfl ?_
    refine rx_tableIn (off := 115) (tgt := 116) hE dX2_wordFor_1 (by decide) (by decide) rfl (by decide) ?_
    refine rx_aload_n hE dX2_wordFor_116 (i := 0) rfl rfl ?_
    refine rx_iload_n hE dX2_wordFor_117 (i := 2) rfl rfl ?_
    refine rx_call0 (rx_callV (av := [.int _]) hE dX2_wordFor_118 lk_X2_95 (c_X2_sinceLetIn hb hr) (jp_o hb) np_X2_sinceLetIn rfl rfl (by decide) (Nat.le_of_ble_eq_true rfl) rfl ?_)
    rintro v M' ⟨rfl, rfl⟩
    refine rx_i2l hE dX2_wordFor_121 ?_
    exact rx_lret hE hQ rfl dX2_wordFor_122 ⟨rfl, rfl⟩
  by_cases h8 : w = 8
  · subst h8
    refine rx_iload_n hE dX2_wordFor_0 (i := 1) rfl rfl ?_
    refine rx_tableIn (off := 122) (tgt := 123) hE dX2_wordFor_1 (by decide) (by decide) rfl (by decide) ?_
    refine rx_aload_n hE dX2_wordFor_123 (i := 0) rfl rfl ?_
    refine rx_getf hE dX2_wordFor_124 fl_X2_24_2 (jp_o hb) rfl ?_
    refine rx_iload_n hE dX2_wordFor_127 (i := 2) rfl rfl ?_
    refine rx_ialdN hE dX2_wordFor_128 (jp_5 hb) (by omega) (by decide) ?_
    refine rx_i2l hE dX2_wordFor_129 ?_
    exact rx_lret hE hQ rfl dX2_wordFor_130 ⟨rfl, rfl⟩
  by_cases h9 : w = 9
  · subst h9
    refine rx_iload_n hE dX2_wordFor_0 (i := 1) rfl rfl ?_
    refine rx_tableIn (off := 130) (tgt := 131) hE dX2_wordFor_1 (by decide) (by decide) rfl (by decide) ?_
    refine rx_aload_n hE dX2_wordFor_131 (i := 0) rfl rfl ?_
    refine rx_aload_n hE dX2_wordFor_132 (i := 0) rfl rfl ?_
    refine rx_getf hE dX2_wordFor_133 fl_X2_9_2 (jp_o hb) rfl ?_
    refine rx_call0 (rx_callV (av := [.ref _]) hE dX2_wordFor_136 lk_X2_98 (c_X2_sumOf hb hR hR6 (jp_1 hb)) (jp_o hb) np_X2_sumOf rfl rfl (by decide) (Nat.le_of_ble_eq_true rfl) rfl ?_)
    rintro v M' ⟨rfl, rfl⟩
    refine rx_i2l hE dX2_wordFor_139 ?_
    exact rx_lret hE hQ rfl dX2_wordFor_140 ⟨rfl, rfl⟩
  by_cases h10 : w = 10
  · subst h10
    refine rx_iload_n hE dX2_wordFor_0 (i := 1) rfl rfl ?_
    refine rx_tableIn (off := 140) (tgt := 141) hE dX2_wordFor_1 (by decide) (by decide) rfl (by decide) ?_
    refine rx_aload_n hE dX2_wordFor_141 (i := 0) rfl rfl ?_
    refine rx_call0 (rx_callV (av := []) hE dX2_wordFor_142 lk_X2_86 (c_X2_beatOfBar hb) (jp_o hb) np_X2_beatOfBar rfl rfl (by decide) (Nat.le_of_ble_eq_true rfl) rfl ?_)
    rintro v M' ⟨rfl, rfl⟩
    refine rx_int _ (nI bb) hbb ?_
    refine rx_i2l hE dX2_wordFor_145 ?_
    exact rx_lret hE hQ rfl dX2_wordFor_146 ⟨rfl, rfl⟩
  refine rx_iload_n hE dX2_wordFor_0 (i := 1) rfl rfl ?_
  refine rx_tableOut (tgt := 147) hE dX2_wordFor_1 (j_word_out h0 h1 h2 h3 h4 h5 h6 h7 h8 h9 h10) (by decide) ?_
  refine rx_aload_n hE dX2_wordFor_147 (i := 0) rfl rfl ?_
  refine rx_getf hE dX2_wordFor_148 fl_X2_39_2 (jp_o hb) rfl ?_
  refine rx_if_le (tgt := 167) hE dX2_wordFor_151 (by decide) (fun c151 => ?_) (fun c151 => ?_)
  · refine rx_lconst hE dX2_wordFor_167 (v := 0) (by decide) ?_
    exact rx_lret hE hQ rfl dX2_wordFor_168 ⟨by simp [j_word, j_hour, *], rfl⟩
  · refine rx_aload_n hE dX2_wordFor_154 (i := 0) rfl rfl ?_
    refine rx_getf hE dX2_wordFor_155 fl_X2_49_2 (jp_o hb) rfl ?_
    refine rx_aload_n hE dX2_wordFor_158 (i := 0) rfl rfl ?_
    refine rx_getf hE dX2_wordFor_159 fl_X2_39_2 (jp_o hb) rfl ?_
    refine rx_idiv hE dX2_wordFor_162 (fun h => c151 (by rw [h]; decide)) ?_
    refine rx_i2l hE dX2_wordFor_163 ?_
    refine rx_goto (tgt := 168) hE dX2_wordFor_164 (by decide) ?_
    exact rx_lret hE hQ rfl dX2_wordFor_168 ⟨by simp [j_word, j_hour, *], rfl⟩
