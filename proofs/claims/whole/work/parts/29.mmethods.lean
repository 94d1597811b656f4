theorem kr_f {S : gS} {J : gJn} {i : Nat} (h : i ≠ 23) : kput S J 0 i = S 0 i := if_neg h
theorem kr_f23 {S : gS} {J : gJn} : kput S J 0 23 = J 9 5 := rfl
theorem kr_a {S : gS} {J : gJn} {k i : Nat} (h0 : k ≠ 0) (h1 : k ≠ 10) (h2 : k ≠ 11) : kput S J k i = S k i := by
  unfold kput
  rw [if_neg h1, if_neg h2, if_neg h0]
theorem kx_f {M : gM} {S : gS} {L : gLg} {J : gJn} {i : Nat} {v : Int32} (h : i ≠ 23) : kp M (k_f (kput S J) i v) L = kp M (kput (k_f S i v) J) L := by
  congr 1
  funext k j
  unfold k_f kput
  by_cases h0 : k = 0
  · subst h0
    show upd (upd (S 0) 23 (J 9 5)) i v j = upd (upd (S 0) i v) 23 (J 9 5) j
    unfold upd
    by_cases a : j = i
    · rw [if_pos a, if_neg (by omega), if_pos a]
    · rw [if_neg a, if_neg a]
  · have e2 : ∀ k, k ≠ 0 → (fun k => if k = 0 then upd (S 0) i v else S k) k = S k := fun k h => if_neg h
    rw [if_neg h0, if_neg h0, if_neg h0, e2 k h0, e2 10 (by decide), e2 11 (by decide)]
theorem kx_a {M : gM} {S : gS} {L : gLg} {J : gJn} {c : Nat} {v : Nat → Int32} (h0 : c ≠ 0) (h1 : c ≠ 10) (h2 : c ≠ 11) : kp M (k_s (kput S J) c v) L = kp M (kput (k_s S c v) J) L := by
  congr 1
  funext k
  have e0 : k_s S c v 0 = S 0 := if_neg (fun q => h0 q.symm)
  have e1 : k_s S c v 10 = S 10 := if_neg (fun q => h1 q.symm)
  have e2 : k_s S c v 11 = S 11 := if_neg (fun q => h2 q.symm)
  unfold kput
  rw [e0, e1, e2]
  by_cases h : k = c
  · subst h
    rw [if_neg h1, if_neg h2, if_neg h0]
    show (if k = k then v else _) = (if k = k then v else S k)
    rw [if_pos rfl, if_pos rfl]
  · have e3 : k_s S c v k = S k := if_neg h
    rw [e3]
    exact if_neg h
def csig (s : Nat) : Int32 := if s = 2 then -20 else if s = 3 then -21 else if s = 4 then -22 else if s = 5 then -23 else if s = 14 then -24 else if s = 6 then -25 else if s = 7 then -26 else if s = 8 then -27 else if s = 9 then -28 else if s = 10 then -29 else if s = 12 then -30 else -31
def kev (wd : Nat → Int64) : List (Nat × Nat) → List Int64 → Option (List Int64)
  | [], st => some st
  | q :: p, st => if q.1 = 0 then kev wd p ((nI q.2).toInt64 :: st) else if q.1 = 1 then kev wd p (wd q.2 :: st) else if q.1 = 11 then (match st with
      | x :: t => kev wd p ((1 - x) :: t)
      | [] => none) else (match st with
      | y :: x :: t => kev wd p (j_join (csig q.1) x y :: t)
      | _ => none)
def kwf : List (Nat × Nat) → Nat → Prop
  | [], _ => True
  | q :: p, h => q.2 < 100000 ∧ q.1 < 15 ∧ (if q.1 ≤ 1 then (q.1 = 1 → q.2 < 12) ∧ h < 60 ∧ kwf p (h + 1) else if q.1 = 11 then 0 < h ∧ kwf p h else 1 < h ∧ kwf p (h - 1))
/-- a row and a number of places of it, as a stack -/
def kst (op : Nat → Int64) (st : List Int64) : Prop := ∀ i x, st[i]? = some x → op (st.length - 1 - i) = x
theorem kst_push {op : Nat → Int64} {st : List Int64} {x : Int64} (h : kst op st) : kst (vp_updL op st.length x) (x :: st) := by
  intro i y hi
  cases i with
  | zero =>
    have : x = y := by simpa using hi
    subst this
    show (if st.length + 1 - 1 - 0 = st.length then x else _) = x
    rw [if_pos (by omega)]
  | succ i =>
    have h1 : st[i]? = some y := by simpa using hi
    have h2 := (List.getElem?_eq_some_iff.mp h1).1
    show (if st.length + 1 - 1 - (i + 1) = st.length then x else op (st.length + 1 - 1 - (i + 1))) = y
    rw [if_neg (by omega), show st.length + 1 - 1 - (i + 1) = st.length - 1 - i by omega]
    exact h i y h1
theorem kst_top {op : Nat → Int64} {st : List Int64} {x : Int64} (h : kst op (x :: st)) : op st.length = x := by
  have := h 0 x rfl
  rw [show (x :: st).length - 1 - 0 = st.length by simp] at this
  exact this
theorem kst_tail {op : Nat → Int64} {st : List Int64} {x : Int64} (h : kst op (x :: st)) : kst op st := by
  intro i y hi
  have := h (i + 1) y (by simpa using hi)
  rw [show (x :: st).length - 1 - (i + 1) = st.length - 1 - i by simp; omega] at this
  exact this
set_option maxRecDepth 100000 in
set_option maxHeartbeats 4000000 in
theorem c_X11_push {M : gM} {S : gS} {L : gLg} {J : gJn} (hM : 408 ≤ M.1) {h : Nat} (x : Int64) (hs : S 0 18 = nI h) (hh : h < 64) : SX 0 0 0 mX11_push [.ref 384, .long x] (kp M (kput S J) L) (fun v M' => v = none ∧ M' = kp M (kput (k_f S 18 (nI (h + 1))) J) (k_l L 8 (vp_updL (L 8) h x))) := by
  refine SX.intro [some (.ref 384), some (.long x), none] (by decide +kernel) (Nat.le_of_ble_eq_true rfl) rfl (fun E hE hQ => ?_)
  refine rx_aload_n hE dX11_push_0 (i := 0) rfl rfl ?_
  refine rx_getf hE dX11_push_1 fl_X11_32_10 (kp_o hM) rfl ?_
  refine rx_aload_n hE dX11_push_4 (i := 0) rfl rfl ?_
  refine rx_getf hE dX11_push_5 fl_X11_279_10 (kp_o hM) rfl ?_
  refine rx_int _ _ (kr_f (by decide)) ?_
  refine rx_int _ (nI h) hs ?_
  refine rx_lload_n hE dX11_push_8 (i := 1) rfl rfl ?_
  refine rx_lastN hE dX11_push_9 (kp_8 hM) hh (by decide) ?_
  refine rx_mem kw_8 ?_
  refine rx_aload_n hE dX11_push_10 (i := 0) rfl rfl ?_
  refine rx_dup hE dX11_push_11 rfl ?_
  refine rx_getf hE dX11_push_12 fl_X11_279_10 (kp_o hM) rfl ?_
  refine rx_int _ _ (kr_f (by decide)) ?_
  refine rx_int _ (nI h) hs ?_
  refine rx_iconst hE dX11_push_15 (v := 1) (by decide) ?_
  refine rx_iadd hE dX11_push_16 ?_
  rw [nI_1]
  refine rx_put hE dX11_push_17 fl_X11_279_10 fw_10_18 (kp_o hM) (fun _ => rfl) (fun _ => rfl) (Nat.le_of_ble_eq_true rfl) ?_
  refine rx_mem (kw_c18.trans (kx_f (by decide))) ?_
  exact rx_vret hE hQ rfl dX11_push_20 ⟨rfl, rfl⟩
set_option maxRecDepth 100000 in
set_option maxHeartbeats 4000000 in
theorem c_X11_pop {M : gM} {S : gS} {L : gLg} {J : gJn} (hM : 408 ≤ M.1) {h : Nat} (hs : S 0 18 = nI (h + 1)) (hh : h < 64) : SX 0 0 0 mX11_pop [.ref 384] (kp M (kput S J) L) (fun v M' => v = some (.long (L 8 h)) ∧ M' = kp M (kput (k_f S 18 (nI h)) J) L) := by
  refine SX.intro [some (.ref 384)] (by decide +kernel) (Nat.le_of_ble_eq_true rfl) rfl (fun E hE hQ => ?_)
  refine rx_aload_n hE dX11_pop_0 (i := 0) rfl rfl ?_
  refine rx_dup hE dX11_pop_1 rfl ?_
  refine rx_getf hE dX11_pop_2 fl_X11_279_10 (kp_o hM) rfl ?_
  refine rx_int _ _ (kr_f (by decide)) ?_
  refine rx_int _ (nI (h + 1)) hs ?_
  refine rx_iconst hE dX11_pop_5 (v := 1) (by decide) ?_
  refine rx_isub hE dX11_pop_6 ?_
  rw [nI_pred]
  refine rx_put hE dX11_pop_7 fl_X11_279_10 fw_10_18 (kp_o hM) (fun _ => rfl) (fun _ => rfl) (Nat.le_of_ble_eq_true rfl) ?_
  refine rx_mem (kw_c18.trans (kx_f (by decide))) ?_
  refine rx_aload_n hE dX11_pop_10 (i := 0) rfl rfl ?_
  refine rx_getf hE dX11_pop_11 fl_X11_32_10 (kp_o hM) rfl ?_
  refine rx_aload_n hE dX11_pop_14 (i := 0) rfl rfl ?_
  refine rx_getf hE dX11_pop_15 fl_X11_279_10 (kp_o hM) rfl ?_
  refine rx_int _ _ (kr_f (by decide)) ?_
  refine rx_int _ (nI h) rfl ?_
  refine rx_laldN hE dX11_pop_18 (kp_8 hM) hh (by decide) ?_
  exact rx_lret hE hQ rfl dX11_pop_19 ⟨rfl, rfl⟩
set_option maxRecDepth 100000 in
set_option maxHeartbeats 4000000 in
theorem c_X11_one {M : gM} {s : Nat} (x y : Int64) (hs : s < 15) (h0 : 1 < s) (h11 : s ≠ 11) : SX 0 0 0 mX11_one [.int (nI s), .long x, .long y] (M) (fun v M' => v = some (.long (j_join (csig s) x y)) ∧ M' = M) := by
  refine SX.intro [some (.int (nI s)), some (.long x), none, some (.long y), none] (by decide +kernel) (Nat.le_of_ble_eq_true rfl) rfl (fun E hE hQ => ?_)
  rcases (show s = 2 ∨ s = 3 ∨ s = 4 ∨ s = 5 ∨ s = 6 ∨ s = 7 ∨ s = 8 ∨ s = 9 ∨ s = 10 ∨ s = 12 ∨ s = 13 ∨ s = 14 by omega) with rfl | rfl | rfl | rfl | rfl | rfl | rfl | rfl | rfl | rfl | rfl | rfl
  · refine rx_iload_n hE dX11_one_0 (i := 0) rfl rfl ?_
    refine rx_tableIn (off := 67) (tgt := 68) hE dX11_one_1 (by decide) (by decide) rfl (by decide) ?_
    refine rx_lload_n hE dX11_one_68 (i := 1) rfl rfl ?_
    refine rx_lload_n hE dX11_one_69 (i := 3) rfl rfl ?_
    refine rx_ladd hE dX11_one_70 ?_
    exact rx_lret hE hQ rfl dX11_one_71 ⟨by first | rfl | (simp [j_join, csig, j_tb, *]; done) | (simp_all [j_join, csig, j_tb, Int64.not_le, Int64.not_lt]), rfl⟩
  · refine rx_iload_n hE dX11_one_0 (i := 0) rfl rfl ?_
    refine rx_tableIn (off := 71) (tgt := 72) hE dX11_one_1 (by decide) (by decide) rfl (by decide) ?_
    refine rx_lload_n hE dX11_one_72 (i := 1) rfl rfl ?_
    refine rx_lload_n hE dX11_one_73 (i := 3) rfl rfl ?_
    refine rx_lsub hE dX11_one_74 ?_
    exact rx_lret hE hQ rfl dX11_one_75 ⟨by first | rfl | (simp [j_join, csig, j_tb, *]; done) | (simp_all [j_join, csig, j_tb, Int64.not_le, Int64.not_lt]), rfl⟩
  · refine rx_iload_n hE dX11_one_0 (i := 0) rfl rfl ?_
    refine rx_tableIn (off := 75) (tgt := 76) hE dX11_one_1 (by decide) (by decide) rfl (by decide) ?_
    refine rx_lload_n hE dX11_one_76 (i := 1) rfl rfl ?_
    refine rx_lload_n hE dX11_one_77 (i := 3) rfl rfl ?_
    refine rx_lmul hE dX11_one_78 ?_
    exact rx_lret hE hQ rfl dX11_one_79 ⟨by first | rfl | (simp [j_join, csig, j_tb, *]; done) | (simp_all [j_join, csig, j_tb, Int64.not_le, Int64.not_lt]), rfl⟩
  · refine rx_iload_n hE dX11_one_0 (i := 0) rfl rfl ?_
    refine rx_tableIn (off := 79) (tgt := 80) hE dX11_one_1 (by decide) (by decide) rfl (by decide) ?_
    refine rx_lload_n hE dX11_one_80 (i := 3) rfl rfl ?_
    refine rx_lconst hE dX11_one_81 (v := 0) (by decide) ?_
    refine rx_lcmp hE dX11_one_82 ?_
    refine rx_if_ne (tgt := 90) hE dX11_one_83 (by decide) (fun c83 => ?_) (fun c83 => ?_)
    · have c83 : ¬ y = 0 := fun h => c83 ((lg_cmp_eq y 0).mpr h)
      refine rx_lload_n hE dX11_one_90 (i := 1) rfl rfl ?_
      refine rx_lload_n hE dX11_one_91 (i := 3) rfl rfl ?_
      refine rx_ldiv hE dX11_one_92 c83 ?_
      exact rx_lret hE hQ rfl dX11_one_93 ⟨by first | rfl | (simp [j_join, csig, j_tb, *]; done) | (simp_all [j_join, csig, j_tb, Int64.not_le, Int64.not_lt]), rfl⟩
    · have c83 : y = 0 := (lg_cmp_eq y 0).mp c83
      refine rx_lconst hE dX11_one_86 (v := 0) (by decide) ?_
      refine rx_goto (tgt := 93) hE dX11_one_87 (by decide) ?_
      exact rx_lret hE hQ rfl dX11_one_93 ⟨by first | rfl | (simp [j_join, csig, j_tb, *]; done) | (simp_all [j_join, csig, j_tb, Int64.not_le, Int64.not_lt]), rfl⟩
  · refine rx_iload_n hE dX11_one_0 (i := 0) rfl rfl ?_
    refine rx_tableIn (off := 107) (tgt := 108) hE dX11_one_1 (by decide) (by decide) rfl (by decide) ?_
    refine rx_lload_n hE dX11_one_108 (i := 1) rfl rfl ?_
    refine rx_lload_n hE dX11_one_109 (i := 3) rfl rfl ?_
    refine rx_lcmp hE dX11_one_110 ?_
    refine rx_if_ge (tgt := 118) hE dX11_one_111 (by decide) (fun c111 => ?_) (fun c111 => ?_)
    · rw [lg_cmp_ge] at c111
      refine rx_lconst hE dX11_one_118 (v := 0) (by decide) ?_
      exact rx_lret hE hQ rfl dX11_one_119 ⟨by first | rfl | (simp [j_join, csig, j_tb, *]; done) | (simp_all [j_join, csig, j_tb, Int64.not_le, Int64.not_lt]), rfl⟩
    · rw [lg_cmp_ge] at c111
      refine rx_lconst hE dX11_one_114 (v := 1) (by decide) ?_
      refine rx_goto (tgt := 119) hE dX11_one_115 (by decide) ?_
      exact rx_lret hE hQ rfl dX11_one_119 ⟨by first | rfl | (simp [j_join, csig, j_tb, *]; done) | (simp_all [j_join, csig, j_tb, Int64.not_le, Int64.not_lt]), rfl⟩
  · refine rx_iload_n hE dX11_one_0 (i := 0) rfl rfl ?_
    refine rx_tableIn (off := 119) (tgt := 120) hE dX11_one_1 (by decide) (by decide) rfl (by decide) ?_
    refine rx_lload_n hE dX11_one_120 (i := 1) rfl rfl ?_
    refine rx_lload_n hE dX11_one_121 (i := 3) rfl rfl ?_
    refine rx_lcmp hE dX11_one_122 ?_
    refine rx_if_gt (tgt := 130) hE dX11_one_123 (by decide) (fun c123 => ?_) (fun c123 => ?_)
    · rw [lg_cmp_gt] at c123
      refine rx_lconst hE dX11_one_130 (v := 0) (by decide) ?_
      exact rx_lret hE hQ rfl dX11_one_131 ⟨by first | rfl | (simp [j_join, csig, j_tb, *]; done) | (simp_all [j_join, csig, j_tb, Int64.not_le, Int64.not_lt]), rfl⟩
    · rw [lg_cmp_gt] at c123
      refine rx_lconst hE dX11_one_126 (v := 1) (by decide) ?_
      refine rx_goto (tgt := 131) hE dX11_one_127 (by decide) ?_
      exact rx_lret hE hQ rfl dX11_one_131 ⟨by first | rfl | (simp [j_join, csig, j_tb, *]; done) | (simp_all [j_join, csig, j_tb, Int64.not_le, Int64.not_lt]), rfl⟩
  · refine rx_iload_n hE dX11_one_0 (i := 0) rfl rfl ?_
    refine rx_tableIn (off := 131) (tgt := 132) hE dX11_one_1 (by decide) (by decide) rfl (by decide) ?_
    refine rx_lload_n hE dX11_one_132 (i := 1) rfl rfl ?_
    refine rx_lload_n hE dX11_one_133 (i := 3) rfl rfl ?_
    refine rx_lcmp hE dX11_one_134 ?_
    refine rx_if_ne (tgt := 142) hE dX11_one_135 (by decide) (fun c135 => ?_) (fun c135 => ?_)
    · rw [lg_cmp_eq] at c135
      refine rx_lconst hE dX11_one_142 (v := 0) (by decide) ?_
      exact rx_lret hE hQ rfl dX11_one_143 ⟨by first | rfl | (simp [j_join, csig, j_tb, *]; done) | (simp_all [j_join, csig, j_tb, Int64.not_le, Int64.not_lt]), rfl⟩
    · rw [lg_cmp_eq] at c135
      refine rx_lconst hE dX11_one_138 (v := 1) (by decide) ?_
      refine rx_goto (tgt := 143) hE dX11_one_139 (by decide) ?_
      exact rx_lret hE hQ rfl dX11_one_143 ⟨by first | rfl | (simp [j_join, csig, j_tb, *]; done) | (simp_all [j_join, csig, j_tb, Int64.not_le, Int64.not_lt]), rfl⟩
  · refine rx_iload_n hE dX11_one_0 (i := 0) rfl rfl ?_
    refine rx_tableIn (off := 143) (tgt := 144) hE dX11_one_1 (by decide) (by decide) rfl (by decide) ?_
    refine rx_lload_n hE dX11_one_144 (i := 1) rfl rfl ?_
    refine rx_lload_n hE dX11_one_145 (i := 3) rfl rfl ?_
    refine rx_lcmp hE dX11_one_146 ?_
    refine rx_if_lt (tgt := 154) hE dX11_one_147 (by decide) (fun c147 => ?_) (fun c147 => ?_)
    · rw [lg_cmp_lt] at c147
      refine rx_lconst hE dX11_one_154 (v := 0) (by decide) ?_
      exact rx_lret hE hQ rfl dX11_one_155 ⟨by first | rfl | (simp [j_join, csig, j_tb, *]; done) | (simp_all [j_join, csig, j_tb, Int64.not_le, Int64.not_lt]), rfl⟩
    · rw [lg_cmp_lt] at c147
      refine rx_lconst hE dX11_one_150 (v := 1) (by decide) ?_
      refine rx_goto (tgt := 155) hE dX11_one_151 (by decide) ?_
      exact rx_lret hE hQ rfl dX11_one_155 ⟨by first | rfl | (simp [j_join, csig, j_tb, *]; done) | (simp_all [j_join, csig, j_tb, Int64.not_le, Int64.not_lt]), rfl⟩
  · refine rx_iload_n hE dX11_one_0 (i := 0) rfl rfl ?_
    refine rx_tableIn (off := 155) (tgt := 156) hE dX11_one_1 (by decide) (by decide) rfl (by decide) ?_
    refine rx_lload_n hE dX11_one_156 (i := 1) rfl rfl ?_
    refine rx_lload_n hE dX11_one_157 (i := 3) rfl rfl ?_
    refine rx_lcmp hE dX11_one_158 ?_
    refine rx_if_le (tgt := 166) hE dX11_one_159 (by decide) (fun c159 => ?_) (fun c159 => ?_)
    · rw [lg_cmp_le] at c159
      refine rx_lconst hE dX11_one_166 (v := 0) (by decide) ?_
      exact rx_lret hE hQ rfl dX11_one_167 ⟨by first | rfl | (simp [j_join, csig, j_tb, *]; done) | (simp_all [j_join, csig, j_tb, Int64.not_le, Int64.not_lt]), rfl⟩
    · rw [lg_cmp_le] at c159
      refine rx_lconst hE dX11_one_162 (v := 1) (by decide) ?_
      refine rx_goto (tgt := 167) hE dX11_one_163 (by decide) ?_
      exact rx_lret hE hQ rfl dX11_one_167 ⟨by first | rfl | (simp [j_join, csig, j_tb, *]; done) | (simp_all [j_join, csig, j_tb, Int64.not_le, Int64.not_lt]), rfl⟩
  · refine rx_iload_n hE dX11_one_0 (i := 0) rfl rfl ?_
    refine rx_tableIn (off := 167) (tgt := 168) hE dX11_one_1 (by decide) (by decide) rfl (by decide) ?_
    refine rx_lload_n hE dX11_one_168 (i := 1) rfl rfl ?_
    refine rx_lload_n hE dX11_one_169 (i := 3) rfl rfl ?_
    refine rx_land hE dX11_one_170 ?_
    exact rx_lret hE hQ rfl dX11_one_171 ⟨by first | rfl | (simp [j_join, csig, j_tb, *]; done) | (simp_all [j_join, csig, j_tb, Int64.not_le, Int64.not_lt]), rfl⟩
  · refine rx_iload_n hE dX11_one_0 (i := 0) rfl rfl ?_
    refine rx_tableIn (off := 171) (tgt := 172) hE dX11_one_1 (by decide) (by decide) rfl (by decide) ?_
    refine rx_lload_n hE dX11_one_172 (i := 1) rfl rfl ?_
    refine rx_lload_n hE dX11_one_173 (i := 3) rfl rfl ?_
    refine rx_lor hE dX11_one_174 ?_
    exact rx_lret hE hQ rfl dX11_one_175 ⟨by first | rfl | (simp [j_join, csig, j_tb, *]; done) | (simp_all [j_join, csig, j_tb, Int64.not_le, Int64.not_lt]), rfl⟩
  · refine rx_iload_n hE dX11_one_0 (i := 0) rfl rfl ?_
    refine rx_tableIn (off := 93) (tgt := 94) hE dX11_one_1 (by decide) (by decide) rfl (by decide) ?_
    refine rx_lload_n hE dX11_one_94 (i := 3) rfl rfl ?_
    refine rx_lconst hE dX11_one_95 (v := 0) (by decide) ?_
    refine rx_lcmp hE dX11_one_96 ?_
    refine rx_if_ne (tgt := 104) hE dX11_one_97 (by decide) (fun c97 => ?_) (fun c97 => ?_)
    · have c97 : ¬ y = 0 := fun h => c97 ((lg_cmp_eq y 0).mpr h)
      refine rx_lload_n hE dX11_one_104 (i := 1) rfl rfl ?_
      refine rx_lload_n hE dX11_one_105 (i := 3) rfl rfl ?_
      refine rx_lrem hE dX11_one_106 c97 ?_
      exact rx_lret hE hQ rfl dX11_one_107 ⟨by first | rfl | (simp [j_join, csig, j_tb, *]; done) | (simp_all [j_join, csig, j_tb, Int64.not_le, Int64.not_lt]), rfl⟩
    · have c97 : y = 0 := (lg_cmp_eq y 0).mp c97
      refine rx_lconst hE dX11_one_100 (v := 0) (by decide) ?_
      refine rx_goto (tgt := 107) hE dX11_one_101 (by decide) ?_
      exact rx_lret hE hQ rfl dX11_one_107 ⟨by first | rfl | (simp [j_join, csig, j_tb, *]; done) | (simp_all [j_join, csig, j_tb, Int64.not_le, Int64.not_lt]), rfl⟩

