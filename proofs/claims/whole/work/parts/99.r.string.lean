/-! ===== the texts: String.length, String.charAt ===== -/
section STRS
variable {d nL a b pc : Nat} {mi : gMi} {E : gE} {ls : List (Option Value)} {st : List Value} {M : gM}
def tX (i : Nat) : List Int32 := g_byt.getD i []
theorem tX_len : ∀ i, i < 6 → g_len.getD i 0 = (tX i).length ∧ (tX i).length ≤ 62 := by decide +kernel
theorem tX_fit : ∀ i, i < 6 → ∀ j, j < (tX i).length → (((tX i).getD j 0 &&& 255).toUInt32 % 65536).toInt32 = (tX i).getD j 0 ∧ narrow .char (.int ((tX i).getD j 0)) = .int ((tX i).getD j 0) := by decide +kernel
theorem rx_getfV (hE : g_E d mi E) {i idx : Nat} (hi : i < 6) (hm : Cond.fieldLink mi.1.cls idx "java/lang/String" "value" "[B" ∈ g_tb) (hd : decode mi.2.1 pc = .ok (.getfield idx, 3)) (kk : RX E nL a b (pc + 3) ls (.ref (9 + i) :: st) M) : RX E nL a b pc ls (.ref (3 + i) :: st) M := by
  obtain ⟨p, l, e, R, s, m, args, below, meth, c, Q, g⟩ := E
  intro H locs arr cells slots hR hS hL hc hs
  have k2 := kk H locs arr cells slots hR hS hL hc hs
  rw [List.map_cons, show g_v g (.ref (9 + i)) = .ref (g.2.2.2 (9 + i)) from congrArg Value.ref (g_ad_lo g (by omega))] at k2
  rw [List.map_cons, show g_v g (.ref (3 + i)) = .ref (g.2.2.2 (3 + i)) from congrArg Value.ref (g_ad_lo g (by omega))]
  exact vk_getf hE.1 hE.2.1 (hE.2.2.2.2.2.1.2.2.2.2.2.2.2.1.1.1 i hi).2.2.1 hS hE.2.2.2.1 (hE.2.2.2.2.1 _ hm) (fun _ q => q) hd k2
theorem rx_getfC (hE : g_E d mi E) {i idx : Nat} (hi : i < 6) (hm : Cond.fieldLink mi.1.cls idx "java/lang/String" "coder" "B" ∈ g_tb) (hd : decode mi.2.1 pc = .ok (.getfield idx, 3)) (kk : RX E nL a b (pc + 3) ls (.int 0 :: st) M) : RX E nL a b pc ls (.ref (3 + i) :: st) M := by
  obtain ⟨p, l, e, R, s, m, args, below, meth, c, Q, g⟩ := E
  intro H locs arr cells slots hR hS hL hc hs
  have k2 := kk H locs arr cells slots hR hS hL hc hs
  rw [List.map_cons, show g_v g (.int 0) = .int 0 from rfl] at k2
  rw [List.map_cons, show g_v g (.ref (3 + i)) = .ref (g.2.2.2 (3 + i)) from congrArg Value.ref (g_ad_lo g (by omega))]
  exact vk_getf hE.1 hE.2.1 (hE.2.2.2.2.2.1.2.2.2.2.2.2.2.1.1.1 i hi).2.1 hS hE.2.2.2.1 (hE.2.2.2.2.1 _ hm) (fun _ q => q) hd k2
theorem rx_alenS (hE : g_E d mi E) {i : Nat} (hi : i < 6) (hd : decode mi.2.1 pc = .ok (.arraylength, 1)) (kk : RX E nL a b (pc + 1) ls (.int (nI (tX i).length) :: st) M) : RX E nL a b pc ls (.ref (9 + i) :: st) M := by
  obtain ⟨p, l, e, R, s, m, args, below, meth, c, Q, g⟩ := E
  intro H locs arr cells slots hR hS hL hc hs
  have k2 := kk H locs arr cells slots hR hS hL hc hs
  rw [List.map_cons, show g_v g (.int (nI (tX i).length)) = .int (nI (tX i).length) from rfl] at k2
  rw [List.map_cons, show g_v g (.ref (9 + i)) = .ref (g.2.2.2 (9 + i)) from congrArg Value.ref (g_ad_lo g (by omega))]
  exact va_tlen hE.1 hE.2.1 (hE.2.2.2.2.2.1.2.2.2.2.2.2.2.1.1.1 i hi).2.2.2 hS (by rw [(tX_len i hi).1]; rfl) hd k2
theorem rx_baldS (hE : g_E d mi E) {i j : Nat} (hi : i < 6) (hj : j < (tX i).length) (hd : decode mi.2.1 pc = .ok (.baload, 1)) (kk : RX E nL a b (pc + 1) ls (.int ((tX i).getD j 0) :: st) M) : RX E nL a b pc ls (.int (nI j) :: .ref (9 + i) :: st) M := by
  obtain ⟨p, l, e, R, s, m, args, below, meth, c, Q, g⟩ := E
  intro H locs arr cells slots hR hS hL hc hs
  have k2 := kk H locs arr cells slots hR hS hL hc hs
  have hl := tX_len i hi
  rw [List.map_cons, show g_v g (.int ((tX i).getD j 0)) = .int ((tX i).getD j 0) from rfl] at k2
  rw [List.map_cons, List.map_cons, show g_v g (.ref (9 + i)) = .ref (g.2.2.2 (9 + i)) from congrArg Value.ref (g_ad_lo g (by omega)), show g_v g (.int (nI j)) = .int (nI j) from rfl]
  exact va_tb hE.1 hE.2.1 (hE.2.2.2.2.2.1.2.2.2.2.2.2.2.1.1.1 i hi).2.2.2 hS (vp_in_nI (by rw [hl.1]; exact hj) (by rw [hl.1]; omega)) (by rw [nI_clamp (by omega)]; rfl) hd k2
theorem rx_getsC (hE : g_E d mi E) {idx : Nat} (hd : decode mi.2.1 pc = .ok (.getstatic idx, 3)) (hm : Cond.fieldLink mi.1.cls idx "java/lang/String" "COMPACT_STRINGS" "Z" ∈ g_tb) (kk : RX E nL a b (pc + 3) ls (.int 1 :: st) M) : RX E nL a b pc ls st M := by
  obtain ⟨p, l, e, R, s, m, args, below, meth, c, Q, g⟩ := E
  intro H locs arr cells slots hR hS hL hc hs
  have k2 := (kk H locs arr cells slots hR hS hL hc hs)
  rw [List.map_cons, show g_v g (.int 1) = .int 1 from rfl] at k2
  exact va_gets hE.1 hE.2.1 hE.2.2.2.2.2.1.2.2.2.2.2.2.2.1.2.2.1 hS hE.2.2.2.1 (hE.2.2.2.2.1 _ hm) (fun _ q => q) hd k2
theorem rx_getsF (hE : g_E d mi E) {idx : Nat} (hd : decode mi.2.1 pc = .ok (.getstatic idx, 3)) (hm : Cond.fieldLink mi.1.cls idx "jdk/internal/util/Preconditions" "SIOOBE_FORMATTER" "Ljava/util/function/BiFunction;" ∈ g_tb) (kk : ∀ w : Value, (w = .null ∨ ∃ q : Nat, w = .ref q) → RX E nL a b (pc + 3) ls (w :: st) M) : RX E nL a b pc ls st M := by
  obtain ⟨p, l, e, R, s, m, args, below, meth, c, Q, g⟩ := E
  intro H locs arr cells slots hR hS hL hc hs
  obtain ⟨w, hw, hZ⟩ := hE.2.2.2.2.2.1.2.2.2.2.2.2.2.1.2.2.2
  exact va_gets hE.1 hE.2.1 hZ hS hE.2.2.2.1 (hE.2.2.2.2.1 _ hm) (fun _ q => q) hd (kk w hw H locs arr cells slots hR hS hL hc hs)
def g_lkT (own : String) (idx : Nat) (mi : gMi) : Prop := mi.1.cls = "java/lang/String" ∧ Cond.methodLink own idx mi.1 ∈ g_tb ∧ Cond.instanceMethod mi.1 ∈ g_tb ∧ Cond.selects "java/lang/String" mi.1 mi.1 ∈ g_tb ∧ g_cd mi
theorem rx_callT (hE : g_E d mi E) {d' a' b' idx i n : Nat} {mi' : gMi} {av : List Value} {Post : Option Value → gM → Prop} {stk : List Value} (hi : i < 6) (hd : decode mi.2.1 pc = .ok (.invokevirtual idx, 3)) (hl : g_lkT mi.1.cls idx mi') (hX : SX d' a' b' mi' (.ref (3 + i) :: av) M Post) (hp : g_np mi' n) (hn : av.length = n) (hnl : nL = mi.2.2.1) (hdd : d' + 1 ≤ d) (hst : (st.map fun v => v.category).sum ≤ 8) (hstk : stk = av.reverse ++ .ref (3 + i) :: st)
    (kk : ∀ (r : Option Value) (M' : gM), Post r M' → RX E nL a b (pc + 3) ls (r.toList ++ st) M') : RX E nL (a + a') (b + b') pc ls stk M := by
  obtain ⟨p, l, e, R, s, m, args, below, meth, c, Q, g⟩ := E
  intro H locs arr cells slots hR hS hL hc hs
  obtain ⟨h1, h2, h3, h4, h5⟩ := hl
  have hts := hE.2.2.2.2.1
  have hfr : d ≤ R.frames := hE.2.2.2.2.2.2.2.2.2.1
  have hlo : 40 * d ≤ R.locals := hE.2.2.2.2.2.2.2.2.2.2
  have hml : c.maxLocals = mi.2.2.1 := hE.2.2.1
  have hmx := h5.2.2.2
  have hK : g_K g s H := hE.2.2.2.2.2.1.kept hS.1 hS.2.1
  have hcb := callB_of (R := R) (own := mi.1.cls) (index := idx) (y := mi'.1) (bytes := mi'.2.1) (maxL := mi'.2.2.1) (ret := mi'.2.2.2) (rm := g_room d' a' b') n hts h5.good rfl rfl rfl (hts _ h5.2.1) (hts _ h2) ⟨h5.2.2.1.1, h5.2.2.1.2, hp⟩ ⟨by show d' + 1 ≤ R.frames; omega, by show 8 + (mi'.2.2.1 + 11) + 40 * d' ≤ R.locals; omega⟩
  have hrv := vk_recv (hE.2.2.2.2.2.1.2.2.2.2.2.2.2.1.1) hi hS
  have he : g_ad g (3 + i) = g.2.2.2 (3 + i) := g_ad_lo g (by omega)
  rw [← he] at hrv
  exact rx_ofrun (nL := nL) (ls := ls) (a := a) (b := b) (rest := st) (va_runV (As := av.map (g_v g)) (rest := st.map (g_v g)) (b := g_ad g (3 + i)) ⟨hE.1, hE.2.1, hml, hE.2.2.2.1, hts⟩ (hX l g) ⟨hcb, hts _ h3, hts _ h4⟩ ⟨g_blind g _ M, hrv, fun U hU hW => ⟨rfl, by rw [hU]; exact hR, by rw [hU]; exact hK.warm hW⟩⟩ rfl (by rw [List.length_map]; exact hn) (hL.1.trans hnl) (by rw [hstk]; simp [g_v]) (lv_room (by rw [g_stcat]; exact hst)) hd ⟨by have := hc.2; omega, by omega⟩) hS hL hc hs kk
end STRS
theorem dJ3_checkIndex_8e157_0 : decode cJ3_checkIndex_8e157 0 = .ok (.iload_n 0, 1) := by decide +kernel
theorem dJ3_checkIndex_8e157_1 : decode cJ3_checkIndex_8e157 1 = .ok (.ifCond .lt 8, 3) := by decide +kernel
theorem dJ3_checkIndex_8e157_4 : decode cJ3_checkIndex_8e157 4 = .ok (.iload_n 0, 1) := by decide +kernel
theorem dJ3_checkIndex_8e157_5 : decode cJ3_checkIndex_8e157 5 = .ok (.iload_n 1, 1) := by decide +kernel
theorem dJ3_checkIndex_8e157_6 : decode cJ3_checkIndex_8e157 6 = .ok (.if_icmp .lt 10, 3) := by decide +kernel
theorem dJ3_checkIndex_8e157_16 : decode cJ3_checkIndex_8e157 16 = .ok (.iload_n 0, 1) := by decide +kernel
theorem dJ3_checkIndex_8e157_17 : decode cJ3_checkIndex_8e157 17 = .ok (.ireturn, 1) := by decide +kernel
theorem lk_X8_37 : g_lkT RX8 37 mJ0_length_8abf5 := ⟨rfl, g_tb_mem 520 (by decide +kernel) (by decide +kernel), g_tb_mem 521 (by decide +kernel) (by decide +kernel), g_tb_mem 522 (by decide +kernel) (by decide +kernel), cd_J0_length_8abf5⟩
theorem lk_J0_335 : g_lkT RJ0 335 mJ0_coder_7d493 := ⟨rfl, g_tb_mem 524 (by decide +kernel) (by decide +kernel), g_tb_mem 525 (by decide +kernel) (by decide +kernel), g_tb_mem 526 (by decide +kernel) (by decide +kernel), cd_J0_coder_7d493⟩
theorem lk_X8_42 : g_lkT RX8 42 mJ0_charAt_5068e := ⟨rfl, g_tb_mem 530 (by decide +kernel) (by decide +kernel), g_tb_mem 531 (by decide +kernel) (by decide +kernel), g_tb_mem 532 (by decide +kernel) (by decide +kernel), cd_J0_charAt_5068e⟩
theorem lk_J0_492 : g_lkT RJ0 492 mJ0_isLatin1_aae02 := ⟨rfl, g_tb_mem 534 (by decide +kernel) (by decide +kernel), g_tb_mem 535 (by decide +kernel) (by decide +kernel), g_tb_mem 536 (by decide +kernel) (by decide +kernel), cd_J0_isLatin1_aae02⟩
theorem fs_J0_38 : Cond.fieldLink RJ0 38 "java/lang/String" "COMPACT_STRINGS" "Z" ∈ g_tb := g_tb_mem 528 (by decide +kernel) (by decide +kernel)
theorem fs_J0_1053 : Cond.fieldLink RJ0 1053 "jdk/internal/util/Preconditions" "SIOOBE_FORMATTER" "Ljava/util/function/BiFunction;" ∈ g_tb := g_tb_mem 544 (by decide +kernel) (by decide +kernel)
theorem fs_J0_9 : Cond.fieldLink RJ0 9 "java/lang/String" "value" "[B" ∈ g_tb := g_tb_mem 1690 (by decide +kernel) (by decide +kernel)
theorem fs_J0_15 : Cond.fieldLink RJ0 15 "java/lang/String" "coder" "B" ∈ g_tb := g_tb_mem 1691 (by decide +kernel) (by decide +kernel)
set_option maxRecDepth 100000 in
theorem c_J0_coder {M : gM} {i : Nat} (hi : i < 6) : SX 0 0 0 mJ0_coder_7d493 [.ref (3 + i)] M (fun v M' => v = some (.int 0) ∧ M' = M) := by
  refine SX.intro [some (.ref (3 + i))] (by decide +kernel) (Nat.le_of_ble_eq_true rfl) rfl (fun E hE hQ => ?_)
  refine rx_getsC hE dJ0_coder_7d493_0 fs_J0_38 ?_
  refine rx_if_eq (tgt := 13) hE dJ0_coder_7d493_3 (by decide) (fun c => absurd c (by decide)) (fun _ => ?_)
  refine rx_aload_n hE dJ0_coder_7d493_6 (i := 0) rfl rfl ?_
  refine rx_getfC hE hi fs_J0_15 dJ0_coder_7d493_7 ?_
  refine rx_goto (tgt := 14) hE dJ0_coder_7d493_10 (by decide) ?_
  exact rx_tret hE hQ rfl rfl dJ0_coder_7d493_14 ⟨rfl, rfl⟩
set_option maxRecDepth 100000 in
theorem c_J0_isLatin1 {M : gM} {i : Nat} (hi : i < 6) : SX 0 0 0 mJ0_isLatin1_aae02 [.ref (3 + i)] M (fun v M' => v = some (.int 1) ∧ M' = M) := by
  refine SX.intro [some (.ref (3 + i))] (by decide +kernel) (Nat.le_of_ble_eq_true rfl) rfl (fun E hE hQ => ?_)
  refine rx_getsC hE dJ0_isLatin1_aae02_0 fs_J0_38 ?_
  refine rx_if_eq (tgt := 17) hE dJ0_isLatin1_aae02_3 (by decide) (fun c => absurd c (by decide)) (fun _ => ?_)
  refine rx_aload_n hE dJ0_isLatin1_aae02_6 (i := 0) rfl rfl ?_
  refine rx_getfC hE hi fs_J0_15 dJ0_isLatin1_aae02_7 ?_
  refine rx_if_ne (tgt := 17) hE dJ0_isLatin1_aae02_10 (by decide) (fun c => absurd rfl c) (fun _ => ?_)
  refine rx_iconst hE dJ0_isLatin1_aae02_13 (v := 1) (by decide) ?_
  refine rx_goto (tgt := 18) hE dJ0_isLatin1_aae02_14 (by decide) ?_
  exact rx_tret hE hQ rfl rfl dJ0_isLatin1_aae02_18 ⟨rfl, rfl⟩
set_option maxRecDepth 100000 in
theorem c_J0_length {M : gM} {i : Nat} (hi : i < 6) : SX 1 0 0 mJ0_length_8abf5 [.ref (3 + i)] M (fun v M' => v = some (.int (nI (tX i).length)) ∧ M' = M) := by
  refine SX.intro [some (.ref (3 + i))] (by decide +kernel) (Nat.le_of_ble_eq_true rfl) rfl (fun E hE hQ => ?_)
  refine rx_aload_n hE dJ0_length_8abf5_0 (i := 0) rfl rfl ?_
  refine rx_getfV hE hi fs_J0_9 dJ0_length_8abf5_1 ?_
  refine rx_alenS hE hi dJ0_length_8abf5_4 ?_
  refine rx_aload_n hE dJ0_length_8abf5_5 (i := 0) rfl rfl ?_
  refine rx_call0 (rx_callT (av := []) hE hi dJ0_length_8abf5_6 lk_J0_335 (c_J0_coder hi) np_J0_coder_7d493 rfl rfl (by decide) (Nat.le_of_ble_eq_true rfl) rfl ?_)
  rintro v M' ⟨rfl, rfl⟩
  refine rx_ishr hE dJ0_length_8abf5_9 ?_
  refine rx_int _ (nI (tX i).length) (by rw [show (0 : Int32) &&& 31 = 0 by decide, Int32.shiftRight_zero]) ?_
  exact rx_iret hE hQ rfl dJ0_length_8abf5_10 ⟨rfl, rfl⟩
set_option maxRecDepth 100000 in
theorem c_J3_checkIndex {M : gM} {j n : Nat} (hj : j < n) (hn : n < 2 ^ 31) {w : Value} (hw : w = .null ∨ ∃ q : Nat, w = .ref q) : SX 0 0 0 mJ3_checkIndex_8e157 [.int (nI j), .int (nI n), w] M (fun v M' => v = some (.int (nI j)) ∧ M' = M) := by
  have hl : g_l0 [.int (nI j), .int (nI n), w] = [some (.int (nI j)), some (.int (nI n)), some w] := by
    rcases hw with rfl | ⟨q, rfl⟩ <;> rfl
  refine SX.intro [some (.int (nI j)), some (.int (nI n)), some w] (by decide +kernel) (by rw [hl]; exact Nat.le_of_ble_eq_true rfl) (by rw [hl]; rfl) (fun E hE hQ => ?_)
  refine rx_iload_n hE dJ3_checkIndex_8e157_0 (i := 0) rfl rfl ?_
  refine rx_if_lt (tgt := 9) hE dJ3_checkIndex_8e157_1 (by decide) (fun c => absurd c (Int32.not_lt.mpr (nI_le (a := 0) (b := j) (by omega) (by omega)))) (fun _ => ?_)
  refine rx_iload_n hE dJ3_checkIndex_8e157_4 (i := 0) rfl rfl ?_
  refine rx_iload_n hE dJ3_checkIndex_8e157_5 (i := 1) rfl rfl ?_
  refine rx_icmp_lt (tgt := 16) hE dJ3_checkIndex_8e157_6 (by decide) (fun _ => ?_) (fun c => absurd (nI_lt hj hn) c)
  refine rx_iload_n hE dJ3_checkIndex_8e157_16 (i := 0) rfl rfl ?_
  exact rx_iret hE hQ rfl dJ3_checkIndex_8e157_17 ⟨rfl, rfl⟩
set_option maxRecDepth 100000 in
theorem c_J0_checkIndex {M : gM} {j n : Nat} (hj : j < n) (hn : n < 2 ^ 31) : SX 1 0 0 mJ0_checkIndex_df160 [.int (nI j), .int (nI n)] M (fun v M' => v = none ∧ M' = M) := by
  refine SX.intro [some (.int (nI j)), some (.int (nI n))] (by decide +kernel) (Nat.le_of_ble_eq_true rfl) rfl (fun E hE hQ => ?_)
  refine rx_iload_n hE dJ0_checkIndex_df160_0 (i := 0) rfl rfl ?_
  refine rx_iload_n hE dJ0_checkIndex_df160_1 (i := 1) rfl rfl ?_
  refine rx_getsF hE dJ0_checkIndex_df160_2 fs_J0_1053 (fun w hw => ?_)
  refine rx_call0 (rx_callS (av := [.int (nI j), .int (nI n), w]) hE dJ0_checkIndex_df160_5 lk_J0_1059 (c_J3_checkIndex hj hn hw) np_J3_checkIndex_8e157 rfl rfl (by decide) (Nat.le_of_ble_eq_true rfl) rfl ?_)
  rintro v M' ⟨rfl, rfl⟩
  refine rx_pop hE dJ0_checkIndex_df160_8 rfl ?_
  exact rx_vret hE hQ rfl dJ0_checkIndex_df160_9 ⟨rfl, rfl⟩
set_option maxRecDepth 100000 in
theorem c_J1_charAt {M : gM} {i j : Nat} (hi : i < 6) (hj : j < (tX i).length) : SX 2 0 0 mJ1_charAt_3b067 [.ref (9 + i), .int (nI j)] M (fun v M' => v = some (.int ((tX i).getD j 0)) ∧ M' = M) := by
  have hl := (tX_len i hi).2
  refine SX.intro [some (.ref (9 + i)), some (.int (nI j))] (by decide +kernel) (Nat.le_of_ble_eq_true rfl) rfl (fun E hE hQ => ?_)
  refine rx_iload_n hE dJ1_charAt_3b067_0 (i := 1) rfl rfl ?_
  refine rx_aload_n hE dJ1_charAt_3b067_1 (i := 0) rfl rfl ?_
  refine rx_alenS hE hi dJ1_charAt_3b067_2 ?_
  refine rx_call0 (rx_callS (av := [.int (nI j), .int (nI (tX i).length)]) hE dJ1_charAt_3b067_3 lk_J1_9 (c_J0_checkIndex hj (by omega)) np_J0_checkIndex_df160 rfl rfl (by decide) (Nat.le_of_ble_eq_true rfl) rfl ?_)
  rintro v M' ⟨rfl, rfl⟩
  refine rx_aload_n hE dJ1_charAt_3b067_6 (i := 0) rfl rfl ?_
  refine rx_iload_n hE dJ1_charAt_3b067_7 (i := 1) rfl rfl ?_
  refine rx_baldS hE hi hj dJ1_charAt_3b067_8 ?_
  refine rx_sipush hE dJ1_charAt_3b067_9 (v := 255) (by decide) ?_
  refine rx_iand hE dJ1_charAt_3b067_12 ?_
  refine rx_i2c hE dJ1_charAt_3b067_13 ?_
  refine rx_int _ ((tX i).getD j 0) (tX_fit i hi j hj).1 ?_
  exact rx_tret hE hQ (tX_fit i hi j hj).2 rfl dJ1_charAt_3b067_14 ⟨rfl, rfl⟩
set_option maxRecDepth 100000 in
theorem c_J0_charAt {M : gM} {i j : Nat} (hi : i < 6) (hj : j < (tX i).length) : SX 3 0 0 mJ0_charAt_5068e [.ref (3 + i), .int (nI j)] M (fun v M' => v = some (.int ((tX i).getD j 0)) ∧ M' = M) := by
  refine SX.intro [some (.ref (3 + i)), some (.int (nI j))] (by decide +kernel) (Nat.le_of_ble_eq_true rfl) rfl (fun E hE hQ => ?_)
  refine rx_aload_n hE dJ0_charAt_5068e_0 (i := 0) rfl rfl ?_
  refine rx_call0 (rx_callT (av := []) hE hi dJ0_charAt_5068e_1 lk_J0_492 (c_J0_isLatin1 hi) np_J0_isLatin1_aae02 rfl rfl (by decide) (Nat.le_of_ble_eq_true rfl) rfl ?_)
  rintro v M' ⟨rfl, rfl⟩
  refine rx_if_eq (tgt := 16) hE dJ0_charAt_5068e_4 (by decide) (fun c => absurd c (by decide)) (fun _ => ?_)
  refine rx_aload_n hE dJ0_charAt_5068e_7 (i := 0) rfl rfl ?_
  refine rx_getfV hE hi fs_J0_9 dJ0_charAt_5068e_8 ?_
  refine rx_iload_n hE dJ0_charAt_5068e_11 (i := 1) rfl rfl ?_
  refine rx_call0 (rx_callS (av := [.ref (9 + i), .int (nI j)]) hE dJ0_charAt_5068e_12 lk_J0_495 (c_J1_charAt hi hj) np_J1_charAt_3b067 rfl rfl (by decide) (Nat.le_of_ble_eq_true rfl) rfl ?_)
  rintro v M' ⟨rfl, rfl⟩
  exact rx_tret hE hQ (tX_fit i hi j hj).2 rfl dJ0_charAt_5068e_15 ⟨rfl, rfl⟩
