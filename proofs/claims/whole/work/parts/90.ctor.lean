/-! ===== constructors: the memory is (n, F), F the content at the end; the object at q is being built: g_up (n, F) q e ===== -/
def g_w (F : Nat → va_E) (q : Nat) (e : va_E) : Nat → va_E := fun k => if k = q then e else F k
theorem gw_ne {F : Nat → va_E} {q k : Nat} {e : va_E} (h : k ≠ q) : g_w F q e k = F k := if_neg h
theorem gw_eq {F : Nat → va_E} {q : Nat} {e : va_E} : g_w F q e q = e := if_pos rfl
section UB
variable {d : Nat} {mi : gMi} {E : gE} {nL a b pc : Nat} {ls : List (Option Value)} {st : List Value} {F : Nat → va_E} {q n : Nat} {e : va_E}
theorem up_F (h : F q = e) : g_up (n, F) q e = (n, F) := by
  refine Prod.ext rfl (funext fun k => ?_)
  show (if k = q then e else F k) = F k
  by_cases h1 : k = q
  · rw [if_pos h1, h1, h]
  · rw [if_neg h1]
theorem nw_w {c : va_E} (hq : q < n) : g_nw (g_up (n, F) q e) c = g_up (n + 1, g_w F n c) q e := by
  refine Prod.ext rfl (funext fun k => ?_)
  show (if k = n then c else if k = q then e else F k) = if k = q then e else if k = n then c else F k
  by_cases h1 : k = n
  · rw [if_pos h1, if_neg (by omega), if_pos h1]
  · rw [if_neg h1, if_neg h1]
theorem gw_id {c : va_E} (h : F n = c) : g_w F n c = F := by
  funext k
  unfold g_w
  by_cases h1 : k = n
  · rw [if_pos h1, h1, h]
  · rw [if_neg h1]
theorem nw_up {c : va_E} (h : F n = c) (hq : q < n) : g_nw (g_up (n, F) q e) c = g_up (n + 1, F) q e := by rw [nw_w hq, gw_id h]
theorem at_up (h16 : 16 ≤ q) (hq : q < n) : g_at (g_up (n, F) q e) q e := ⟨h16, hq, if_pos rfl⟩
theorem mna_up {N K : Nat} (h : F n = .inl (7, N, .inr (.inr (.inr (.inr (fun i => if i < N then some (n + 1 + i) else none)))))) (h2 : ∀ i, i < N → F (n + 1 + i) = gI K (fun _ => 0)) (hq : q < n) : g_mna (g_up (n, F) q e) N K = g_up (n + (1 + N), F) q e := by
  refine Prod.ext rfl (funext fun k => ?_)
  show (if k = n then _ else if n < k ∧ k < n + 1 + N then gI K (fun _ => 0) else if k = q then e else F k) = if k = q then e else F k
  by_cases h1 : k = n
  · rw [if_pos h1, if_neg (by omega), h1, h]
    rfl
  · rw [if_neg h1]
    by_cases h3 : n < k ∧ k < n + 1 + N
    · rw [if_pos h3, if_neg (by omega), show k = n + 1 + (k - (n + 1)) by omega, h2 _ (by omega)]
    · rw [if_neg h3]
theorem ru_new (hE : g_E d mi E) {idx ci N : Nat} {fs : List Value} (hd : decode mi.2.1 pc = .ok (.new idx, 3)) (hl : g_nc mi.1.cls idx ci N fs) (hfs : ∀ g : gG, fs.map (g_v g) = fs) (kk : RX E nL a b (pc + 3) ls (.ref n :: st) (g_up (n + 1, g_w F q e) n (.inr (ci, fs)))) : RX E nL (a + 1) (b + N) pc ls st (g_up (n, F) q e) := rx_new hE hd hl hfs kk
theorem ru_newi (hE : g_E d mi E) {k : Int32} {N : Nat} (hd : decode mi.2.1 pc = .ok (.newarray .int, 2)) (hm : Cond.arrayClass .int ∈ g_tb) (hn : ¬ k < 0) (hN : k.toNatClampNeg = N) (hb : N ≤ 10000) (hF : F n = gI N (fun _ => 0)) (hq : q < n) (kk : RX E nL a b (pc + 2) ls (.ref n :: st) (g_up (n + 1, F) q e)) : RX E nL (a + 1) (b + N) pc ls (.int k :: st) (g_up (n, F) q e) := rx_newi hE hd hm hn hN hb (rx_mem (nw_up hF hq) kk)
theorem ru_newb (hE : g_E d mi E) {k : Int32} {N : Nat} (hd : decode mi.2.1 pc = .ok (.newarray .byte, 2)) (hm : Cond.arrayClass .byte ∈ g_tb) (hn : ¬ k < 0) (hN : k.toNatClampNeg = N) (hb : N ≤ 10000) (hF : F n = gB N (fun _ => 0)) (hq : q < n) (kk : RX E nL a b (pc + 2) ls (.ref n :: st) (g_up (n + 1, F) q e)) : RX E nL (a + 1) (b + N) pc ls (.int k :: st) (g_up (n, F) q e) := rx_newb hE hd hm hn hN hb (rx_mem (nw_up hF hq) kk)
theorem ru_newl (hE : g_E d mi E) {k : Int32} {N : Nat} (hd : decode mi.2.1 pc = .ok (.newarray .long, 2)) (hm : Cond.arrayClass .long ∈ g_tb) (hn : ¬ k < 0) (hN : k.toNatClampNeg = N) (hb : N ≤ 10000) (hF : F n = gJ N (fun _ => 0)) (hq : q < n) (kk : RX E nL a b (pc + 2) ls (.ref n :: st) (g_up (n + 1, F) q e)) : RX E nL (a + 1) (b + N) pc ls (.int k :: st) (g_up (n, F) q e) := rx_newl hE hd hm hn hN hb (rx_mem (nw_up hF hq) kk)
theorem ru_newz (hE : g_E d mi E) {k : Int32} {N : Nat} (hd : decode mi.2.1 pc = .ok (.newarray .boolean, 2)) (hm : Cond.arrayClass .boolean ∈ g_tb) (hn : ¬ k < 0) (hN : k.toNatClampNeg = N) (hb : N ≤ 10000) (hF : F n = gZ N (fun _ => 0)) (hq : q < n) (kk : RX E nL a b (pc + 2) ls (.ref n :: st) (g_up (n + 1, F) q e)) : RX E nL (a + 1) (b + N) pc ls (.int k :: st) (g_up (n, F) q e) := rx_newz hE hd hm hn hN hb (rx_mem (nw_up hF hq) kk)
theorem ru_newq (hE : g_E d mi E) {k : Int32} {t N idx : Nat} {C : String} (ht : t < 8) (hty : g_ty t = .object C) (hd : decode mi.2.1 pc = .ok (.anewarray idx, 3)) (hm : Cond.classLink mi.1.cls idx C ∈ g_tb) (ho : Cond.arrayOver (.object C) ∈ lw_tbl) (hn : ¬ k < 0) (hN : k.toNatClampNeg = N) (hb : N ≤ 10000) (hq : q < n) (kk : RX E nL a b (pc + 3) ls (.ref n :: st) (g_up (n + 1, g_w F n (gQ t N (fun _ => none))) q e)) : RX E nL (a + 1) (b + N) pc ls (.int k :: st) (g_up (n, F) q e) := rx_newq hE ht hty hd hm ho hn hN hb (rx_mem (nw_w hq) kk)
theorem ru_mna (hE : g_E d mi E) {idx : Nat} {k1 k : Int32} {N K : Nat} (hd : decode mi.2.1 pc = .ok (.multianewarray idx 2, 4)) (hm : Cond.classLink mi.1.cls idx "[[I" ∈ g_tb) (ha : Cond.arrayClass .int ∈ g_tb) (hn : ¬ k1 < 0) (hk : ¬ k < 0) (hN : k1.toNatClampNeg = N) (hK : k.toNatClampNeg = K) (hb : N ≤ 1000) (hb2 : K ≤ 1000) (h : F n = .inl (7, N, .inr (.inr (.inr (.inr (fun i => if i < N then some (n + 1 + i) else none)))))) (h2 : ∀ i, i < N → F (n + 1 + i) = gI K (fun _ => 0)) (hq : q < n) (kk : RX E nL a b (pc + 4) ls (.ref n :: st) (g_up (n + (1 + N), F) q e)) : RX E nL (a + (1 + N)) (b + (N + N * K)) pc ls (.int k :: .int k1 :: st) (g_up (n, F) q e) := rx_mna hE hd hm ha hn hk hN hK hb hb2 (rx_mem (mna_up h h2 hq) kk)
end UB
def jini : gJn := fun r i => if r = 9 then (if i = 5 then -1 else 0) else 0
set_option maxRecDepth 100000 in
set_option maxHeartbeats 1000000 in
theorem c_X2_init {F : Nat → va_E} {q : Nat} (h16 : 16 ≤ q) (hF : ∀ k, k < 10 → F (q + k) = jc q jini k) : SX 1 9 60 mX2_init [.ref q] (g_up ((q + 1), F) q (.inr (2, [.null, .null, .null, .null, .null, .null, .null, .null, .null, .int 0, .int 0, .int 0, .int 0, .int 0, .int 0]))) (fun v M' => v = none ∧ M' = ((q + 10), F)) := by
  refine SX.intro [some (.ref q)] (by decide +kernel) (Nat.le_of_ble_eq_true rfl) rfl (fun E hE hQ => ?_)
  refine rx_aload_n hE dX2_init_0 (i := 0) rfl rfl ?_
  refine rx_objInit hE dX2_init_1 oi_X2_3 rfl (by decide) (Nat.le_of_ble_eq_true rfl) ?_
  refine rx_aload_n hE dX2_init_4 (i := 0) rfl rfl ?_
  refine rx_bipush hE dX2_init_5 (v := 6) (by decide) ?_
  refine ru_newi (n := (q + 1)) (N := 6) hE dX2_init_7 ak_int (by decide) (by decide) (by decide) (hF 1 (by decide)) (by omega) ?_
  refine rx_putF hE dX2_init_9 fl_X2_9_2 fw_2_0 fo_2_0 rfl (at_up h16 (by omega)) (fun _ => rfl) (fun _ => rfl) (Nat.le_of_ble_eq_true rfl) ?_
  refine rx_mem (M' := g_up ((q + 2), F) q (.inr (2, [.ref (q + 1), .null, .null, .null, .null, .null, .null, .null, .null, .int 0, .int 0, .int 0, .int 0, .int 0, .int 0]))) (g_up_up _ _ _ _) ?_
  refine rx_aload_n hE dX2_init_12 (i := 0) rfl rfl ?_
  refine rx_bipush hE dX2_init_13 (v := 6) (by decide) ?_
  refine ru_newi (n := (q + 2)) (N := 6) hE dX2_init_15 ak_int (by decide) (by decide) (by decide) (hF 2 (by decide)) (by omega) ?_
  refine rx_putF hE dX2_init_17 fl_X2_15_2 fw_2_1 fo_2_1 rfl (at_up h16 (by omega)) (fun _ => rfl) (fun _ => rfl) (Nat.le_of_ble_eq_true rfl) ?_
  refine rx_mem (M' := g_up ((q + 3), F) q (.inr (2, [.ref (q + 1), .ref (q + 2), .null, .null, .null, .null, .null, .null, .null, .int 0, .int 0, .int 0, .int 0, .int 0, .int 0]))) (g_up_up _ _ _ _) ?_
  refine rx_aload_n hE dX2_init_20 (i := 0) rfl rfl ?_
  refine rx_bipush hE dX2_init_21 (v := 6) (by decide) ?_
  refine ru_newi (n := (q + 3)) (N := 6) hE dX2_init_23 ak_int (by decide) (by decide) (by decide) (hF 3 (by decide)) (by omega) ?_
  refine rx_putF hE dX2_init_25 fl_X2_18_2 fw_2_2 fo_2_2 rfl (at_up h16 (by omega)) (fun _ => rfl) (fun _ => rfl) (Nat.le_of_ble_eq_true rfl) ?_
  refine rx_mem (M' := g_up ((q + 4), F) q (.inr (2, [.ref (q + 1), .ref (q + 2), .ref (q + 3), .null, .null, .null, .null, .null, .null, .int 0, .int 0, .int 0, .int 0, .int 0, .int 0]))) (g_up_up _ _ _ _) ?_
  refine rx_aload_n hE dX2_init_28 (i := 0) rfl rfl ?_
  refine rx_bipush hE dX2_init_29 (v := 6) (by decide) ?_
  refine ru_newi (n := (q + 4)) (N := 6) hE dX2_init_31 ak_int (by decide) (by decide) (by decide) (hF 4 (by decide)) (by omega) ?_
  refine rx_putF hE dX2_init_33 fl_X2_21_2 fw_2_3 fo_2_3 rfl (at_up h16 (by omega)) (fun _ => rfl) (fun _ => rfl) (Nat.le_of_ble_eq_true rfl) ?_
  refine rx_mem (M' := g_up ((q + 5), F) q (.inr (2, [.ref (q + 1), .ref (q + 2), .ref (q + 3), .ref (q + 4), .null, .null, .null, .null, .null, .int 0, .int 0, .int 0, .int 0, .int 0, .int 0]))) (g_up_up _ _ _ _) ?_
  refine rx_aload_n hE dX2_init_36 (i := 0) rfl rfl ?_
  refine rx_bipush hE dX2_init_37 (v := 6) (by decide) ?_
  refine ru_newi (n := (q + 5)) (N := 6) hE dX2_init_39 ak_int (by decide) (by decide) (by decide) (hF 5 (by decide)) (by omega) ?_
  refine rx_putF hE dX2_init_41 fl_X2_24_2 fw_2_4 fo_2_4 rfl (at_up h16 (by omega)) (fun _ => rfl) (fun _ => rfl) (Nat.le_of_ble_eq_true rfl) ?_
  refine rx_mem (M' := g_up ((q + 6), F) q (.inr (2, [.ref (q + 1), .ref (q + 2), .ref (q + 3), .ref (q + 4), .ref (q + 5), .null, .null, .null, .null, .int 0, .int 0, .int 0, .int 0, .int 0, .int 0]))) (g_up_up _ _ _ _) ?_
  refine rx_aload_n hE dX2_init_44 (i := 0) rfl rfl ?_
  refine rx_bipush hE dX2_init_45 (v := 6) (by decide) ?_
  refine ru_newi (n := (q + 6)) (N := 6) hE dX2_init_47 ak_int (by decide) (by decide) (by decide) (hF 6 (by decide)) (by omega) ?_
  refine rx_putF hE dX2_init_49 fl_X2_27_2 fw_2_5 fo_2_5 rfl (at_up h16 (by omega)) (fun _ => rfl) (fun _ => rfl) (Nat.le_of_ble_eq_true rfl) ?_
  refine rx_mem (M' := g_up ((q + 7), F) q (.inr (2, [.ref (q + 1), .ref (q + 2), .ref (q + 3), .ref (q + 4), .ref (q + 5), .ref (q + 6), .null, .null, .null, .int 0, .int 0, .int 0, .int 0, .int 0, .int 0]))) (g_up_up _ _ _ _) ?_
  refine rx_aload_n hE dX2_init_52 (i := 0) rfl rfl ?_
  refine rx_bipush hE dX2_init_53 (v := 6) (by decide) ?_
  refine ru_newi (n := (q + 7)) (N := 6) hE dX2_init_55 ak_int (by decide) (by decide) (by decide) (hF 7 (by decide)) (by omega) ?_
  refine rx_putF hE dX2_init_57 fl_X2_30_2 fw_2_6 fo_2_6 rfl (at_up h16 (by omega)) (fun _ => rfl) (fun _ => rfl) (Nat.le_of_ble_eq_true rfl) ?_
  refine rx_mem (M' := g_up ((q + 8), F) q (.inr (2, [.ref (q + 1), .ref (q + 2), .ref (q + 3), .ref (q + 4), .ref (q + 5), .ref (q + 6), .ref (q + 7), .null, .null, .int 0, .int 0, .int 0, .int 0, .int 0, .int 0]))) (g_up_up _ _ _ _) ?_
  refine rx_aload_n hE dX2_init_60 (i := 0) rfl rfl ?_
  refine rx_bipush hE dX2_init_61 (v := 6) (by decide) ?_
  refine ru_newi (n := (q + 8)) (N := 6) hE dX2_init_63 ak_int (by decide) (by decide) (by decide) (hF 8 (by decide)) (by omega) ?_
  refine rx_putF hE dX2_init_65 fl_X2_33_2 fw_2_7 fo_2_7 rfl (at_up h16 (by omega)) (fun _ => rfl) (fun _ => rfl) (Nat.le_of_ble_eq_true rfl) ?_
  refine rx_mem (M' := g_up ((q + 9), F) q (.inr (2, [.ref (q + 1), .ref (q + 2), .ref (q + 3), .ref (q + 4), .ref (q + 5), .ref (q + 6), .ref (q + 7), .ref (q + 8), .null, .int 0, .int 0, .int 0, .int 0, .int 0, .int 0]))) (g_up_up _ _ _ _) ?_
  refine rx_aload_n hE dX2_init_68 (i := 0) rfl rfl ?_
  refine rx_bipush hE dX2_init_69 (v := 12) (by decide) ?_
  refine ru_newi (n := (q + 9)) (N := 12) hE dX2_init_71 ak_int (by decide) (by decide) (by decide) (hF 9 (by decide)) (by omega) ?_
  refine rx_putF hE dX2_init_73 fl_X2_36_2 fw_2_8 fo_2_8 rfl (at_up h16 (by omega)) (fun _ => rfl) (fun _ => rfl) (Nat.le_of_ble_eq_true rfl) ?_
  refine rx_mem (M' := g_up ((q + 10), F) q (.inr (2, [.ref (q + 1), .ref (q + 2), .ref (q + 3), .ref (q + 4), .ref (q + 5), .ref (q + 6), .ref (q + 7), .ref (q + 8), .ref (q + 9), .int 0, .int 0, .int 0, .int 0, .int 0, .int 0]))) (g_up_up _ _ _ _) ?_
  refine rx_aload_n hE dX2_init_76 (i := 0) rfl rfl ?_
  refine rx_iconst hE dX2_init_77 (v := 0) (by decide) ?_
  refine rx_put hE dX2_init_78 fl_X2_39_2 fw_2_9 (at_up h16 (by omega)) (fun _ => rfl) (fun _ => rfl) (Nat.le_of_ble_eq_true rfl) ?_
  refine rx_mem (M' := g_up ((q + 10), F) q (.inr (2, [.ref (q + 1), .ref (q + 2), .ref (q + 3), .ref (q + 4), .ref (q + 5), .ref (q + 6), .ref (q + 7), .ref (q + 8), .ref (q + 9), .int 0, .int 0, .int 0, .int 0, .int 0, .int 0]))) (g_up_up _ _ _ _) ?_
  refine rx_aload_n hE dX2_init_81 (i := 0) rfl rfl ?_
  refine rx_iconst hE dX2_init_82 (v := 0) (by decide) ?_
  refine rx_put hE dX2_init_83 fl_X2_43_2 fw_2_10 (at_up h16 (by omega)) (fun _ => rfl) (fun _ => rfl) (Nat.le_of_ble_eq_true rfl) ?_
  refine rx_mem (M' := g_up ((q + 10), F) q (.inr (2, [.ref (q + 1), .ref (q + 2), .ref (q + 3), .ref (q + 4), .ref (q + 5), .ref (q + 6), .ref (q + 7), .ref (q + 8), .ref (q + 9), .int 0, .int 0, .int 0, .int 0, .int 0, .int 0]))) (g_up_up _ _ _ _) ?_
  refine rx_aload_n hE dX2_init_86 (i := 0) rfl rfl ?_
  refine rx_iconst hE dX2_init_87 (v := 0) (by decide) ?_
  refine rx_put hE dX2_init_88 fl_X2_46_2 fw_2_11 (at_up h16 (by omega)) (fun _ => rfl) (fun _ => rfl) (Nat.le_of_ble_eq_true rfl) ?_
  refine rx_mem (M' := g_up ((q + 10), F) q (.inr (2, [.ref (q + 1), .ref (q + 2), .ref (q + 3), .ref (q + 4), .ref (q + 5), .ref (q + 6), .ref (q + 7), .ref (q + 8), .ref (q + 9), .int 0, .int 0, .int 0, .int 0, .int 0, .int 0]))) (g_up_up _ _ _ _) ?_
  refine rx_aload_n hE dX2_init_91 (i := 0) rfl rfl ?_
  refine rx_iconst hE dX2_init_92 (v := 0) (by decide) ?_
  refine rx_put hE dX2_init_93 fl_X2_49_2 fw_2_12 (at_up h16 (by omega)) (fun _ => rfl) (fun _ => rfl) (Nat.le_of_ble_eq_true rfl) ?_
  refine rx_mem (M' := g_up ((q + 10), F) q (.inr (2, [.ref (q + 1), .ref (q + 2), .ref (q + 3), .ref (q + 4), .ref (q + 5), .ref (q + 6), .ref (q + 7), .ref (q + 8), .ref (q + 9), .int 0, .int 0, .int 0, .int 0, .int 0, .int 0]))) (g_up_up _ _ _ _) ?_
  refine rx_aload_n hE dX2_init_96 (i := 0) rfl rfl ?_
  refine rx_iconst hE dX2_init_97 (v := 0) (by decide) ?_
  refine rx_put hE dX2_init_98 fl_X2_52_2 fw_2_13 (at_up h16 (by omega)) (fun _ => rfl) (fun _ => rfl) (Nat.le_of_ble_eq_true rfl) ?_
  refine rx_mem (M' := g_up ((q + 10), F) q (.inr (2, [.ref (q + 1), .ref (q + 2), .ref (q + 3), .ref (q + 4), .ref (q + 5), .ref (q + 6), .ref (q + 7), .ref (q + 8), .ref (q + 9), .int 0, .int 0, .int 0, .int 0, .int 0, .int 0]))) (g_up_up _ _ _ _) ?_
  refine rx_aload_n hE dX2_init_101 (i := 0) rfl rfl ?_
  refine rx_iconst hE dX2_init_102 (v := -1) (by decide) ?_
  refine rx_put hE dX2_init_103 fl_X2_55_2 fw_2_14 (at_up h16 (by omega)) (fun _ => rfl) (fun _ => rfl) (Nat.le_of_ble_eq_true rfl) ?_
  refine rx_mem (M' := g_up ((q + 10), F) q (.inr (2, [.ref (q + 1), .ref (q + 2), .ref (q + 3), .ref (q + 4), .ref (q + 5), .ref (q + 6), .ref (q + 7), .ref (q + 8), .ref (q + 9), .int 0, .int 0, .int 0, .int 0, .int 0, .int (-1)]))) (g_up_up _ _ _ _) ?_
  exact rx_vret hE hQ rfl dX2_init_106 ⟨rfl, up_F (hF 0 (by decide))⟩
set_option maxRecDepth 100000 in
set_option maxHeartbeats 1000000 in
theorem c_X4_init {F : Nat → va_E} {q : Nat} (h16 : 16 ≤ q) (hF : ∀ k, k < 4 → F (q + k) = xc_n q (fun _ _ => 0) k) : SX 1 3 30 mX4_init [.ref q] (g_up ((q + 1), F) q (.inr (4, [.null, .null, .null, .int 0]))) (fun v M' => v = none ∧ M' = ((q + 4), F)) := by
  refine SX.intro [some (.ref q)] (by decide +kernel) (Nat.le_of_ble_eq_true rfl) rfl (fun E hE hQ => ?_)
  refine rx_aload_n hE dX4_init_0 (i := 0) rfl rfl ?_
  refine rx_objInit hE dX4_init_1 oi_X4_3 rfl (by decide) (Nat.le_of_ble_eq_true rfl) ?_
  refine rx_aload_n hE dX4_init_4 (i := 0) rfl rfl ?_
  refine rx_bipush hE dX4_init_5 (v := 10) (by decide) ?_
  refine ru_newi (n := (q + 1)) (N := 10) hE dX4_init_7 ak_int (by decide) (by decide) (by decide) (hF 1 (by decide)) (by omega) ?_
  refine rx_putF hE dX4_init_9 fl_X4_9_4 fw_4_0 fo_4_0 rfl (at_up h16 (by omega)) (fun _ => rfl) (fun _ => rfl) (Nat.le_of_ble_eq_true rfl) ?_
  refine rx_mem (M' := g_up ((q + 2), F) q (.inr (4, [.ref (q + 1), .null, .null, .int 0]))) (g_up_up _ _ _ _) ?_
  refine rx_aload_n hE dX4_init_12 (i := 0) rfl rfl ?_
  refine rx_bipush hE dX4_init_13 (v := 10) (by decide) ?_
  refine ru_newi (n := (q + 2)) (N := 10) hE dX4_init_15 ak_int (by decide) (by decide) (by decide) (hF 2 (by decide)) (by omega) ?_
  refine rx_putF hE dX4_init_17 fl_X4_15_4 fw_4_1 fo_4_1 rfl (at_up h16 (by omega)) (fun _ => rfl) (fun _ => rfl) (Nat.le_of_ble_eq_true rfl) ?_
  refine rx_mem (M' := g_up ((q + 3), F) q (.inr (4, [.ref (q + 1), .ref (q + 2), .null, .int 0]))) (g_up_up _ _ _ _) ?_
  refine rx_aload_n hE dX4_init_20 (i := 0) rfl rfl ?_
  refine rx_bipush hE dX4_init_21 (v := 10) (by decide) ?_
  refine ru_newi (n := (q + 3)) (N := 10) hE dX4_init_23 ak_int (by decide) (by decide) (by decide) (hF 3 (by decide)) (by omega) ?_
  refine rx_putF hE dX4_init_25 fl_X4_18_4 fw_4_2 fo_4_2 rfl (at_up h16 (by omega)) (fun _ => rfl) (fun _ => rfl) (Nat.le_of_ble_eq_true rfl) ?_
  refine rx_mem (M' := g_up ((q + 4), F) q (.inr (4, [.ref (q + 1), .ref (q + 2), .ref (q + 3), .int 0]))) (g_up_up _ _ _ _) ?_
  refine rx_aload_n hE dX4_init_28 (i := 0) rfl rfl ?_
  refine rx_iconst hE dX4_init_29 (v := 0) (by decide) ?_
  refine rx_put hE dX4_init_30 fl_X4_21_4 fw_4_3 (at_up h16 (by omega)) (fun _ => rfl) (fun _ => rfl) (Nat.le_of_ble_eq_true rfl) ?_
  refine rx_mem (M' := g_up ((q + 4), F) q (.inr (4, [.ref (q + 1), .ref (q + 2), .ref (q + 3), .int 0]))) (g_up_up _ _ _ _) ?_
  exact rx_vret hE hQ rfl dX4_init_33 ⟨rfl, up_F (hF 0 (by decide))⟩
set_option maxRecDepth 100000 in
set_option maxHeartbeats 1000000 in
theorem c_X8_init {F : Nat → va_E} {q : Nat} (h16 : 16 ≤ q) (hF0 : F q = .inr (8, [.ref (q + 1), .int 0, .int 0, .int 0, .int 0, .int 0, .int 0])) (hF1 : F (q + 1) = gB 400 (fun _ => 0)) : SX 1 1 400 mX8_init [.ref q] (g_up ((q + 1), F) q (.inr (8, [.null, .int 0, .int 0, .int 0, .int 0, .int 0, .int 0]))) (fun v M' => v = none ∧ M' = (q + 2, F)) := by
  refine SX.intro [some (.ref q)] (by decide +kernel) (Nat.le_of_ble_eq_true rfl) rfl (fun E hE hQ => ?_)
  refine rx_aload_n hE dX8_init_0 (i := 0) rfl rfl ?_
  refine rx_objInit hE dX8_init_1 oi_X8_3 rfl (by decide) (Nat.le_of_ble_eq_true rfl) ?_
  refine rx_aload_n hE dX8_init_4 (i := 0) rfl rfl ?_
  refine rx_sipush hE dX8_init_5 (v := 400) (by decide) ?_
  refine ru_newb (n := (q + 1)) (N := 400) hE dX8_init_8 ak_byte (by decide) (by decide) (by decide) hF1 (by omega) ?_
  refine rx_putF hE dX8_init_10 fl_X8_9_8 fw_8_0 fo_8_0 rfl (at_up h16 (by omega)) (fun _ => rfl) (fun _ => rfl) (Nat.le_of_ble_eq_true rfl) ?_
  refine rx_mem (M' := g_up ((q + 2), F) q (.inr (8, [.ref (q + 1), .int 0, .int 0, .int 0, .int 0, .int 0, .int 0]))) (g_up_up _ _ _ _) ?_
  refine rx_aload_n hE dX8_init_13 (i := 0) rfl rfl ?_
  refine rx_iconst hE dX8_init_14 (v := 0) (by decide) ?_
  refine rx_put hE dX8_init_15 fl_X8_15_8 fw_8_1 (at_up h16 (by omega)) (fun _ => rfl) (fun _ => rfl) (Nat.le_of_ble_eq_true rfl) ?_
  refine rx_mem (M' := g_up ((q + 2), F) q (.inr (8, [.ref (q + 1), .int 0, .int 0, .int 0, .int 0, .int 0, .int 0]))) (g_up_up _ _ _ _) ?_
  refine rx_aload_n hE dX8_init_18 (i := 0) rfl rfl ?_
  refine rx_iconst hE dX8_init_19 (v := 0) (by decide) ?_
  refine rx_put hE dX8_init_20 fl_X8_19_8 fw_8_2 (at_up h16 (by omega)) (fun _ => rfl) (fun _ => rfl) (Nat.le_of_ble_eq_true rfl) ?_
  refine rx_mem (M' := g_up ((q + 2), F) q (.inr (8, [.ref (q + 1), .int 0, .int 0, .int 0, .int 0, .int 0, .int 0]))) (g_up_up _ _ _ _) ?_
  refine rx_aload_n hE dX8_init_23 (i := 0) rfl rfl ?_
  refine rx_iconst hE dX8_init_24 (v := 0) (by decide) ?_
  refine rx_put hE dX8_init_25 fl_X8_22_8 fw_8_3 (at_up h16 (by omega)) (fun _ => rfl) (fun _ => rfl) (Nat.le_of_ble_eq_true rfl) ?_
  refine rx_mem (M' := g_up ((q + 2), F) q (.inr (8, [.ref (q + 1), .int 0, .int 0, .int 0, .int 0, .int 0, .int 0]))) (g_up_up _ _ _ _) ?_
  refine rx_aload_n hE dX8_init_28 (i := 0) rfl rfl ?_
  refine rx_iconst hE dX8_init_29 (v := 0) (by decide) ?_
  refine rx_put hE dX8_init_30 fl_X8_25_8 fw_8_4 (at_up h16 (by omega)) (fun _ => rfl) (fun _ => rfl) (Nat.le_of_ble_eq_true rfl) ?_
  refine rx_mem (M' := g_up ((q + 2), F) q (.inr (8, [.ref (q + 1), .int 0, .int 0, .int 0, .int 0, .int 0, .int 0]))) (g_up_up _ _ _ _) ?_
  refine rx_aload_n hE dX8_init_33 (i := 0) rfl rfl ?_
  refine rx_iconst hE dX8_init_34 (v := 0) (by decide) ?_
  refine rx_put hE dX8_init_35 fl_X8_28_8 fw_8_5 (at_up h16 (by omega)) (fun _ => rfl) (fun _ => rfl) (Nat.le_of_ble_eq_true rfl) ?_
  refine rx_mem (M' := g_up ((q + 2), F) q (.inr (8, [.ref (q + 1), .int 0, .int 0, .int 0, .int 0, .int 0, .int 0]))) (g_up_up _ _ _ _) ?_
  refine rx_aload_n hE dX8_init_38 (i := 0) rfl rfl ?_
  refine rx_iconst hE dX8_init_39 (v := 0) (by decide) ?_
  refine rx_put hE dX8_init_40 fl_X8_31_8 fw_8_6 (at_up h16 (by omega)) (fun _ => rfl) (fun _ => rfl) (Nat.le_of_ble_eq_true rfl) ?_
  refine rx_mem (M' := g_up ((q + 2), F) q (.inr (8, [.ref (q + 1), .int 0, .int 0, .int 0, .int 0, .int 0, .int 0]))) (g_up_up _ _ _ _) ?_
  exact rx_vret hE hQ rfl dX8_init_43 ⟨rfl, up_F hF0⟩
set_option maxRecDepth 100000 in
set_option maxHeartbeats 1000000 in
theorem c_X9_init_3 {F : Nat → va_E} {n q t : Nat} (h16 : 16 ≤ q) (hq : q < n) : SX 1 0 0 mX9_init [.ref q, .ref t] (g_up (n, F) q (.inr (3, [.null, .null]))) (fun v M' => v = none ∧ M' = g_up (n, F) q (.inr (3, [.ref t, .null]))) := by
  refine SX.intro [some (.ref q), some (.ref t)] (by decide +kernel) (Nat.le_of_ble_eq_true rfl) rfl (fun E hE hQ => ?_)
  refine rx_aload_n hE dX9_init_0 (i := 0) rfl rfl ?_
  refine rx_objInit hE dX9_init_1 oi_X9_3 rfl (by decide) (Nat.le_of_ble_eq_true rfl) ?_
  refine rx_aload_n hE dX9_init_4 (i := 0) rfl rfl ?_
  refine rx_aload_n hE dX9_init_5 (i := 1) rfl rfl ?_
  refine rx_putF hE dX9_init_6 fl_X9_9_3 fw_3_0 fo_3_0 rfl (at_up h16 hq) (fun _ => rfl) (fun _ => rfl) (Nat.le_of_ble_eq_true rfl) ?_
  refine rx_mem (M' := g_up (n, F) q (.inr (3, [.ref t, .null]))) (g_up_up _ _ _ _) ?_
  exact rx_vret hE hQ rfl dX9_init_9 ⟨rfl, rfl⟩
set_option maxRecDepth 100000 in
set_option maxHeartbeats 1000000 in
theorem c_X9_init_7 {F : Nat → va_E} {n q t : Nat} (h16 : 16 ≤ q) (hq : q < n) : SX 1 0 0 mX9_init [.ref q, .ref t] (g_up (n, F) q (.inr (7, [.null, .null, .int 0, .int 0]))) (fun v M' => v = none ∧ M' = g_up (n, F) q (.inr (7, [.ref t, .null, .int 0, .int 0]))) := by
  refine SX.intro [some (.ref q), some (.ref t)] (by decide +kernel) (Nat.le_of_ble_eq_true rfl) rfl (fun E hE hQ => ?_)
  refine rx_aload_n hE dX9_init_0 (i := 0) rfl rfl ?_
  refine rx_objInit hE dX9_init_1 oi_X9_3 rfl (by decide) (Nat.le_of_ble_eq_true rfl) ?_
  refine rx_aload_n hE dX9_init_4 (i := 0) rfl rfl ?_
  refine rx_aload_n hE dX9_init_5 (i := 1) rfl rfl ?_
  refine rx_putF hE dX9_init_6 fl_X9_9_7 fw_7_0 fo_7_0 rfl (at_up h16 hq) (fun _ => rfl) (fun _ => rfl) (Nat.le_of_ble_eq_true rfl) ?_
  refine rx_mem (M' := g_up (n, F) q (.inr (7, [.ref t, .null, .int 0, .int 0]))) (g_up_up _ _ _ _) ?_
  exact rx_vret hE hQ rfl dX9_init_9 ⟨rfl, rfl⟩
set_option maxRecDepth 100000 in
set_option maxHeartbeats 1000000 in
theorem c_X3_init {F : Nat → va_E} {q : Nat} (h16 : 16 ≤ q) {t j : Nat} (hF0 : F q = .inr (3, [.ref t, .ref j])) : SX 2 0 0 mX3_init [.ref q, .ref t, .ref j] (g_up ((q + 1), F) q (.inr (3, [.null, .null]))) (fun v M' => v = none ∧ M' = (q + 1, F)) := by
  refine SX.intro [some (.ref q), some (.ref t), some (.ref j)] (by decide +kernel) (Nat.le_of_ble_eq_true rfl) rfl (fun E hE hQ => ?_)
  refine rx_aload_n hE dX3_init_0 (i := 0) rfl rfl ?_
  refine rx_aload_n hE dX3_init_1 (i := 1) rfl rfl ?_
  refine rx_call0 (rx_callI (av := [.ref t]) (a' := 0) (b' := 0) hE dX3_init_2 lk_X3_3 (c_X9_init_3 h16 (by omega)) np_X9_init rfl rfl (by decide) (Nat.le_of_ble_eq_true rfl) rfl ?_)
  rintro v M' ⟨rfl, rfl⟩
  refine rx_aload_n hE dX3_init_5 (i := 0) rfl rfl ?_
  refine rx_aload_n hE dX3_init_6 (i := 2) rfl rfl ?_
  refine rx_putF hE dX3_init_7 fl_X3_9_3 fw_3_1 fo_3_1 rfl (at_up h16 (by omega)) (fun _ => rfl) (fun _ => rfl) (Nat.le_of_ble_eq_true rfl) ?_
  refine rx_mem (M' := g_up ((q + 1), F) q (.inr (3, [.ref t, .ref j]))) (g_up_up _ _ _ _) ?_
  exact rx_vret hE hQ rfl dX3_init_10 ⟨rfl, up_F hF0⟩
set_option maxRecDepth 100000 in
set_option maxHeartbeats 1000000 in
theorem c_X7_init {F : Nat → va_E} {q : Nat} (h16 : 16 ≤ q) {t : Nat} (hF0 : F q = .inr (7, [.ref t, .ref (q + 1), .int 0, .int 0])) (hF1 : F (q + 1) = gI 400 (fun _ => 0)) : SX 2 1 400 mX7_init [.ref q, .ref t] (g_up ((q + 1), F) q (.inr (7, [.null, .null, .int 0, .int 0]))) (fun v M' => v = none ∧ M' = (q + 2, F)) := by
  refine SX.intro [some (.ref q), some (.ref t)] (by decide +kernel) (Nat.le_of_ble_eq_true rfl) rfl (fun E hE hQ => ?_)
  refine rx_aload_n hE dX7_init_0 (i := 0) rfl rfl ?_
  refine rx_aload_n hE dX7_init_1 (i := 1) rfl rfl ?_
  refine rx_call0 (rx_callI (av := [.ref t]) (a' := 0) (b' := 0) hE dX7_init_2 lk_X7_3 (c_X9_init_7 h16 (by omega)) np_X9_init rfl rfl (by decide) (Nat.le_of_ble_eq_true rfl) rfl ?_)
  rintro v M' ⟨rfl, rfl⟩
  refine rx_aload_n hE dX7_init_5 (i := 0) rfl rfl ?_
  refine rx_sipush hE dX7_init_6 (v := 400) (by decide) ?_
  refine ru_newi (n := (q + 1)) (N := 400) hE dX7_init_9 ak_int (by decide) (by decide) (by decide) hF1 (by omega) ?_
  refine rx_putF hE dX7_init_11 fl_X7_9_7 fw_7_1 fo_7_1 rfl (at_up h16 (by omega)) (fun _ => rfl) (fun _ => rfl) (Nat.le_of_ble_eq_true rfl) ?_
  refine rx_mem (M' := g_up ((q + 2), F) q (.inr (7, [.ref t, .ref (q + 1), .int 0, .int 0]))) (g_up_up _ _ _ _) ?_
  refine rx_aload_n hE dX7_init_14 (i := 0) rfl rfl ?_
  refine rx_iconst hE dX7_init_15 (v := 0) (by decide) ?_
  refine rx_put hE dX7_init_16 fl_X7_15_7 fw_7_2 (at_up h16 (by omega)) (fun _ => rfl) (fun _ => rfl) (Nat.le_of_ble_eq_true rfl) ?_
  refine rx_mem (M' := g_up ((q + 2), F) q (.inr (7, [.ref t, .ref (q + 1), .int 0, .int 0]))) (g_up_up _ _ _ _) ?_
  refine rx_aload_n hE dX7_init_19 (i := 0) rfl rfl ?_
  refine rx_iconst hE dX7_init_20 (v := 0) (by decide) ?_
  refine rx_put hE dX7_init_21 fl_X7_19_7 fw_7_3 (at_up h16 (by omega)) (fun _ => rfl) (fun _ => rfl) (Nat.le_of_ble_eq_true rfl) ?_
  refine rx_mem (M' := g_up ((q + 2), F) q (.inr (7, [.ref t, .ref (q + 1), .int 0, .int 0]))) (g_up_up _ _ _ _) ?_
  exact rx_vret hE hQ rfl dX7_init_24 ⟨rfl, up_F hF0⟩
set_option maxRecDepth 100000 in
set_option maxHeartbeats 1000000 in
theorem c_X5_init {F : Nat → va_E} (hF : ∀ k, k < 19 → F (260 + k) = xc_s (fun _ _ => 0) k) : SX 1 18 242 mX5_init [.ref 260] (g_up (261, F) 260 (.inr (5, [.null, .null, .null, .null, .null, .null, .int 0, .int 0, .int 0, .int 0, .int 0, .int 0]))) (fun v M' => v = none ∧ M' = (279, F)) := by
  refine SX.intro [some (.ref 260)] (by decide +kernel) (Nat.le_of_ble_eq_true rfl) rfl (fun E hE hQ => ?_)
  refine rx_aload_n hE dX5_init_0 (i := 0) rfl rfl ?_
  refine rx_objInit hE dX5_init_1 oi_X5_5 rfl (by decide) (Nat.le_of_ble_eq_true rfl) ?_
  refine rx_aload_n hE dX5_init_4 (i := 0) rfl rfl ?_
  refine rx_bipush hE dX5_init_5 (v := 6) (by decide) ?_
  refine rx_bipush hE dX5_init_7 (v := 8) (by decide) ?_
  refine ru_mna (n := 261) (N := 6) (K := 8) hE dX5_init_9 cl_X5_13 ak_int (by decide) (by decide) (by decide) (by decide) (by decide) (by decide) (hF 1 (by decide)) (fun i hi => match i, hi with | 0, _ => hF 2 (by decide) | 1, _ => hF 3 (by decide) | 2, _ => hF 4 (by decide) | 3, _ => hF 5 (by decide) | 4, _ => hF 6 (by decide) | 5, _ => hF 7 (by decide) | i + 6, h => absurd h (by omega)) (by omega) ?_
  refine rx_putF hE dX5_init_13 fl_X5_15_5 fw_5_0 fo_5_0 rfl (at_up (by decide) (by decide)) (fun _ => rfl) (fun _ => rfl) (Nat.le_of_ble_eq_true rfl) ?_
  refine rx_mem (M' := g_up (268, F) 260 (.inr (5, [.ref 261, .null, .null, .null, .null, .null, .int 0, .int 0, .int 0, .int 0, .int 0, .int 0]))) (g_up_up _ _ _ _) ?_
  refine rx_aload_n hE dX5_init_16 (i := 0) rfl rfl ?_
  refine rx_bipush hE dX5_init_17 (v := 6) (by decide) ?_
  refine rx_bipush hE dX5_init_19 (v := 8) (by decide) ?_
  refine ru_mna (n := 268) (N := 6) (K := 8) hE dX5_init_21 cl_X5_13 ak_int (by decide) (by decide) (by decide) (by decide) (by decide) (by decide) (hF 8 (by decide)) (fun i hi => match i, hi with | 0, _ => hF 9 (by decide) | 1, _ => hF 10 (by decide) | 2, _ => hF 11 (by decide) | 3, _ => hF 12 (by decide) | 4, _ => hF 13 (by decide) | 5, _ => hF 14 (by decide) | i + 6, h => absurd h (by omega)) (by omega) ?_
  refine rx_putF hE dX5_init_25 fl_X5_18_5 fw_5_1 fo_5_1 rfl (at_up (by decide) (by decide)) (fun _ => rfl) (fun _ => rfl) (Nat.le_of_ble_eq_true rfl) ?_
  refine rx_mem (M' := g_up (275, F) 260 (.inr (5, [.ref 261, .ref 268, .null, .null, .null, .null, .int 0, .int 0, .int 0, .int 0, .int 0, .int 0]))) (g_up_up _ _ _ _) ?_
  refine rx_aload_n hE dX5_init_28 (i := 0) rfl rfl ?_
  refine rx_bipush hE dX5_init_29 (v := 64) (by decide) ?_
  refine ru_newi (n := 275) (N := 64) hE dX5_init_31 ak_int (by decide) (by decide) (by decide) (hF 15 (by decide)) (by omega) ?_
  refine rx_putF hE dX5_init_33 fl_X5_21_5 fw_5_2 fo_5_2 rfl (at_up (by decide) (by decide)) (fun _ => rfl) (fun _ => rfl) (Nat.le_of_ble_eq_true rfl) ?_
  refine rx_mem (M' := g_up (276, F) 260 (.inr (5, [.ref 261, .ref 268, .ref 275, .null, .null, .null, .int 0, .int 0, .int 0, .int 0, .int 0, .int 0]))) (g_up_up _ _ _ _) ?_
  refine rx_aload_n hE dX5_init_36 (i := 0) rfl rfl ?_
  refine rx_bipush hE dX5_init_37 (v := 64) (by decide) ?_
  refine ru_newi (n := 276) (N := 64) hE dX5_init_39 ak_int (by decide) (by decide) (by decide) (hF 16 (by decide)) (by omega) ?_
  refine rx_putF hE dX5_init_41 fl_X5_25_5 fw_5_3 fo_5_3 rfl (at_up (by decide) (by decide)) (fun _ => rfl) (fun _ => rfl) (Nat.le_of_ble_eq_true rfl) ?_
  refine rx_mem (M' := g_up (277, F) 260 (.inr (5, [.ref 261, .ref 268, .ref 275, .ref 276, .null, .null, .int 0, .int 0, .int 0, .int 0, .int 0, .int 0]))) (g_up_up _ _ _ _) ?_
  refine rx_aload_n hE dX5_init_44 (i := 0) rfl rfl ?_
  refine rx_iconst hE dX5_init_45 (v := 3) (by decide) ?_
  refine ru_newi (n := 277) (N := 3) hE dX5_init_46 ak_int (by decide) (by decide) (by decide) (hF 17 (by decide)) (by omega) ?_
  refine rx_putF hE dX5_init_48 fl_X5_28_5 fw_5_4 fo_5_4 rfl (at_up (by decide) (by decide)) (fun _ => rfl) (fun _ => rfl) (Nat.le_of_ble_eq_true rfl) ?_
  refine rx_mem (M' := g_up (278, F) 260 (.inr (5, [.ref 261, .ref 268, .ref 275, .ref 276, .ref 277, .null, .int 0, .int 0, .int 0, .int 0, .int 0, .int 0]))) (g_up_up _ _ _ _) ?_
  refine rx_aload_n hE dX5_init_51 (i := 0) rfl rfl ?_
  refine rx_iconst hE dX5_init_52 (v := 3) (by decide) ?_
  refine ru_newi (n := 278) (N := 3) hE dX5_init_53 ak_int (by decide) (by decide) (by decide) (hF 18 (by decide)) (by omega) ?_
  refine rx_putF hE dX5_init_55 fl_X5_31_5 fw_5_5 fo_5_5 rfl (at_up (by decide) (by decide)) (fun _ => rfl) (fun _ => rfl) (Nat.le_of_ble_eq_true rfl) ?_
  refine rx_mem (M' := g_up (279, F) 260 (.inr (5, [.ref 261, .ref 268, .ref 275, .ref 276, .ref 277, .ref 278, .int 0, .int 0, .int 0, .int 0, .int 0, .int 0]))) (g_up_up _ _ _ _) ?_
  refine rx_aload_n hE dX5_init_58 (i := 0) rfl rfl ?_
  refine rx_iconst hE dX5_init_59 (v := 0) (by decide) ?_
  refine rx_put hE dX5_init_60 fl_X5_34_5 fw_5_6 (at_up (by decide) (by decide)) (fun _ => rfl) (fun _ => rfl) (Nat.le_of_ble_eq_true rfl) ?_
  refine rx_mem (M' := g_up (279, F) 260 (.inr (5, [.ref 261, .ref 268, .ref 275, .ref 276, .ref 277, .ref 278, .int 0, .int 0, .int 0, .int 0, .int 0, .int 0]))) (g_up_up _ _ _ _) ?_
  refine rx_aload_n hE dX5_init_63 (i := 0) rfl rfl ?_
  refine rx_iconst hE dX5_init_64 (v := 0) (by decide) ?_
  refine rx_put hE dX5_init_65 fl_X5_38_5 fw_5_7 (at_up (by decide) (by decide)) (fun _ => rfl) (fun _ => rfl) (Nat.le_of_ble_eq_true rfl) ?_
  refine rx_mem (M' := g_up (279, F) 260 (.inr (5, [.ref 261, .ref 268, .ref 275, .ref 276, .ref 277, .ref 278, .int 0, .int 0, .int 0, .int 0, .int 0, .int 0]))) (g_up_up _ _ _ _) ?_
  refine rx_aload_n hE dX5_init_68 (i := 0) rfl rfl ?_
  refine rx_iconst hE dX5_init_69 (v := 0) (by decide) ?_
  refine rx_put hE dX5_init_70 fl_X5_41_5 fw_5_8 (at_up (by decide) (by decide)) (fun _ => rfl) (fun _ => rfl) (Nat.le_of_ble_eq_true rfl) ?_
  refine rx_mem (M' := g_up (279, F) 260 (.inr (5, [.ref 261, .ref 268, .ref 275, .ref 276, .ref 277, .ref 278, .int 0, .int 0, .int 0, .int 0, .int 0, .int 0]))) (g_up_up _ _ _ _) ?_
  refine rx_aload_n hE dX5_init_73 (i := 0) rfl rfl ?_
  refine rx_iconst hE dX5_init_74 (v := 0) (by decide) ?_
  refine rx_put hE dX5_init_75 fl_X5_44_5 fw_5_9 (at_up (by decide) (by decide)) (fun _ => rfl) (fun _ => rfl) (Nat.le_of_ble_eq_true rfl) ?_
  refine rx_mem (M' := g_up (279, F) 260 (.inr (5, [.ref 261, .ref 268, .ref 275, .ref 276, .ref 277, .ref 278, .int 0, .int 0, .int 0, .int 0, .int 0, .int 0]))) (g_up_up _ _ _ _) ?_
  refine rx_aload_n hE dX5_init_78 (i := 0) rfl rfl ?_
  refine rx_iconst hE dX5_init_79 (v := 0) (by decide) ?_
  refine rx_put hE dX5_init_80 fl_X5_47_5 fw_5_10 (at_up (by decide) (by decide)) (fun _ => rfl) (fun _ => rfl) (Nat.le_of_ble_eq_true rfl) ?_
  refine rx_mem (M' := g_up (279, F) 260 (.inr (5, [.ref 261, .ref 268, .ref 275, .ref 276, .ref 277, .ref 278, .int 0, .int 0, .int 0, .int 0, .int 0, .int 0]))) (g_up_up _ _ _ _) ?_
  refine rx_aload_n hE dX5_init_83 (i := 0) rfl rfl ?_
  refine rx_iconst hE dX5_init_84 (v := 0) (by decide) ?_
  refine rx_put hE dX5_init_85 fl_X5_50_5 fw_5_11 (at_up (by decide) (by decide)) (fun _ => rfl) (fun _ => rfl) (Nat.le_of_ble_eq_true rfl) ?_
  refine rx_mem (M' := g_up (279, F) 260 (.inr (5, [.ref 261, .ref 268, .ref 275, .ref 276, .ref 277, .ref 278, .int 0, .int 0, .int 0, .int 0, .int 0, .int 0]))) (g_up_up _ _ _ _) ?_
  exact rx_vret hE hQ rfl dX5_init_88 ⟨rfl, up_F (hF 0 (by decide))⟩
set_option maxRecDepth 100000 in
set_option maxHeartbeats 1000000 in
theorem c_X1_init {F : Nat → va_E} {q : Nat} (h16 : 16 ≤ q) (hF0 : F q = .inr (1, [.ref (q + 1), .ref (q + 11), .ref (q + 21), .int 0, .int (-1), .int 0])) (hF1 : ∀ k, k < 10 → F (q + 1 + k) = jc (q + 1) jini k) (hF2 : ∀ k, k < 10 → F (q + 11 + k) = jc (q + 11) jini k) (hF3 : ∀ k, k < 4 → F (q + 21 + k) = xc_n (q + 21) (fun _ _ => 0) k) : SX 2 24 184 mX1_init [.ref q] (g_up ((q + 1), F) q (.inr (1, [.null, .null, .null, .int 0, .int 0, .int 0]))) (fun v M' => v = none ∧ M' = (q + 25, F)) := by
  refine SX.intro [some (.ref q)] (by decide +kernel) (Nat.le_of_ble_eq_true rfl) rfl (fun E hE hQ => ?_)
  refine rx_aload_n hE dX1_init_0 (i := 0) rfl rfl ?_
  refine rx_objInit hE dX1_init_1 oi_X1_3 rfl (by decide) (Nat.le_of_ble_eq_true rfl) ?_
  refine rx_aload_n hE dX1_init_4 (i := 0) rfl rfl ?_
  refine ru_new (n := (q + 1)) hE dX1_init_5 nc_X1_9 (fun _ => rfl) ?_
  refine rx_dup hE dX1_init_8 rfl ?_
  refine rx_callIN (av := []) (a' := 9) (b' := 60) hE dX1_init_9 lk_X1_11 (c_X2_init (F := (g_w F q (.inr (1, [.null, .null, .null, .int 0, .int 0, .int 0])))) (q := (q + 1)) (by omega) (fun k hk => (gw_ne (by omega)).trans (hF1 k hk))) np_X2_init rfl rfl (by decide) (Nat.le_of_ble_eq_true rfl) rfl ?_
  rintro v M' ⟨rfl, rfl⟩
  refine rx_mem (M' := g_up ((q + 11), F) q (.inr (1, [.null, .null, .null, .int 0, .int 0, .int 0]))) rfl ?_
  refine rx_putF hE dX1_init_12 fl_X1_12_1 fw_1_0 fo_1_0 rfl (at_up h16 (by omega)) (fun _ => rfl) (fun _ => rfl) (Nat.le_of_ble_eq_true rfl) ?_
  refine rx_mem (M' := g_up ((q + 11), F) q (.inr (1, [.ref (q + 1), .null, .null, .int 0, .int 0, .int 0]))) (g_up_up _ _ _ _) ?_
  refine rx_aload_n hE dX1_init_15 (i := 0) rfl rfl ?_
  refine ru_new (n := (q + 11)) hE dX1_init_16 nc_X1_9 (fun _ => rfl) ?_
  refine rx_dup hE dX1_init_19 rfl ?_
  refine rx_callIN (av := []) (a' := 9) (b' := 60) hE dX1_init_20 lk_X1_11 (c_X2_init (F := (g_w F q (.inr (1, [.ref (q + 1), .null, .null, .int 0, .int 0, .int 0])))) (q := (q + 11)) (by omega) (fun k hk => (gw_ne (by omega)).trans (hF2 k hk))) np_X2_init rfl rfl (by decide) (Nat.le_of_ble_eq_true rfl) rfl ?_
  rintro v M' ⟨rfl, rfl⟩
  refine rx_mem (M' := g_up ((q + 21), F) q (.inr (1, [.ref (q + 1), .null, .null, .int 0, .int 0, .int 0]))) rfl ?_
  refine rx_putF hE dX1_init_23 fl_X1_18_1 fw_1_1 fo_1_1 rfl (at_up h16 (by omega)) (fun _ => rfl) (fun _ => rfl) (Nat.le_of_ble_eq_true rfl) ?_
  refine rx_mem (M' := g_up ((q + 21), F) q (.inr (1, [.ref (q + 1), .ref (q + 11), .null, .int 0, .int 0, .int 0]))) (g_up_up _ _ _ _) ?_
  refine rx_aload_n hE dX1_init_26 (i := 0) rfl rfl ?_
  refine ru_new (n := (q + 21)) hE dX1_init_27 nc_X1_21 (fun _ => rfl) ?_
  refine rx_dup hE dX1_init_30 rfl ?_
  refine rx_callIN (av := []) (a' := 3) (b' := 30) hE dX1_init_31 lk_X1_23 (c_X4_init (F := (g_w F q (.inr (1, [.ref (q + 1), .ref (q + 11), .null, .int 0, .int 0, .int 0])))) (q := (q + 21)) (by omega) (fun k hk => (gw_ne (by omega)).trans (hF3 k hk))) np_X4_init rfl rfl (by decide) (Nat.le_of_ble_eq_true rfl) rfl ?_
  rintro v M' ⟨rfl, rfl⟩
  refine rx_mem (M' := g_up ((q + 25), F) q (.inr (1, [.ref (q + 1), .ref (q + 11), .null, .int 0, .int 0, .int 0]))) rfl ?_
  refine rx_putF hE dX1_init_34 fl_X1_24_1 fw_1_2 fo_1_2 rfl (at_up h16 (by omega)) (fun _ => rfl) (fun _ => rfl) (Nat.le_of_ble_eq_true rfl) ?_
  refine rx_mem (M' := g_up ((q + 25), F) q (.inr (1, [.ref (q + 1), .ref (q + 11), .ref (q + 21), .int 0, .int 0, .int 0]))) (g_up_up _ _ _ _) ?_
  refine rx_aload_n hE dX1_init_37 (i := 0) rfl rfl ?_
  refine rx_iconst hE dX1_init_38 (v := 0) (by decide) ?_
  refine rx_put hE dX1_init_39 fl_X1_28_1 fw_1_3 (at_up h16 (by omega)) (fun _ => rfl) (fun _ => rfl) (Nat.le_of_ble_eq_true rfl) ?_
  refine rx_mem (M' := g_up ((q + 25), F) q (.inr (1, [.ref (q + 1), .ref (q + 11), .ref (q + 21), .int 0, .int 0, .int 0]))) (g_up_up _ _ _ _) ?_
  refine rx_aload_n hE dX1_init_42 (i := 0) rfl rfl ?_
  refine rx_iconst hE dX1_init_43 (v := -1) (by decide) ?_
  refine rx_put hE dX1_init_44 fl_X1_32_1 fw_1_4 (at_up h16 (by omega)) (fun _ => rfl) (fun _ => rfl) (Nat.le_of_ble_eq_true rfl) ?_
  refine rx_mem (M' := g_up ((q + 25), F) q (.inr (1, [.ref (q + 1), .ref (q + 11), .ref (q + 21), .int 0, .int (-1), .int 0]))) (g_up_up _ _ _ _) ?_
  refine rx_aload_n hE dX1_init_47 (i := 0) rfl rfl ?_
  refine rx_iconst hE dX1_init_48 (v := 0) (by decide) ?_
  refine rx_put hE dX1_init_49 fl_X1_36_1 fw_1_5 (at_up h16 (by omega)) (fun _ => rfl) (fun _ => rfl) (Nat.le_of_ble_eq_true rfl) ?_
  refine rx_mem (M' := g_up ((q + 25), F) q (.inr (1, [.ref (q + 1), .ref (q + 11), .ref (q + 21), .int 0, .int (-1), .int 0]))) (g_up_up _ _ _ _) ?_
  exact rx_vret hE hQ rfl dX1_init_52 ⟨rfl, up_F hF0⟩
theorem at_ne {F : Nat → va_E} {n q k : Nat} {e c : va_E} (h : F k = c) (h16 : 16 ≤ k) (hk : k < n) (hq : k ≠ q) : g_at (g_up (n, F) q e) k c := ⟨h16, hk, (if_neg hq).trans h⟩
def qrow (a s i : Nat) : Nat → Option Nat := fun j => if j < i then some (a + s * j) else none
theorem qrow_0 (a s : Nat) : qrow a s 0 = fun _ => none := funext fun j => if_neg (Nat.not_lt_zero j)
theorem qrow_s (a s i : Nat) : va_up (qrow a s i) i (some (a + s * i)) = qrow a s (i + 1) := by
  funext j
  unfold va_up qrow
  by_cases h : j = i
  · rw [if_pos h, if_pos (by omega), h]
  · rw [if_neg h]
    by_cases h2 : j < i
    · rw [if_pos h2, if_pos (by omega)]
    · rw [if_neg h2, if_neg (by omega)]
set_option maxRecDepth 100000 in
set_option maxHeartbeats 1000000 in
theorem c_X0_init {F : Nat → va_E} (hF0 : F 53 = .inr (0, [.ref 54, .int 0, .int 0])) (hF1 : F 54 = gQ 5 20 (qrow 55 10 20)) (hJ : ∀ i, i < 20 → ∀ k, k < 10 → F (55 + 10 * i + k) = jc (55 + 10 * i) jini k) : SX 2 201 1520 mX0_init [.ref 53] (g_up (54, F) 53 (.inr (0, [.null, .int 0, .int 0]))) (fun v M' => v = none ∧ M' = (255, F)) := by
  refine SX.intro [some (.ref 53), none] (by decide +kernel) (Nat.le_of_ble_eq_true rfl) rfl (fun E hE hQ => ?_)
  have loop : ∀ (m i : Nat), i + m = 20 → RX E mX0_init.2.2.1 (10 * m) (75 * m) 25 [some (.ref 53), some (.int (nI i))] [] (g_up (55 + 10 * i, F) 54 (gQ 5 20 (qrow 55 10 i))) := by
    intro m
    induction m with
    | zero =>
      intro i hi
      refine rx_iload_n hE dX0_init_25 (i := 1) rfl rfl ?_
      refine rx_bipush hE dX0_init_26 (v := 20) (by decide) ?_
      refine rx_icmp_ge (tgt := 50) hE dX0_init_28 (by decide) (fun c28 => ?_) (fun c28 => absurd (nI_le (a := 20) (b := i) (by omega) (by omega)) c28)
      exact rx_vret hE hQ rfl dX0_init_50 ⟨rfl, by rw [show i = 20 by omega]; exact up_F hF1⟩
    | succ m ih =>
      intro i hi
      rw [show 10 * (m + 1) = 10 * m + 9 + 1 by omega, show 75 * (m + 1) = 75 * m + 60 + 15 by omega]
      refine rx_iload_n hE dX0_init_25 (i := 1) rfl rfl ?_
      refine rx_bipush hE dX0_init_26 (v := 20) (by decide) ?_
      refine rx_icmp_ge (tgt := 50) hE dX0_init_28 (by decide) (fun c28 => absurd c28 (nI_ge (a := i) (b := 20) (by omega) (by omega))) (fun c28 => ?_)
      refine rx_aload_n hE dX0_init_31 (i := 0) rfl rfl ?_
      refine rx_getf hE dX0_init_32 fl_X0_11_0 (at_ne hF0 (by decide) (by omega) (by decide)) rfl ?_
      refine rx_iload_n hE dX0_init_35 (i := 1) rfl rfl ?_
      refine ru_new (n := (55 + 10 * i)) hE dX0_init_36 nc_X0_9 (fun _ => rfl) ?_
      refine rx_dup hE dX0_init_39 rfl ?_
      refine rx_callIN (av := []) (a' := 9) (b' := 60) hE dX0_init_40 lk_X0_24 (c_X2_init (F := (g_w F 54 (gQ 5 20 (qrow 55 10 i)))) (q := (55 + 10 * i)) (by omega) (fun k hk => (gw_ne (by omega)).trans (hJ i (by omega) k hk))) np_X2_init rfl rfl (by decide) (Nat.le_of_ble_eq_true rfl) rfl ?_
      rintro v M' ⟨rfl, rfl⟩
      refine rx_mem (M' := g_up (55 + 10 * i + 10, F) 54 (gQ 5 20 (qrow 55 10 i))) rfl ?_
      refine rx_aast (t := 5) hE (by decide) rfl rfl dX0_init_43 (at_up (by decide) (by omega)) (at_ne (hJ i (by omega) 0 (by decide)) (by omega) (by omega) (by omega)) (vp_in_nI (by omega) (by decide)) ?_
      refine rx_mem (M' := g_up (55 + 10 * (i + 1), F) 54 (gQ 5 20 (qrow 55 10 (i + 1)))) (by rw [nI_clamp (by omega), g_up_up, qrow_s]; rfl) ?_
      refine rx_iinc_1 hE dX0_init_44 (v := 1) (by decide) (by decide) rfl ?_
      rw [nI_1]
      refine rx_goto (tgt := 25) hE dX0_init_47 (by decide) ?_
      exact ih (i + 1) (by omega)
  refine rx_aload_n hE dX0_init_0 (i := 0) rfl rfl ?_
  refine rx_objInit hE dX0_init_1 oi_X0_3 rfl (by decide) (Nat.le_of_ble_eq_true rfl) ?_
  refine rx_aload_n hE dX0_init_4 (i := 0) rfl rfl ?_
  refine rx_bipush hE dX0_init_5 (v := 20) (by decide) ?_
  refine ru_newq (n := 54) (t := 5) (N := 20) hE (by decide) rfl dX0_init_7 cl_X0_9 ao_X2 (by decide) (by decide) (by decide) (by omega) ?_
  refine rx_putF hE dX0_init_10 fl_X0_11_0 fw_0_0 fo_0_0 rfl (at_up (by decide) (by decide)) (fun _ => rfl) (fun _ => rfl) (Nat.le_of_ble_eq_true rfl) ?_
  refine rx_mem (M' := g_up (55, (g_w F 54 (gQ 5 20 (fun _ => none)))) 53 (.inr (0, [.ref 54, .int 0, .int 0]))) (g_up_up _ _ _ _) ?_
  refine rx_aload_n hE dX0_init_13 (i := 0) rfl rfl ?_
  refine rx_iconst hE dX0_init_14 (v := 0) (by decide) ?_
  refine rx_put hE dX0_init_15 fl_X0_17_0 fw_0_1 (at_up (by decide) (by decide)) (fun _ => rfl) (fun _ => rfl) (Nat.le_of_ble_eq_true rfl) ?_
  refine rx_mem (M' := g_up (55, (g_w F 54 (gQ 5 20 (fun _ => none)))) 53 (.inr (0, [.ref 54, .int 0, .int 0]))) (g_up_up _ _ _ _) ?_
  refine rx_aload_n hE dX0_init_18 (i := 0) rfl rfl ?_
  refine rx_iconst hE dX0_init_19 (v := 0) (by decide) ?_
  refine rx_put hE dX0_init_20 fl_X0_21_0 fw_0_2 (at_up (by decide) (by decide)) (fun _ => rfl) (fun _ => rfl) (Nat.le_of_ble_eq_true rfl) ?_
  refine rx_mem (M' := g_up (55, (g_w F 54 (gQ 5 20 (fun _ => none)))) 53 (.inr (0, [.ref 54, .int 0, .int 0]))) (g_up_up _ _ _ _) ?_
  refine rx_iconst hE dX0_init_23 (v := 0) (by decide) ?_
  refine rx_istore_n_1 hE dX0_init_24 (by decide) rfl ?_
  refine rx_mem (M' := g_up (55 + 10 * 0, F) 54 (gQ 5 20 (qrow 55 10 0))) ((up_F ((gw_ne (by decide)).trans hF0)).trans (by rw [qrow_0]; rfl)) ?_
  exact loop 20 0 rfl
set_option maxRecDepth 100000 in
set_option maxHeartbeats 1000000 in
theorem c_X10_init {F : Nat → va_E} (hO : F 16 = .inr (9, [.ref 17, .ref 19, .ref 29, .ref 39, .ref 49, .ref 50, .ref 52, .ref 53, .ref 255, .ref 259, .ref 260, .ref 279, .ref 280, .ref 281, .ref 282, .ref 283, .int 0, .int (-1), .int 0])) (hT0 : F 17 = .inr (8, [.ref 18, .int 0, .int 0, .int 0, .int 0, .int 0, .int 0])) (hT1 : F 18 = gB 400 (fun _ => 0)) (h19 : ∀ k, k < 10 → F (19 + k) = jc 19 jini k) (h29 : ∀ k, k < 10 → F (29 + k) = jc 29 jini k) (h39 : ∀ k, k < 10 → F (39 + k) = jc 39 jini k) (h49 : F 49 = .inr (3, [.ref 17, .ref 39])) (h50 : F 50 = .inr (7, [.ref 17, .ref 51, .int 0, .int 0])) (h51 : F 51 = gI 400 (fun _ => 0)) (h52 : F 52 = gQ 4 6 (fun _ => none)) (h53 : F 53 = .inr (0, [.ref 54, .int 0, .int 0])) (h54 : F 54 = gQ 5 20 (qrow 55 10 20)) (hH : ∀ i, i < 20 → ∀ k, k < 10 → F (55 + 10 * i + k) = jc (55 + 10 * i) jini k) (h255 : ∀ k, k < 4 → F (255 + k) = xc_n 255 (fun _ _ => 0) k) (h259 : F 259 = gQ 6 4 (qrow 284 25 4)) (hS : ∀ k, k < 19 → F (260 + k) = xc_s (fun _ _ => 0) k) (hA : ∀ k, k < 5 → F (279 + k) = xc_a (fun _ _ => 0) k) (hI0 : ∀ i, i < 4 → F (284 + 25 * i) = .inr (1, [.ref (284 + 25 * i + 1), .ref (284 + 25 * i + 11), .ref (284 + 25 * i + 21), .int 0, .int (-1), .int 0])) (hI1 : ∀ i, i < 4 → ∀ k, k < 10 → F (284 + 25 * i + 1 + k) = jc (284 + 25 * i + 1) jini k) (hI2 : ∀ i, i < 4 → ∀ k, k < 10 → F (284 + 25 * i + 11 + k) = jc (284 + 25 * i + 11) jini k) (hI3 : ∀ i, i < 4 → ∀ k, k < 4 → F (284 + 25 * i + 21 + k) = xc_n (284 + 25 * i + 21) (fun _ _ => 0) k) : SX 3 367 4083 mX10_init [.ref 16] (g_up (17, F) 16 (.inr (9, [.null, .null, .null, .null, .null, .null, .null, .null, .null, .null, .null, .null, .null, .null, .null, .null, .int 0, .int 0, .int 0]))) (fun v M' => v = none ∧ M' = (384, F)) := by
  refine SX.intro [some (.ref 16), none] (by decide +kernel) (Nat.le_of_ble_eq_true rfl) rfl (fun E hE hQ => ?_)
  have loop : ∀ (m i : Nat), i + m = 4 → RX E mX10_init.2.2.1 (25 * m) (190 * m) 204 [some (.ref 16), some (.int (nI i))] [] (g_up (284 + 25 * i, F) 259 (gQ 6 4 (qrow 284 25 i))) := by
    intro m
    induction m with
    | zero =>
      intro i hi
      refine rx_iload_n hE dX10_init_204 (i := 1) rfl rfl ?_
      refine rx_iconst hE dX10_init_205 (v := 4) (by decide) ?_
      refine rx_icmp_ge (tgt := 228) hE dX10_init_206 (by decide) (fun c206 => ?_) (fun c206 => absurd (nI_le (a := 4) (b := i) (by omega) (by omega)) c206)
      exact rx_vret hE hQ rfl dX10_init_228 ⟨rfl, by rw [show i = 4 by omega]; exact up_F h259⟩
    | succ m ih =>
      intro i hi
      rw [show 25 * (m + 1) = 25 * m + 24 + 1 by omega, show 190 * (m + 1) = 190 * m + 184 + 6 by omega]
      refine rx_iload_n hE dX10_init_204 (i := 1) rfl rfl ?_
      refine rx_iconst hE dX10_init_205 (v := 4) (by decide) ?_
      refine rx_icmp_ge (tgt := 228) hE dX10_init_206 (by decide) (fun c206 => absurd c206 (nI_ge (a := i) (b := 4) (by omega) (by omega))) (fun c206 => ?_)
      refine rx_aload_n hE dX10_init_209 (i := 0) rfl rfl ?_
      refine rx_getf hE dX10_init_210 fl_X10_69_9 (at_ne hO (by decide) (by omega) (by decide)) rfl ?_
      refine rx_iload_n hE dX10_init_213 (i := 1) rfl rfl ?_
      refine ru_new (n := (284 + 25 * i)) hE dX10_init_214 nc_X10_67 (fun _ => rfl) ?_
      refine rx_dup hE dX10_init_217 rfl ?_
      refine rx_callIN (av := []) (a' := 24) (b' := 184) hE dX10_init_218 lk_X10_109 (c_X1_init (F := (g_w F 259 (gQ 6 4 (qrow 284 25 i)))) (q := (284 + 25 * i)) (by omega) ((gw_ne (by omega)).trans (hI0 i (by omega))) (fun k hk => ((gw_ne (by omega)).trans (hI1 i (by omega) k hk))) (fun k hk => ((gw_ne (by omega)).trans (hI2 i (by omega) k hk))) (fun k hk => ((gw_ne (by omega)).trans (hI3 i (by omega) k hk)))) np_X1_init rfl rfl (by decide) (Nat.le_of_ble_eq_true rfl) rfl ?_
      rintro v M' ⟨rfl, rfl⟩
      refine rx_mem (M' := g_up (284 + 25 * i + 25, F) 259 (gQ 6 4 (qrow 284 25 i))) rfl ?_
      refine rx_aast (t := 6) hE (by decide) rfl rfl dX10_init_221 (at_up (by decide) (by omega)) (at_ne (hI0 i (by omega)) (by omega) (by omega) (by omega)) (vp_in_nI (by omega) (by decide)) ?_
      refine rx_mem (M' := g_up (284 + 25 * (i + 1), F) 259 (gQ 6 4 (qrow 284 25 (i + 1)))) (by rw [nI_clamp (by omega), g_up_up, qrow_s]; rfl) ?_
      refine rx_iinc_1 hE dX10_init_222 (v := 1) (by decide) (by decide) rfl ?_
      rw [nI_1]
      refine rx_goto (tgt := 204) hE dX10_init_225 (by decide) ?_
      exact ih (i + 1) (by omega)
  refine rx_aload_n hE dX10_init_0 (i := 0) rfl rfl ?_
  refine rx_objInit hE dX10_init_1 oi_X10_1 rfl (by decide) (Nat.le_of_ble_eq_true rfl) ?_
  refine rx_aload_n hE dX10_init_4 (i := 0) rfl rfl ?_
  refine ru_new (n := 17) hE dX10_init_5 nc_X10_7 (fun _ => rfl) ?_
  refine rx_dup hE dX10_init_8 rfl ?_
  refine rx_callIN (av := []) (a' := 1) (b' := 400) hE dX10_init_9 lk_X10_9 (c_X8_init (F := (g_w F 16 (.inr (9, [.null, .null, .null, .null, .null, .null, .null, .null, .null, .null, .null, .null, .null, .null, .null, .null, .int 0, .int 0, .int 0])))) (q := 17) (by decide) ((gw_ne (by omega)).trans hT0) ((gw_ne (by omega)).trans hT1)) np_X8_init rfl rfl (by decide) (Nat.le_of_ble_eq_true rfl) rfl ?_
  rintro v M' ⟨rfl, rfl⟩
  refine rx_mem (M' := g_up (19, F) 16 (.inr (9, [.null, .null, .null, .null, .null, .null, .null, .null, .null, .null, .null, .null, .null, .null, .null, .null, .int 0, .int 0, .int 0]))) rfl ?_
  refine rx_putF hE dX10_init_12 fl_X10_10_9 fw_9_0 fo_9_0 rfl (at_up (by decide) (by decide)) (fun _ => rfl) (fun _ => rfl) (Nat.le_of_ble_eq_true rfl) ?_
  refine rx_mem (M' := g_up (19, F) 16 (.inr (9, [.ref 17, .null, .null, .null, .null, .null, .null, .null, .null, .null, .null, .null, .null, .null, .null, .null, .int 0, .int 0, .int 0]))) (g_up_up _ _ _ _) ?_
  refine rx_aload_n hE dX10_init_15 (i := 0) rfl rfl ?_
  refine ru_new (n := 19) hE dX10_init_16 nc_X10_16 (fun _ => rfl) ?_
  refine rx_dup hE dX10_init_19 rfl ?_
  refine rx_callIN (av := []) (a' := 9) (b' := 60) hE dX10_init_20 lk_X10_18 (c_X2_init (F := (g_w F 16 (.inr (9, [.ref 17, .null, .null, .null, .null, .null, .null, .null, .null, .null, .null, .null, .null, .null, .null, .null, .int 0, .int 0, .int 0])))) (q := 19) (by decide) (fun k hk => ((gw_ne (by omega)).trans (h19 k hk)))) np_X2_init rfl rfl (by decide) (Nat.le_of_ble_eq_true rfl) rfl ?_
  rintro v M' ⟨rfl, rfl⟩
  refine rx_mem (M' := g_up (29, F) 16 (.inr (9, [.ref 17, .null, .null, .null, .null, .null, .null, .null, .null, .null, .null, .null, .null, .null, .null, .null, .int 0, .int 0, .int 0]))) rfl ?_
  refine rx_putF hE dX10_init_23 fl_X10_19_9 fw_9_1 fo_9_1 rfl (at_up (by decide) (by decide)) (fun _ => rfl) (fun _ => rfl) (Nat.le_of_ble_eq_true rfl) ?_
  refine rx_mem (M' := g_up (29, F) 16 (.inr (9, [.ref 17, .ref 19, .null, .null, .null, .null, .null, .null, .null, .null, .null, .null, .null, .null, .null, .null, .int 0, .int 0, .int 0]))) (g_up_up _ _ _ _) ?_
  refine rx_aload_n hE dX10_init_26 (i := 0) rfl rfl ?_
  refine ru_new (n := 29) hE dX10_init_27 nc_X10_16 (fun _ => rfl) ?_
  refine rx_dup hE dX10_init_30 rfl ?_
  refine rx_callIN (av := []) (a' := 9) (b' := 60) hE dX10_init_31 lk_X10_18 (c_X2_init (F := (g_w F 16 (.inr (9, [.ref 17, .ref 19, .null, .null, .null, .null, .null, .null, .null, .null, .null, .null, .null, .null, .null, .null, .int 0, .int 0, .int 0])))) (q := 29) (by decide) (fun k hk => ((gw_ne (by omega)).trans (h29 k hk)))) np_X2_init rfl rfl (by decide) (Nat.le_of_ble_eq_true rfl) rfl ?_
  rintro v M' ⟨rfl, rfl⟩
  refine rx_mem (M' := g_up (39, F) 16 (.inr (9, [.ref 17, .ref 19, .null, .null, .null, .null, .null, .null, .null, .null, .null, .null, .null, .null, .null, .null, .int 0, .int 0, .int 0]))) rfl ?_
  refine rx_putF hE dX10_init_34 fl_X10_23_9 fw_9_2 fo_9_2 rfl (at_up (by decide) (by decide)) (fun _ => rfl) (fun _ => rfl) (Nat.le_of_ble_eq_true rfl) ?_
  refine rx_mem (M' := g_up (39, F) 16 (.inr (9, [.ref 17, .ref 19, .ref 29, .null, .null, .null, .null, .null, .null, .null, .null, .null, .null, .null, .null, .null, .int 0, .int 0, .int 0]))) (g_up_up _ _ _ _) ?_
  refine rx_aload_n hE dX10_init_37 (i := 0) rfl rfl ?_
  refine ru_new (n := 39) hE dX10_init_38 nc_X10_16 (fun _ => rfl) ?_
  refine rx_dup hE dX10_init_41 rfl ?_
  refine rx_callIN (av := []) (a' := 9) (b' := 60) hE dX10_init_42 lk_X10_18 (c_X2_init (F := (g_w F 16 (.inr (9, [.ref 17, .ref 19, .ref 29, .null, .null, .null, .null, .null, .null, .null, .null, .null, .null, .null, .null, .null, .int 0, .int 0, .int 0])))) (q := 39) (by decide) (fun k hk => ((gw_ne (by omega)).trans (h39 k hk)))) np_X2_init rfl rfl (by decide) (Nat.le_of_ble_eq_true rfl) rfl ?_
  rintro v M' ⟨rfl, rfl⟩
  refine rx_mem (M' := g_up (49, F) 16 (.inr (9, [.ref 17, .ref 19, .ref 29, .null, .null, .null, .null, .null, .null, .null, .null, .null, .null, .null, .null, .null, .int 0, .int 0, .int 0]))) rfl ?_
  refine rx_putF hE dX10_init_45 fl_X10_26_9 fw_9_3 fo_9_3 rfl (at_up (by decide) (by decide)) (fun _ => rfl) (fun _ => rfl) (Nat.le_of_ble_eq_true rfl) ?_
  refine rx_mem (M' := g_up (49, F) 16 (.inr (9, [.ref 17, .ref 19, .ref 29, .ref 39, .null, .null, .null, .null, .null, .null, .null, .null, .null, .null, .null, .null, .int 0, .int 0, .int 0]))) (g_up_up _ _ _ _) ?_
  refine rx_aload_n hE dX10_init_48 (i := 0) rfl rfl ?_
  refine ru_new (n := 49) hE dX10_init_49 nc_X10_29 (fun _ => rfl) ?_
  refine rx_dup hE dX10_init_52 rfl ?_
  refine rx_aload_n hE dX10_init_53 (i := 0) rfl rfl ?_
  refine rx_getf hE dX10_init_54 fl_X10_10_9 (at_up (by decide) (by decide)) rfl ?_
  refine rx_aload_n hE dX10_init_57 (i := 0) rfl rfl ?_
  refine rx_getf hE dX10_init_58 fl_X10_26_9 (at_up (by decide) (by decide)) rfl ?_
  refine rx_callI (av := [.ref 17, .ref 39]) (a' := 0) (b' := 0) hE dX10_init_61 lk_X10_31 (c_X3_init (F := (g_w F 16 (.inr (9, [.ref 17, .ref 19, .ref 29, .ref 39, .null, .null, .null, .null, .null, .null, .null, .null, .null, .null, .null, .null, .int 0, .int 0, .int 0])))) (q := 49) (by decide) ((gw_ne (by omega)).trans h49)) np_X3_init rfl rfl (by decide) (Nat.le_of_ble_eq_true rfl) rfl ?_
  rintro v M' ⟨rfl, rfl⟩
  refine rx_mem (M' := g_up (50, F) 16 (.inr (9, [.ref 17, .ref 19, .ref 29, .ref 39, .null, .null, .null, .null, .null, .null, .null, .null, .null, .null, .null, .null, .int 0, .int 0, .int 0]))) rfl ?_
  refine rx_putF hE dX10_init_64 fl_X10_34_9 fw_9_4 fo_9_4 rfl (at_up (by decide) (by decide)) (fun _ => rfl) (fun _ => rfl) (Nat.le_of_ble_eq_true rfl) ?_
  refine rx_mem (M' := g_up (50, F) 16 (.inr (9, [.ref 17, .ref 19, .ref 29, .ref 39, .ref 49, .null, .null, .null, .null, .null, .null, .null, .null, .null, .null, .null, .int 0, .int 0, .int 0]))) (g_up_up _ _ _ _) ?_
  refine rx_aload_n hE dX10_init_67 (i := 0) rfl rfl ?_
  refine ru_new (n := 50) hE dX10_init_68 nc_X10_38 (fun _ => rfl) ?_
  refine rx_dup hE dX10_init_71 rfl ?_
  refine rx_aload_n hE dX10_init_72 (i := 0) rfl rfl ?_
  refine rx_getf hE dX10_init_73 fl_X10_10_9 (at_up (by decide) (by decide)) rfl ?_
  refine rx_callI (av := [.ref 17]) (a' := 1) (b' := 400) hE dX10_init_76 lk_X10_40 (c_X7_init (F := (g_w F 16 (.inr (9, [.ref 17, .ref 19, .ref 29, .ref 39, .ref 49, .null, .null, .null, .null, .null, .null, .null, .null, .null, .null, .null, .int 0, .int 0, .int 0])))) (q := 50) (by decide) ((gw_ne (by omega)).trans h50) ((gw_ne (by omega)).trans h51)) np_X7_init rfl rfl (by decide) (Nat.le_of_ble_eq_true rfl) rfl ?_
  rintro v M' ⟨rfl, rfl⟩
  refine rx_mem (M' := g_up (52, F) 16 (.inr (9, [.ref 17, .ref 19, .ref 29, .ref 39, .ref 49, .null, .null, .null, .null, .null, .null, .null, .null, .null, .null, .null, .int 0, .int 0, .int 0]))) rfl ?_
  refine rx_putF hE dX10_init_79 fl_X10_43_9 fw_9_5 fo_9_5 rfl (at_up (by decide) (by decide)) (fun _ => rfl) (fun _ => rfl) (Nat.le_of_ble_eq_true rfl) ?_
  refine rx_mem (M' := g_up (52, F) 16 (.inr (9, [.ref 17, .ref 19, .ref 29, .ref 39, .ref 49, .ref 50, .null, .null, .null, .null, .null, .null, .null, .null, .null, .null, .int 0, .int 0, .int 0]))) (g_up_up _ _ _ _) ?_
  refine rx_aload_n hE dX10_init_82 (i := 0) rfl rfl ?_
  refine rx_bipush hE dX10_init_83 (v := 6) (by decide) ?_
  refine ru_newq (n := 52) (t := 4) (N := 6) hE (by decide) rfl dX10_init_85 cl_X10_47 ao_X6 (by decide) (by decide) (by decide) (by omega) ?_
  rw [gw_id h52]
  refine rx_putF hE dX10_init_88 fl_X10_49_9 fw_9_6 fo_9_6 rfl (at_up (by decide) (by decide)) (fun _ => rfl) (fun _ => rfl) (Nat.le_of_ble_eq_true rfl) ?_
  refine rx_mem (M' := g_up (53, F) 16 (.inr (9, [.ref 17, .ref 19, .ref 29, .ref 39, .ref 49, .ref 50, .ref 52, .null, .null, .null, .null, .null, .null, .null, .null, .null, .int 0, .int 0, .int 0]))) (g_up_up _ _ _ _) ?_
  refine rx_aload_n hE dX10_init_91 (i := 0) rfl rfl ?_
  refine ru_new (n := 53) hE dX10_init_92 nc_X10_53 (fun _ => rfl) ?_
  refine rx_dup hE dX10_init_95 rfl ?_
  refine rx_callI (av := []) (a' := 201) (b' := 1520) hE dX10_init_96 lk_X10_55 (c_X0_init (F := (g_w F 16 (.inr (9, [.ref 17, .ref 19, .ref 29, .ref 39, .ref 49, .ref 50, .ref 52, .null, .null, .null, .null, .null, .null, .null, .null, .null, .int 0, .int 0, .int 0])))) ((gw_ne (by omega)).trans h53) ((gw_ne (by omega)).trans h54) (fun i hi k hk => ((gw_ne (by omega)).trans (hH i hi k hk)))) np_X0_init rfl rfl (by decide) (Nat.le_of_ble_eq_true rfl) rfl ?_
  rintro v M' ⟨rfl, rfl⟩
  refine rx_mem (M' := g_up (255, F) 16 (.inr (9, [.ref 17, .ref 19, .ref 29, .ref 39, .ref 49, .ref 50, .ref 52, .null, .null, .null, .null, .null, .null, .null, .null, .null, .int 0, .int 0, .int 0]))) rfl ?_
  refine rx_putF hE dX10_init_99 fl_X10_56_9 fw_9_7 fo_9_7 rfl (at_up (by decide) (by decide)) (fun _ => rfl) (fun _ => rfl) (Nat.le_of_ble_eq_true rfl) ?_
  refine rx_mem (M' := g_up (255, F) 16 (.inr (9, [.ref 17, .ref 19, .ref 29, .ref 39, .ref 49, .ref 50, .ref 52, .ref 53, .null, .null, .null, .null, .null, .null, .null, .null, .int 0, .int 0, .int 0]))) (g_up_up _ _ _ _) ?_
  refine rx_aload_n hE dX10_init_102 (i := 0) rfl rfl ?_
  refine ru_new (n := 255) hE dX10_init_103 nc_X10_60 (fun _ => rfl) ?_
  refine rx_dup hE dX10_init_106 rfl ?_
  refine rx_callIN (av := []) (a' := 3) (b' := 30) hE dX10_init_107 lk_X10_62 (c_X4_init (F := (g_w F 16 (.inr (9, [.ref 17, .ref 19, .ref 29, .ref 39, .ref 49, .ref 50, .ref 52, .ref 53, .null, .null, .null, .null, .null, .null, .null, .null, .int 0, .int 0, .int 0])))) (q := 255) (by decide) (fun k hk => ((gw_ne (by omega)).trans (h255 k hk)))) np_X4_init rfl rfl (by decide) (Nat.le_of_ble_eq_true rfl) rfl ?_
  rintro v M' ⟨rfl, rfl⟩
  refine rx_mem (M' := g_up (259, F) 16 (.inr (9, [.ref 17, .ref 19, .ref 29, .ref 39, .ref 49, .ref 50, .ref 52, .ref 53, .null, .null, .null, .null, .null, .null, .null, .null, .int 0, .int 0, .int 0]))) rfl ?_
  refine rx_putF hE dX10_init_110 fl_X10_63_9 fw_9_8 fo_9_8 rfl (at_up (by decide) (by decide)) (fun _ => rfl) (fun _ => rfl) (Nat.le_of_ble_eq_true rfl) ?_
  refine rx_mem (M' := g_up (259, F) 16 (.inr (9, [.ref 17, .ref 19, .ref 29, .ref 39, .ref 49, .ref 50, .ref 52, .ref 53, .ref 255, .null, .null, .null, .null, .null, .null, .null, .int 0, .int 0, .int 0]))) (g_up_up _ _ _ _) ?_
  refine rx_aload_n hE dX10_init_113 (i := 0) rfl rfl ?_
  refine rx_iconst hE dX10_init_114 (v := 4) (by decide) ?_
  refine ru_newq (n := 259) (t := 6) (N := 4) hE (by decide) rfl dX10_init_115 cl_X10_67 ao_X1 (by decide) (by decide) (by decide) (by omega) ?_
  refine rx_putF hE dX10_init_118 fl_X10_69_9 fw_9_9 fo_9_9 rfl (at_up (by decide) (by decide)) (fun _ => rfl) (fun _ => rfl) (Nat.le_of_ble_eq_true rfl) ?_
  refine rx_mem (M' := g_up (260, (g_w F 259 (gQ 6 4 (fun _ => none)))) 16 (.inr (9, [.ref 17, .ref 19, .ref 29, .ref 39, .ref 49, .ref 50, .ref 52, .ref 53, .ref 255, .ref 259, .null, .null, .null, .null, .null, .null, .int 0, .int 0, .int 0]))) (g_up_up _ _ _ _) ?_
  refine rx_aload_n hE dX10_init_121 (i := 0) rfl rfl ?_
  refine ru_new (n := 260) hE dX10_init_122 nc_X10_73 (fun _ => rfl) ?_
  refine rx_dup hE dX10_init_125 rfl ?_
  refine rx_callIN (av := []) (a' := 18) (b' := 242) hE dX10_init_126 lk_X10_75 (c_X5_init (F := (g_w (g_w F 259 (gQ 6 4 (fun _ => none))) 16 (.inr (9, [.ref 17, .ref 19, .ref 29, .ref 39, .ref 49, .ref 50, .ref 52, .ref 53, .ref 255, .ref 259, .null, .null, .null, .null, .null, .null, .int 0, .int 0, .int 0])))) (fun k hk => ((gw_ne (by omega)).trans ((gw_ne (by omega)).trans (hS k hk))))) np_X5_init rfl rfl (by decide) (Nat.le_of_ble_eq_true rfl) rfl ?_
  rintro v M' ⟨rfl, rfl⟩
  refine rx_mem (M' := g_up (279, (g_w F 259 (gQ 6 4 (fun _ => none)))) 16 (.inr (9, [.ref 17, .ref 19, .ref 29, .ref 39, .ref 49, .ref 50, .ref 52, .ref 53, .ref 255, .ref 259, .null, .null, .null, .null, .null, .null, .int 0, .int 0, .int 0]))) rfl ?_
  refine rx_putF hE dX10_init_129 fl_X10_76_9 fw_9_10 fo_9_10 rfl (at_up (by decide) (by decide)) (fun _ => rfl) (fun _ => rfl) (Nat.le_of_ble_eq_true rfl) ?_
  refine rx_mem (M' := g_up (279, (g_w F 259 (gQ 6 4 (fun _ => none)))) 16 (.inr (9, [.ref 17, .ref 19, .ref 29, .ref 39, .ref 49, .ref 50, .ref 52, .ref 53, .ref 255, .ref 259, .ref 260, .null, .null, .null, .null, .null, .int 0, .int 0, .int 0]))) (g_up_up _ _ _ _) ?_
  refine rx_aload_n hE dX10_init_132 (i := 0) rfl rfl ?_
  refine rx_bipush hE dX10_init_133 (v := 6) (by decide) ?_
  refine ru_newi (n := 279) (N := 6) hE dX10_init_135 ak_int (by decide) (by decide) (by decide) ((gw_ne (by omega)).trans (hA 0 (by decide))) (by omega) ?_
  refine rx_putF hE dX10_init_137 fl_X10_80_9 fw_9_11 fo_9_11 rfl (at_up (by decide) (by decide)) (fun _ => rfl) (fun _ => rfl) (Nat.le_of_ble_eq_true rfl) ?_
  refine rx_mem (M' := g_up (280, (g_w F 259 (gQ 6 4 (fun _ => none)))) 16 (.inr (9, [.ref 17, .ref 19, .ref 29, .ref 39, .ref 49, .ref 50, .ref 52, .ref 53, .ref 255, .ref 259, .ref 260, .ref 279, .null, .null, .null, .null, .int 0, .int 0, .int 0]))) (g_up_up _ _ _ _) ?_
  refine rx_aload_n hE dX10_init_140 (i := 0) rfl rfl ?_
  refine rx_gets1 hE dX10_init_141 sl_X10_84 ?_
  refine rx_alen1 hE dX10_init_144 ?_
  refine rx_gets1 hE dX10_init_145 sl_X10_84 ?_
  refine rx_alen1 hE dX10_init_148 ?_
  refine rx_imul hE dX10_init_149 ?_
  refine rx_int _ 25 (by decide) ?_
  refine ru_newi (n := 280) (N := 25) hE dX10_init_150 ak_int (by decide) (by decide) (by decide) ((gw_ne (by omega)).trans (hA 1 (by decide))) (by omega) ?_
  refine rx_putF hE dX10_init_152 fl_X10_87_9 fw_9_12 fo_9_12 rfl (at_up (by decide) (by decide)) (fun _ => rfl) (fun _ => rfl) (Nat.le_of_ble_eq_true rfl) ?_
  refine rx_mem (M' := g_up (281, (g_w F 259 (gQ 6 4 (fun _ => none)))) 16 (.inr (9, [.ref 17, .ref 19, .ref 29, .ref 39, .ref 49, .ref 50, .ref 52, .ref 53, .ref 255, .ref 259, .ref 260, .ref 279, .ref 280, .null, .null, .null, .int 0, .int 0, .int 0]))) (g_up_up _ _ _ _) ?_
  refine rx_aload_n hE dX10_init_155 (i := 0) rfl rfl ?_
  refine rx_gets1 hE dX10_init_156 sl_X10_84 ?_
  refine rx_alen1 hE dX10_init_159 ?_
  refine rx_gets1 hE dX10_init_160 sl_X10_84 ?_
  refine rx_alen1 hE dX10_init_163 ?_
  refine rx_imul hE dX10_init_164 ?_
  refine rx_int _ 25 (by decide) ?_
  refine ru_newi (n := 281) (N := 25) hE dX10_init_165 ak_int (by decide) (by decide) (by decide) ((gw_ne (by omega)).trans (hA 2 (by decide))) (by omega) ?_
  refine rx_putF hE dX10_init_167 fl_X10_90_9 fw_9_13 fo_9_13 rfl (at_up (by decide) (by decide)) (fun _ => rfl) (fun _ => rfl) (Nat.le_of_ble_eq_true rfl) ?_
  refine rx_mem (M' := g_up (282, (g_w F 259 (gQ 6 4 (fun _ => none)))) 16 (.inr (9, [.ref 17, .ref 19, .ref 29, .ref 39, .ref 49, .ref 50, .ref 52, .ref 53, .ref 255, .ref 259, .ref 260, .ref 279, .ref 280, .ref 281, .null, .null, .int 0, .int 0, .int 0]))) (g_up_up _ _ _ _) ?_
  refine rx_aload_n hE dX10_init_170 (i := 0) rfl rfl ?_
  refine rx_sipush hE dX10_init_171 (v := 366) (by decide) ?_
  refine ru_newi (n := 282) (N := 366) hE dX10_init_174 ak_int (by decide) (by decide) (by decide) ((gw_ne (by omega)).trans (hA 3 (by decide))) (by omega) ?_
  refine rx_putF hE dX10_init_176 fl_X10_93_9 fw_9_14 fo_9_14 rfl (at_up (by decide) (by decide)) (fun _ => rfl) (fun _ => rfl) (Nat.le_of_ble_eq_true rfl) ?_
  refine rx_mem (M' := g_up (283, (g_w F 259 (gQ 6 4 (fun _ => none)))) 16 (.inr (9, [.ref 17, .ref 19, .ref 29, .ref 39, .ref 49, .ref 50, .ref 52, .ref 53, .ref 255, .ref 259, .ref 260, .ref 279, .ref 280, .ref 281, .ref 282, .null, .int 0, .int 0, .int 0]))) (g_up_up _ _ _ _) ?_
  refine rx_aload_n hE dX10_init_179 (i := 0) rfl rfl ?_
  refine rx_bipush hE dX10_init_180 (v := 42) (by decide) ?_
  refine ru_newi (n := 283) (N := 42) hE dX10_init_182 ak_int (by decide) (by decide) (by decide) ((gw_ne (by omega)).trans (hA 4 (by decide))) (by omega) ?_
  refine rx_putF hE dX10_init_184 fl_X10_96_9 fw_9_15 fo_9_15 rfl (at_up (by decide) (by decide)) (fun _ => rfl) (fun _ => rfl) (Nat.le_of_ble_eq_true rfl) ?_
  refine rx_mem (M' := g_up (284, (g_w F 259 (gQ 6 4 (fun _ => none)))) 16 (.inr (9, [.ref 17, .ref 19, .ref 29, .ref 39, .ref 49, .ref 50, .ref 52, .ref 53, .ref 255, .ref 259, .ref 260, .ref 279, .ref 280, .ref 281, .ref 282, .ref 283, .int 0, .int 0, .int 0]))) (g_up_up _ _ _ _) ?_
  refine rx_aload_n hE dX10_init_187 (i := 0) rfl rfl ?_
  refine rx_iconst hE dX10_init_188 (v := 0) (by decide) ?_
  refine rx_put hE dX10_init_189 fl_X10_99_9 fw_9_16 (at_up (by decide) (by decide)) (fun _ => rfl) (fun _ => rfl) (Nat.le_of_ble_eq_true rfl) ?_
  refine rx_mem (M' := g_up (284, (g_w F 259 (gQ 6 4 (fun _ => none)))) 16 (.inr (9, [.ref 17, .ref 19, .ref 29, .ref 39, .ref 49, .ref 50, .ref 52, .ref 53, .ref 255, .ref 259, .ref 260, .ref 279, .ref 280, .ref 281, .ref 282, .ref 283, .int 0, .int 0, .int 0]))) (g_up_up _ _ _ _) ?_
  refine rx_aload_n hE dX10_init_192 (i := 0) rfl rfl ?_
  refine rx_iconst hE dX10_init_193 (v := -1) (by decide) ?_
  refine rx_put hE dX10_init_194 fl_X10_103_9 fw_9_17 (at_up (by decide) (by decide)) (fun _ => rfl) (fun _ => rfl) (Nat.le_of_ble_eq_true rfl) ?_
  refine rx_mem (M' := g_up (284, (g_w F 259 (gQ 6 4 (fun _ => none)))) 16 (.inr (9, [.ref 17, .ref 19, .ref 29, .ref 39, .ref 49, .ref 50, .ref 52, .ref 53, .ref 255, .ref 259, .ref 260, .ref 279, .ref 280, .ref 281, .ref 282, .ref 283, .int 0, .int (-1), .int 0]))) (g_up_up _ _ _ _) ?_
  refine rx_aload_n hE dX10_init_197 (i := 0) rfl rfl ?_
  refine rx_iconst hE dX10_init_198 (v := 0) (by decide) ?_
  refine rx_put hE dX10_init_199 fl_X10_106_9 fw_9_18 (at_up (by decide) (by decide)) (fun _ => rfl) (fun _ => rfl) (Nat.le_of_ble_eq_true rfl) ?_
  refine rx_mem (M' := g_up (284, (g_w F 259 (gQ 6 4 (fun _ => none)))) 16 (.inr (9, [.ref 17, .ref 19, .ref 29, .ref 39, .ref 49, .ref 50, .ref 52, .ref 53, .ref 255, .ref 259, .ref 260, .ref 279, .ref 280, .ref 281, .ref 282, .ref 283, .int 0, .int (-1), .int 0]))) (g_up_up _ _ _ _) ?_
  refine rx_iconst hE dX10_init_202 (v := 0) (by decide) ?_
  refine rx_istore_n_1 hE dX10_init_203 (by decide) rfl ?_
  refine rx_mem (M' := g_up (284 + 25 * 0, F) 259 (gQ 6 4 (qrow 284 25 0))) ((up_F ((gw_ne (by decide)).trans hO)).trans (by rw [qrow_0]; rfl)) ?_
  exact loop 4 0 rfl
def kS0 : gS := fun k i => if k = 0 then (if i = 21 ∨ i = 23 ∨ i = 24 then -1 else 0) else 0
set_option maxRecDepth 100000 in
set_option maxHeartbeats 1000000 in
theorem c_X11_init {F : Nat → va_E} (hF : ∀ k, k < 24 → F (384 + k) = kc kS0 (fun _ _ => 0) k) : SX 1 23 5689 mX11_init [.ref 384] (g_up (385, F) 384 (.inr (10, [.null, .int 0, .int 0, .null, .null, .null, .null, .null, .int 0, .int 0, .int 0, .int 0, .int 0, .int 0, .int 0, .null, .int 0, .null, .int 0, .null, .null, .int 0, .int 0, .int 0, .int 0, .null, .null, .int 0, .null, .null, .null, .int 0, .int 0, .null, .null, .null, .null, .long 0, .null, .null, .null, .null]))) (fun v M' => v = none ∧ M' = (408, F)) := by
  refine SX.intro [some (.ref 384)] (by decide +kernel) (Nat.le_of_ble_eq_true rfl) rfl (fun E hE hQ => ?_)
  refine rx_aload_n hE dX11_init_0 (i := 0) rfl rfl ?_
  refine rx_objInit hE dX11_init_1 oi_X11_1 rfl (by decide) (Nat.le_of_ble_eq_true rfl) ?_
  refine rx_aload_n hE dX11_init_4 (i := 0) rfl rfl ?_
  refine rx_sipush hE dX11_init_5 (v := 400) (by decide) ?_
  refine ru_newb (n := 385) (N := 400) hE dX11_init_8 ak_byte (by decide) (by decide) (by decide) (hF 1 (by decide)) (by omega) ?_
  refine rx_putF hE dX11_init_10 fl_X11_7_10 fw_10_0 fo_10_0 rfl (at_up (by decide) (by decide)) (fun _ => rfl) (fun _ => rfl) (Nat.le_of_ble_eq_true rfl) ?_
  refine rx_mem (M' := g_up (386, F) 384 (.inr (10, [.ref 385, .int 0, .int 0, .null, .null, .null, .null, .null, .int 0, .int 0, .int 0, .int 0, .int 0, .int 0, .int 0, .null, .int 0, .null, .int 0, .null, .null, .int 0, .int 0, .int 0, .int 0, .null, .null, .int 0, .null, .null, .null, .int 0, .int 0, .null, .null, .null, .null, .long 0, .null, .null, .null, .null]))) (g_up_up _ _ _ _) ?_
  refine rx_aload_n hE dX11_init_13 (i := 0) rfl rfl ?_
  refine rx_sipush hE dX11_init_14 (v := 2400) (by decide) ?_
  refine ru_newi (n := 386) (N := 2400) hE dX11_init_17 ak_int (by decide) (by decide) (by decide) (hF 2 (by decide)) (by omega) ?_
  refine rx_putF hE dX11_init_19 fl_X11_13_10 fw_10_3 fo_10_3 rfl (at_up (by decide) (by decide)) (fun _ => rfl) (fun _ => rfl) (Nat.le_of_ble_eq_true rfl) ?_
  refine rx_mem (M' := g_up (387, F) 384 (.inr (10, [.ref 385, .int 0, .int 0, .ref 386, .null, .null, .null, .null, .int 0, .int 0, .int 0, .int 0, .int 0, .int 0, .int 0, .null, .int 0, .null, .int 0, .null, .null, .int 0, .int 0, .int 0, .int 0, .null, .null, .int 0, .null, .null, .null, .int 0, .int 0, .null, .null, .null, .null, .long 0, .null, .null, .null, .null]))) (g_up_up _ _ _ _) ?_
  refine rx_aload_n hE dX11_init_22 (i := 0) rfl rfl ?_
  refine rx_bipush hE dX11_init_23 (v := 7) (by decide) ?_
  refine ru_newi (n := 387) (N := 7) hE dX11_init_25 ak_int (by decide) (by decide) (by decide) (hF 3 (by decide)) (by omega) ?_
  refine rx_putF hE dX11_init_27 fl_X11_17_10 fw_10_4 fo_10_4 rfl (at_up (by decide) (by decide)) (fun _ => rfl) (fun _ => rfl) (Nat.le_of_ble_eq_true rfl) ?_
  refine rx_mem (M' := g_up (388, F) 384 (.inr (10, [.ref 385, .int 0, .int 0, .ref 386, .ref 387, .null, .null, .null, .int 0, .int 0, .int 0, .int 0, .int 0, .int 0, .int 0, .null, .int 0, .null, .int 0, .null, .null, .int 0, .int 0, .int 0, .int 0, .null, .null, .int 0, .null, .null, .null, .int 0, .int 0, .null, .null, .null, .null, .long 0, .null, .null, .null, .null]))) (g_up_up _ _ _ _) ?_
  refine rx_aload_n hE dX11_init_30 (i := 0) rfl rfl ?_
  refine rx_sipush hE dX11_init_31 (v := 288) (by decide) ?_
  refine ru_newi (n := 388) (N := 288) hE dX11_init_34 ak_int (by decide) (by decide) (by decide) (hF 4 (by decide)) (by omega) ?_
  refine rx_putF hE dX11_init_36 fl_X11_20_10 fw_10_5 fo_10_5 rfl (at_up (by decide) (by decide)) (fun _ => rfl) (fun _ => rfl) (Nat.le_of_ble_eq_true rfl) ?_
  refine rx_mem (M' := g_up (389, F) 384 (.inr (10, [.ref 385, .int 0, .int 0, .ref 386, .ref 387, .ref 388, .null, .null, .int 0, .int 0, .int 0, .int 0, .int 0, .int 0, .int 0, .null, .int 0, .null, .int 0, .null, .null, .int 0, .int 0, .int 0, .int 0, .null, .null, .int 0, .null, .null, .null, .int 0, .int 0, .null, .null, .null, .null, .long 0, .null, .null, .null, .null]))) (g_up_up _ _ _ _) ?_
  refine rx_aload_n hE dX11_init_39 (i := 0) rfl rfl ?_
  refine rx_bipush hE dX11_init_40 (v := 6) (by decide) ?_
  refine ru_newi (n := 389) (N := 6) hE dX11_init_42 ak_int (by decide) (by decide) (by decide) (hF 5 (by decide)) (by omega) ?_
  refine rx_putF hE dX11_init_44 fl_X11_23_10 fw_10_6 fo_10_6 rfl (at_up (by decide) (by decide)) (fun _ => rfl) (fun _ => rfl) (Nat.le_of_ble_eq_true rfl) ?_
  refine rx_mem (M' := g_up (390, F) 384 (.inr (10, [.ref 385, .int 0, .int 0, .ref 386, .ref 387, .ref 388, .ref 389, .null, .int 0, .int 0, .int 0, .int 0, .int 0, .int 0, .int 0, .null, .int 0, .null, .int 0, .null, .null, .int 0, .int 0, .int 0, .int 0, .null, .null, .int 0, .null, .null, .null, .int 0, .int 0, .null, .null, .null, .null, .long 0, .null, .null, .null, .null]))) (g_up_up _ _ _ _) ?_
  refine rx_aload_n hE dX11_init_47 (i := 0) rfl rfl ?_
  refine rx_bipush hE dX11_init_48 (v := 90) (by decide) ?_
  refine ru_newi (n := 390) (N := 90) hE dX11_init_50 ak_int (by decide) (by decide) (by decide) (hF 6 (by decide)) (by omega) ?_
  refine rx_putF hE dX11_init_52 fl_X11_26_10 fw_10_7 fo_10_7 rfl (at_up (by decide) (by decide)) (fun _ => rfl) (fun _ => rfl) (Nat.le_of_ble_eq_true rfl) ?_
  refine rx_mem (M' := g_up (391, F) 384 (.inr (10, [.ref 385, .int 0, .int 0, .ref 386, .ref 387, .ref 388, .ref 389, .ref 390, .int 0, .int 0, .int 0, .int 0, .int 0, .int 0, .int 0, .null, .int 0, .null, .int 0, .null, .null, .int 0, .int 0, .int 0, .int 0, .null, .null, .int 0, .null, .null, .null, .int 0, .int 0, .null, .null, .null, .null, .long 0, .null, .null, .null, .null]))) (g_up_up _ _ _ _) ?_
  refine rx_aload_n hE dX11_init_55 (i := 0) rfl rfl ?_
  refine rx_sipush hE dX11_init_56 (v := 400) (by decide) ?_
  refine ru_newi (n := 391) (N := 400) hE dX11_init_59 ak_int (by decide) (by decide) (by decide) (hF 7 (by decide)) (by omega) ?_
  refine rx_putF hE dX11_init_61 fl_X11_29_10 fw_10_15 fo_10_15 rfl (at_up (by decide) (by decide)) (fun _ => rfl) (fun _ => rfl) (Nat.le_of_ble_eq_true rfl) ?_
  refine rx_mem (M' := g_up (392, F) 384 (.inr (10, [.ref 385, .int 0, .int 0, .ref 386, .ref 387, .ref 388, .ref 389, .ref 390, .int 0, .int 0, .int 0, .int 0, .int 0, .int 0, .int 0, .ref 391, .int 0, .null, .int 0, .null, .null, .int 0, .int 0, .int 0, .int 0, .null, .null, .int 0, .null, .null, .null, .int 0, .int 0, .null, .null, .null, .null, .long 0, .null, .null, .null, .null]))) (g_up_up _ _ _ _) ?_
  refine rx_aload_n hE dX11_init_64 (i := 0) rfl rfl ?_
  refine rx_bipush hE dX11_init_65 (v := 64) (by decide) ?_
  refine ru_newl (n := 392) (N := 64) hE dX11_init_67 ak_long (by decide) (by decide) (by decide) (hF 8 (by decide)) (by omega) ?_
  refine rx_putF hE dX11_init_69 fl_X11_32_10 fw_10_17 fo_10_17 rfl (at_up (by decide) (by decide)) (fun _ => rfl) (fun _ => rfl) (Nat.le_of_ble_eq_true rfl) ?_
  refine rx_mem (M' := g_up (393, F) 384 (.inr (10, [.ref 385, .int 0, .int 0, .ref 386, .ref 387, .ref 388, .ref 389, .ref 390, .int 0, .int 0, .int 0, .int 0, .int 0, .int 0, .int 0, .ref 391, .int 0, .ref 392, .int 0, .null, .null, .int 0, .int 0, .int 0, .int 0, .null, .null, .int 0, .null, .null, .null, .int 0, .int 0, .null, .null, .null, .null, .long 0, .null, .null, .null, .null]))) (g_up_up _ _ _ _) ?_
  refine rx_aload_n hE dX11_init_72 (i := 0) rfl rfl ?_
  refine rx_bipush hE dX11_init_73 (v := 12) (by decide) ?_
  refine ru_newl (n := 393) (N := 12) hE dX11_init_75 ak_long (by decide) (by decide) (by decide) (hF 9 (by decide)) (by omega) ?_
  refine rx_putF hE dX11_init_77 fl_X11_36_10 fw_10_19 fo_10_19 rfl (at_up (by decide) (by decide)) (fun _ => rfl) (fun _ => rfl) (Nat.le_of_ble_eq_true rfl) ?_
  refine rx_mem (M' := g_up (394, F) 384 (.inr (10, [.ref 385, .int 0, .int 0, .ref 386, .ref 387, .ref 388, .ref 389, .ref 390, .int 0, .int 0, .int 0, .int 0, .int 0, .int 0, .int 0, .ref 391, .int 0, .ref 392, .int 0, .ref 393, .null, .int 0, .int 0, .int 0, .int 0, .null, .null, .int 0, .null, .null, .null, .int 0, .int 0, .null, .null, .null, .null, .long 0, .null, .null, .null, .null]))) (g_up_up _ _ _ _) ?_
  refine rx_aload_n hE dX11_init_80 (i := 0) rfl rfl ?_
  refine rx_bipush hE dX11_init_81 (v := 121) (by decide) ?_
  refine ru_newi (n := 394) (N := 121) hE dX11_init_83 ak_int (by decide) (by decide) (by decide) (hF 10 (by decide)) (by omega) ?_
  refine rx_putF hE dX11_init_85 fl_X11_39_10 fw_10_20 fo_10_20 rfl (at_up (by decide) (by decide)) (fun _ => rfl) (fun _ => rfl) (Nat.le_of_ble_eq_true rfl) ?_
  refine rx_mem (M' := g_up (395, F) 384 (.inr (10, [.ref 385, .int 0, .int 0, .ref 386, .ref 387, .ref 388, .ref 389, .ref 390, .int 0, .int 0, .int 0, .int 0, .int 0, .int 0, .int 0, .ref 391, .int 0, .ref 392, .int 0, .ref 393, .ref 394, .int 0, .int 0, .int 0, .int 0, .null, .null, .int 0, .null, .null, .null, .int 0, .int 0, .null, .null, .null, .null, .long 0, .null, .null, .null, .null]))) (g_up_up _ _ _ _) ?_
  refine rx_aload_n hE dX11_init_88 (i := 0) rfl rfl ?_
  refine rx_iconst hE dX11_init_89 (v := -1) (by decide) ?_
  refine rx_put hE dX11_init_90 fl_X11_42_10 fw_10_21 (at_up (by decide) (by decide)) (fun _ => rfl) (fun _ => rfl) (Nat.le_of_ble_eq_true rfl) ?_
  refine rx_mem (M' := g_up (395, F) 384 (.inr (10, [.ref 385, .int 0, .int 0, .ref 386, .ref 387, .ref 388, .ref 389, .ref 390, .int 0, .int 0, .int 0, .int 0, .int 0, .int 0, .int 0, .ref 391, .int 0, .ref 392, .int 0, .ref 393, .ref 394, .int (-1), .int 0, .int 0, .int 0, .null, .null, .int 0, .null, .null, .null, .int 0, .int 0, .null, .null, .null, .null, .long 0, .null, .null, .null, .null]))) (g_up_up _ _ _ _) ?_
  refine rx_aload_n hE dX11_init_93 (i := 0) rfl rfl ?_
  refine rx_iconst hE dX11_init_94 (v := -1) (by decide) ?_
  refine rx_put hE dX11_init_95 fl_X11_46_10 fw_10_23 (at_up (by decide) (by decide)) (fun _ => rfl) (fun _ => rfl) (Nat.le_of_ble_eq_true rfl) ?_
  refine rx_mem (M' := g_up (395, F) 384 (.inr (10, [.ref 385, .int 0, .int 0, .ref 386, .ref 387, .ref 388, .ref 389, .ref 390, .int 0, .int 0, .int 0, .int 0, .int 0, .int 0, .int 0, .ref 391, .int 0, .ref 392, .int 0, .ref 393, .ref 394, .int (-1), .int 0, .int (-1), .int 0, .null, .null, .int 0, .null, .null, .null, .int 0, .int 0, .null, .null, .null, .null, .long 0, .null, .null, .null, .null]))) (g_up_up _ _ _ _) ?_
  refine rx_aload_n hE dX11_init_98 (i := 0) rfl rfl ?_
  refine rx_iconst hE dX11_init_99 (v := -1) (by decide) ?_
  refine rx_put hE dX11_init_100 fl_X11_49_10 fw_10_24 (at_up (by decide) (by decide)) (fun _ => rfl) (fun _ => rfl) (Nat.le_of_ble_eq_true rfl) ?_
  refine rx_mem (M' := g_up (395, F) 384 (.inr (10, [.ref 385, .int 0, .int 0, .ref 386, .ref 387, .ref 388, .ref 389, .ref 390, .int 0, .int 0, .int 0, .int 0, .int 0, .int 0, .int 0, .ref 391, .int 0, .ref 392, .int 0, .ref 393, .ref 394, .int (-1), .int 0, .int (-1), .int (-1), .null, .null, .int 0, .null, .null, .null, .int 0, .int 0, .null, .null, .null, .null, .long 0, .null, .null, .null, .null]))) (g_up_up _ _ _ _) ?_
  refine rx_aload_n hE dX11_init_103 (i := 0) rfl rfl ?_
  refine rx_bipush hE dX11_init_104 (v := 6) (by decide) ?_
  refine ru_newi (n := 395) (N := 6) hE dX11_init_106 ak_int (by decide) (by decide) (by decide) (hF 11 (by decide)) (by omega) ?_
  refine rx_putF hE dX11_init_108 fl_X11_52_10 fw_10_25 fo_10_25 rfl (at_up (by decide) (by decide)) (fun _ => rfl) (fun _ => rfl) (Nat.le_of_ble_eq_true rfl) ?_
  refine rx_mem (M' := g_up (396, F) 384 (.inr (10, [.ref 385, .int 0, .int 0, .ref 386, .ref 387, .ref 388, .ref 389, .ref 390, .int 0, .int 0, .int 0, .int 0, .int 0, .int 0, .int 0, .ref 391, .int 0, .ref 392, .int 0, .ref 393, .ref 394, .int (-1), .int 0, .int (-1), .int (-1), .ref 395, .null, .int 0, .null, .null, .null, .int 0, .int 0, .null, .null, .null, .null, .long 0, .null, .null, .null, .null]))) (g_up_up _ _ _ _) ?_
  refine rx_aload_n hE dX11_init_111 (i := 0) rfl rfl ?_
  refine rx_sipush hE dX11_init_112 (v := 880) (by decide) ?_
  refine ru_newi (n := 396) (N := 880) hE dX11_init_115 ak_int (by decide) (by decide) (by decide) (hF 12 (by decide)) (by omega) ?_
  refine rx_putF hE dX11_init_117 fl_X11_55_10 fw_10_26 fo_10_26 rfl (at_up (by decide) (by decide)) (fun _ => rfl) (fun _ => rfl) (Nat.le_of_ble_eq_true rfl) ?_
  refine rx_mem (M' := g_up (397, F) 384 (.inr (10, [.ref 385, .int 0, .int 0, .ref 386, .ref 387, .ref 388, .ref 389, .ref 390, .int 0, .int 0, .int 0, .int 0, .int 0, .int 0, .int 0, .ref 391, .int 0, .ref 392, .int 0, .ref 393, .ref 394, .int (-1), .int 0, .int (-1), .int (-1), .ref 395, .ref 396, .int 0, .null, .null, .null, .int 0, .int 0, .null, .null, .null, .null, .long 0, .null, .null, .null, .null]))) (g_up_up _ _ _ _) ?_
  refine rx_aload_n hE dX11_init_120 (i := 0) rfl rfl ?_
  refine rx_bipush hE dX11_init_121 (v := 44) (by decide) ?_
  refine ru_newi (n := 397) (N := 44) hE dX11_init_123 ak_int (by decide) (by decide) (by decide) (hF 13 (by decide)) (by omega) ?_
  refine rx_putF hE dX11_init_125 fl_X11_58_10 fw_10_28 fo_10_28 rfl (at_up (by decide) (by decide)) (fun _ => rfl) (fun _ => rfl) (Nat.le_of_ble_eq_true rfl) ?_
  refine rx_mem (M' := g_up (398, F) 384 (.inr (10, [.ref 385, .int 0, .int 0, .ref 386, .ref 387, .ref 388, .ref 389, .ref 390, .int 0, .int 0, .int 0, .int 0, .int 0, .int 0, .int 0, .ref 391, .int 0, .ref 392, .int 0, .ref 393, .ref 394, .int (-1), .int 0, .int (-1), .int (-1), .ref 395, .ref 396, .int 0, .ref 397, .null, .null, .int 0, .int 0, .null, .null, .null, .null, .long 0, .null, .null, .null, .null]))) (g_up_up _ _ _ _) ?_
  refine rx_aload_n hE dX11_init_128 (i := 0) rfl rfl ?_
  refine rx_bipush hE dX11_init_129 (v := 7) (by decide) ?_
  refine ru_newi (n := 398) (N := 7) hE dX11_init_131 ak_int (by decide) (by decide) (by decide) (hF 14 (by decide)) (by omega) ?_
  refine rx_putF hE dX11_init_133 fl_X11_61_10 fw_10_29 fo_10_29 rfl (at_up (by decide) (by decide)) (fun _ => rfl) (fun _ => rfl) (Nat.le_of_ble_eq_true rfl) ?_
  refine rx_mem (M' := g_up (399, F) 384 (.inr (10, [.ref 385, .int 0, .int 0, .ref 386, .ref 387, .ref 388, .ref 389, .ref 390, .int 0, .int 0, .int 0, .int 0, .int 0, .int 0, .int 0, .ref 391, .int 0, .ref 392, .int 0, .ref 393, .ref 394, .int (-1), .int 0, .int (-1), .int (-1), .ref 395, .ref 396, .int 0, .ref 397, .ref 398, .null, .int 0, .int 0, .null, .null, .null, .null, .long 0, .null, .null, .null, .null]))) (g_up_up _ _ _ _) ?_
  refine rx_aload_n hE dX11_init_136 (i := 0) rfl rfl ?_
  refine rx_iconst hE dX11_init_137 (v := 3) (by decide) ?_
  refine ru_newi (n := 399) (N := 3) hE dX11_init_138 ak_int (by decide) (by decide) (by decide) (hF 15 (by decide)) (by omega) ?_
  refine rx_putF hE dX11_init_140 fl_X11_64_10 fw_10_30 fo_10_30 rfl (at_up (by decide) (by decide)) (fun _ => rfl) (fun _ => rfl) (Nat.le_of_ble_eq_true rfl) ?_
  refine rx_mem (M' := g_up (400, F) 384 (.inr (10, [.ref 385, .int 0, .int 0, .ref 386, .ref 387, .ref 388, .ref 389, .ref 390, .int 0, .int 0, .int 0, .int 0, .int 0, .int 0, .int 0, .ref 391, .int 0, .ref 392, .int 0, .ref 393, .ref 394, .int (-1), .int 0, .int (-1), .int (-1), .ref 395, .ref 396, .int 0, .ref 397, .ref 398, .ref 399, .int 0, .int 0, .null, .null, .null, .null, .long 0, .null, .null, .null, .null]))) (g_up_up _ _ _ _) ?_
  refine rx_aload_n hE dX11_init_143 (i := 0) rfl rfl ?_
  refine rx_bipush hE dX11_init_144 (v := 50) (by decide) ?_
  refine ru_newi (n := 400) (N := 50) hE dX11_init_146 ak_int (by decide) (by decide) (by decide) (hF 16 (by decide)) (by omega) ?_
  refine rx_putF hE dX11_init_148 fl_X11_67_10 fw_10_33 fo_10_33 rfl (at_up (by decide) (by decide)) (fun _ => rfl) (fun _ => rfl) (Nat.le_of_ble_eq_true rfl) ?_
  refine rx_mem (M' := g_up (401, F) 384 (.inr (10, [.ref 385, .int 0, .int 0, .ref 386, .ref 387, .ref 388, .ref 389, .ref 390, .int 0, .int 0, .int 0, .int 0, .int 0, .int 0, .int 0, .ref 391, .int 0, .ref 392, .int 0, .ref 393, .ref 394, .int (-1), .int 0, .int (-1), .int (-1), .ref 395, .ref 396, .int 0, .ref 397, .ref 398, .ref 399, .int 0, .int 0, .ref 400, .null, .null, .null, .long 0, .null, .null, .null, .null]))) (g_up_up _ _ _ _) ?_
  refine rx_aload_n hE dX11_init_151 (i := 0) rfl rfl ?_
  refine rx_sipush hE dX11_init_152 (v := 366) (by decide) ?_
  refine ru_newi (n := 401) (N := 366) hE dX11_init_155 ak_int (by decide) (by decide) (by decide) (hF 17 (by decide)) (by omega) ?_
  refine rx_putF hE dX11_init_157 fl_X11_70_10 fw_10_34 fo_10_34 rfl (at_up (by decide) (by decide)) (fun _ => rfl) (fun _ => rfl) (Nat.le_of_ble_eq_true rfl) ?_
  refine rx_mem (M' := g_up (402, F) 384 (.inr (10, [.ref 385, .int 0, .int 0, .ref 386, .ref 387, .ref 388, .ref 389, .ref 390, .int 0, .int 0, .int 0, .int 0, .int 0, .int 0, .int 0, .ref 391, .int 0, .ref 392, .int 0, .ref 393, .ref 394, .int (-1), .int 0, .int (-1), .int (-1), .ref 395, .ref 396, .int 0, .ref 397, .ref 398, .ref 399, .int 0, .int 0, .ref 400, .ref 401, .null, .null, .long 0, .null, .null, .null, .null]))) (g_up_up _ _ _ _) ?_
  refine rx_aload_n hE dX11_init_160 (i := 0) rfl rfl ?_
  refine rx_bipush hE dX11_init_161 (v := 7) (by decide) ?_
  refine ru_newz (n := 402) (N := 7) hE dX11_init_163 ak_boolean (by decide) (by decide) (by decide) (hF 18 (by decide)) (by omega) ?_
  refine rx_putF hE dX11_init_165 fl_X11_73_10 fw_10_35 fo_10_35 rfl (at_up (by decide) (by decide)) (fun _ => rfl) (fun _ => rfl) (Nat.le_of_ble_eq_true rfl) ?_
  refine rx_mem (M' := g_up (403, F) 384 (.inr (10, [.ref 385, .int 0, .int 0, .ref 386, .ref 387, .ref 388, .ref 389, .ref 390, .int 0, .int 0, .int 0, .int 0, .int 0, .int 0, .int 0, .ref 391, .int 0, .ref 392, .int 0, .ref 393, .ref 394, .int (-1), .int 0, .int (-1), .int (-1), .ref 395, .ref 396, .int 0, .ref 397, .ref 398, .ref 399, .int 0, .int 0, .ref 400, .ref 401, .ref 402, .null, .long 0, .null, .null, .null, .null]))) (g_up_up _ _ _ _) ?_
  refine rx_aload_n hE dX11_init_168 (i := 0) rfl rfl ?_
  refine rx_bipush hE dX11_init_169 (v := 42) (by decide) ?_
  refine ru_newi (n := 403) (N := 42) hE dX11_init_171 ak_int (by decide) (by decide) (by decide) (hF 19 (by decide)) (by omega) ?_
  refine rx_putF hE dX11_init_173 fl_X11_77_10 fw_10_36 fo_10_36 rfl (at_up (by decide) (by decide)) (fun _ => rfl) (fun _ => rfl) (Nat.le_of_ble_eq_true rfl) ?_
  refine rx_mem (M' := g_up (404, F) 384 (.inr (10, [.ref 385, .int 0, .int 0, .ref 386, .ref 387, .ref 388, .ref 389, .ref 390, .int 0, .int 0, .int 0, .int 0, .int 0, .int 0, .int 0, .ref 391, .int 0, .ref 392, .int 0, .ref 393, .ref 394, .int (-1), .int 0, .int (-1), .int (-1), .ref 395, .ref 396, .int 0, .ref 397, .ref 398, .ref 399, .int 0, .int 0, .ref 400, .ref 401, .ref 402, .ref 403, .long 0, .null, .null, .null, .null]))) (g_up_up _ _ _ _) ?_
  refine rx_aload_n hE dX11_init_176 (i := 0) rfl rfl ?_
  refine rx_sipush hE dX11_init_177 (v := 484) (by decide) ?_
  refine ru_newi (n := 404) (N := 484) hE dX11_init_180 ak_int (by decide) (by decide) (by decide) (hF 20 (by decide)) (by omega) ?_
  refine rx_putF hE dX11_init_182 fl_X11_80_10 fw_10_38 fo_10_38 rfl (at_up (by decide) (by decide)) (fun _ => rfl) (fun _ => rfl) (Nat.le_of_ble_eq_true rfl) ?_
  refine rx_mem (M' := g_up (405, F) 384 (.inr (10, [.ref 385, .int 0, .int 0, .ref 386, .ref 387, .ref 388, .ref 389, .ref 390, .int 0, .int 0, .int 0, .int 0, .int 0, .int 0, .int 0, .ref 391, .int 0, .ref 392, .int 0, .ref 393, .ref 394, .int (-1), .int 0, .int (-1), .int (-1), .ref 395, .ref 396, .int 0, .ref 397, .ref 398, .ref 399, .int 0, .int 0, .ref 400, .ref 401, .ref 402, .ref 403, .long 0, .ref 404, .null, .null, .null]))) (g_up_up _ _ _ _) ?_
  refine rx_aload_n hE dX11_init_185 (i := 0) rfl rfl ?_
  refine rx_iconst hE dX11_init_186 (v := 4) (by decide) ?_
  refine ru_newi (n := 405) (N := 4) hE dX11_init_187 ak_int (by decide) (by decide) (by decide) (hF 21 (by decide)) (by omega) ?_
  refine rx_putF hE dX11_init_189 fl_X11_83_10 fw_10_39 fo_10_39 rfl (at_up (by decide) (by decide)) (fun _ => rfl) (fun _ => rfl) (Nat.le_of_ble_eq_true rfl) ?_
  refine rx_mem (M' := g_up (406, F) 384 (.inr (10, [.ref 385, .int 0, .int 0, .ref 386, .ref 387, .ref 388, .ref 389, .ref 390, .int 0, .int 0, .int 0, .int 0, .int 0, .int 0, .int 0, .ref 391, .int 0, .ref 392, .int 0, .ref 393, .ref 394, .int (-1), .int 0, .int (-1), .int (-1), .ref 395, .ref 396, .int 0, .ref 397, .ref 398, .ref 399, .int 0, .int 0, .ref 400, .ref 401, .ref 402, .ref 403, .long 0, .ref 404, .ref 405, .null, .null]))) (g_up_up _ _ _ _) ?_
  refine rx_aload_n hE dX11_init_192 (i := 0) rfl rfl ?_
  refine rx_iconst hE dX11_init_193 (v := 4) (by decide) ?_
  refine ru_newi (n := 406) (N := 4) hE dX11_init_194 ak_int (by decide) (by decide) (by decide) (hF 22 (by decide)) (by omega) ?_
  refine rx_putF hE dX11_init_196 fl_X11_86_10 fw_10_40 fo_10_40 rfl (at_up (by decide) (by decide)) (fun _ => rfl) (fun _ => rfl) (Nat.le_of_ble_eq_true rfl) ?_
  refine rx_mem (M' := g_up (407, F) 384 (.inr (10, [.ref 385, .int 0, .int 0, .ref 386, .ref 387, .ref 388, .ref 389, .ref 390, .int 0, .int 0, .int 0, .int 0, .int 0, .int 0, .int 0, .ref 391, .int 0, .ref 392, .int 0, .ref 393, .ref 394, .int (-1), .int 0, .int (-1), .int (-1), .ref 395, .ref 396, .int 0, .ref 397, .ref 398, .ref 399, .int 0, .int 0, .ref 400, .ref 401, .ref 402, .ref 403, .long 0, .ref 404, .ref 405, .ref 406, .null]))) (g_up_up _ _ _ _) ?_
  refine rx_aload_n hE dX11_init_199 (i := 0) rfl rfl ?_
  refine rx_iconst hE dX11_init_200 (v := 4) (by decide) ?_
  refine ru_newz (n := 407) (N := 4) hE dX11_init_201 ak_boolean (by decide) (by decide) (by decide) (hF 23 (by decide)) (by omega) ?_
  refine rx_putF hE dX11_init_203 fl_X11_89_10 fw_10_41 fo_10_41 rfl (at_up (by decide) (by decide)) (fun _ => rfl) (fun _ => rfl) (Nat.le_of_ble_eq_true rfl) ?_
  refine rx_mem (M' := g_up (408, F) 384 (.inr (10, [.ref 385, .int 0, .int 0, .ref 386, .ref 387, .ref 388, .ref 389, .ref 390, .int 0, .int 0, .int 0, .int 0, .int 0, .int 0, .int 0, .ref 391, .int 0, .ref 392, .int 0, .ref 393, .ref 394, .int (-1), .int 0, .int (-1), .int (-1), .ref 395, .ref 396, .int 0, .ref 397, .ref 398, .ref 399, .int 0, .int 0, .ref 400, .ref 401, .ref 402, .ref 403, .long 0, .ref 404, .ref 405, .ref 406, .ref 407]))) (g_up_up _ _ _ _) ?_
  exact rx_vret hE hQ rfl dX11_init_206 ⟨rfl, up_F (hF 0 (by decide))⟩
theorem ru_newlw {d : Nat} {mi : gMi} {E : gE} {nL a b pc : Nat} {ls : List (Option Value)} {st : List Value} {F : Nat → va_E} {q n : Nat} {e : va_E} (hE : g_E d mi E) {k : Int32} {N : Nat} (hd : decode mi.2.1 pc = .ok (.newarray .long, 2)) (hm : Cond.arrayClass .long ∈ g_tb) (hn : ¬ k < 0) (hN : k.toNatClampNeg = N) (hb : N ≤ 10000) (hq : q < n) (kk : RX E nL a b (pc + 2) ls (.ref n :: st) (g_up (n + 1, g_w F n (gJ N (fun _ => 0))) q e)) : RX E nL (a + 1) (b + N) pc ls (.int k :: st) (g_up (n, F) q e) := rx_newl hE hd hm hn hN hb (rx_mem (nw_w hq) kk)
set_option maxRecDepth 100000 in
set_option maxHeartbeats 1000000 in
theorem c_X6_init {F : Nat → va_E} {n q t : Nat} (h16 : 16 ≤ q) (hq : q < n) : SX 1 1 32 mX6_init [.ref q, .ref t] (g_up (n, F) q (.inr (6, [.null, .null]))) (fun v M' => v = none ∧ M' = g_up (n + 1, g_w F n (gJ 32 (fun _ => 0))) q (.inr (6, [.ref t, .ref n]))) := by
  refine SX.intro [some (.ref q), some (.ref t)] (by decide +kernel) (Nat.le_of_ble_eq_true rfl) rfl (fun E hE hQ => ?_)
  refine rx_aload_n hE dX6_init_0 (i := 0) rfl rfl ?_
  refine rx_objInit hE dX6_init_1 oi_X6_1 rfl (by decide) (Nat.le_of_ble_eq_true rfl) ?_
  refine rx_aload_n hE dX6_init_4 (i := 0) rfl rfl ?_
  refine rx_bipush hE dX6_init_5 (v := 32) (by decide) ?_
  refine ru_newlw (n := n) (N := 32) hE dX6_init_7 ak_long (by decide) (by decide) (by decide) hq ?_
  refine rx_putF hE dX6_init_9 fl_X6_9_6 fw_6_1 fo_6_1 rfl (at_up h16 (by omega)) (fun _ => rfl) (fun _ => rfl) (Nat.le_of_ble_eq_true rfl) ?_
  refine rx_mem (M' := g_up (n + 1, g_w F n (gJ 32 (fun _ => 0))) q (.inr (6, [.null, .ref n]))) (g_up_up _ _ _ _) ?_
  refine rx_aload_n hE dX6_init_12 (i := 0) rfl rfl ?_
  refine rx_aload_n hE dX6_init_13 (i := 1) rfl rfl ?_
  refine rx_putF hE dX6_init_14 fl_X6_13_6 fw_6_0 fo_6_0 rfl (at_up h16 (by omega)) (fun _ => rfl) (fun _ => rfl) (Nat.le_of_ble_eq_true rfl) ?_
  refine rx_mem (M' := g_up (n + 1, g_w F n (gJ 32 (fun _ => 0))) q (.inr (6, [.ref t, .ref n]))) (g_up_up _ _ _ _) ?_
  exact rx_vret hE hQ rfl dX6_init_17 ⟨rfl, rfl⟩
def xX0 : gX := fun r => if xj r = true then jini else if r = 0 then (fun _ i => if i = 17 then -1 else 0) else if xi r = true then (fun _ i => if i = 4 then -1 else 0) else fun _ _ => 0
theorem xX0_j {r : Nat} (h : xj r = true) : xX0 r = jini := if_pos h
theorem xX0_n {r : Nat} (h : xn r = true) : xX0 r = fun _ _ => 0 := by
  have h1 := xn_lt h
  have h2 := of_decide_eq_true h
  unfold xX0
  rw [if_neg (by rw [h1.2]; decide), if_neg (by omega), if_neg (by rw [show xi r = false from decide_eq_false (by omega)]; decide)]
theorem xX0_i {r : Nat} (h : xi r = true) : xX0 r = fun _ i => if i = 4 then -1 else 0 := by
  have h2 := of_decide_eq_true h
  unfold xX0
  rw [if_neg (by rw [show xj r = false from decide_eq_false (by omega)]; decide), if_neg (by omega), if_pos h]
theorem xX0_o {r : Nat} (h : xj r = false ∧ r ≠ 0 ∧ xi r = false) : xX0 r = fun _ _ => 0 := by
  unfold xX0
  rw [if_neg (by rw [h.1]; decide), if_neg h.2.1, if_neg (by rw [h.2.2]; decide)]
def xF0 (Q : gU) (G : gK) : Nat → va_E := (xm 408 xX0 (fun _ => none) Q G kS0 (fun _ _ => 0)).2
theorem xF0_j {Q : gU} {G : gK} {r a : Nat} (h : xJ r a) (k : Nat) (hk : k < 10) : xF0 Q G (a + k) = jc a jini k := by
  have e := h.eq (n := 408) (O := fun _ => none) (Q := Q) (G := G) (S := kS0) (L := fun _ _ => 0) (X := xX0) (xX0_j h.1)
  unfold xF0
  rw [e]
  exact (jp_at (h.b (Nat.le_refl _)) k hk).2.2
theorem xF0_n {Q : gU} {G : gK} {r a : Nat} (h : xN 408 r a) (k : Nat) (hk : k < 4) : xF0 Q G (a + k) = xc_n a (fun _ _ => 0) k := by
  have e := (xN_at (X := xX0) (O := fun _ => none) (Q := Q) (G := G) (S := kS0) (L := fun _ _ => 0) h k hk).2.2
  rw [xX0_n h.1] at e
  exact e
theorem xF0_i {Q : gU} {G : gK} {i : Nat} (hi : i < 4) : xF0 Q G (284 + 25 * i) = .inr (1, [.ref (284 + 25 * i + 1), .ref (284 + 25 * i + 11), .ref (284 + 25 * i + 21), .int 0, .int (-1), .int 0]) := by
  have e := (xI_at (X := xX0) (O := fun _ => none) (Q := Q) (G := G) (S := kS0) (L := fun _ _ => 0) hi (Nat.le_refl 408)).2.2
  rw [xX0_i (xI_e hi).2.2] at e
  exact e
theorem xF0_o {Q : gU} {G : gK} (r k : Nat) (hk : k < zn r) (hn : zb r + k < 408) : xF0 Q G (zb r + k) = xc xX0 (fun _ => none) Q G kS0 (fun _ _ => 0) r k := (xm_at (n := 408) r k hk hn rfl).2.2
theorem c_X10_make (Q : gU) (G : gK) : SX 3 367 4083 mX10_init [.ref 16] (g_up (17, xF0 Q G) 16 (.inr (9, [.null, .null, .null, .null, .null, .null, .null, .null, .null, .null, .null, .null, .null, .null, .null, .null, .int 0, .int 0, .int 0]))) (fun v M' => v = none ∧ M' = (384, xF0 Q G)) :=
  c_X10_init ((xF0_o 0 0 (by decide +kernel) (by decide +kernel)).trans rfl) ((xF0_o 1 0 (by decide +kernel) (by decide +kernel)).trans rfl) ((xF0_o 1 1 (by decide +kernel) (by decide +kernel)).trans rfl) (fun k hk => xF0_j xJ_2 k hk) (fun k hk => xF0_j xJ_3 k hk) (fun k hk => xF0_j xJ_4 k hk) ((xF0_o 5 0 (by decide +kernel) (by decide +kernel)).trans rfl) ((xF0_o 6 0 (by decide +kernel) (by decide +kernel)).trans rfl) ((xF0_o 6 1 (by decide +kernel) (by decide +kernel)).trans rfl) ((xF0_o 7 0 (by decide +kernel) (by decide +kernel)).trans rfl) ((xF0_o 8 0 (by decide +kernel) (by decide +kernel)).trans rfl) ((xF0_o 8 1 (by decide +kernel) (by decide +kernel)).trans rfl) (fun i hi k hk => xF0_j (xJ_h hi) k hk) (fun k hk => xF0_n (xN_29 (Nat.le_refl _)) k hk) ((xF0_o 30 0 (by decide +kernel) (by decide +kernel)).trans rfl) (fun k hk => (xF0_o 31 k hk (by have e : zb 31 = 260 := (by decide +kernel); rw [e]; omega)).trans (by show xc_s (xX0 31) k = _; rw [xX0_o (r := 31) (by decide +kernel)])) (fun k hk => (xF0_o 32 k hk (by have e : zb 32 = 279 := (by decide +kernel); rw [e]; omega)).trans (by show xc_a (xX0 32) k = _; rw [xX0_o (r := 32) (by decide +kernel)])) (fun i hi => xF0_i hi) (fun i hi k hk => xF0_j (xJ_in hi) k hk) (fun i hi k hk => xF0_j (xJ_it hi) k hk) (fun i hi k hk => xF0_n (xN_i hi (Nat.le_refl _)) k hk)
theorem c_X11_make (Q : gU) (G : gK) : SX 1 23 5689 mX11_init [.ref 384] (g_up (385, xF0 Q G) 384 (.inr (10, [.null, .int 0, .int 0, .null, .null, .null, .null, .null, .int 0, .int 0, .int 0, .int 0, .int 0, .int 0, .int 0, .null, .int 0, .null, .int 0, .null, .null, .int 0, .int 0, .int 0, .int 0, .null, .null, .int 0, .null, .null, .null, .int 0, .int 0, .null, .null, .null, .null, .long 0, .null, .null, .null, .null]))) (fun v M' => v = none ∧ M' = xm 408 xX0 (fun _ => none) Q G kS0 (fun _ _ => 0)) :=
  c_X11_init (F := xF0 Q G) (fun k hk => (xF0_o 49 k hk (by have e : zb 49 = 384 := (by decide +kernel); rw [e]; omega)))
