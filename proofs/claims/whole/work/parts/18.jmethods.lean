def j_ap (p q : Nat) : Nat := if q ≤ p then p - q else q - p
theorem j_ap_tab : ∀ p, p < 12 → ∀ q, q < 12 → (if 0 ≤ nI p - nI q then nI p - nI q else 0 - (nI p - nI q)) = nI (j_ap p q) ∧ j_ap p q < 12 := by decide +kernel
theorem j_ap_eq {x y : Int32} {p q : Nat} (hx : x = nI p) (hy : y = nI q) (hp : p < 12) (hq : q < 12) : (if 0 ≤ x - y then x - y else 0 - (x - y)) = nI (j_ap p q) := by
  rw [hx, hy]
  exact (j_ap_tab p hp q hq).1
/-- the PARTS of a Junction are numbers below 12 -/
def jpt (J : gJn) (pn : Nat → Nat) : Prop := ∀ i, i < 6 → J 2 i = nI (pn i) ∧ pn i < 12
def jswF (pn : Nat → Nat) (set : Int32) (r : Nat) : Nat → Nat → Int32 → Int32
  | _, 0, acc => acc
  | k, n + 1, acc => jswF pn set r (k + 1) n (if jbit set k = 1 then acc + g_sounds (j_ap (pn r) (pn k)) else acc)
def jsw (pn : Nat → Nat) (set : Int32) (r R : Nat) : Int32 := jswF pn set r 0 R 0
def jsoF (pn : Nat → Nat) (set : Int32) (R : Nat) : Nat → Nat → Int32 → Int32
  | _, 0, acc => acc
  | k, n + 1, acc => jsoF pn set R (k + 1) n (if jbit set k = 1 then acc + jsw pn (set &&& (1 <<< (nI k &&& 31) - 1)) k R else acc)
def jso (pn : Nat → Nat) (set : Int32) (R : Nat) : Int32 := jsoF pn set R 1 (R - 1) 0
def jgt1 (set : Int32) (k : Nat) (J : gJn) : gJn := if jbit set k = 1 then j_s (j_leave (j_s (j_s J 7 (upd (J 7) k 0)) 6 (upd (J 6) k (J 9 3))) k) 7 (upd (upd (J 7) k 0) k (j_many J k)) else j_s J 7 (upd (J 7) k 0)
def jgt2 (k : Nat) (J : gJn) : gJn := j_s J 5 (upd (J 5) k (jmin 99999 (J 5 k + J 0 k)))
def jgtA (set : Int32) (k : Nat) (J : gJn) (acc : Int32) : Int32 := if jbit set k = 1 then acc ||| (if (jgt1 set k J) 7 k ≤ 0 then (0 : Int32) else (1 : Int32) <<< (nI k &&& 31)) else acc
def jgtF (set : Int32) : Nat → Nat → gJn → Int32 → gJn × Int32
  | _, 0, J, acc => (J, acc)
  | k, n + 1, J, acc => jgtF set (k + 1) n (jgt2 k (jgt1 set k J)) (jgtA set k J acc)
def j_end (pn : Nat → Nat) (R : Nat) (q : gJn × Int32) : gJn := j_c (j_c q.1 4 (j_heard (q.1 9 4) (jso pn q.2 R))) 3 (q.1 9 3 + 1)
def j_go (pn : Nat → Nat) (R : Nat) (set : Int32) (J : gJn) : gJn := j_end pn R (jgtF set 0 R J 0)
set_option maxRecDepth 100000 in
set_option maxHeartbeats 4000000 in
theorem c_X2_soundWith {M : gM} {a : Nat} {J : gJn} {R r : Nat} {pn : Nat → Nat} (set : Int32) (hb : jb M a) (hR : J 9 2 = nI R) (hR6 : R ≤ 6) (hp : jpt J pn) (hr : r < 6) : SX 1 0 0 mX2_soundWith [.ref a, .int set, .int (nI r)] (jp M a J) (fun v M' => v = some (.int (jsw pn set r R)) ∧ M' = jp M a J) := by
  refine SX.intro [some (.ref a), some (.int set), some (.int (nI r)), none, none, none] (by decide +kernel) (Nat.le_of_ble_eq_true rfl) rfl (fun E hE hQ => ?_)
  have loop : ∀ (n k : Nat) (acc : Int32) (l5 : Option Value), k + n = R → jswF pn set r k n acc = jsw pn set r R → RX E mX2_soundWith.2.2.1 0 0 5 [some (.ref a), some (.int set), some (.int (nI r)), some (.int acc), some (.int (nI k)), l5] [] (jp M a J) := by
    intro n
    induction n with
    | zero =>
      intro k acc l5 hk hF
      refine rx_iload hE dX2_soundWith_5 rfl ?_
      refine rx_aload_n hE dX2_soundWith_7 (i := 0) rfl rfl ?_
      refine rx_getf hE dX2_soundWith_8 fl_X2_46_2 (jp_o hb) rfl ?_
      refine rx_icmp_ge (tgt := 71) hE dX2_soundWith_11 (by decide) (fun c11 => ?_) (fun c11 => absurd (by rw [hR]; exact nI_le (by omega) (by omega)) c11)
      refine rx_iload_n hE dX2_soundWith_71 (i := 3) rfl rfl ?_
      exact rx_iret hE hQ rfl dX2_soundWith_72 ⟨by rw [← hF]; rfl, rfl⟩
    | succ n ih =>
      intro k acc l5 hk hF
      refine rx_iload hE dX2_soundWith_5 rfl ?_
      refine rx_aload_n hE dX2_soundWith_7 (i := 0) rfl rfl ?_
      refine rx_getf hE dX2_soundWith_8 fl_X2_46_2 (jp_o hb) rfl ?_
      refine rx_icmp_ge (tgt := 71) hE dX2_soundWith_11 (by decide) (fun c11 => absurd (by rw [hR] at c11; exact c11) (nI_ge (by omega) (by omega))) (fun c11 => ?_)
      refine rx_iload_n hE dX2_soundWith_14 (i := 1) rfl rfl ?_
      refine rx_iload hE dX2_soundWith_15 rfl ?_
      refine rx_ishr hE dX2_soundWith_17 ?_
      refine rx_iconst hE dX2_soundWith_18 (v := 1) (by decide) ?_
      refine rx_iand hE dX2_soundWith_19 ?_
      refine rx_iconst hE dX2_soundWith_20 (v := 1) (by decide) ?_
      refine rx_icmp_ne (tgt := 65) hE dX2_soundWith_21 (by decide) (fun c21 => ?_) (fun c21 => ?_)
      · have c21 : ¬ jbit set k = 1 := c21
        refine rx_iinc_4 hE dX2_soundWith_65 (v := 1) (by decide) (by decide) rfl ?_
        rw [nI_1]
        refine rx_goto (tgt := 5) hE dX2_soundWith_68 (by decide) ?_
        exact ih (k + 1) _ _ (by omega) (by rw [← hF]; show _ = jswF pn set r (k + 1) n (if _ then _ else _); first | rw [if_neg c21] | rw [if_pos c21])
      · have c21 : jbit set k = 1 := c21
        refine rx_aload_n hE dX2_soundWith_24 (i := 0) rfl rfl ?_
        refine rx_getf hE dX2_soundWith_25 fl_X2_18_2 (jp_o hb) rfl ?_
        refine rx_iload_n hE dX2_soundWith_28 (i := 2) rfl rfl ?_
        refine rx_ialdN hE dX2_soundWith_29 (jp_3 hb) (by omega) (by decide) ?_
        refine rx_aload_n hE dX2_soundWith_30 (i := 0) rfl rfl ?_
        refine rx_getf hE dX2_soundWith_31 fl_X2_18_2 (jp_o hb) rfl ?_
        refine rx_iload hE dX2_soundWith_34 rfl ?_
        refine rx_ialdN hE dX2_soundWith_36 (jp_3 hb) (by omega) (by decide) ?_
        refine rx_isub hE dX2_soundWith_37 ?_
        refine rx_mabs hE dX2_soundWith_38 mm_X2_79 rfl (by decide) (Nat.le_of_ble_eq_true rfl) ?_
        refine rx_int _ _ (j_ap_eq (hp r hr).1 (hp k (by omega)).1 (hp r hr).2 (hp k (by omega)).2) ?_
        refine rx_istore_5 hE dX2_soundWith_41 (by decide) rfl ?_
        refine rx_iload_n hE dX2_soundWith_43 (i := 3) rfl rfl ?_
        refine rx_iload hE dX2_soundWith_44 rfl ?_
        refine rx_gets2 hE dX2_soundWith_46 sl_X2_83 ?_
        refine rx_alen2 hE dX2_soundWith_49 ?_
        refine rx_icmp_ge (tgt := 62) hE dX2_soundWith_50 (by decide) (fun c50 => absurd c50 (nI_ge (b := 12) (j_ap_tab _ (hp r hr).2 _ (hp k (by omega)).2).2 (by decide))) (fun c50 => ?_)
        refine rx_gets2 hE dX2_soundWith_53 sl_X2_83 ?_
        refine rx_iload hE dX2_soundWith_56 rfl ?_
        refine rx_iald2N hE dX2_soundWith_58 (j_ap_tab _ (hp r hr).2 _ (hp k (by omega)).2).2 ?_
        refine rx_goto (tgt := 63) hE dX2_soundWith_59 (by decide) ?_
        refine rx_iadd hE dX2_soundWith_63 ?_
        refine rx_istore_n_3 hE dX2_soundWith_64 (by decide) rfl ?_
        refine rx_iinc_4 hE dX2_soundWith_65 (v := 1) (by decide) (by decide) rfl ?_
        rw [nI_1]
        refine rx_goto (tgt := 5) hE dX2_soundWith_68 (by decide) ?_
        exact ih (k + 1) _ _ (by omega) (by rw [← hF]; show _ = jswF pn set r (k + 1) n (if _ then _ else _); first | rw [if_neg c21] | rw [if_pos c21])
  refine rx_iconst hE dX2_soundWith_0 (v := 0) (by decide) ?_
  refine rx_istore_n_3 hE dX2_soundWith_1 (by decide) rfl ?_
  refine rx_iconst hE dX2_soundWith_2 (v := 0) (by decide) ?_
  refine rx_istore_4 hE dX2_soundWith_3 (by decide) rfl ?_
  exact loop R 0 0 none (by omega) rfl
set_option maxRecDepth 100000 in
set_option maxHeartbeats 4000000 in
theorem c_X2_soundOf {M : gM} {a : Nat} {J : gJn} {R : Nat} {pn : Nat → Nat} (set : Int32) (hb : jb M a) (hR : J 9 2 = nI R) (hR6 : R ≤ 6) (hp : jpt J pn) : SX 2 0 0 mX2_soundOf [.ref a, .int set] (jp M a J) (fun v M' => v = some (.int (jso pn set R)) ∧ M' = jp M a J) := by
  refine SX.intro [some (.ref a), some (.int set), none, none] (by decide +kernel) (Nat.le_of_ble_eq_true rfl) rfl (fun E hE hQ => ?_)
  have loop : ∀ (n k : Nat) (acc : Int32), k + n = R - 1 + 1 → 0 < k → jsoF pn set R k n acc = jso pn set R → RX E mX2_soundOf.2.2.1 0 0 4 [some (.ref a), some (.int set), some (.int acc), some (.int (nI k))] [] (jp M a J) := by
    intro n
    induction n with
    | zero =>
      intro k acc hk hk0 hF
      refine rx_iload_n hE dX2_soundOf_4 (i := 3) rfl rfl ?_
      refine rx_aload_n hE dX2_soundOf_5 (i := 0) rfl rfl ?_
      refine rx_getf hE dX2_soundOf_6 fl_X2_46_2 (jp_o hb) rfl ?_
      refine rx_icmp_ge (tgt := 42) hE dX2_soundOf_9 (by decide) (fun c9 => ?_) (fun c9 => absurd (by rw [hR]; exact nI_le (by omega) (by omega)) c9)
      refine rx_iload_n hE dX2_soundOf_42 (i := 2) rfl rfl ?_
      exact rx_iret hE hQ rfl dX2_soundOf_43 ⟨by rw [← hF]; rfl, rfl⟩
    | succ n ih =>
      intro k acc hk hk0 hF
      refine rx_iload_n hE dX2_soundOf_4 (i := 3) rfl rfl ?_
      refine rx_aload_n hE dX2_soundOf_5 (i := 0) rfl rfl ?_
      refine rx_getf hE dX2_soundOf_6 fl_X2_46_2 (jp_o hb) rfl ?_
      refine rx_icmp_ge (tgt := 42) hE dX2_soundOf_9 (by decide) (fun c9 => absurd (by rw [hR] at c9; exact c9) (nI_ge (by omega) (by omega))) (fun c9 => ?_)
      refine rx_iload_n hE dX2_soundOf_12 (i := 1) rfl rfl ?_
      refine rx_iload_n hE dX2_soundOf_13 (i := 3) rfl rfl ?_
      refine rx_ishr hE dX2_soundOf_14 ?_
      refine rx_iconst hE dX2_soundOf_15 (v := 1) (by decide) ?_
      refine rx_iand hE dX2_soundOf_16 ?_
      refine rx_iconst hE dX2_soundOf_17 (v := 1) (by decide) ?_
      refine rx_icmp_ne (tgt := 36) hE dX2_soundOf_18 (by decide) (fun c18 => ?_) (fun c18 => ?_)
      · have c18 : ¬ jbit set k = 1 := c18
        refine rx_iinc_3 hE dX2_soundOf_36 (v := 1) (by decide) (by decide) rfl ?_
        rw [nI_1]
        refine rx_goto (tgt := 4) hE dX2_soundOf_39 (by decide) ?_
        exact ih (k + 1) _ (by omega) (by omega) (by rw [← hF]; show _ = jsoF pn set R (k + 1) n (if _ then _ else _); first | rw [if_neg c18] | rw [if_pos c18])
      · have c18 : jbit set k = 1 := c18
        refine rx_iload_n hE dX2_soundOf_21 (i := 2) rfl rfl ?_
        refine rx_aload_n hE dX2_soundOf_22 (i := 0) rfl rfl ?_
        refine rx_iload_n hE dX2_soundOf_23 (i := 1) rfl rfl ?_
        refine rx_iconst hE dX2_soundOf_24 (v := 1) (by decide) ?_
        refine rx_iload_n hE dX2_soundOf_25 (i := 3) rfl rfl ?_
        refine rx_ishl hE dX2_soundOf_26 ?_
        refine rx_iconst hE dX2_soundOf_27 (v := 1) (by decide) ?_
        refine rx_isub hE dX2_soundOf_28 ?_
        refine rx_iand hE dX2_soundOf_29 ?_
        refine rx_iload_n hE dX2_soundOf_30 (i := 3) rfl rfl ?_
        refine rx_call0 (rx_callV (av := [.int _, .int (nI k)]) hE dX2_soundOf_31 lk_X2_76 (c_X2_soundWith _ hb hR hR6 hp (r := k) (by omega)) (jp_o hb) np_X2_soundWith rfl rfl (by decide) (Nat.le_of_ble_eq_true rfl) rfl ?_)
        rintro v M' ⟨rfl, rfl⟩
        refine rx_iadd hE dX2_soundOf_34 ?_
        refine rx_istore_n_2 hE dX2_soundOf_35 (by decide) rfl ?_
        refine rx_iinc_3 hE dX2_soundOf_36 (v := 1) (by decide) (by decide) rfl ?_
        rw [nI_1]
        refine rx_goto (tgt := 4) hE dX2_soundOf_39 (by decide) ?_
        exact ih (k + 1) _ (by omega) (by omega) (by rw [← hF]; show _ = jsoF pn set R (k + 1) n (if _ then _ else _); first | rw [if_neg c18] | rw [if_pos c18])
  refine rx_iconst hE dX2_soundOf_0 (v := 0) (by decide) ?_
  refine rx_istore_n_2 hE dX2_soundOf_1 (by decide) rfl ?_
  refine rx_iconst hE dX2_soundOf_2 (v := 1) (by decide) ?_
  refine rx_istore_n_3 hE dX2_soundOf_3 (by decide) rfl ?_
  exact loop (R - 1) 1 0 (by omega) (by omega) rfl
set_option maxRecDepth 100000 in
set_option maxHeartbeats 4000000 in
theorem c_X2_goThrough {M : gM} {a : Nat} {J : gJn} {R : Nat} {pn : Nat → Nat} (set : Int32) (hb : jb M a) (hR : J 9 2 = nI R) (hR6 : R ≤ 6) (hp : jpt J pn) : SX 3 0 0 mX2_goThrough [.ref a, .int set] (jp M a J) (fun v M' => v = none ∧ M' = jp M a (j_go pn R set J)) := by
  refine SX.intro [some (.ref a), some (.int set), none, none] (by decide +kernel) (Nat.le_of_ble_eq_true rfl) rfl (fun E hE hQ => ?_)
  have loop : ∀ (n k : Nat) (J' : gJn) (acc : Int32), k + n = R → J' 9 2 = nI R → jpt J' pn → jgtF set k n J' acc = jgtF set 0 R J 0 → RX E mX2_goThrough.2.2.1 0 0 4 [some (.ref a), some (.int set), some (.int acc), some (.int (nI k))] [] (jp M a J') := by
    intro n
    induction n with
    | zero =>
      intro k J' acc hk hR' hp' hF
      refine rx_iload_n hE dX2_goThrough_4 (i := 3) rfl rfl ?_
      refine rx_aload_n hE dX2_goThrough_5 (i := 0) rfl rfl ?_
      refine rx_getf hE dX2_goThrough_6 fl_X2_46_2 (jp_o hb) rfl ?_
      refine rx_icmp_ge (tgt := 98) hE dX2_goThrough_9 (by decide) (fun c9 => ?_) (fun c9 => absurd (by rw [hR']; exact nI_le (by omega) (by omega)) c9)
      refine rx_aload_n hE dX2_goThrough_98 (i := 0) rfl rfl ?_
      refine rx_aload_n hE dX2_goThrough_99 (i := 0) rfl rfl ?_
      refine rx_getf hE dX2_goThrough_100 fl_X2_52_2 (jp_o hb) rfl ?_
      refine rx_aload_n hE dX2_goThrough_103 (i := 0) rfl rfl ?_
      refine rx_iload_n hE dX2_goThrough_104 (i := 2) rfl rfl ?_
      refine rx_call0 (rx_callV (av := [.int acc]) hE dX2_goThrough_105 lk_X2_127 (c_X2_soundOf acc hb hR' hR6 hp') (jp_o hb) np_X2_soundOf rfl rfl (by decide) (Nat.le_of_ble_eq_true rfl) rfl ?_)
      rintro v M' ⟨rfl, rfl⟩
      refine rx_call0 (rx_callS (av := [.int _, .int _]) hE dX2_goThrough_108 lk_X2_130 (c_X2_heardBehind _ _) np_X2_heardBehind rfl rfl (by decide) (Nat.le_of_ble_eq_true rfl) rfl ?_)
      rintro v M' ⟨rfl, rfl⟩
      refine rx_put hE dX2_goThrough_111 fl_X2_52_2 fw_2_13 (jp_o hb) (fun _ => rfl) (fun _ => rfl) (Nat.le_of_ble_eq_true rfl) ?_
      refine rx_mem jw_c4 ?_
      refine rx_aload_n hE dX2_goThrough_114 (i := 0) rfl rfl ?_
      refine rx_dup hE dX2_goThrough_115 rfl ?_
      refine rx_getf hE dX2_goThrough_116 fl_X2_49_2 (jp_o hb) rfl ?_
      refine rx_iconst hE dX2_goThrough_119 (v := 1) (by decide) ?_
      refine rx_iadd hE dX2_goThrough_120 ?_
      refine rx_put hE dX2_goThrough_121 fl_X2_49_2 fw_2_12 (jp_o hb) (fun _ => rfl) (fun _ => rfl) (Nat.le_of_ble_eq_true rfl) ?_
      refine rx_mem jw_c3 ?_
      exact rx_vret hE hQ rfl dX2_goThrough_124 ⟨rfl, by show _ = jp M a (j_end pn R (jgtF set 0 R J 0)); rw [← hF]; rfl⟩
    | succ n ih =>
      intro k J' acc hk hR' hp' hF
      refine rx_iload_n hE dX2_goThrough_4 (i := 3) rfl rfl ?_
      refine rx_aload_n hE dX2_goThrough_5 (i := 0) rfl rfl ?_
      refine rx_getf hE dX2_goThrough_6 fl_X2_46_2 (jp_o hb) rfl ?_
      refine rx_icmp_ge (tgt := 98) hE dX2_goThrough_9 (by decide) (fun c9 => absurd (by rw [hR'] at c9; exact c9) (nI_ge (by omega) (by omega))) (fun c9 => ?_)
      refine rx_aload_n hE dX2_goThrough_12 (i := 0) rfl rfl ?_
      refine rx_getf hE dX2_goThrough_13 fl_X2_33_2 (jp_o hb) rfl ?_
      refine rx_iload_n hE dX2_goThrough_16 (i := 3) rfl rfl ?_
      refine rx_iconst hE dX2_goThrough_17 (v := 0) (by decide) ?_
      refine rx_iastN hE dX2_goThrough_18 (jp_8 hb) (by omega) (by decide) ?_
      refine rx_mem jw_8 ?_
      refine rx_iload_n hE dX2_goThrough_19 (i := 1) rfl rfl ?_
      refine rx_iload_n hE dX2_goThrough_20 (i := 3) rfl rfl ?_
      refine rx_ishr hE dX2_goThrough_21 ?_
      refine rx_iconst hE dX2_goThrough_22 (v := 1) (by decide) ?_
      refine rx_iand hE dX2_goThrough_23 ?_
      refine rx_iconst hE dX2_goThrough_24 (v := 1) (by decide) ?_
      refine rx_icmp_ne (tgt := 68) hE dX2_goThrough_25 (by decide) (fun c25 => ?_) (fun c25 => ?_)
      · have c25 : ¬ jbit set k = 1 := c25
        refine rx_mem (M' := jp M a (jgt1 set k J')) (by rw [show jgt1 set k J' = _ from if_neg c25]) ?_
        refine rx_aload_n hE dX2_goThrough_68 (i := 0) rfl rfl ?_
        refine rx_getf hE dX2_goThrough_69 fl_X2_27_2 (jp_o hb) rfl ?_
        refine rx_iload_n hE dX2_goThrough_72 (i := 3) rfl rfl ?_
        refine rx_ldc hE dX2_goThrough_73 k_X2_126 ?_
        refine rx_aload_n hE dX2_goThrough_75 (i := 0) rfl rfl ?_
        refine rx_getf hE dX2_goThrough_76 fl_X2_27_2 (jp_o hb) rfl ?_
        refine rx_iload_n hE dX2_goThrough_79 (i := 3) rfl rfl ?_
        refine rx_ialdN hE dX2_goThrough_80 (jp_6 hb) (by omega) (by decide) ?_
        refine rx_aload_n hE dX2_goThrough_81 (i := 0) rfl rfl ?_
        refine rx_getf hE dX2_goThrough_82 fl_X2_9_2 (jp_o hb) rfl ?_
        refine rx_iload_n hE dX2_goThrough_85 (i := 3) rfl rfl ?_
        refine rx_ialdN hE dX2_goThrough_86 (jp_1 hb) (by omega) (by decide) ?_
        refine rx_iadd hE dX2_goThrough_87 ?_
        refine rx_mmin hE dX2_goThrough_88 mm_X2_70 rfl (by decide) (Nat.le_of_ble_eq_true rfl) ?_
        refine rx_iastN hE dX2_goThrough_91 (jp_6 hb) (by omega) (by decide) ?_
        refine rx_mem jw_6 ?_
        refine rx_iinc_3 hE dX2_goThrough_92 (v := 1) (by decide) (by decide) rfl ?_
        rw [nI_1]
        refine rx_goto (tgt := 4) hE dX2_goThrough_95 (by decide) ?_
        exact ih (k + 1) _ _ (by omega) (by rw [← hR']; show (jgt1 set k J') 9 2 = _; unfold jgt1; split <;> rfl) (fun i hi => by show (jgt1 set k J') 2 i = _ ∧ _; rw [show (jgt1 set k J') 2 i = J' 2 i from by unfold jgt1; split <;> rfl]; exact hp' i hi) (by rw [← hF]; show _ = jgtF set (k + 1) n (jgt2 k (jgt1 set k J')) (jgtA set k J' acc); first | (rw [show jgtA set k J' acc = _ from if_neg c25]; rfl) | (rw [show jgtA set k J' acc = _ from if_pos c25]; first | (rw [if_pos c56]; rfl) | (rw [if_neg c56]; rfl)))
      · have c25 : jbit set k = 1 := c25
        refine rx_aload_n hE dX2_goThrough_28 (i := 0) rfl rfl ?_
        refine rx_getf hE dX2_goThrough_29 fl_X2_30_2 (jp_o hb) rfl ?_
        refine rx_iload_n hE dX2_goThrough_32 (i := 3) rfl rfl ?_
        refine rx_aload_n hE dX2_goThrough_33 (i := 0) rfl rfl ?_
        refine rx_getf hE dX2_goThrough_34 fl_X2_49_2 (jp_o hb) rfl ?_
        refine rx_iastN hE dX2_goThrough_37 (jp_7 hb) (by omega) (by decide) ?_
        refine rx_mem jw_7 ?_
        refine rx_aload_n hE dX2_goThrough_38 (i := 0) rfl rfl ?_
        refine rx_getf hE dX2_goThrough_39 fl_X2_33_2 (jp_o hb) rfl ?_
        refine rx_iload_n hE dX2_goThrough_42 (i := 3) rfl rfl ?_
        refine rx_aload_n hE dX2_goThrough_43 (i := 0) rfl rfl ?_
        refine rx_iload_n hE dX2_goThrough_44 (i := 3) rfl rfl ?_
        refine rx_call0 (rx_callV (av := [.int (nI k)]) hE dX2_goThrough_45 lk_X2_123 (c_X2_leave hb (r := k) (by omega)) (jp_o hb) np_X2_leave rfl rfl (by decide) (Nat.le_of_ble_eq_true rfl) rfl ?_)
        rintro v M' ⟨rfl, rfl⟩
        refine rx_iastN hE dX2_goThrough_48 (jp_8 hb) (by omega) (by decide) ?_
        refine rx_mem jw_8 ?_
        refine rx_mem (M' := jp M a (jgt1 set k J')) (by rw [show jgt1 set k J' = _ from if_pos c25]; rfl) ?_
        refine rx_iload_n hE dX2_goThrough_49 (i := 2) rfl rfl ?_
        refine rx_aload_n hE dX2_goThrough_50 (i := 0) rfl rfl ?_
        refine rx_getf hE dX2_goThrough_51 fl_X2_33_2 (jp_o hb) rfl ?_
        refine rx_iload_n hE dX2_goThrough_54 (i := 3) rfl rfl ?_
        refine rx_ialdN hE dX2_goThrough_55 (jp_8 hb) (by omega) (by decide) ?_
        refine rx_if_le (tgt := 65) hE dX2_goThrough_56 (by decide) (fun c56 => ?_) (fun c56 => ?_)
        · refine rx_iconst hE dX2_goThrough_65 (v := 0) (by decide) ?_
          refine rx_ior hE dX2_goThrough_66 ?_
          refine rx_istore_n_2 hE dX2_goThrough_67 (by decide) rfl ?_
          refine rx_aload_n hE dX2_goThrough_68 (i := 0) rfl rfl ?_
          refine rx_getf hE dX2_goThrough_69 fl_X2_27_2 (jp_o hb) rfl ?_
          refine rx_iload_n hE dX2_goThrough_72 (i := 3) rfl rfl ?_
          refine rx_ldc hE dX2_goThrough_73 k_X2_126 ?_
          refine rx_aload_n hE dX2_goThrough_75 (i := 0) rfl rfl ?_
          refine rx_getf hE dX2_goThrough_76 fl_X2_27_2 (jp_o hb) rfl ?_
          refine rx_iload_n hE dX2_goThrough_79 (i := 3) rfl rfl ?_
          refine rx_ialdN hE dX2_goThrough_80 (jp_6 hb) (by omega) (by decide) ?_
          refine rx_aload_n hE dX2_goThrough_81 (i := 0) rfl rfl ?_
          refine rx_getf hE dX2_goThrough_82 fl_X2_9_2 (jp_o hb) rfl ?_
          refine rx_iload_n hE dX2_goThrough_85 (i := 3) rfl rfl ?_
          refine rx_ialdN hE dX2_goThrough_86 (jp_1 hb) (by omega) (by decide) ?_
          refine rx_iadd hE dX2_goThrough_87 ?_
          refine rx_mmin hE dX2_goThrough_88 mm_X2_70 rfl (by decide) (Nat.le_of_ble_eq_true rfl) ?_
          refine rx_iastN hE dX2_goThrough_91 (jp_6 hb) (by omega) (by decide) ?_
          refine rx_mem jw_6 ?_
          refine rx_iinc_3 hE dX2_goThrough_92 (v := 1) (by decide) (by decide) rfl ?_
          rw [nI_1]
          refine rx_goto (tgt := 4) hE dX2_goThrough_95 (by decide) ?_
          exact ih (k + 1) _ _ (by omega) (by rw [← hR']; show (jgt1 set k J') 9 2 = _; unfold jgt1; split <;> rfl) (fun i hi => by show (jgt1 set k J') 2 i = _ ∧ _; rw [show (jgt1 set k J') 2 i = J' 2 i from by unfold jgt1; split <;> rfl]; exact hp' i hi) (by rw [← hF]; show _ = jgtF set (k + 1) n (jgt2 k (jgt1 set k J')) (jgtA set k J' acc); first | (rw [show jgtA set k J' acc = _ from if_neg c25]; rfl) | (rw [show jgtA set k J' acc = _ from if_pos c25]; first | (rw [if_pos c56]; rfl) | (rw [if_neg c56]; rfl)))
        · refine rx_iconst hE dX2_goThrough_59 (v := 1) (by decide) ?_
          refine rx_iload_n hE dX2_goThrough_60 (i := 3) rfl rfl ?_
          refine rx_ishl hE dX2_goThrough_61 ?_
          refine rx_goto (tgt := 66) hE dX2_goThrough_62 (by decide) ?_
          refine rx_ior hE dX2_goThrough_66 ?_
          refine rx_istore_n_2 hE dX2_goThrough_67 (by decide) rfl ?_
          refine rx_aload_n hE dX2_goThrough_68 (i := 0) rfl rfl ?_
          refine rx_getf hE dX2_goThrough_69 fl_X2_27_2 (jp_o hb) rfl ?_
          refine rx_iload_n hE dX2_goThrough_72 (i := 3) rfl rfl ?_
          refine rx_ldc hE dX2_goThrough_73 k_X2_126 ?_
          refine rx_aload_n hE dX2_goThrough_75 (i := 0) rfl rfl ?_
          refine rx_getf hE dX2_goThrough_76 fl_X2_27_2 (jp_o hb) rfl ?_
          refine rx_iload_n hE dX2_goThrough_79 (i := 3) rfl rfl ?_
          refine rx_ialdN hE dX2_goThrough_80 (jp_6 hb) (by omega) (by decide) ?_
          refine rx_aload_n hE dX2_goThrough_81 (i := 0) rfl rfl ?_
          refine rx_getf hE dX2_goThrough_82 fl_X2_9_2 (jp_o hb) rfl ?_
          refine rx_iload_n hE dX2_goThrough_85 (i := 3) rfl rfl ?_
          refine rx_ialdN hE dX2_goThrough_86 (jp_1 hb) (by omega) (by decide) ?_
          refine rx_iadd hE dX2_goThrough_87 ?_
          refine rx_mmin hE dX2_goThrough_88 mm_X2_70 rfl (by decide) (Nat.le_of_ble_eq_true rfl) ?_
          refine rx_iastN hE dX2_goThrough_91 (jp_6 hb) (by omega) (by decide) ?_
          refine rx_mem jw_6 ?_
          refine rx_iinc_3 hE dX2_goThrough_92 (v := 1) (by decide) (by decide) rfl ?_
          rw [nI_1]
          refine rx_goto (tgt := 4) hE dX2_goThrough_95 (by decide) ?_
          exact ih (k + 1) _ _ (by omega) (by rw [← hR']; show (jgt1 set k J') 9 2 = _; unfold jgt1; split <;> rfl) (fun i hi => by show (jgt1 set k J') 2 i = _ ∧ _; rw [show (jgt1 set k J') 2 i = J' 2 i from by unfold jgt1; split <;> rfl]; exact hp' i hi) (by rw [← hF]; show _ = jgtF set (k + 1) n (jgt2 k (jgt1 set k J')) (jgtA set k J' acc); first | (rw [show jgtA set k J' acc = _ from if_neg c25]; rfl) | (rw [show jgtA set k J' acc = _ from if_pos c25]; first | (rw [if_pos c56]; rfl) | (rw [if_neg c56]; rfl)))
  refine rx_iconst hE dX2_goThrough_0 (v := 0) (by decide) ?_
  refine rx_istore_n_2 hE dX2_goThrough_1 (by decide) rfl ?_
  refine rx_iconst hE dX2_goThrough_2 (v := 0) (by decide) ?_
  refine rx_istore_n_3 hE dX2_goThrough_3 (by decide) rfl ?_
  exact loop R 0 J 0 (by omega) hR hp rfl
