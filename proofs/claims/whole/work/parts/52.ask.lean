theorem rx_lng {E : gE} {nL a b pc : Nat} {ls : List (Option Value)} {st : List Value} {M : gM} (x y : Int64) (h : x = y) (k : RX E nL a b pc ls (.long y :: st) M) : RX E nL a b pc ls (.long x :: st) M := by rw [h]; exact k
def q_seed (x n : Int32) : Int32 := if 0 ≤ n then x else -1
/-! ===== draws ===== -/
def qdx (x : Nat) : Nat := (x * 1103515245 + 12345) % 2147483648
theorem qdx_lt (x : Nat) : qdx x < 2147483648 := Nat.mod_lt _ (by decide)
def qdv (x k : Nat) : Nat := qdx x / 65536 % k
def k_x (L : gLg) (v : Int64) : gLg := fun k => if k = 0 then vp_updL (L 0) 0 v else L k
theorem kput_f1 {S : gS} {J : gJn} {v : Int32} : k_f (kput S J) 1 v = kput (k_f S 1 v) J := by
  funext k
  by_cases h0 : k = 0
  · subst h0
    funext j
    show upd (upd (S 0) 23 (J 9 5)) 1 v j = upd (upd (S 0) 1 v) 23 (J 9 5) j
    unfold upd
    by_cases h : j = 1
    · rw [if_pos h, if_neg (by omega), if_pos h]
    · rw [if_neg h]
      by_cases h2 : j = 23
      · rw [if_pos h2, if_pos h2]
      · rw [if_neg h2, if_neg h2, if_neg h]
  · have e : ∀ S : gS, k_f S 1 v k = S k := fun S => if_neg h0
    rw [e]
    show kput S J k = kput (k_f S 1 v) J k
    unfold kput
    rw [show k_f S 1 v 10 = S 10 from rfl, show k_f S 1 v 11 = S 11 from rfl, if_neg h0, if_neg h0, e]
theorem kput_f2 {S : gS} {J : gJn} {v : Int32} : k_f (kput S J) 2 v = kput (k_f S 2 v) J := by
  funext k
  by_cases h0 : k = 0
  · subst h0
    funext j
    show upd (upd (S 0) 23 (J 9 5)) 2 v j = upd (upd (S 0) 2 v) 23 (J 9 5) j
    unfold upd
    by_cases h : j = 2
    · rw [if_pos h, if_neg (by omega), if_pos h]
    · rw [if_neg h]
      by_cases h2 : j = 23
      · rw [if_pos h2, if_pos h2]
      · rw [if_neg h2, if_neg h2, if_neg h]
  · have e : ∀ S : gS, k_f S 2 v k = S k := fun S => if_neg h0
    rw [e]
    show kput S J k = kput (k_f S 2 v) J k
    unfold kput
    rw [show k_f S 2 v 10 = S 10 from rfl, show k_f S 2 v 11 = S 11 from rfl, if_neg h0, if_neg h0, e]
theorem kput_f8 {S : gS} {J : gJn} {v : Int32} : k_f (kput S J) 8 v = kput (k_f S 8 v) J := by
  funext k
  by_cases h0 : k = 0
  · subst h0
    funext j
    show upd (upd (S 0) 23 (J 9 5)) 8 v j = upd (upd (S 0) 8 v) 23 (J 9 5) j
    unfold upd
    by_cases h : j = 8
    · rw [if_pos h, if_neg (by omega), if_pos h]
    · rw [if_neg h]
      by_cases h2 : j = 23
      · rw [if_pos h2, if_pos h2]
      · rw [if_neg h2, if_neg h2, if_neg h]
  · have e : ∀ S : gS, k_f S 8 v k = S k := fun S => if_neg h0
    rw [e]
    show kput S J k = kput (k_f S 8 v) J k
    unfold kput
    rw [show k_f S 8 v 10 = S 10 from rfl, show k_f S 8 v 11 = S 11 from rfl, if_neg h0, if_neg h0, e]
theorem kput_f9 {S : gS} {J : gJn} {v : Int32} : k_f (kput S J) 9 v = kput (k_f S 9 v) J := by
  funext k
  by_cases h0 : k = 0
  · subst h0
    funext j
    show upd (upd (S 0) 23 (J 9 5)) 9 v j = upd (upd (S 0) 9 v) 23 (J 9 5) j
    unfold upd
    by_cases h : j = 9
    · rw [if_pos h, if_neg (by omega), if_pos h]
    · rw [if_neg h]
      by_cases h2 : j = 23
      · rw [if_pos h2, if_pos h2]
      · rw [if_neg h2, if_neg h2, if_neg h]
  · have e : ∀ S : gS, k_f S 9 v k = S k := fun S => if_neg h0
    rw [e]
    show kput S J k = kput (k_f S 9 v) J k
    unfold kput
    rw [show k_f S 9 v 10 = S 10 from rfl, show k_f S 9 v 11 = S 11 from rfl, if_neg h0, if_neg h0, e]
theorem kput_f10 {S : gS} {J : gJn} {v : Int32} : k_f (kput S J) 10 v = kput (k_f S 10 v) J := by
  funext k
  by_cases h0 : k = 0
  · subst h0
    funext j
    show upd (upd (S 0) 23 (J 9 5)) 10 v j = upd (upd (S 0) 10 v) 23 (J 9 5) j
    unfold upd
    by_cases h : j = 10
    · rw [if_pos h, if_neg (by omega), if_pos h]
    · rw [if_neg h]
      by_cases h2 : j = 23
      · rw [if_pos h2, if_pos h2]
      · rw [if_neg h2, if_neg h2, if_neg h]
  · have e : ∀ S : gS, k_f S 10 v k = S k := fun S => if_neg h0
    rw [e]
    show kput S J k = kput (k_f S 10 v) J k
    unfold kput
    rw [show k_f S 10 v 10 = S 10 from rfl, show k_f S 10 v 11 = S 11 from rfl, if_neg h0, if_neg h0, e]
theorem kput_f11 {S : gS} {J : gJn} {v : Int32} : k_f (kput S J) 11 v = kput (k_f S 11 v) J := by
  funext k
  by_cases h0 : k = 0
  · subst h0
    funext j
    show upd (upd (S 0) 23 (J 9 5)) 11 v j = upd (upd (S 0) 11 v) 23 (J 9 5) j
    unfold upd
    by_cases h : j = 11
    · rw [if_pos h, if_neg (by omega), if_pos h]
    · rw [if_neg h]
      by_cases h2 : j = 23
      · rw [if_pos h2, if_pos h2]
      · rw [if_neg h2, if_neg h2, if_neg h]
  · have e : ∀ S : gS, k_f S 11 v k = S k := fun S => if_neg h0
    rw [e]
    show kput S J k = kput (k_f S 11 v) J k
    unfold kput
    rw [show k_f S 11 v 10 = S 10 from rfl, show k_f S 11 v 11 = S 11 from rfl, if_neg h0, if_neg h0, e]
theorem kput_f12 {S : gS} {J : gJn} {v : Int32} : k_f (kput S J) 12 v = kput (k_f S 12 v) J := by
  funext k
  by_cases h0 : k = 0
  · subst h0
    funext j
    show upd (upd (S 0) 23 (J 9 5)) 12 v j = upd (upd (S 0) 12 v) 23 (J 9 5) j
    unfold upd
    by_cases h : j = 12
    · rw [if_pos h, if_neg (by omega), if_pos h]
    · rw [if_neg h]
      by_cases h2 : j = 23
      · rw [if_pos h2, if_pos h2]
      · rw [if_neg h2, if_neg h2, if_neg h]
  · have e : ∀ S : gS, k_f S 12 v k = S k := fun S => if_neg h0
    rw [e]
    show kput S J k = kput (k_f S 12 v) J k
    unfold kput
    rw [show k_f S 12 v 10 = S 10 from rfl, show k_f S 12 v 11 = S 11 from rfl, if_neg h0, if_neg h0, e]
theorem kput_f13 {S : gS} {J : gJn} {v : Int32} : k_f (kput S J) 13 v = kput (k_f S 13 v) J := by
  funext k
  by_cases h0 : k = 0
  · subst h0
    funext j
    show upd (upd (S 0) 23 (J 9 5)) 13 v j = upd (upd (S 0) 13 v) 23 (J 9 5) j
    unfold upd
    by_cases h : j = 13
    · rw [if_pos h, if_neg (by omega), if_pos h]
    · rw [if_neg h]
      by_cases h2 : j = 23
      · rw [if_pos h2, if_pos h2]
      · rw [if_neg h2, if_neg h2, if_neg h]
  · have e : ∀ S : gS, k_f S 13 v k = S k := fun S => if_neg h0
    rw [e]
    show kput S J k = kput (k_f S 13 v) J k
    unfold kput
    rw [show k_f S 13 v 10 = S 10 from rfl, show k_f S 13 v 11 = S 11 from rfl, if_neg h0, if_neg h0, e]
theorem kput_f14 {S : gS} {J : gJn} {v : Int32} : k_f (kput S J) 14 v = kput (k_f S 14 v) J := by
  funext k
  by_cases h0 : k = 0
  · subst h0
    funext j
    show upd (upd (S 0) 23 (J 9 5)) 14 v j = upd (upd (S 0) 14 v) 23 (J 9 5) j
    unfold upd
    by_cases h : j = 14
    · rw [if_pos h, if_neg (by omega), if_pos h]
    · rw [if_neg h]
      by_cases h2 : j = 23
      · rw [if_pos h2, if_pos h2]
      · rw [if_neg h2, if_neg h2, if_neg h]
  · have e : ∀ S : gS, k_f S 14 v k = S k := fun S => if_neg h0
    rw [e]
    show kput S J k = kput (k_f S 14 v) J k
    unfold kput
    rw [show k_f S 14 v 10 = S 10 from rfl, show k_f S 14 v 11 = S 11 from rfl, if_neg h0, if_neg h0, e]
theorem kput_f16 {S : gS} {J : gJn} {v : Int32} : k_f (kput S J) 16 v = kput (k_f S 16 v) J := by
  funext k
  by_cases h0 : k = 0
  · subst h0
    funext j
    show upd (upd (S 0) 23 (J 9 5)) 16 v j = upd (upd (S 0) 16 v) 23 (J 9 5) j
    unfold upd
    by_cases h : j = 16
    · rw [if_pos h, if_neg (by omega), if_pos h]
    · rw [if_neg h]
      by_cases h2 : j = 23
      · rw [if_pos h2, if_pos h2]
      · rw [if_neg h2, if_neg h2, if_neg h]
  · have e : ∀ S : gS, k_f S 16 v k = S k := fun S => if_neg h0
    rw [e]
    show kput S J k = kput (k_f S 16 v) J k
    unfold kput
    rw [show k_f S 16 v 10 = S 10 from rfl, show k_f S 16 v 11 = S 11 from rfl, if_neg h0, if_neg h0, e]
theorem kput_f18 {S : gS} {J : gJn} {v : Int32} : k_f (kput S J) 18 v = kput (k_f S 18 v) J := by
  funext k
  by_cases h0 : k = 0
  · subst h0
    funext j
    show upd (upd (S 0) 23 (J 9 5)) 18 v j = upd (upd (S 0) 18 v) 23 (J 9 5) j
    unfold upd
    by_cases h : j = 18
    · rw [if_pos h, if_neg (by omega), if_pos h]
    · rw [if_neg h]
      by_cases h2 : j = 23
      · rw [if_pos h2, if_pos h2]
      · rw [if_neg h2, if_neg h2, if_neg h]
  · have e : ∀ S : gS, k_f S 18 v k = S k := fun S => if_neg h0
    rw [e]
    show kput S J k = kput (k_f S 18 v) J k
    unfold kput
    rw [show k_f S 18 v 10 = S 10 from rfl, show k_f S 18 v 11 = S 11 from rfl, if_neg h0, if_neg h0, e]
theorem kput_f21 {S : gS} {J : gJn} {v : Int32} : k_f (kput S J) 21 v = kput (k_f S 21 v) J := by
  funext k
  by_cases h0 : k = 0
  · subst h0
    funext j
    show upd (upd (S 0) 23 (J 9 5)) 21 v j = upd (upd (S 0) 21 v) 23 (J 9 5) j
    unfold upd
    by_cases h : j = 21
    · rw [if_pos h, if_neg (by omega), if_pos h]
    · rw [if_neg h]
      by_cases h2 : j = 23
      · rw [if_pos h2, if_pos h2]
      · rw [if_neg h2, if_neg h2, if_neg h]
  · have e : ∀ S : gS, k_f S 21 v k = S k := fun S => if_neg h0
    rw [e]
    show kput S J k = kput (k_f S 21 v) J k
    unfold kput
    rw [show k_f S 21 v 10 = S 10 from rfl, show k_f S 21 v 11 = S 11 from rfl, if_neg h0, if_neg h0, e]
theorem kput_f22 {S : gS} {J : gJn} {v : Int32} : k_f (kput S J) 22 v = kput (k_f S 22 v) J := by
  funext k
  by_cases h0 : k = 0
  · subst h0
    funext j
    show upd (upd (S 0) 23 (J 9 5)) 22 v j = upd (upd (S 0) 22 v) 23 (J 9 5) j
    unfold upd
    by_cases h : j = 22
    · rw [if_pos h, if_neg (by omega), if_pos h]
    · rw [if_neg h]
      by_cases h2 : j = 23
      · rw [if_pos h2, if_pos h2]
      · rw [if_neg h2, if_neg h2, if_neg h]
  · have e : ∀ S : gS, k_f S 22 v k = S k := fun S => if_neg h0
    rw [e]
    show kput S J k = kput (k_f S 22 v) J k
    unfold kput
    rw [show k_f S 22 v 10 = S 10 from rfl, show k_f S 22 v 11 = S 11 from rfl, if_neg h0, if_neg h0, e]
theorem kput_f24 {S : gS} {J : gJn} {v : Int32} : k_f (kput S J) 24 v = kput (k_f S 24 v) J := by
  funext k
  by_cases h0 : k = 0
  · subst h0
    funext j
    show upd (upd (S 0) 23 (J 9 5)) 24 v j = upd (upd (S 0) 24 v) 23 (J 9 5) j
    unfold upd
    by_cases h : j = 24
    · rw [if_pos h, if_neg (by omega), if_pos h]
    · rw [if_neg h]
      by_cases h2 : j = 23
      · rw [if_pos h2, if_pos h2]
      · rw [if_neg h2, if_neg h2, if_neg h]
  · have e : ∀ S : gS, k_f S 24 v k = S k := fun S => if_neg h0
    rw [e]
    show kput S J k = kput (k_f S 24 v) J k
    unfold kput
    rw [show k_f S 24 v 10 = S 10 from rfl, show k_f S 24 v 11 = S 11 from rfl, if_neg h0, if_neg h0, e]
theorem kput_f27 {S : gS} {J : gJn} {v : Int32} : k_f (kput S J) 27 v = kput (k_f S 27 v) J := by
  funext k
  by_cases h0 : k = 0
  · subst h0
    funext j
    show upd (upd (S 0) 23 (J 9 5)) 27 v j = upd (upd (S 0) 27 v) 23 (J 9 5) j
    unfold upd
    by_cases h : j = 27
    · rw [if_pos h, if_neg (by omega), if_pos h]
    · rw [if_neg h]
      by_cases h2 : j = 23
      · rw [if_pos h2, if_pos h2]
      · rw [if_neg h2, if_neg h2, if_neg h]
  · have e : ∀ S : gS, k_f S 27 v k = S k := fun S => if_neg h0
    rw [e]
    show kput S J k = kput (k_f S 27 v) J k
    unfold kput
    rw [show k_f S 27 v 10 = S 10 from rfl, show k_f S 27 v 11 = S 11 from rfl, if_neg h0, if_neg h0, e]
theorem kput_f31 {S : gS} {J : gJn} {v : Int32} : k_f (kput S J) 31 v = kput (k_f S 31 v) J := by
  funext k
  by_cases h0 : k = 0
  · subst h0
    funext j
    show upd (upd (S 0) 23 (J 9 5)) 31 v j = upd (upd (S 0) 31 v) 23 (J 9 5) j
    unfold upd
    by_cases h : j = 31
    · rw [if_pos h, if_neg (by omega), if_pos h]
    · rw [if_neg h]
      by_cases h2 : j = 23
      · rw [if_pos h2, if_pos h2]
      · rw [if_neg h2, if_neg h2, if_neg h]
  · have e : ∀ S : gS, k_f S 31 v k = S k := fun S => if_neg h0
    rw [e]
    show kput S J k = kput (k_f S 31 v) J k
    unfold kput
    rw [show k_f S 31 v 10 = S 10 from rfl, show k_f S 31 v 11 = S 11 from rfl, if_neg h0, if_neg h0, e]
theorem kput_f32 {S : gS} {J : gJn} {v : Int32} : k_f (kput S J) 32 v = kput (k_f S 32 v) J := by
  funext k
  by_cases h0 : k = 0
  · subst h0
    funext j
    show upd (upd (S 0) 23 (J 9 5)) 32 v j = upd (upd (S 0) 32 v) 23 (J 9 5) j
    unfold upd
    by_cases h : j = 32
    · rw [if_pos h, if_neg (by omega), if_pos h]
    · rw [if_neg h]
      by_cases h2 : j = 23
      · rw [if_pos h2, if_pos h2]
      · rw [if_neg h2, if_neg h2, if_neg h]
  · have e : ∀ S : gS, k_f S 32 v k = S k := fun S => if_neg h0
    rw [e]
    show kput S J k = kput (k_f S 32 v) J k
    unfold kput
    rw [show k_f S 32 v 10 = S 10 from rfl, show k_f S 32 v 11 = S 11 from rfl, if_neg h0, if_neg h0, e]
set_option maxRecDepth 100000 in
set_option maxHeartbeats 4000000 in
theorem c_X11_seed {M : gM} {S : gS} {L : gLg} {J : gJn} (hM : 408 ≤ M.1) (n : Int32) : SX 0 0 0 mX11_seed [.ref 384, .int n] (kp M (kput S J) L) (fun v M' => v = some (.int (q_seed (S 0 22) n)) ∧ M' = kp M (kput (if 0 ≤ n then k_f S 22 n else S) J) L) := by
  refine SX.intro [some (.ref 384), some (.int n), none] (by decide +kernel) (Nat.le_of_ble_eq_true rfl) rfl (fun E hE hQ => ?_)
  refine rx_iload_n hE dX11_seed_0 (i := 1) rfl rfl ?_
  refine rx_if_ge (tgt := 6) hE dX11_seed_1 (by decide) (fun c1 => ?_) (fun c1 => ?_)
  · refine rx_aload_n hE dX11_seed_6 (i := 0) rfl rfl ?_
    refine rx_getf hE dX11_seed_7 fl_X11_454_10 (kp_o hM) rfl ?_
    refine rx_int _ _ (kr_f (by decide)) ?_
    refine rx_int _ (S 0 22) rfl ?_
    refine rx_istore_n_2 hE dX11_seed_10 (by decide) rfl ?_
    refine rx_aload_n hE dX11_seed_11 (i := 0) rfl rfl ?_
    refine rx_iload_n hE dX11_seed_12 (i := 1) rfl rfl ?_
    refine rx_put hE dX11_seed_13 fl_X11_454_10 fw_10_22 (kp_o hM) (fun _ => rfl) (fun _ => rfl) (Nat.le_of_ble_eq_true rfl) ?_
    refine rx_mem (M' := kp M (kput (k_f S 22 n) J) L) (kw_c22.trans (by rw [kput_f22])) ?_
    refine rx_iload_n hE dX11_seed_16 (i := 2) rfl rfl ?_
    exact rx_iret hE hQ rfl dX11_seed_17 ⟨by unfold q_seed; rw [if_pos c1], by rw [if_pos c1]⟩
  · refine rx_iconst hE dX11_seed_4 (v := -1) (by decide) ?_
    exact rx_iret hE hQ rfl dX11_seed_5 ⟨by unfold q_seed; rw [if_neg c1], by rw [if_neg c1]⟩
set_option maxRecDepth 100000 in
set_option maxHeartbeats 4000000 in
theorem c_X11_draw {M : gM} {S : gS} {L : gLg} {J : gJn} (hM : 408 ≤ M.1) {x k : Nat} (hx : L 0 0 = lN x) (hx1 : x < 2147483648) (hk0 : 0 < k) (hk1 : k ≤ 100) : SX 0 0 0 mX11_draw [.ref 384, .int (nI k)] (kp M (kput S J) L) (fun v M' => v = some (.int (nI (qdv x k))) ∧ M' = kp M (kput S J) (k_x L (lN (qdx x)))) := by
  refine SX.intro [some (.ref 384), some (.int (nI k))] (by decide +kernel) (Nat.le_of_ble_eq_true rfl) rfl (fun E hE hQ => ?_)
  refine rx_aload_n hE dX11_draw_0 (i := 0) rfl rfl ?_
  refine rx_aload_n hE dX11_draw_1 (i := 0) rfl rfl ?_
  refine rx_getf hE dX11_draw_2 fl_X11_457_10 (kp_o hM) rfl ?_
  refine rx_lng _ (lN x) hx ?_
  refine rx_ldc2 hE dX11_draw_5 kl_X11_461 ?_
  refine rx_lmul hE dX11_draw_8 ?_
  refine rx_lng _ (lN (x * 1103515245)) (lN_mul x 1103515245) ?_
  refine rx_ldc2 hE dX11_draw_9 kl_X11_463 ?_
  refine rx_ladd hE dX11_draw_12 ?_
  refine rx_lng _ (lN (x * 1103515245 + 12345)) (lN_add _ 12345) ?_
  refine rx_ldc2 hE dX11_draw_13 kl_X11_465 ?_
  refine rx_lrem hE dX11_draw_16 (by decide) ?_
  refine rx_lng _ (lN (qdx x)) (pk_lRem (by omega) (by decide) (by decide)) ?_
  refine rx_put hE dX11_draw_17 fl_X11_457_10 fw_10_37 (kp_o hM) (fun _ => rfl) (fun _ => rfl) (Nat.le_of_ble_eq_true rfl) ?_
  refine rx_mem (M' := kp M (kput S J) (k_x L (lN (qdx x)))) kw_c37 ?_
  refine rx_aload_n hE dX11_draw_20 (i := 0) rfl rfl ?_
  refine rx_getf hE dX11_draw_21 fl_X11_457_10 (kp_o hM) rfl ?_
  refine rx_lng _ (lN (qdx x)) rfl ?_
  refine rx_ldc2 hE dX11_draw_24 kl_X11_467 ?_
  refine rx_ldiv hE dX11_draw_27 (by decide) ?_
  refine rx_lng _ (lN (qdx x / 65536)) (pk_lDiv (by have := qdx_lt x; omega) (by decide) (by decide)) ?_
  refine rx_iload_n hE dX11_draw_28 (i := 1) rfl rfl ?_
  refine rx_i2l hE dX11_draw_29 ?_
  refine rx_lng _ (lN k) (nI_l (by omega)) ?_
  refine rx_lrem hE dX11_draw_30 (fun q => by have := (pk_lEQ (by omega) (by decide)).mp (show lN k = lN 0 from q); omega) ?_
  refine rx_lng _ (lN (qdv x k)) (pk_lRem (by have := qdx_lt x; omega) hk0 (by omega)) ?_
  refine rx_l2i hE dX11_draw_31 ?_
  refine rx_int _ (nI (qdv x k)) (lN_i _) ?_
  exact rx_iret hE hQ rfl dX11_draw_32 ⟨rfl, rfl⟩
