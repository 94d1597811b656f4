/-! ===== the law's start ===== -/
theorem kS0_put : kput kS0 (j_s (xX0 2) 7 (fun _ => 0)) = kS0 := by
  rw [show xX0 2 = jini from xX0_j (by decide +kernel)]
  funext k
  unfold kput
  by_cases k10 : k = 10
  · subst k10
    rw [if_pos rfl, ksaid_s7]
    funext q
    show ksaid (fun _ => 0) jini q = 0
    unfold ksaid
    have hj : ∀ f i, f ≠ 9 → jini f i = 0 := fun f i hf => by unfold jini; rw [if_neg hf]
    have hk := ktab_lt ((q - 11) % 5)
    repeat' split
    all_goals first
      | rfl
      | exact hj _ _ (by omega)
  rw [if_neg k10]
  by_cases k11 : k = 11
  · subst k11
    rw [if_pos rfl]
    funext i
    show (if i < 6 then (0 : Int32) else kS0 11 i) = kS0 11 i
    by_cases hi : i < 6
    · rw [if_pos hi]; rfl
    · rw [if_neg hi]
  rw [if_neg k11]
  by_cases k0 : k = 0
  · subst k0
    rw [if_pos rfl]
    funext i
    show upd (kS0 0) 23 (-1) i = kS0 0 i
    by_cases hi : i = 23
    · subst hi; rfl
    · rw [upd_ne hi]
  rw [if_neg k0]
theorem xX0_img {k : Nat} (hk : k < 4) : xX0 (33 + 4 * k) 0 3 = 0 := by
  match k, hk with
  | 0, _ => rfl
  | 1, _ => rfl
  | 2, _ => rfl
  | 3, _ => rfl
theorem LI0 (Q : gU) : LI 408 xX0 (fun _ => none) Q kS0 := by
  have h2 : xX0 2 = jini := xX0_j (by decide +kernel)
  refine ⟨⟨0, by omega, rfl, rfl, fun j hj => absurd hj (by omega)⟩, ⟨0, by omega, rfl, rfl, rfl, fun i => rfl⟩, ⟨rfl, rfl, rfl, rfl⟩, 0, rfl, by omega, ⟨Or.inl rfl, 0, by decide, rfl⟩, fun i hi => absurd hi (by omega), fun k hk => Or.inl ⟨xX0_img hk, rfl⟩, ?_, 0, 0, by omega, by omega, rfl, rfl, ⟨rfl, by omega, fun i hi => absurd hi (by omega)⟩, fun i hi => absurd hi (by omega)⟩
  rw [h2]
  exact ⟨Or.inr ⟨rfl, rfl, rfl⟩, rfl, 0, by omega, rfl, ⟨rfl, by omega, fun i hi => absurd hi (by omega)⟩, fun i hi => absurd hi (by omega)⟩
theorem ST0 (Q : gU) (G : gK) : ST (xm 408 xX0 (fun _ => none) Q G kS0 (fun _ _ => 0)) := ⟨408, xX0, fun _ => none, Q, G, kS0, fun _ _ => 0, fun _ => 0, LI0 Q, by rw [kS0_put]⟩
set_option maxRecDepth 100000 in
set_option maxHeartbeats 1000000 in
theorem law_start {d : Nat} {nm : String} {E : gE} {L : Nat} {xs : Nat → Int32} (hE : g_E d (mL nm) E) (hd : 40 ≤ d) (hX : g_X0 L xs E) (hL : L ≤ 3072) (Q : gU) (G : gK) : RX E 4 600000 7302250 0 [some (.ref 0), none, none, none] [] (16, xF0 Q G) := by
  refine rx_new (a := 599608 + 23 + 1 + 367) (b := 7292417 + 5689 + 42 + 4083) hE dL_law_0 nc_L_7 (fun _ => rfl) ?_
  refine rx_dup hE dL_law_3 rfl ?_
  refine rx_callI (av := []) hE dL_law_4 lk_L_9 (c_X10_make Q G) np_X10_init rfl rfl (by omega) (Nat.le_of_ble_eq_true rfl) rfl ?_
  rintro v M' ⟨rfl, rfl⟩
  refine rx_astore_n_1 hE dL_law_7 (by decide) rfl ?_
  refine rx_new (a := 599608 + 23) (b := 7292417 + 5689) hE dL_law_8 nc_L_10 (fun _ => rfl) ?_
  refine rx_dup hE dL_law_11 rfl ?_
  refine rx_callI (av := []) hE dL_law_12 lk_L_12 (c_X11_make Q G) np_X11_init rfl rfl (by omega) (Nat.le_of_ble_eq_true rfl) rfl ?_
  rintro v M' ⟨rfl, rfl⟩
  refine rx_astore_n_2 hE dL_law_15 (by decide) rfl ?_
  refine rx_iconst hE dL_law_16 (v := 0) (by decide) ?_
  refine rx_istore_n_3 hE dL_law_17 (by decide) rfl ?_
  exact law_loop hE hd hX hL 513 _ _ 0 _ (by omega) (by omega) (by omega) (by omega) (ST0 Q G)
