/-! ===== the words of a rule are the same on both sides ===== -/
theorem and1 (x : Int32) : x &&& 1 = 0 ∨ x &&& 1 = 1 := by
  have h : (x &&& 1).toBitVec.toNat < 2 := by
    rw [Int32.toBitVec_and, BitVec.toNat_and]
    exact Nat.lt_of_le_of_lt Nat.and_le_right (by decide)
  have h2 : (x &&& 1).toBitVec.toNat = 0 ∨ (x &&& 1).toBitVec.toNat = 1 := by omega
  rcases h2 with h2 | h2
  · exact Or.inl (Int32.toBitVec_inj.mp (BitVec.eq_of_toNat_eq h2))
  · exact Or.inr (Int32.toBitVec_inj.mp (BitVec.eq_of_toNat_eq h2))
theorem jbit01 (x : Int32) (k : Nat) : jbit x k = 0 ∨ jbit x k = 1 := and1 _
theorem w_4 (x : Int32) (k : Nat) : (if jbit x k = 1 then (1 : Int64) else 0) = (jbit x k).toInt64 := by
  rcases jbit01 x k with h | h
  · rw [h]; rfl
  · rw [h]; rfl
theorem zsm_one {f g : Nat → Int32} {r B : Nat} {v : Int32} (hr : f r = 0) (hg : g r = v) (ho : ∀ i, i ≠ r → i < B → g i = f i) : ∀ (n k : Nat), k + n ≤ B → zsm g k n = zsm f k n + (if k ≤ r ∧ r < k + n then v else 0)
  | 0, k, _ => by
    rw [if_neg (by omega)]
    rfl
  | n + 1, k, hB => by
    show g k + zsm g (k + 1) n = (f k + zsm f (k + 1) n) + _
    rw [zsm_one hr hg ho n (k + 1) (by omega)]
    by_cases h : k = r
    · subst h
      rw [if_neg (by omega), if_pos ⟨Nat.le_refl _, by omega⟩, hg, hr, Int32.zero_add, Int32.add_zero, Int32.add_comm]
    · rw [ho k h (by omega), Int32.add_assoc]
      by_cases h2 : k + 1 ≤ r ∧ r < k + 1 + n
      · rw [if_pos h2, if_pos ⟨by omega, by omega⟩]
      · rw [if_neg h2, if_neg (by omega)]
set_option maxRecDepth 20000 in
theorem z_or : ∀ r, r < 6 → ∀ m, m < 2 ^ r → (∀ o, o < 6 → jbit (nI (m ||| 2 ^ r)) o = if o = r then 1 else jbit (nI m) o) ∧ (∀ o, o < 6 → r ≤ o → jbit (nI m) o = 0) ∧ m ||| 2 ^ r < 2 ^ (r + 1) := by decide +kernel
theorem z_pow {r m : Nat} (hr : r < 6) (hm : m < 2 ^ r) : m < 64 := Nat.lt_of_lt_of_le hm (Nat.pow_le_pow_right (by decide) (show r ≤ 6 by omega))
theorem zsm_zero {f : Nat → Int32} : ∀ (n k : Nat), (∀ i, k ≤ i → i < k + n → f i = 0) → zsm f k n = 0
  | 0, _, _ => rfl
  | n + 1, k, h => by
    show f k + zsm f (k + 1) n = 0
    rw [h k (Nat.le_refl _) (by omega), zsm_zero n (k + 1) (fun i h1 h2 => h i (by omega) (by omega))]
    rfl
def zF (pn : Nat → Nat) (m R k : Nat) : Int32 := zsm (fun o => if o < k then (if jbit (nI m) o = 1 ∧ jbit (nI m) k = 1 then zt pn o k else 0) else 0) 0 R
theorem w_6 (pn : Nat → Nat) {r m R : Nat} (hr : r < R) (hR : R ≤ 6) (hm : m < 2 ^ r) : kso pn (nI m ||| (1 : Int32) <<< (nI r &&& 31)) R - kso pn (nI m) R = jsw pn (nI m) r R := by
  have hm6 := z_pow (show r < 6 by omega) hm
  obtain ⟨h1, h2, h3⟩ := z_or r (by omega) m hm
  obtain ⟨h4, h5⟩ := k_or m hm6 r (by omega)
  rw [h4, kso_jso pn h5 hR, kso_jso pn hm6 hR, zso pn h5 hR, zso pn hm6 hR]
  show zsm (zF pn (m ||| 2 ^ r) R) 1 (R - 1) - zsm (zF pn m R) 1 (R - 1) = _
  have hv : zF pn (m ||| 2 ^ r) R r = jsw pn (nI m) r R := by
    unfold jsw zF
    rw [jswF_sum, Int32.zero_add]
    apply zsm_congr
    intro o ho1 ho2
    rw [h1 o (by omega), h1 r (by omega), if_pos rfl]
    by_cases h : o < r
    · rw [if_pos h, if_neg (show ¬ o = r by omega)]
      by_cases hb : jbit (nI m) o = 1
      · rw [if_pos ⟨hb, rfl⟩, if_pos hb, zt_comm]
      · rw [if_neg (fun q => hb q.1), if_neg hb]
    · rw [if_neg h, h2 o (by omega) (by omega), if_neg (by decide)]
  have h0 : zF pn m R r = 0 := by
    apply zsm_zero
    intro o ho1 ho2
    rw [h2 r (by omega) (Nat.le_refl _)]
    split
    · rw [if_neg (fun q => absurd q.2 (by decide))]
    · rfl
  rw [zsm_one (B := 6) h0 hv (fun i hi hB => ?_) (R - 1) 1 (by omega)]
  · by_cases hr0 : 1 ≤ r
    · rw [if_pos ⟨hr0, by omega⟩, Int32.add_comm, Int32.add_sub_cancel]
    · have hr1 : r = 0 := by omega
      subst hr1
      rw [if_neg (by omega), Int32.add_zero, Int32.sub_self]
      unfold jsw
      rw [jswF_sum, Int32.zero_add]
      refine (zsm_zero _ _ (fun o ho1 ho2 => ?_)).symm
      rw [h2 o (by omega) (Nat.zero_le _), if_neg (by decide)]
  · show zsm _ 0 R = zsm _ 0 R
    apply zsm_congr
    intro o ho1 ho2
    rw [h1 i hB, if_neg hi]
    by_cases h : o < i
    · rw [if_pos h, if_pos h]
      by_cases hri : r ≤ i
      · rw [h2 i hB hri, if_neg (fun q => absurd q.2 (by decide)), if_neg (fun q => absurd q.2 (by decide))]
      · rw [h1 o (by omega), if_neg (show ¬ o = r by omega)]
    · rw [if_neg h, if_neg h]
theorem w_7 {J : gJn} {r : Nat} (h : J 6 r = -1 ∨ ¬ J 6 r < 0) : k_since J r = j_since J r := by
  unfold k_since j_since jmin
  rcases h with h | h
  · rw [if_pos h, if_pos (by rw [h]; decide)]
  · rw [if_neg h, if_neg (show ¬ J 6 r = -1 from fun q => h (by rw [q]; decide))]
    by_cases c : J 9 3 - J 6 r ≤ 99
    · rw [if_pos c]
      by_cases c2 : J 9 3 - J 6 r < 99
      · rw [if_pos c2]
      · rw [if_neg c2]
        exact Int32.le_antisymm c (Int32.not_lt.mp c2)
    · rw [if_neg c, if_neg (show ¬ J 9 3 - J 6 r < 99 from fun q => c (Int32.le_of_lt q))]
theorem jobF_congr (J : gJn) (t t' : Nat → Int32 → Bool) : ∀ (n k m : Nat), m < 2 ^ k → k + n ≤ 6 → (∀ k' m', k ≤ k' → k' < k + n → m' < 2 ^ k' → t k' (nI m') = t' k' (nI m')) → jobF J t k n (nI m) = jobF J t' k n (nI m)
  | 0, _, _, _, _, _ => rfl
  | n + 1, k, m, hm, hk, h => by
    have hm6 := z_pow (show k < 6 by omega) hm
    show jobF J t (k + 1) n (if J 3 k &&& nI m = 0 then nI m ||| (if t k (nI m) = true then (1 : Int32) <<< (nI k &&& 31) else 0) else nI m) = jobF J t' (k + 1) n (if J 3 k &&& nI m = 0 then nI m ||| (if t' k (nI m) = true then (1 : Int32) <<< (nI k &&& 31) else 0) else nI m)
    rw [h k m (Nat.le_refl _) (by omega) hm]
    have hm1 : m < 2 ^ (k + 1) := Nat.lt_of_lt_of_le hm (Nat.pow_le_pow_right (by decide) (by omega))
    have h' : ∀ k' m', k + 1 ≤ k' → k' < k + 1 + n → m' < 2 ^ k' → t k' (nI m') = t' k' (nI m') := fun k' m' a b c => h k' m' (by omega) (by omega) c
    split
    · split
      · rw [(k_or m hm6 k (by omega)).1]
        exact jobF_congr J t t' n (k + 1) _ (z_or k (by omega) m hm).2.2 (by omega) h'
      · rw [k_or0 m hm6]
        exact jobF_congr J t t' n (k + 1) m hm1 (by omega) h'
    · exact jobF_congr J t t' n (k + 1) m hm1 (by omega) h'
theorem j_word_0 (pn : Nat → Nat) (R bb : Nat) (J : gJn) (r : Nat) (set : Int32) : j_word pn R bb J r set (nI 0) = (nI r).toInt64 := by
  unfold j_word
  rw [if_pos (show nI 0 = 0 by decide)]
theorem j_word_1 (pn : Nat → Nat) (R bb : Nat) (J : gJn) (r : Nat) (set : Int32) : j_word pn R bb J r set (nI 1) = (J 0 r).toInt64 := by
  unfold j_word
  rw [if_neg (show ¬ nI 1 = 0 by decide), if_pos (show nI 1 = 1 by decide)]
theorem j_word_2 (pn : Nat → Nat) (R bb : Nat) (J : gJn) (r : Nat) (set : Int32) : j_word pn R bb J r set (nI 2) = (J 1 r).toInt64 := by
  unfold j_word
  rw [if_neg (show ¬ nI 2 = 0 by decide), if_neg (show ¬ nI 2 = 1 by decide), if_pos (show nI 2 = 2 by decide)]
theorem j_word_3 (pn : Nat → Nat) (R bb : Nat) (J : gJn) (r : Nat) (set : Int32) : j_word pn R bb J r set (nI 3) = (J 2 r).toInt64 := by
  unfold j_word
  rw [if_neg (show ¬ nI 3 = 0 by decide), if_neg (show ¬ nI 3 = 1 by decide), if_neg (show ¬ nI 3 = 2 by decide), if_pos (show nI 3 = 3 by decide)]
theorem j_word_4 (pn : Nat → Nat) (R bb : Nat) (J : gJn) (r : Nat) (set : Int32) : j_word pn R bb J r set (nI 4) = (jbit (J 8 bb) r).toInt64 := by
  unfold j_word
  rw [if_neg (show ¬ nI 4 = 0 by decide), if_neg (show ¬ nI 4 = 1 by decide), if_neg (show ¬ nI 4 = 2 by decide), if_neg (show ¬ nI 4 = 3 by decide), if_pos (show nI 4 = 4 by decide)]
theorem j_word_5 (pn : Nat → Nat) (R bb : Nat) (J : gJn) (r : Nat) (set : Int32) : j_word pn R bb J r set (nI 5) = (j_bc set).toInt64 := by
  unfold j_word
  rw [if_neg (show ¬ nI 5 = 0 by decide), if_neg (show ¬ nI 5 = 1 by decide), if_neg (show ¬ nI 5 = 2 by decide), if_neg (show ¬ nI 5 = 3 by decide), if_neg (show ¬ nI 5 = 4 by decide), if_pos (show nI 5 = 5 by decide)]
theorem j_word_6 (pn : Nat → Nat) (R bb : Nat) (J : gJn) (r : Nat) (set : Int32) : j_word pn R bb J r set (nI 6) = (jsw pn set r R).toInt64 := by
  unfold j_word
  rw [if_neg (show ¬ nI 6 = 0 by decide), if_neg (show ¬ nI 6 = 1 by decide), if_neg (show ¬ nI 6 = 2 by decide), if_neg (show ¬ nI 6 = 3 by decide), if_neg (show ¬ nI 6 = 4 by decide), if_neg (show ¬ nI 6 = 5 by decide), if_pos (show nI 6 = 6 by decide)]
theorem j_word_7 (pn : Nat → Nat) (R bb : Nat) (J : gJn) (r : Nat) (set : Int32) : j_word pn R bb J r set (nI 7) = (j_since J r).toInt64 := by
  unfold j_word
  rw [if_neg (show ¬ nI 7 = 0 by decide), if_neg (show ¬ nI 7 = 1 by decide), if_neg (show ¬ nI 7 = 2 by decide), if_neg (show ¬ nI 7 = 3 by decide), if_neg (show ¬ nI 7 = 4 by decide), if_neg (show ¬ nI 7 = 5 by decide), if_neg (show ¬ nI 7 = 6 by decide), if_pos (show nI 7 = 7 by decide)]
theorem j_word_8 (pn : Nat → Nat) (R bb : Nat) (J : gJn) (r : Nat) (set : Int32) : j_word pn R bb J r set (nI 8) = (J 4 r).toInt64 := by
  unfold j_word
  rw [if_neg (show ¬ nI 8 = 0 by decide), if_neg (show ¬ nI 8 = 1 by decide), if_neg (show ¬ nI 8 = 2 by decide), if_neg (show ¬ nI 8 = 3 by decide), if_neg (show ¬ nI 8 = 4 by decide), if_neg (show ¬ nI 8 = 5 by decide), if_neg (show ¬ nI 8 = 6 by decide), if_neg (show ¬ nI 8 = 7 by decide), if_pos (show nI 8 = 8 by decide)]
theorem j_word_9 (pn : Nat → Nat) (R bb : Nat) (J : gJn) (r : Nat) (set : Int32) : j_word pn R bb J r set (nI 9) = (jsum (J 0) R).toInt64 := by
  unfold j_word
  rw [if_neg (show ¬ nI 9 = 0 by decide), if_neg (show ¬ nI 9 = 1 by decide), if_neg (show ¬ nI 9 = 2 by decide), if_neg (show ¬ nI 9 = 3 by decide), if_neg (show ¬ nI 9 = 4 by decide), if_neg (show ¬ nI 9 = 5 by decide), if_neg (show ¬ nI 9 = 6 by decide), if_neg (show ¬ nI 9 = 7 by decide), if_neg (show ¬ nI 9 = 8 by decide), if_pos (show nI 9 = 9 by decide)]
theorem j_word_10 (pn : Nat → Nat) (R bb : Nat) (J : gJn) (r : Nat) (set : Int32) : j_word pn R bb J r set (nI 10) = (nI bb).toInt64 := by
  unfold j_word
  rw [if_neg (show ¬ nI 10 = 0 by decide), if_neg (show ¬ nI 10 = 1 by decide), if_neg (show ¬ nI 10 = 2 by decide), if_neg (show ¬ nI 10 = 3 by decide), if_neg (show ¬ nI 10 = 4 by decide), if_neg (show ¬ nI 10 = 5 by decide), if_neg (show ¬ nI 10 = 6 by decide), if_neg (show ¬ nI 10 = 7 by decide), if_neg (show ¬ nI 10 = 8 by decide), if_neg (show ¬ nI 10 = 9 by decide), if_pos (show nI 10 = 10 by decide)]
theorem j_word_11 (pn : Nat → Nat) (R bb : Nat) (J : gJn) (r : Nat) (set : Int32) : j_word pn R bb J r set (nI 11) = j_hour J := by
  unfold j_word
  rw [if_neg (show ¬ nI 11 = 0 by decide), if_neg (show ¬ nI 11 = 1 by decide), if_neg (show ¬ nI 11 = 2 by decide), if_neg (show ¬ nI 11 = 3 by decide), if_neg (show ¬ nI 11 = 4 by decide), if_neg (show ¬ nI 11 = 5 by decide), if_neg (show ¬ nI 11 = 6 by decide), if_neg (show ¬ nI 11 = 7 by decide), if_neg (show ¬ nI 11 = 8 by decide), if_neg (show ¬ nI 11 = 9 by decide), if_neg (show ¬ nI 11 = 10 by decide)]
theorem kwords_0 (pn : Nat → Nat) (R bb : Nat) (J : gJn) (r : Nat) (set : Int32) : kwords pn R bb J r set 0 = (nI r).toInt64 := by
  unfold kwords
  rw [if_pos (show 0 = 0 by decide)]
theorem kwords_1 (pn : Nat → Nat) (R bb : Nat) (J : gJn) (r : Nat) (set : Int32) : kwords pn R bb J r set 1 = (J 0 r).toInt64 := by
  unfold kwords
  rw [if_neg (show ¬ 1 = 0 by decide), if_pos (show 1 = 1 by decide)]
theorem kwords_2 (pn : Nat → Nat) (R bb : Nat) (J : gJn) (r : Nat) (set : Int32) : kwords pn R bb J r set 2 = (J 1 r).toInt64 := by
  unfold kwords
  rw [if_neg (show ¬ 2 = 0 by decide), if_neg (show ¬ 2 = 1 by decide), if_pos (show 2 = 2 by decide)]
theorem kwords_3 (pn : Nat → Nat) (R bb : Nat) (J : gJn) (r : Nat) (set : Int32) : kwords pn R bb J r set 3 = (J 2 r).toInt64 := by
  unfold kwords
  rw [if_neg (show ¬ 3 = 0 by decide), if_neg (show ¬ 3 = 1 by decide), if_neg (show ¬ 3 = 2 by decide), if_pos (show 3 = 3 by decide)]
theorem kwords_4 (pn : Nat → Nat) (R bb : Nat) (J : gJn) (r : Nat) (set : Int32) : kwords pn R bb J r set 4 = (if jbit (J 8 bb) r = 1 then 1 else 0) := by
  unfold kwords
  rw [if_neg (show ¬ 4 = 0 by decide), if_neg (show ¬ 4 = 1 by decide), if_neg (show ¬ 4 = 2 by decide), if_neg (show ¬ 4 = 3 by decide), if_pos (show 4 = 4 by decide)]
theorem kwords_5 (pn : Nat → Nat) (R bb : Nat) (J : gJn) (r : Nat) (set : Int32) : kwords pn R bb J r set 5 = (j_bc set).toInt64 := by
  unfold kwords
  rw [if_neg (show ¬ 5 = 0 by decide), if_neg (show ¬ 5 = 1 by decide), if_neg (show ¬ 5 = 2 by decide), if_neg (show ¬ 5 = 3 by decide), if_neg (show ¬ 5 = 4 by decide), if_pos (show 5 = 5 by decide)]
theorem kwords_6 (pn : Nat → Nat) (R bb : Nat) (J : gJn) (r : Nat) (set : Int32) : kwords pn R bb J r set 6 = (kso pn (set ||| (1 : Int32) <<< (nI r &&& 31)) R - kso pn set R).toInt64 := by
  unfold kwords
  rw [if_neg (show ¬ 6 = 0 by decide), if_neg (show ¬ 6 = 1 by decide), if_neg (show ¬ 6 = 2 by decide), if_neg (show ¬ 6 = 3 by decide), if_neg (show ¬ 6 = 4 by decide), if_neg (show ¬ 6 = 5 by decide), if_pos (show 6 = 6 by decide)]
theorem kwords_7 (pn : Nat → Nat) (R bb : Nat) (J : gJn) (r : Nat) (set : Int32) : kwords pn R bb J r set 7 = (k_since J r).toInt64 := by
  unfold kwords
  rw [if_neg (show ¬ 7 = 0 by decide), if_neg (show ¬ 7 = 1 by decide), if_neg (show ¬ 7 = 2 by decide), if_neg (show ¬ 7 = 3 by decide), if_neg (show ¬ 7 = 4 by decide), if_neg (show ¬ 7 = 5 by decide), if_neg (show ¬ 7 = 6 by decide), if_pos (show 7 = 7 by decide)]
theorem kwords_8 (pn : Nat → Nat) (R bb : Nat) (J : gJn) (r : Nat) (set : Int32) : kwords pn R bb J r set 8 = (J 4 r).toInt64 := by
  unfold kwords
  rw [if_neg (show ¬ 8 = 0 by decide), if_neg (show ¬ 8 = 1 by decide), if_neg (show ¬ 8 = 2 by decide), if_neg (show ¬ 8 = 3 by decide), if_neg (show ¬ 8 = 4 by decide), if_neg (show ¬ 8 = 5 by decide), if_neg (show ¬ 8 = 6 by decide), if_neg (show ¬ 8 = 7 by decide), if_pos (show 8 = 8 by decide)]
theorem kwords_9 (pn : Nat → Nat) (R bb : Nat) (J : gJn) (r : Nat) (set : Int32) : kwords pn R bb J r set 9 = (jsum (J 0) R).toInt64 := by
  unfold kwords
  rw [if_neg (show ¬ 9 = 0 by decide), if_neg (show ¬ 9 = 1 by decide), if_neg (show ¬ 9 = 2 by decide), if_neg (show ¬ 9 = 3 by decide), if_neg (show ¬ 9 = 4 by decide), if_neg (show ¬ 9 = 5 by decide), if_neg (show ¬ 9 = 6 by decide), if_neg (show ¬ 9 = 7 by decide), if_neg (show ¬ 9 = 8 by decide), if_pos (show 9 = 9 by decide)]
theorem kwords_10 (pn : Nat → Nat) (R bb : Nat) (J : gJn) (r : Nat) (set : Int32) : kwords pn R bb J r set 10 = (nI bb).toInt64 := by
  unfold kwords
  rw [if_neg (show ¬ 10 = 0 by decide), if_neg (show ¬ 10 = 1 by decide), if_neg (show ¬ 10 = 2 by decide), if_neg (show ¬ 10 = 3 by decide), if_neg (show ¬ 10 = 4 by decide), if_neg (show ¬ 10 = 5 by decide), if_neg (show ¬ 10 = 6 by decide), if_neg (show ¬ 10 = 7 by decide), if_neg (show ¬ 10 = 8 by decide), if_neg (show ¬ 10 = 9 by decide), if_pos (show 10 = 10 by decide)]
theorem kwords_11 (pn : Nat → Nat) (R bb : Nat) (J : gJn) (r : Nat) (set : Int32) : kwords pn R bb J r set 11 = (J 9 3 / J 9 0).toInt64 := by
  unfold kwords
  rw [if_neg (show ¬ 11 = 0 by decide), if_neg (show ¬ 11 = 1 by decide), if_neg (show ¬ 11 = 2 by decide), if_neg (show ¬ 11 = 3 by decide), if_neg (show ¬ 11 = 4 by decide), if_neg (show ¬ 11 = 5 by decide), if_neg (show ¬ 11 = 6 by decide), if_neg (show ¬ 11 = 7 by decide), if_neg (show ¬ 11 = 8 by decide), if_neg (show ¬ 11 = 9 by decide), if_neg (show ¬ 11 = 10 by decide)]
theorem w_all (pn : Nat → Nat) {R bb r m : Nat} {J : gJn} (hB : ¬ J 9 0 ≤ 0) (hr : r < R) (hR : R ≤ 6) (hm : m < 2 ^ r) (h6 : J 6 r = -1 ∨ ¬ J 6 r < 0) : ∀ i, i < 12 → kwords pn R bb J r (nI m) i = j_word pn R bb J r (nI m) (nI i) := by
  intro i hi
  have h12 : i = 0 ∨ i = 1 ∨ i = 2 ∨ i = 3 ∨ i = 4 ∨ i = 5 ∨ i = 6 ∨ i = 7 ∨ i = 8 ∨ i = 9 ∨ i = 10 ∨ i = 11 := by omega
  rcases h12 with rfl | rfl | rfl | rfl | rfl | rfl | rfl | rfl | rfl | rfl | rfl | rfl
  · rw [kwords_0, j_word_0]
  · rw [kwords_1, j_word_1]
  · rw [kwords_2, j_word_2]
  · rw [kwords_3, j_word_3]
  · rw [kwords_4, j_word_4, w_4]
  · rw [kwords_5, j_word_5]
  · rw [kwords_6, j_word_6, w_6 pn hr hR hm]
  · rw [kwords_7, j_word_7, w_7 h6]
  · rw [kwords_8, j_word_8]
  · rw [kwords_9, j_word_9]
  · rw [kwords_10, j_word_10]
  · rw [kwords_11, j_word_11]
    unfold j_hour
    rw [if_neg hB]
