/-! ===== rows of what is let in: each road goes its own way ===== -/
def rar (e T w : Nat) : Nat := if T % e = 0 then min 999 (w + 1) else w
def rgo (m x : Nat) (b : Bool) : Nat := if b = true then x - min m x else x
def rst (e m T : Nat) (b : Bool) (s : Nat × Nat) : Nat × Nat := (rgo m (rar e T s.1) b, min 99999 (s.2 + rgo m (rar e T s.1) b))
def rsF (e m T : Nat) (b : Nat → Bool) (s : Nat × Nat) : Nat → Nat × Nat
  | 0 => s
  | k + 1 => rst e m (T + k) (b k) (rsF e m T b s k)
theorem rar_mono (e T : Nat) {w w' : Nat} (h : w ≤ w') : rar e T w ≤ rar e T w' := by
  unfold rar
  split <;> omega
theorem rgo_mono {m x y : Nat} {b b' : Bool} (hb : b' = true → b = true) (h : x ≤ y) : rgo m x b ≤ rgo m y b' := by
  unfold rgo
  by_cases c : b' = true
  · rw [if_pos c, if_pos (hb c)]
    omega
  · rw [if_neg c]
    split <;> omega
theorem min9_mono {a b : Nat} (h : a ≤ b) : min 99999 a ≤ min 99999 b := by omega
theorem rsF_mono {e m T : Nat} {b b' : Nat → Bool} {s : Nat × Nat} : ∀ k, (∀ i, i < k → b' i = true → b i = true) → (rsF e m T b s k).1 ≤ (rsF e m T b' s k).1 ∧ (rsF e m T b s k).2 ≤ (rsF e m T b' s k).2
  | 0, _ => ⟨Nat.le_refl _, Nat.le_refl _⟩
  | k + 1, h => by
    obtain ⟨h1, h2⟩ := rsF_mono (e := e) (m := m) (T := T) (s := s) k (fun i hi => h i (by omega))
    have h3 := rgo_mono (m := m) (h k (by omega)) (rar_mono e (T + k) h1)
    exact ⟨h3, min9_mono (Nat.add_le_add h2 h3)⟩
theorem rsF_ag {e m T : Nat} {b b' : Nat → Bool} {s : Nat × Nat} : ∀ k, (∀ i, i < k → b i = b' i) → rsF e m T b s k = rsF e m T b' s k
  | 0, _ => rfl
  | k + 1, h => by
    show rst e m (T + k) (b k) (rsF e m T b s k) = rst e m (T + k) (b' k) (rsF e m T b' s k)
    rw [rsF_ag k (fun i hi => h i (by omega)), h k (by omega)]
/-- a beat in which nobody waits is of no matter -/
theorem rsF_idle {e m T : Nat} {b b' : Nat → Bool} {s : Nat × Nat} {k0 : Nat} (hb : ∀ i, i ≠ k0 → b i = b' i) (hz : rar e (T + k0) (rsF e m T b s k0).1 = 0) : ∀ k, rsF e m T b s k = rsF e m T b' s k
  | 0 => rfl
  | k + 1 => by
    have ih := rsF_idle hb hz k
    show rst e m (T + k) (b k) (rsF e m T b s k) = rst e m (T + k) (b' k) (rsF e m T b' s k)
    rw [← ih]
    by_cases hk : k = k0
    · subst hk
      unfold rst
      rw [hz]
      have : ∀ c, rgo m 0 c = 0 := fun c => by unfold rgo; split <;> omega
      rw [this, this]
    · rw [hb k hk]
theorem jminN {a b : Nat} (ha : a < 2 ^ 31) (hb : b < 2 ^ 31) : jmin (nI a) (nI b) = nI (min a b) := by
  unfold jmin
  by_cases h : b < a
  · rw [if_pos (nI_lt h ha), Nat.min_eq_right (by omega)]
  · rw [if_neg (nI_nlt (by omega) hb), Nat.min_eq_left (by omega)]
theorem jarS_0ne {k r : Nat} (h : r ≠ k) (J : gJn) : jarS k J 0 r = J 0 r := by
  unfold jarS
  split
  · rfl
  · split
    · rfl
    · split
      · show upd (J 0) k _ r = J 0 r
        rw [upd_ne h]
      · rfl
theorem jarF_lt {r : Nat} : ∀ (n k : Nat) (J : gJn), r < k → jarF k n J 0 r = J 0 r
  | 0, _, _, _ => rfl
  | n + 1, k, J, h => by
    show jarF (k + 1) n (jarS k J) 0 r = J 0 r
    rw [jarF_lt n (k + 1) _ (by omega), jarS_0ne (by omega)]
theorem jarS_dep {r : Nat} {K J : gJn} (h9 : K 9 = J 9) (h1 : K 1 = J 1) (h0 : K 0 r = J 0 r) : jarS r K 0 r = jarS r J 0 r := by
  unfold jarS
  rw [h9, h1]
  split
  · exact h0
  · split
    · exact h0
    · split
      · show upd (K 0) r (jmin 999 (K 0 r + 1)) r = upd (J 0) r (jmin 999 (J 0 r + 1)) r
        rw [upd_eq, upd_eq, h0]
      · exact h0
theorem jarF_at {r : Nat} : ∀ (n k : Nat) (J : gJn), k ≤ r → r < k + n → jarF k n J 0 r = jarS r J 0 r
  | 0, _, _, h1, h2 => by omega
  | n + 1, k, J, h1, h2 => by
    show jarF (k + 1) n (jarS k J) 0 r = jarS r J 0 r
    by_cases e : r = k
    · subst e
      exact jarF_lt n (r + 1) _ (by omega)
    · rw [jarF_at n (k + 1) _ (by omega) (by omega)]
      exact jarS_dep (jarS_f k J (by decide)) (jarS_f k J (by decide)) (jarS_0ne e J)
theorem kaS_0ne {s : Int32} {k r : Nat} (h : r ≠ k) (J : gJn) : kaS s k J 0 r = J 0 r := by
  unfold kaS
  split
  · show upd (J 0) k _ r = J 0 r
    rw [upd_ne h]
  · rfl
theorem kaF_lt {s : Int32} {r : Nat} : ∀ (n k : Nat) (J : gJn), r < k → kaF s k n J 0 r = J 0 r
  | 0, _, _, _ => rfl
  | n + 1, k, J, h => by
    show kaF s (k + 1) n (kaS s k J) 0 r = J 0 r
    rw [kaF_lt n (k + 1) _ (by omega), kaS_0ne (by omega)]
theorem kaS_dep {s : Int32} {r : Nat} {K J : gJn} (h9 : K 9 = J 9) (h0 : K 0 r = J 0 r) : kaS s r K 0 r = kaS s r J 0 r := by
  unfold kaS
  split
  · show upd (K 0) r (K 0 r - jmin (K 9 1) (K 0 r)) r = upd (J 0) r (J 0 r - jmin (J 9 1) (J 0 r)) r
    rw [upd_eq, upd_eq, h0, h9]
  · exact h0
theorem kaF_at {s : Int32} {r : Nat} : ∀ (n k : Nat) (J : gJn), k ≤ r → r < k + n → kaF s k n J 0 r = kaS s r J 0 r
  | 0, _, _, h1, h2 => by omega
  | n + 1, k, J, h1, h2 => by
    show kaF s (k + 1) n (kaS s k J) 0 r = kaS s r J 0 r
    by_cases e : r = k
    · subst e
      exact kaF_lt n (r + 1) _ (by omega)
    · rw [kaF_at n (k + 1) _ (by omega) (by omega)]
      exact kaS_dep (kaS_f s k J (by decide) (by decide) (by decide) (by decide)) (kaS_0ne e J)
theorem jpl_0 (s : Int32) (J : gJn) : jpl s J 0 = kaF s 0 (jR J) (jarF 0 (jR J) J) 0 := by
  unfold jpl j_go j_end
  show (jgtF s 0 (jR J) (jarF 0 (jR J) J) 0).1 0 = _
  rw [jgtF_fst, kbF_f (by decide)]
theorem jpl_5 (s : Int32) (J : gJn) {r : Nat} (hr : r < jR J) : jpl s J 5 r = jmin 99999 (J 5 r + jpl s J 0 r) := by
  have e : ∀ A : gJn, kbF 0 (jR J) A 5 r = jmin 99999 (A 5 r + A 0 r) := fun A => by
    have h := congrFun (congrFun (kbF_5 (jR J) 0 A (A 5)) 5) r
    rw [j_s_id] at h
    rw [h]
    exact if_pos (by omega)
  rw [jpl_0]
  unfold jpl j_go j_end
  show (jgtF s 0 (jR J) (jarF 0 (jR J) J) 0).1 5 r = _
  rw [jgtF_fst, e, kaF_f s (by decide) (by decide) (by decide) (by decide), jarF_f (by decide)]
/-- the numbers of a Junction, road by road -/
def rok (J : gJn) (R : Nat) (e : Nat → Nat) (m T : Nat) (w v : Nat → Nat) : Prop := J 9 5 = -1 ∧ J 9 1 = nI m ∧ J 9 3 = nI T ∧ 0 < m ∧ m ≤ 9 ∧ T < 2 ^ 30 ∧ ∀ r, r < R → 0 < e r ∧ e r ≤ 12 ∧ J 1 r = nI (e r) ∧ w r ≤ 999 ∧ J 0 r = nI (w r) ∧ v r ≤ 99999 ∧ J 5 r = nI (v r)
theorem rok.ar {J : gJn} {R : Nat} {e : Nat → Nat} {m T : Nat} {w v : Nat → Nat} (h : rok J R e m T w v) (hR : R ≤ 6) {r : Nat} (hr : r < R) : jarF 0 R J 0 r = nI (rar (e r) T (w r)) ∧ rar (e r) T (w r) ≤ 999 := by
  obtain ⟨h5, h1, h3, m0, m9, hT, hh⟩ := h
  obtain ⟨e0, e12, he, w9, hw, v9, hv⟩ := hh r hr
  refine ⟨?_, by unfold rar; split <;> omega⟩
  rw [jarF_at R 0 J (by omega) (by omega)]
  unfold jarS
  rw [h5, if_neg (nI_m1' (by omega)), he, if_neg (nI_nle e0 (by omega)), h3, pk_rem (by omega) e0 (by omega)]
  unfold rar
  have hml := Nat.mod_lt T e0
  by_cases c : T % e r = 0
  · rw [if_pos c, if_pos (by rw [c]; rfl)]
    show upd (J 0) r (jmin 999 (J 0 r + 1)) r = _
    rw [upd_eq, hw, nI_1]
    exact jminN (by decide) (by omega)
  · rw [if_neg c, if_neg (nI_ne0 (by omega) (by omega))]
    exact hw
theorem tb_jbit : ∀ x, x < 64 → ∀ r, r < 6 → (jbit (nI x) r = 1 ↔ x.testBit r = true) := by decide +kernel
theorem rok.w {J : gJn} {R : Nat} {e : Nat → Nat} {m T : Nat} {w v : Nat → Nat} (h : rok J R e m T w v) (hR : R ≤ 6) (hj : jR J = R) {x : Nat} (hx : x < 64) {r : Nat} (hr : r < R) : jpl (nI x) J 0 r = nI (rst (e r) m T (x.testBit r) (w r, v r)).1 ∧ jpl (nI x) J 5 r = nI (rst (e r) m T (x.testBit r) (w r, v r)).2 ∧ (rst (e r) m T (x.testBit r) (w r, v r)).1 ≤ 999 ∧ (rst (e r) m T (x.testBit r) (w r, v r)).2 ≤ 99999 := by
  obtain ⟨ha, hl⟩ := h.ar hR hr
  obtain ⟨h5, h1, h3, m0, m9, hT, hh⟩ := h
  obtain ⟨e0, e12, he, w9, hw, v9, hv⟩ := hh r hr
  have hrl : rgo m (rar (e r) T (w r)) (x.testBit r) ≤ 999 := by unfold rgo; split <;> omega
  have e1 : jpl (nI x) J 0 r = nI (rgo m (rar (e r) T (w r)) (x.testBit r)) := by
    rw [jpl_0, hj, kaF_at R 0 _ (by omega) (by omega)]
    unfold kaS
    unfold rgo
    by_cases c : jbit (nI x) r = 1
    · rw [if_pos c, if_pos ((tb_jbit x hx r (by omega)).mp c)]
      show upd (jarF 0 R J 0) r (jarF 0 R J 0 r - jmin (jarF 0 R J 9 1) (jarF 0 R J 0 r)) r = _
      rw [upd_eq, ha, jarF_f (by decide), h1, jminN (by omega) (by omega), pk_sub (by omega)]
    · rw [if_neg c, if_neg (fun q => c ((tb_jbit x hx r (by omega)).mpr q))]
      exact ha
  refine ⟨e1, ?_, hrl, by show min 99999 _ ≤ 99999; omega⟩
  rw [jpl_5 (nI x) J (by omega), e1, hv, nI_add]
  exact jminN (by decide) (by omega)
theorem rok.pl {J : gJn} {R : Nat} {e : Nat → Nat} {m T : Nat} {w v : Nat → Nat} (h : rok J R e m T w v) (hR : R ≤ 6) (hj : jR J = R) (hT1 : T + 1 < 2 ^ 30) {x : Nat} (hx : x < 64) : rok (jpl (nI x) J) R e m (T + 1) (fun r => (rst (e r) m T (x.testBit r) (w r, v r)).1) (fun r => (rst (e r) m T (x.testBit r) (w r, v r)).2) := by
  have hw := fun r hr => h.w hR hj hx (r := r) hr
  obtain ⟨h5, h1, h3, m0, m9, hT, hh⟩ := h
  have hs := jst.pl (nI x) J
  refine ⟨by rw [hs.2.2 5 (by decide) (by decide)]; exact h5, by rw [hs.2.2 1 (by decide) (by decide)]; exact h1, ?_, m0, m9, hT1, fun r hr => ?_⟩
  · have : jpl (nI x) J 9 3 = J 9 3 + 1 := jpl_93 _ _
    rw [this, h3, nI_1]
  · obtain ⟨e0, e12, he, w9, hw0, v9, hv⟩ := hh r hr
    obtain ⟨a1, a2, a3, a4⟩ := hw r hr
    exact ⟨e0, e12, by rw [hs.1]; exact he, a3, a1, a4, a2⟩
