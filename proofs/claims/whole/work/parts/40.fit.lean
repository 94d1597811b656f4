/-! ===== what a junction's numbers keep to ===== -/
def jw (n : Nat) (x : Int32) : Prop := ∃ w : Nat, w ≤ n ∧ x = nI w
def jfw (R : Nat) (J : gJn) : Prop := (∃ m, 0 < m ∧ m ≤ 9 ∧ J 9 1 = nI m) ∧ (∀ i, i < 6 → jw 999 (J 0 i)) ∧ (∀ i, i < 6 → jw 99999 (J 5 i)) ∧ (∀ i, i < R → ∃ e, 0 < e ∧ e ≤ 12 ∧ J 1 i = nI e) ∧ jls J ∧ ∃ T, T < 2 ^ 30 ∧ J 9 3 = nI T
theorem jmin_nI {a b : Nat} (ha : a < 2 ^ 31) (hb : b < 2 ^ 31) : jmin (nI a) (nI b) = nI (min a b) := by
  unfold jmin
  by_cases h : b < a
  · rw [if_pos (nI_lt h ha), Nat.min_eq_right (by omega)]
  · rw [if_neg (nI_nlt (by omega) hb), Nat.min_eq_left (by omega)]
theorem upd_all {P : Int32 → Prop} {f : Nat → Int32} {k : Nat} {v : Int32} (h : ∀ i, i < 6 → P (f i)) (hv : P v) : ∀ i, i < 6 → P (upd f k v i) := by
  intro i hi
  unfold upd
  split
  · exact hv
  · exact h i hi
theorem jfw.addw {R : Nat} {J : gJn} (h : jfw R J) {k m : Nat} (hk : k < 6) (hm : m ≤ 1000) : jfw R (j_addw J k (nI m)) := by
  obtain ⟨h1, h2, h3, h4, h5, h6⟩ := h
  refine ⟨h1, upd_all h2 ?_, h3, h4, h5, h6⟩
  obtain ⟨w, hw, e⟩ := h2 k hk
  refine ⟨min 999 (w + m), Nat.min_le_left _ _, ?_⟩
  rw [e, nI_add, show (999 : Int32) = nI 999 from rfl, jmin_nI (by omega) (by omega)]
theorem jfw.arS {R : Nat} {J : gJn} (h : jfw R J) {k : Nat} (hk : k < 6) : jfw R (jarS k J) := by
  unfold jarS
  split
  · exact h
  · split
    · exact h
    · split
      · exact h.addw hk (m := 1) (by decide)
      · exact h
theorem jfw.ar {R : Nat} : ∀ (n k : Nat) {J : gJn}, jfw R J → k + n ≤ 6 → jfw R (jarF k n J)
  | 0, _, _, h, _ => h
  | n + 1, k, J, h, hk => jfw.ar n (k + 1) (h.arS (by omega)) (by omega)
theorem jfw.many {R : Nat} {J : gJn} (h : jfw R J) {k : Nat} (hk : k < 6) : ∃ w m, w ≤ 999 ∧ 0 < m ∧ m ≤ 9 ∧ J 0 k = nI w ∧ J 9 1 = nI m ∧ j_many J k = nI (min m w) ∧ J 0 k - j_many J k = nI (w - min m w) := by
  obtain ⟨⟨m, m0, m9, em⟩, h2, h3, h4, h5, h6⟩ := h
  obtain ⟨w, hw, e⟩ := h2 k hk
  have e2 : j_many J k = nI (min m w) := by
    unfold j_many
    rw [em, e, jmin_nI (by omega) (by omega)]
  exact ⟨w, m, hw, m0, m9, e, em, e2, by rw [e2, e, pk_sub (Nat.min_le_right _ _)]⟩
theorem jfw.leave {R : Nat} {J : gJn} (h : jfw R J) {k : Nat} (hk : k < 6) : jfw R (j_leave J k) := by
  obtain ⟨w, m, hw, _, _, _, _, _, e⟩ := h.many hk
  obtain ⟨h1, h2, h3, h4, h5, h6⟩ := h
  exact ⟨h1, upd_all h2 ⟨w - min m w, by omega, e⟩, h3, h4, h5, h6⟩
theorem jfw.s7 {R : Nat} {J : gJn} (h : jfw R J) (g : Nat → Int32) : jfw R (j_s J 7 g) := h
theorem jfw.c4 {R : Nat} {J : gJn} (h : jfw R J) (v : Int32) : jfw R (j_c J 4 v) := h
theorem jfw.c5 {R : Nat} {J : gJn} (h : jfw R J) (v : Int32) : jfw R (j_c J 5 v) := h
theorem jfw_kaS {R : Nat} {J : gJn} (h : jfw R J) (s : Int32) {k : Nat} (hk : k < 6) : jfw R (kaS s k J) := by
  unfold kaS
  split
  · obtain ⟨h1, h2, h3, h4, h5, h6⟩ := h.leave hk
    refine ⟨h1, h2, h3, h4, ?_, h6⟩
    obtain ⟨T, hT, e⟩ := h.2.2.2.2.2
    exact upd_all (P := fun x => x = -1 ∨ ¬ x < 0) h5 (Or.inr (by rw [e]; exact nI_pos (by omega)))
  · exact h
theorem jfw.kaS {R : Nat} {J : gJn} (h : jfw R J) (s : Int32) {k : Nat} (hk : k < 6) : jfw R (kaS s k J) := jfw_kaS h s hk
theorem jfw.kaF {R : Nat} (s : Int32) : ∀ (n k : Nat) {J : gJn}, jfw R J → k + n ≤ 6 → jfw R (kaF s k n J)
  | 0, _, _, h, _ => h
  | n + 1, k, J, h, hk => jfw.kaF s n (k + 1) (h.kaS s (by omega)) (by omega)
theorem jfw.gt2 {R : Nat} {J : gJn} (h : jfw R J) {k : Nat} (hk : k < 6) : jfw R (jgt2 k J) := by
  obtain ⟨h1, h2, h3, h4, h5, h6⟩ := h
  refine ⟨h1, h2, upd_all h3 ?_, h4, h5, h6⟩
  obtain ⟨w, hw, e⟩ := h2 k hk
  obtain ⟨x, hx, e2⟩ := h3 k hk
  refine ⟨min 99999 (x + w), Nat.min_le_left _ _, ?_⟩
  rw [e, e2, nI_add, show (99999 : Int32) = nI 99999 from rfl, jmin_nI (by omega) (by omega)]
theorem jfw.kbF {R : Nat} : ∀ (n k : Nat) {J : gJn}, jfw R J → k + n ≤ 6 → jfw R (kbF k n J)
  | 0, _, _, h, _ => h
  | n + 1, k, J, h, hk => jfw.kbF n (k + 1) (h.gt2 (by omega)) (by omega)
theorem jfw.go {R : Nat} {J : gJn} (h : jfw R J) (pn : Nat → Nat) (s : Int32) {n : Nat} (hn : n ≤ 6) (hT : ∃ T, T + 1 < 2 ^ 30 ∧ J 9 3 = nI T) : jfw R (j_go pn n s J) := by
  unfold j_go j_end
  have h1 : jfw R (jgtF s 0 n J 0).1 := by
    rw [jgtF_fst]
    exact jfw.kbF n 0 (jfw.kaF s n 0 h (by omega)) (by omega)
  have e3 : (jgtF s 0 n J 0).1 9 3 = J 9 3 := by rw [jgtF_f s (by decide) (by decide) (by decide) (by decide) (by decide)]
  obtain ⟨a1, a2, a3, a4, a5, a6⟩ := h1
  refine ⟨a1, a2, a3, a4, a5, ?_⟩
  obtain ⟨T, hT, e⟩ := hT
  refine ⟨T + 1, hT, ?_⟩
  show (jgtF s 0 n J 0).1 9 3 + 1 = _
  rw [e3, e, nI_1]
def jfit (J : gJn) : Prop := jok J ∧ jfw (jR J) J
theorem jfit.ls {J : gJn} (h : jfit J) : jls J := h.2.2.2.2.2.1
theorem jfit.one (t : gJn → Nat → Int32 → Bool) {J : gJn} (h : jfit J) (hT : jT J + 1 < 1000000) : jfit (jone t J) := by
  refine ⟨h.1.one t hT, ?_⟩
  rw [jone_R]
  unfold jone
  refine (jfw.ar (jR J) 0 h.2 (by have := h.1.2.1; omega)).go _ _ h.1.2.1 ⟨jT J, by omega, ?_⟩
  rw [jarF_f (by decide)]
  exact h.1.2.2.2.2.2.2.1
theorem jfit.many (t : gJn → Nat → Int32 → Bool) : ∀ (n : Nat) {J : gJn}, jfit J → jT J + n < 1000000 → jfit (jmanyF t n J)
  | 0, _, h, _ => h
  | n + 1, J, h, hT => jfit.many t n (h.one t (by omega)) (by rw [jone_T t h.1]; omega)
theorem jfit.ev {J : gJn} (h : jfit J) : ∀ i, i < jR J → ¬ J 1 i ≤ 0 := by
  intro i hi
  obtain ⟨e, h0, h12, q⟩ := h.2.2.2.2.1 i hi
  rw [q]
  exact nI_nle h0 (by omega)
/-- what went is at most room, behind a beat -/
theorem kaF_gone {R : Nat} (s : Int32) : ∀ (n k : Nat) {J : gJn}, jfw R J → k + n ≤ 6 → ∀ i, k ≤ i → i < k + n → jw 9 (kaF s k n J 7 i)
  | 0, k, J, h, hk, i, h1, h2 => by omega
  | n + 1, k, J, h, hk, i, h1, h2 => by
    show jw 9 (kaF s (k + 1) n (kaS s k J) 7 i)
    by_cases hi : i = k
    · subst hi
      rw [kaF_7 s n (i + 1) _ (by omega)]
      unfold kaS
      split
      · obtain ⟨w, m, hw, m0, m9, _, _, e, _⟩ := h.many (show i < 6 by omega)
        refine ⟨min m w, by omega, ?_⟩
        show upd (J 7) i _ i = _
        rw [upd_eq, e]
      · refine ⟨0, by decide, ?_⟩
        show upd (J 7) i _ i = _
        rw [upd_eq]
        rfl
    · exact kaF_gone s n (k + 1) (h.kaS s (by omega)) (by omega) i (by omega) (by omega)
theorem jone_7 (t : gJn → Nat → Int32 → Bool) (J : gJn) : jone t J 7 = kaF (jset t J) 0 (jR J) (jarF 0 (jR J) J) 7 := by
  unfold jone j_go j_end
  show (jgtF (jset t J) 0 (jR J) (jarF 0 (jR J) J) 0).1 7 = _
  rw [jgtF_fst, kbF_f (by decide)]
theorem jfit.gone (t : gJn → Nat → Int32 → Bool) {J : gJn} (h : jfit J) : ∀ i, i < jR J → jw 9 (jone t J 7 i) := by
  intro i hi
  rw [jone_7]
  exact kaF_gone _ (jR J) 0 (jfw.ar (jR J) 0 h.2 (by have := h.1.2.1; omega)) (by have := h.1.2.1; omega) i (by omega) (by omega)
