/-! ===== what a row of sets comes to ===== -/
def sdN (p : Nat → Bool) : Nat → Nat
  | 0 => 0
  | n + 1 => if p n = true then sdN p n + 2 ^ n else sdN p n
theorem sdN_lt (p : Nat → Bool) : ∀ n, sdN p n < 2 ^ n
  | 0 => by show 0 < 2 ^ 0; decide
  | n + 1 => by
    have := sdN_lt p n
    show (if p n = true then sdN p n + 2 ^ n else sdN p n) < 2 ^ (n + 1)
    rw [Nat.pow_succ]
    split <;> omega
theorem sdN_ag {p q : Nat → Bool} : ∀ n, (∀ i, i < n → p i = q i) → sdN p n = sdN q n
  | 0, _ => rfl
  | n + 1, h => by
    show (if p n = true then sdN p n + 2 ^ n else sdN p n) = (if q n = true then sdN q n + 2 ^ n else sdN q n)
    rw [sdN_ag n (fun i hi => h i (by omega)), h n (by omega)]
theorem sdN_all : ∀ n, n ≤ 6 → ∀ x, x < 2 ^ n → sdN x.testBit n = x := by decide +kernel
theorem jgt_snd {x m R : Nat} (hx : x < 64) (m0 : 0 < m) (m9 : m ≤ 9) {w : Nat → Nat} (hw9 : ∀ r, r < R → w r ≤ 999) (hR : R ≤ 6) : ∀ (n k : Nat) (K : gJn), k + n = R → K 9 1 = nI m → (∀ r, k ≤ r → r < R → K 0 r = nI (w r)) → (jgtF (nI x) k n K (nI (sdN (fun r => x.testBit r && decide (0 < w r)) k))).2 = nI (sdN (fun r => x.testBit r && decide (0 < w r)) R)
  | 0, k, K, hk, _, _ => by rw [show k = R by omega]; rfl
  | n + 1, k, K, hk, h1, h0 => by
    show (jgtF (nI x) (k + 1) n (jgt2 k (jgt1 (nI x) k K)) (jgtA (nI x) k K (nI (sdN (fun r => x.testBit r && decide (0 < w r)) k)))).2 = _
    have ea : jgtA (nI x) k K (nI (sdN (fun r => x.testBit r && decide (0 < w r)) k)) = nI (sdN (fun r => x.testBit r && decide (0 < w r)) (k + 1)) := by
      have es : sdN (fun r => x.testBit r && decide (0 < w r)) (k + 1) = if (x.testBit k && decide (0 < w k)) = true then sdN (fun r => x.testBit r && decide (0 < w r)) k + 2 ^ k else sdN (fun r => x.testBit r && decide (0 < w r)) k := rfl
      have hw := hw9 k (by omega)
      unfold jgtA
      by_cases c : jbit (nI x) k = 1
      · have ct := (tb_jbit x hx k (by omega)).mp c
        have e7 : jgt1 (nI x) k K 7 k = nI (min m (w k)) := by
          unfold jgt1
          rw [if_pos c]
          show upd (upd (K 7) k 0) k (jmin (K 9 1) (K 0 k)) k = _
          rw [upd_eq, h1, h0 k (by omega) (by omega), jminN (by omega) (by omega)]
        rw [if_pos c, e7, es]
        by_cases z : w k = 0
        · rw [if_pos ((nI_le0 (by omega)).mpr (by omega)), if_neg (by rw [z]; simp)]
          exact Int32.or_zero
        · rw [if_neg (fun q => z (by have := (nI_le0 (by omega)).mp q; omega)), if_pos (by rw [ct, decide_eq_true (by omega : 0 < w k)]; rfl)]
          exact (kbm_tab k (by omega) _ (sdN_lt _ k)).1
      · rw [if_neg c, es, if_neg (fun q => c ((tb_jbit x hx k (by omega)).mpr (Bool.and_eq_true_iff.mp q).1))]
    rw [ea]
    refine jgt_snd hx m0 m9 hw9 hR n (k + 1) _ (by omega) ?_ (fun r hr1 hr2 => ?_)
    · show jgt1 (nI x) k K 9 1 = _
      rw [jgt1_ka, kaS_f _ _ _ (by decide) (by decide) (by decide) (by decide)]
      exact h1
    · show jgt1 (nI x) k K 0 r = _
      rw [jgt1_ka, kaS_0ne (by omega)]
      exact h0 r (by omega) hr2
theorem jpl_94 (s : Int32) (J : gJn) : jpl s J 9 4 = j_heard (J 9 4) (jso (jP J) (jgtF s 0 (jR J) (jarF 0 (jR J) J) 0).2 (jR J)) := by
  unfold jpl j_go j_end
  show j_heard ((jgtF s 0 (jR J) (jarF 0 (jR J) J) 0).1 9 4) _ = _
  rw [jgtF_fst, kbF_f (by decide), kaF_f s (by decide) (by decide) (by decide) (by decide), jarF_f (by decide)]
theorem rok.h {J : gJn} {R : Nat} {e : Nat → Nat} {m T : Nat} {w v : Nat → Nat} (h : rok J R e m T w v) (hR : R ≤ 6) (hj : jR J = R) {x : Nat} (hx : x < 64) : jpl (nI x) J 9 4 = j_heard (J 9 4) (jso (jP J) (nI (sdN (fun r => x.testBit r && decide (0 < rar (e r) T (w r))) R)) R) := by
  rw [jpl_94, hj]
  have := jgt_snd hx h.2.2.2.1 h.2.2.2.2.1 (w := fun r => rar (e r) T (w r)) (fun r hr => (h.ar hR hr).2) hR R 0 (jarF 0 R J) (by omega) (by rw [jarF_f (by decide)]; exact h.2.1) (fun r _ hr => (h.ar hR hr).1)
  exact congrArg (fun z => j_heard (J 9 4) (jso (jP J) z R)) this
def rW (e w v : Nat → Nat) (m T : Nat) (d : Nat → Nat) (k r : Nat) : Nat × Nat := rsF (e r) m T (fun i => (d i).testBit r) (w r, v r) k
def rwt (e w v : Nat → Nat) (m T : Nat) (d : Nat → Nat) (k r : Nat) : Nat := rar (e r) (T + k) (rW e w v m T d k r).1
def rhd (e w v : Nat → Nat) (m T R : Nat) (pn : Nat → Nat) (h0 : Int32) (d : Nat → Nat) : Nat → Int32
  | 0 => h0
  | k + 1 => j_heard (rhd e w v m T R pn h0 d k) (jso pn (nI (sdN (fun r => (d k).testBit r && decide (0 < rwt e w v m T d k r)) R)) R)
theorem qpl_end (d : Nat → Nat) : ∀ (n k : Nat) (J : gJn), qpl d k (n + 1) J = jpl (nI (d (k + n))) (qpl d k n J)
  | 0, k, J => rfl
  | n + 1, k, J => by
    show qpl d (k + 1) (n + 1) (jpl (nI (d k)) J) = jpl (nI (d (k + (n + 1)))) (qpl d (k + 1) n (jpl (nI (d k)) J))
    rw [qpl_end d n (k + 1), show k + 1 + n = k + (n + 1) by omega]
theorem jpl_P (s : Int32) (J : gJn) : jP (jpl s J) = jP J := by
  unfold jP
  rw [jpl_f s J (by decide) (by decide) (by decide) (by decide) (by decide) (by decide)]
theorem rok.many {J : gJn} {R : Nat} {e : Nat → Nat} {m T : Nat} {w v : Nat → Nat} (h : rok J R e m T w v) (hR : R ≤ 6) (hj : jR J = R) {d : Nat → Nat} : ∀ k, (∀ i, i < k → d i < 64) → T + k < 2 ^ 30 → rok (qpl d 0 k J) R e m (T + k) (fun r => (rW e w v m T d k r).1) (fun r => (rW e w v m T d k r).2) ∧ jR (qpl d 0 k J) = R ∧ jP (qpl d 0 k J) = jP J ∧ qpl d 0 k J 9 4 = rhd e w v m T R (jP J) (J 9 4) d k
  | 0, _, _ => ⟨h, hj, rfl, rfl⟩
  | k + 1, hd, hT => by
    obtain ⟨a1, a2, a3, a4⟩ := rok.many h hR hj k (fun i hi => hd i (by omega)) (by omega)
    have hx := hd k (by omega)
    have e := qpl_end d k 0 J
    rw [Nat.zero_add] at e
    rw [e]
    refine ⟨a1.pl hR a2 (by omega) hx, by rw [(jst.pl _ _).R]; exact a2, by rw [jpl_P]; exact a3, ?_⟩
    rw [a1.h hR a2 hx, a3, a4]
    rfl
theorem nsum_ag {f g : Nat → Nat} : ∀ n, (∀ i, i < n → f i = g i) → nsum f n = nsum g n
  | 0, _ => rfl
  | n + 1, h => by
    show nsum f n + f n = nsum g n + g n
    rw [nsum_ag n (fun i hi => h i (by omega)), h n (by omega)]
theorem nsum_le2 {f g : Nat → Nat} : ∀ n, (∀ i, i < n → f i ≤ g i) → nsum f n ≤ nsum g n
  | 0, _ => Nat.le_refl _
  | n + 1, h => by
    show nsum f n + f n ≤ nsum g n + g n
    have := nsum_le2 n (fun i hi => h i (by omega))
    have := h n (by omega)
    omega
theorem rok.tot {J : gJn} {R : Nat} {e : Nat → Nat} {m T : Nat} {w v : Nat → Nat} (h : rok J R e m T w v) : jsum (J 5) R = nI (nsum v R) ∧ nsum v R ≤ R * 99999 :=
  ⟨jsum_n R (fun i hi => (h.2.2.2.2.2.2 i hi).2.2.2.2.2.2), nsum_le v R (fun i hi => (h.2.2.2.2.2.2 i hi).2.2.2.2.2.1)⟩
/-! ===== digits ===== -/
def cdg (P : Nat) (d : Nat → Nat) : Nat → Nat
  | 0 => 0
  | k + 1 => cdg P d k * P + d k
theorem cdg_ag {P : Nat} {d d' : Nat → Nat} : ∀ k, (∀ i, i < k → d i = d' i) → cdg P d k = cdg P d' k
  | 0, _ => rfl
  | k + 1, h => by
    show cdg P d k * P + d k = cdg P d' k * P + d' k
    rw [cdg_ag k (fun i hi => h i (by omega)), h k (by omega)]
theorem cdg_lt {P : Nat} (h0 : 0 < P) {d : Nat → Nat} : ∀ k, (∀ i, i < k → d i < P) → cdg P d k < P ^ k
  | 0, _ => by show 0 < P ^ 0; rw [Nat.pow_zero]; decide
  | k + 1, h => by
    have h1 := cdg_lt h0 k (fun i hi => h i (by omega))
    have h2 := h k (by omega)
    show cdg P d k * P + d k < P ^ (k + 1)
    rw [Nat.pow_succ]
    have : (cdg P d k + 1) * P ≤ P ^ k * P := Nat.mul_le_mul_right P h1
    rw [Nat.add_mul] at this
    omega
theorem qdg_sc {P N c k : Nat} (hk : k < N) : qdg P (N + 1) c k = qdg P N (c / P) k := by
  unfold qdg
  rw [show N + 1 - 1 - k = 1 + (N - 1 - k) by omega, Nat.pow_add, Nat.pow_one, Nat.div_div_eq_div_mul]
theorem qdg_l (P N c : Nat) : qdg P (N + 1) c N = c % P := by
  unfold qdg
  rw [show N + 1 - 1 - N = 0 by omega, Nat.pow_zero, Nat.div_one]
theorem dg_cd {P : Nat} (h0 : 0 < P) {d : Nat → Nat} : ∀ N, (∀ i, i < N → d i < P) → ∀ k, k < N → qdg P N (cdg P d N) k = d k
  | 0, _, k, hk => absurd hk (Nat.not_lt_zero k)
  | N + 1, h, k, hk => by
    have hl := h N (by omega)
    have e : cdg P d (N + 1) = cdg P d N * P + d N := rfl
    by_cases c : k = N
    · rw [c, qdg_l, e, Nat.add_comm, Nat.add_mul_mod_self_right, Nat.mod_eq_of_lt hl]
    · rw [qdg_sc (by omega), e, Nat.add_comm, Nat.add_mul_div_right _ _ h0, Nat.div_eq_of_lt hl, Nat.zero_add]
      exact dg_cd h0 N (fun i hi => h i (by omega)) k (by omega)
theorem cd_dg {P : Nat} (h0 : 0 < P) : ∀ (N c : Nat), c < P ^ N → cdg P (qdg P N c) N = c
  | 0, c, h => by
    rw [Nat.pow_zero] at h
    show 0 = c
    omega
  | N + 1, c, h => by
    show cdg P (qdg P (N + 1) c) N * P + qdg P (N + 1) c N = c
    rw [cdg_ag N (d' := qdg P N (c / P)) (fun i hi => qdg_sc hi), cd_dg h0 N (c / P) (by
      rw [Nat.pow_succ] at h
      exact Nat.div_lt_of_lt_mul (by rw [Nat.mul_comm]; exact h)), qdg_l]
    exact Nat.div_add_mod' c P
theorem qdg_lt {P : Nat} (h0 : 0 < P) (N c k : Nat) : qdg P N c k < P := Nat.mod_lt _ h0
theorem cdg_le {P : Nat} {d d' : Nat → Nat} : ∀ k, (∀ i, i < k → d' i ≤ d i) → cdg P d' k ≤ cdg P d k
  | 0, _ => Nat.le_refl _
  | k + 1, h => Nat.add_le_add (Nat.mul_le_mul_right P (cdg_le k (fun i hi => h i (by omega)))) (h k (by omega))
theorem cdg_lt2 {P : Nat} (h0 : 0 < P) {d d' : Nat → Nat} {k0 : Nat} (hl : d' k0 < d k0) : ∀ k, k0 < k → (∀ i, i < k → d' i ≤ d i) → cdg P d' k < cdg P d k
  | 0, h, _ => absurd h (Nat.not_lt_zero k0)
  | k + 1, h, hd => by
    show cdg P d' k * P + d' k < cdg P d k * P + d k
    have h2 := hd k (by omega)
    by_cases c : k0 = k
    · subst c
      have := Nat.mul_le_mul_right P (cdg_le (P := P) k0 (fun i hi => hd i (by omega)))
      omega
    · have h1 := cdg_lt2 h0 hl k (by omega) (fun i hi => hd i (by omega))
      have : (cdg P d' k + 1) * P ≤ cdg P d k * P := Nat.mul_le_mul_right P h1
      rw [Nat.add_mul] at this
      omega
/-- the digits of a number behind others -/
theorem qdg_pre {P : Nat} {n k b c i : Nat} (hc : c / P ^ n = b) (hi : i < k) : qdg P (k + n) c i = qdg P k b i := by
  unfold qdg
  rw [show k + n - 1 - i = n + (k - 1 - i) by omega, Nat.pow_add, ← Nat.div_div_eq_div_mul, hc]
