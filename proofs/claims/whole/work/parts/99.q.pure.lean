/-! ===== reading a rule: values, sums, tests, clauses, as relations (the same for both) ===== -/
abbrev gSg : Type := List (Nat × Nat)
abbrev gRs : Type := Except Int32 (Nat × gSg × Nat)
def fE (p : Nat) (why : Int32) : Int32 := 1 + 8 * nI p + why
theorem tfl_0 (p : Nat) (why : Int32) : tfl 0 p why = fE p why := if_pos rfl
theorem tfl_n {f : Int32} (h : ¬ f = 0) (p : Nat) (why : Int32) : tfl f p why = f := if_neg h
theorem fE_nI (p : Nat) (w : Nat) : fE p (nI w) = nI (1 + 8 * p + w) := by
  unfold fE
  rw [show (1 : Int32) = nI 1 from rfl, show (8 : Int32) = nI 8 from rfl, pk_mul, nI_add, nI_add]
theorem fE_ne {p w : Nat} (hp : p ≤ 400) (hw : w ≤ 4) : ¬ fE p (nI w) = 0 := by
  rw [fE_nI]
  intro h
  have := nI_inj (a := 1 + 8 * p + w) (b := 0) (by omega) (by decide) h
  omega
section PUR
variable {T : Nat → Int32} {N : Nat}
theorem nx_lt {p : Nat} (h : p < N) : p + 1 ≤ nx T N p := by
  have h1 := te_le (T := T) (N := N) (p := p) (by omega)
  have h2 := sk_le (T := T) h1.2.1
  have := h1.2.2 h
  unfold nx
  omega
theorem tk_lt {p : Nat} (h : ¬ tk T N p = 0) : p < N := Classical.byContradiction (fun q => h (tk_0 q).1)
theorem wd_te {p : Nat} {w : Int64} (hp : p ≤ N) (h : ¬ qwd T N p w = 0) : p < N ∧ tk T N p = 1 ∧ te T N p = tru ltB T N p := by
  have h1 : 0 < trl T N p := by
    unfold qwd at h
    by_cases q : 0 < trl T N p ∧ trl T N p < 13 ∧ kcF T p (trl T N p) 0 0 = w
    · exact q.1
    · rw [if_neg q] at h
      exact absurd rfl h
  have h2 := tru_le (P := ltB) (T := T) hp
  unfold trl at h1
  have h3 := h2.2.2 p (Nat.le_refl _) (by omega)
  exact ⟨by omega, tk_1 (by omega) (of_decide_eq_true h3)⟩
theorem tvF_nI : ∀ (k p v : Nat), (∀ i, i < k → tdg (T (p + i))) → ∃ x, x < (v + 1) * 10 ^ k ∧ tvF T k p (nI v) = nI x
  | 0, p, v, _ => ⟨v, by omega, rfl⟩
  | k + 1, p, v, h => by
    have h0 := h 0 (by omega)
    rw [Nat.add_zero] at h0
    have hd : ∃ d, d < 10 ∧ T p = nI (48 + d) := by
      obtain ⟨x, hx, he⟩ := nI_of (x := T p) (fun q => h0.1 (Int32.lt_trans q (by decide)))
      have a1 : ¬ x < 48 := fun q => h0.1 (by rw [he]; exact nI_lt (a := x) (b := 48) q (by decide))
      have a2 : ¬ 57 < x := fun q => h0.2 (by rw [he]; exact nI_lt (a := 57) (b := x) q hx)
      exact ⟨x - 48, by omega, by rw [he, show 48 + (x - 48) = x by omega]⟩
    obtain ⟨d, hd1, hd2⟩ := hd
    have e : nI v * 10 + T p - 48 = nI (10 * v + d) := by
      rw [hd2, show (10 : Int32) = nI 10 from rfl, show (48 : Int32) = nI 48 from rfl, pk_mul, nI_add, show v * 10 + (48 + d) = 48 + (10 * v + d) by omega, nI_mn (by omega), show 48 + (10 * v + d) - 48 = 10 * v + d by omega]
    obtain ⟨x, h1, h2⟩ := tvF_nI k (p + 1) (10 * v + d) (fun i hi => by
      have := h (i + 1) (by omega)
      rwa [show p + 1 + i = p + (i + 1) by omega])
    refine ⟨x, Nat.lt_of_lt_of_le h1 ?_, ?_⟩
    · rw [Nat.pow_succ, Nat.mul_comm (10 ^ k) 10, ← Nat.mul_assoc]
      exact Nat.mul_le_mul_right _ (by omega)
    · show tvF T k (p + 1) (nI v * 10 + T p - 48) = _
      rw [e]
      exact h2
theorem tdg_nlt {x : Int32} (h : tdg x) : ¬ tlt x := fun q => h.2 (Int32.lt_of_lt_of_le (by decide) (Int32.not_lt.mp q.1))
theorem num5 {p : Nat} (h : tk T N p = 2) (h5 : te T N p ≤ p + 5) : ∃ x, x < 100000 ∧ tv T N p = nI x := by
  obtain ⟨hp, hd⟩ := tk_is2.mp h
  have e := (tk_2 hp (tdg_nlt hd) hd).2
  have hl := tru_le (P := dgB) (T := T) (N := N) (p := p) (by omega)
  rw [← e] at hl
  obtain ⟨x, h1, h2⟩ := tvF_nI (T := T) (te T N p - p) p 0 (fun i hi => of_decide_eq_true (hl.2.2 (p + i) (by omega) (by omega)))
  refine ⟨x, Nat.lt_of_lt_of_le h1 ?_, ?_⟩
  · rw [Nat.zero_add, Nat.one_mul]
    exact Nat.pow_le_pow_right (by decide) (show te T N p - p ≤ 5 by omega)
  · unfold tv
    rw [if_pos h]
    exact h2
theorem tno5 {p : Nat} : tno T N p 0 99999 ↔ (tk T N p = 2 ∧ te T N p ≤ p + 5) := by
  constructor
  · intro h
    exact ⟨h.1, h.2.1⟩
  · rintro ⟨h1, h2⟩
    obtain ⟨x, hx, he⟩ := num5 h1 h2
    refine ⟨h1, h2, ?_, ?_⟩
    · rw [he]
      exact fun q => absurd q (Int32.not_lt.mpr (nI_le (a := 0) (b := x) (by omega) (by omega)))
    · rw [he]
      exact nI_le (a := x) (b := 99999) (by omega) (by decide)
/-! signs -/
def sgs : List Nat := [42, 47, 37, 43, 45, 91, 93, 59, 61]
theorem sgs_no : ∀ k ∈ sgs, ¬ tlt (nI k) ∧ ¬ tdg (nI k) ∧ nI k ≠ 60 ∧ nI k ≠ 62 ∧ nI k ≠ 316 ∧ nI k ≠ 318 := by decide
abbrev sgn (T : Nat → Int32) (N p : Nat) (k : Int32) : Prop := p < N ∧ T p = k
theorem sg_is {k p : Nat} (hk : k ∈ sgs) : (tk T N p = 3 ∧ tv T N p = nI k) ↔ sgn T N p (nI k) := by
  obtain ⟨a1, a2, a3, a4, a5, a6⟩ := sgs_no k hk
  constructor
  · rintro ⟨h1, h2⟩
    have hp := tk_lt (T := T) (N := N) (p := p) (by rw [h1]; decide)
    have b1 : ¬ tlt (T p) := fun q => by rw [(tk_1 hp q).1] at h1; exact absurd h1 (by decide)
    have b2 : ¬ tdg (T p) := fun q => by rw [(tk_2 hp b1 q).1] at h1; exact absurd h1 (by decide)
    have b3 := (tk_3 hp b1 b2).2.2
    rw [h2] at b3
    by_cases h3 : tsg T N p
    · rw [if_pos h3] at b3
      rcases h3.1 with e | e
      · rw [e] at b3
        exact absurd b3 a5
      · rw [e] at b3
        exact absurd b3 a6
    · rw [if_neg h3] at b3
      exact ⟨hp, b3.symm⟩
  · rintro ⟨hp, e⟩
    have b := tk_3 (T := T) (N := N) hp (by rw [e]; exact a1) (by rw [e]; exact a2)
    have h3 : ¬ tsg T N p := fun q => by
      rcases q.1 with z | z
      · rw [e] at z; exact a3 z
      · rw [e] at z; exact a4 z
    refine ⟨b.1, ?_⟩
    rw [b.2.2, if_neg h3, e]
theorem sg_te {k p : Nat} (hk : k ∈ sgs) (h : sgn T N p (nI k)) : te T N p = p + 1 := by
  obtain ⟨a1, a2, a3, a4, a5, a6⟩ := sgs_no k hk
  have b := tk_3 (T := T) (N := N) h.1 (by rw [h.2]; exact a1) (by rw [h.2]; exact a2)
  rw [b.2.1, if_neg]
  intro q
  rcases q.1 with z | z
  · rw [h.2] at z; exact a3 z
  · rw [h.2] at z; exact a4 z
theorem qsg_0 {k p : Nat} (hk : k ∈ sgs) : qsg T N p (nI k) = 0 ↔ ¬ sgn T N p (nI k) := by
  unfold qsg
  by_cases h : tk T N p = 3 ∧ tv T N p = nI k
  · rw [if_pos h]
    exact ⟨fun q => absurd q (by decide), fun q => absurd ((sg_is hk).mp h) q⟩
  · rw [if_neg h]
    exact ⟨fun _ q => h ((sg_is hk).mpr q), fun _ => rfl⟩
theorem qsg_1 {k p : Nat} (hk : k ∈ sgs) : ¬ qsg T N p (nI k) = 0 ↔ sgn T N p (nI k) := by
  rw [qsg_0 hk]
  exact Decidable.not_not
/-- bytes -/
abbrev tb8 (x : Int32) : Prop := x.toInt8.toInt32 = x
theorem b8_all : ∀ n, n < 256 → ∀ k ∈ [42, 47, 37, 43, 45, 91, 93, 59, 61, 60, 62], (Int8.ofNat n).toInt32 &&& 255 = nI k → (Int8.ofNat n).toInt32 = nI k := by decide +kernel
theorem b8_k : ∀ k ∈ [42, 47, 37, 43, 45, 91, 93, 59, 61, 60, 62], nI k &&& 255 = nI k ∧ ¬ (-1 : Int32) = nI k := by decide
theorem see_is {p k : Nat} (hb : ∀ i, tb8 (T i)) (hk : k ∈ [42, 47, 37, 43, 45, 91, 93, 59, 61, 60, 62]) : (if p < N then T p &&& 255 else -1) = nI k ↔ sgn T N p (nI k) := by
  by_cases h : p < N
  · rw [if_pos h]
    constructor
    · intro q
      refine ⟨h, ?_⟩
      have e := hb p
      have e2 : (T p).toInt8 = Int8.ofNat (T p).toInt8.toBitVec.toNat := by
        apply Int8.toBitVec_inj.mp
        apply BitVec.eq_of_toNat_eq
        show _ = (BitVec.ofNat 8 _).toNat
        rw [BitVec.toNat_ofNat, Nat.mod_eq_of_lt (T p).toInt8.toBitVec.isLt]
      have e3 := b8_all _ (T p).toInt8.toBitVec.isLt k hk
      rw [← e2, e] at e3
      exact e3 q
    · rintro ⟨_, q⟩
      rw [q]
      exact (b8_k k hk).1
  · rw [if_neg h]
    exact ⟨fun q => absurd q (b8_k k hk).2, fun q => absurd q.1 h⟩
theorem see_end {p : Nat} (hb : ∀ i, tb8 (T i)) : (if p < N then T p &&& 255 else -1) = -1 ↔ ¬ p < N := by
  by_cases h : p < N
  · rw [if_pos h]
    refine ⟨fun q => ?_, fun q => absurd h q⟩
    have e2 : (T p &&& 255).toBitVec.toNat < 256 := by
      rw [Int32.toBitVec_and, BitVec.toNat_and]
      exact Nat.lt_of_le_of_lt Nat.and_le_right (by decide)
    rw [q] at e2
    exact absurd e2 (by decide)
  · rw [if_neg h]
    exact ⟨fun _ => h, fun _ => rfl⟩
def tmO (T : Nat → Int32) (N p : Nat) : Nat := if sgn T N p 42 then 4 else if sgn T N p 47 then 5 else if sgn T N p 37 then 14 else 0
def adO (T : Nat → Int32) (N p : Nat) : Nat := if sgn T N p 43 then 2 else if sgn T N p 45 then 3 else 0
def cmO (T : Nat → Int32) (N p : Nat) : Nat := if sgn T N p 60 then (if sgn T N (p + 1) 61 then 7 else 6) else if sgn T N p 61 then 8 else if sgn T N p 62 then (if sgn T N (p + 1) 61 then 9 else 10) else 0
def opt (t : Nat) : gSg := if t = 0 then [] else [(t, 0)]
theorem opt_le (t : Nat) : (opt t).length ≤ 1 := by
  unfold opt
  split
  · exact Nat.zero_le _
  · exact Nat.le_refl _
theorem tmO_lt {p : Nat} (h : ¬ tmO T N p = 0) : p < N ∧ te T N p = p + 1 := by
  unfold tmO at h
  by_cases h1 : sgn T N p 42
  · exact ⟨h1.1, sg_te (k := 42) (by decide) h1⟩
  rw [if_neg h1] at h
  by_cases h2 : sgn T N p 47
  · exact ⟨h2.1, sg_te (k := 47) (by decide) h2⟩
  rw [if_neg h2] at h
  by_cases h3 : sgn T N p 37
  · exact ⟨h3.1, sg_te (k := 37) (by decide) h3⟩
  rw [if_neg h3] at h
  exact absurd rfl h
theorem adO_lt {p : Nat} (h : ¬ adO T N p = 0) : p < N ∧ te T N p = p + 1 := by
  unfold adO at h
  by_cases h1 : sgn T N p 43
  · exact ⟨h1.1, sg_te (k := 43) (by decide) h1⟩
  rw [if_neg h1] at h
  by_cases h2 : sgn T N p 45
  · exact ⟨h2.1, sg_te (k := 45) (by decide) h2⟩
  rw [if_neg h2] at h
  exact absurd rfl h
theorem cm_te {p k : Nat} (hk : k = 60 ∨ k = 62) (h : sgn T N p (nI k)) : tk T N p = 3 ∧ te T N p = (if sgn T N (p + 1) 61 then p + 2 else p + 1) ∧ tv T N p = (if sgn T N (p + 1) 61 then nI k + 256 else nI k) := by
  have a : ¬ tlt (nI k) ∧ ¬ tdg (nI k) := by
    rcases hk with rfl | rfl <;> decide
  have b := tk_3 (T := T) (N := N) h.1 (by rw [h.2]; exact a.1) (by rw [h.2]; exact a.2)
  have e : tsg T N p ↔ sgn T N (p + 1) 61 := ⟨fun q => q.2, fun q => ⟨by rw [h.2]; rcases hk with rfl | rfl; exact Or.inl rfl; exact Or.inr rfl, q⟩⟩
  refine ⟨b.1, ?_, ?_⟩
  · rw [b.2.1]
    by_cases q : sgn T N (p + 1) 61
    · rw [if_pos (e.mpr q), if_pos q]
    · rw [if_neg (fun z => q (e.mp z)), if_neg q]
  · rw [b.2.2]
    by_cases q : sgn T N (p + 1) 61
    · rw [if_pos (e.mpr q), if_pos q, h.2]
    · rw [if_neg (fun z => q (e.mp z)), if_neg q, h.2]
theorem cmO_lt {p : Nat} (h : ¬ cmO T N p = 0) : p < N := by
  unfold cmO at h
  by_cases h1 : sgn T N p 60
  · exact h1.1
  rw [if_neg h1] at h
  by_cases h2 : sgn T N p 61
  · exact h2.1
  rw [if_neg h2] at h
  by_cases h3 : sgn T N p 62
  · exact h3.1
  rw [if_neg h3] at h
  exact absurd rfl h
/-! the relations -/
def pvO (T : Nat → Int32) (N p c : Nat) (x : Nat × Nat) : Prop := c < 60 ∧ ((tk T N p = 2 ∧ te T N p ≤ p + 5 ∧ x.1 = 0 ∧ x.2 < 100000 ∧ tv T N p = nI x.2) ∨ (¬ tk T N p = 2 ∧ x.1 = 1 ∧ x.2 < 12 ∧ qwh T N p = nI x.2))
def pvE (T : Nat → Int32) (N p c : Nat) (w : Nat) : Prop := (¬ tk T N p = 2 ∧ qwh T N p = -1 ∧ w = 0) ∨ (tk T N p = 2 ∧ ¬ te T N p ≤ p + 5 ∧ w = 1) ∨ (c = 60 ∧ ((tk T N p = 2 ∧ te T N p ≤ p + 5) ∨ (¬ tk T N p = 2 ∧ ¬ qwh T N p = -1)) ∧ w = 3)
def smR (T : Nat → Int32) (N : Nat) : Nat → Nat → Nat → Nat → gSg → Nat → gRs → Prop
  | 0, _, _, _, _, _, _ => False
  | m + 1, a, t, p, l, c, r => (∃ w, pvE T N p c w ∧ r = .error (fE p (nI w))) ∨ ∃ x, pvO T N p c x ∧
    ((¬ tmO T N (nx T N p) = 0 ∧ smR T N m a (tmO T N (nx T N p)) (nx T N (nx T N p)) (l ++ x :: opt t) (c + 1) r)
    ∨ (tmO T N (nx T N p) = 0 ∧ ¬ adO T N (nx T N p) = 0 ∧ smR T N m (adO T N (nx T N p)) 0 (nx T N (nx T N p)) (l ++ x :: opt t ++ opt a) (c + 1) r)
    ∨ (tmO T N (nx T N p) = 0 ∧ adO T N (nx T N p) = 0 ∧ r = .ok (nx T N p, l ++ x :: opt t ++ opt a, c + 1)))
def cpR (T : Nat → Int32) (N p c : Nat) (r : gRs) : Prop := ∃ m r1, smR T N m 0 0 p [] c r1 ∧ ((∃ g, r1 = .error g ∧ r = .error g) ∨ ∃ p1 l1 c1, r1 = .ok (p1, l1, c1) ∧
  ((cmO T N p1 = 0 ∧ r = .error (fE p1 0)) ∨ (¬ cmO T N p1 = 0 ∧ c1 = 60 ∧ r = .error (fE p1 3)) ∨ (¬ cmO T N p1 = 0 ∧ c1 < 60 ∧ ∃ m' r2, smR T N m' 0 0 (nx T N p1) [] (c1 + 1) r2 ∧ ((∃ g, r2 = .error g ∧ r = .error g) ∨ ∃ p2 l2 c2, r2 = .ok (p2, l2, c2) ∧ r = .ok (p2, l1 ++ l2 ++ [(cmO T N p1, 0)], c2)))))
def dpO : List Nat → Nat
  | [] => 0
  | s :: O => (if s = 91 ∨ s = 11 then 1 else 0) + dpO O
def stN (s : Nat) : Nat := if s = 13 then 1 else if s = 12 then 2 else if s = 11 then 3 else 0
def lyL (k : Nat) : List Nat → gSg
  | [] => []
  | s :: O => if k ≤ stN s then (s, 0) :: lyL k O else []
def lyR (k : Nat) : List Nat → List Nat
  | [] => []
  | s :: O => if k ≤ stN s then lyR k O else s :: O
def mtR (T : Nat → Int32) (N : Nat) : Nat → Bool → List Nat → Nat → gSg → Nat → gRs → Prop
  | 0, _, _, _, _, _, _ => False
  | m + 1, false, O, p, l, c, r =>
    (¬ qwd T N p 14836 = 0 ∧ ((dpO O = 10 ∧ r = .error (fE p 2)) ∨ (dpO O < 10 ∧ mtR T N m false (11 :: O) (nx T N p) l c r)))
    ∨ (qwd T N p 14836 = 0 ∧ sgn T N p 91 ∧ ((dpO O = 10 ∧ r = .error (fE p 2)) ∨ (dpO O < 10 ∧ mtR T N m false (91 :: O) (nx T N p) l c r)))
    ∨ (qwd T N p 14836 = 0 ∧ ¬ sgn T N p 91 ∧ ∃ r1, cpR T N p c r1 ∧ ((∃ g, r1 = .error g ∧ r = .error g) ∨ ∃ p1 l1 c1, r1 = .ok (p1, l1, c1) ∧ mtR T N m true O p1 (l ++ l1) c1 r))
  | m + 1, true, O, p, l, c, r =>
    ((sgn T N p 93 ∧ 91 ∈ O) ∧ mtR T N m true (lyR 1 (lyR 3 O)).tail (nx T N p) (l ++ lyL 3 O ++ lyL 1 (lyR 3 O)) c r)
    ∨ (¬ (sgn T N p 93 ∧ 91 ∈ O) ∧ ¬ qwd T N p 1476 = 0 ∧ mtR T N m false (12 :: lyR 2 (lyR 3 O)) (nx T N p) (l ++ lyL 3 O ++ lyL 2 (lyR 3 O)) c r)
    ∨ (¬ (sgn T N p 93 ∧ 91 ∈ O) ∧ qwd T N p 1476 = 0 ∧ ¬ qwd T N p 498 = 0 ∧ mtR T N m false (13 :: lyR 1 (lyR 3 O)) (nx T N p) (l ++ lyL 3 O ++ lyL 1 (lyR 3 O)) c r)
    ∨ (¬ (sgn T N p 93 ∧ 91 ∈ O) ∧ qwd T N p 1476 = 0 ∧ qwd T N p 498 = 0 ∧ ((91 ∈ O ∧ r = .error (fE p 0)) ∨ (¬ 91 ∈ O ∧ r = .ok (p, l ++ lyL 3 O ++ lyL 1 (lyR 3 O), c))))
def clR (T : Nat → Int32) (N p c : Nat) (r : Except Int32 (Nat × gCl × Nat)) : Prop := ∃ m r1, smR T N m 0 0 p [] c r1 ∧ ((∃ g, r1 = .error g ∧ r = .error g) ∨ ∃ p1 l1 c1, r1 = .ok (p1, l1, c1) ∧
  ((qwd T N p1 294 = 0 ∧ r = .ok (p1, (l1, none), c1)) ∨ (¬ qwd T N p1 294 = 0 ∧ ∃ m' r2, mtR T N m' false [] (nx T N p1) [] c1 r2 ∧ ((∃ g, r2 = .error g ∧ r = .error g) ∨ ∃ p2 l2 c2, r2 = .ok (p2, l2, c2) ∧ r = .ok (p2, (l1, some l2), c2)))))
def rlR (T : Nat → Int32) (N : Nat) : Nat → Nat → Nat → Nat → List gCl → Except Int32 (List gCl) → Prop
  | 0, _, _, _, _, _ => False
  | m + 1, p, n, c, cl, r => (qwd T N p 12468 = 0 ∧ r = .error (fE p 0)) ∨ (¬ qwd T N p 12468 = 0 ∧ n = 12 ∧ r = .error (fE p 4))
    ∨ (¬ qwd T N p 12468 = 0 ∧ n < 12 ∧ ∃ r1, clR T N (nx T N p) c r1 ∧ ((∃ g, r1 = .error g ∧ r = .error g) ∨ ∃ p1 q c1, r1 = .ok (p1, q, c1) ∧
      ((¬ p1 < N ∧ r = .ok (cl ++ [q])) ∨ (p1 < N ∧ ¬ sgn T N p1 59 ∧ r = .error (fE p1 0)) ∨ (sgn T N p1 59 ∧ rlR T N m (nx T N p1) (n + 1) c1 (cl ++ [q]) r))))
/-! typing -/
def opF (a : Nat) (ts : List Bool) : List Bool := if a = 0 then ts else false :: ts
abbrev isO (a : Nat) : Prop := a = 0 ∨ a = 2 ∨ a = 3 ∨ a = 4 ∨ a = 5 ∨ a = 14
theorem kty_val {p c : Nat} {x : Nat × Nat} (h : pvO T N p c x) {ts : List Bool} (ht : ts.length < 30) (q : gSg) : kty (x :: q) ts = kty q (false :: ts) := by
  obtain ⟨_, h⟩ := h
  show (if x.1 ≤ 1 then _ else _) = _
  rcases h with ⟨_, _, e1, e2, _⟩ | ⟨_, e1, e2, _⟩
  · rw [if_pos (by omega), if_pos ⟨e2, fun z => absurd z (by omega), ht⟩]
  · rw [if_pos (by omega), if_pos ⟨by omega, fun _ => e2, ht⟩]
theorem kty_opt {a : Nat} (h : isO a) (ts : List Bool) (q : gSg) : kty (opt a ++ q) (false :: opF a ts) = kty q (false :: ts) := by
  rcases h with rfl | rfl | rfl | rfl | rfl | rfl <;> rfl
theorem tmO_is (p : Nat) : isO (tmO T N p) := by
  unfold tmO
  split
  · exact Or.inr (Or.inr (Or.inr (Or.inl rfl)))
  · split
    · exact Or.inr (Or.inr (Or.inr (Or.inr (Or.inl rfl))))
    · split
      · exact Or.inr (Or.inr (Or.inr (Or.inr (Or.inr rfl))))
      · exact Or.inl rfl
theorem adO_is (p : Nat) : isO (adO T N p) := by
  unfold adO
  split
  · exact Or.inr (Or.inl rfl)
  · split
    · exact Or.inr (Or.inr (Or.inl rfl))
    · exact Or.inl rfl
theorem opF_le (a : Nat) (ts : List Bool) : (opF a ts).length ≤ ts.length + 1 := by
  unfold opF
  split
  · omega
  · exact Nat.le_refl _
theorem opF_ne {a : Nat} (h : ¬ a = 0) (ts : List Bool) : opF a ts = false :: ts := if_neg h
theorem pvO_lt {p c : Nat} {x : Nat × Nat} (hp : p ≤ N) (h : pvO T N p c x) : p < N := by
  rcases h.2 with ⟨h1, _⟩ | ⟨h1, h2, h3, h4⟩
  · exact (tk_is2.mp h1).1
  · refine Classical.byContradiction (fun q => ?_)
    have hz : ∀ w : Int64, qwd T N p w = 0 := fun w => Classical.byContradiction (fun z => q (wd_te hp z).1)
    have : qwh T N p = -1 := by
      unfold qwh
      simp only [hz, if_true]
    rw [this] at h4
    have e := congrArg Int32.toInt h4
    rw [nI_toInt (by omega)] at e
    exact absurd e (by
      have : (-1 : Int32).toInt = -1 := by decide
      omega)
theorem smR_ty : ∀ (m a t p : Nat) (l : gSg) (c p' : Nat) (l' : gSg) (c' : Nat), smR T N m a t p l c (.ok (p', l', c')) → isO a → isO t → p ≤ N → ∃ l2, l' = l ++ l2 ∧ (∀ ts, ts.length ≤ 27 → kty l2 (opF t (opF a ts)) = some (false :: ts)) ∧ p + l2.length ≤ p' + (opt a).length + (opt t).length ∧ p < p' ∧ p' ≤ N ∧ c' ≤ 60
  | 0, _, _, _, _, _, _, _, _, h, _, _, _ => absurd h id
  | m + 1, a, t, p, l, c, p', l', c', h, ha, ht, hp => by
    rcases h with ⟨w, _, h⟩ | ⟨x, hx, h⟩
    · exact absurd h (by simp)
    have hpN := pvO_lt hp hx
    have hn := nx_lt (T := T) hpN
    have hn2 := (nx_le (T := T) (N := N) (p := p) (by omega)).2
    rcases h with ⟨h1, h⟩ | ⟨h1, h2, h⟩ | ⟨h1, h2, h⟩
    · have b := tmO_lt h1
      have hn3 := nx_lt (T := T) b.1
      obtain ⟨l2, e, e2, e3, e4, e5, e6⟩ := smR_ty m _ _ _ _ _ _ _ _ h ha (tmO_is _) (nx_le (T := T) hn2).2
      refine ⟨x :: opt t ++ l2, by rw [e, List.append_assoc], fun ts hts => ?_, ?_, by omega, e5, e6⟩
      · have k1 := opF_le a ts
        have k2 := opF_le t (opF a ts)
        rw [List.cons_append, kty_val hx (by omega), kty_opt ht, ← opF_ne h1]
        exact e2 ts hts
      · have k3 : (opt (tmO T N (nx T N p))).length ≤ 1 := opt_le _
        rw [List.length_append, List.length_cons]
        omega
    · have b := adO_lt h2
      have hn3 := nx_lt (T := T) b.1
      obtain ⟨l2, e, e2, e3, e4, e5, e6⟩ := smR_ty m _ _ _ _ _ _ _ _ h (adO_is _) (Or.inl rfl) (nx_le (T := T) hn2).2
      refine ⟨x :: opt t ++ (opt a ++ l2), by rw [e]; simp only [List.append_assoc], fun ts hts => ?_, ?_, by omega, e5, e6⟩
      · have k1 := opF_le a ts
        have k2 := opF_le t (opF a ts)
        have k5 := e2 ts hts
        rw [opF_ne h2] at k5
        rw [List.cons_append, kty_val hx (by omega), kty_opt ht, kty_opt ha]
        exact k5
      · have k3 : (opt (adO T N (nx T N p))).length ≤ 1 := opt_le _
        have k4 : (opt 0).length = 0 := rfl
        rw [List.length_append, List.length_append, List.length_cons]
        omega
    · injection h with h
      injection h with h3 h
      injection h with h4 h5
      subst h3 h4 h5
      have hc := hx.1
      refine ⟨x :: opt t ++ opt a, by rw [List.append_assoc], fun ts hts => ?_, ?_, by omega, hn2, by omega⟩
      · have k1 := opF_le a ts
        have k2 := opF_le t (opF a ts)
        have k3 := kty_opt ha ts []
        rw [List.append_nil] at k3
        rw [List.cons_append, kty_val hx (by omega), kty_opt ht, k3]
        rfl
      · rw [List.length_append, List.length_cons]
        omega
theorem cmO_is {p : Nat} (h : ¬ cmO T N p = 0) : 6 ≤ cmO T N p ∧ cmO T N p ≤ 10 := by
  unfold cmO at h ⊢
  by_cases h1 : sgn T N p 60
  · rw [if_pos h1]
    split <;> decide
  rw [if_neg h1] at h ⊢
  by_cases h2 : sgn T N p 61
  · rw [if_pos h2]
    decide
  rw [if_neg h2] at h ⊢
  by_cases h3 : sgn T N p 62
  · rw [if_pos h3]
    split <;> decide
  rw [if_neg h3] at h
  exact absurd rfl h
theorem kty_cm {s : Nat} (h : 6 ≤ s ∧ s ≤ 10) (ts : List Bool) : kty [(s, 0)] (false :: false :: ts) = some (true :: ts) := by
  rcases (show s = 6 ∨ s = 7 ∨ s = 8 ∨ s = 9 ∨ s = 10 by omega) with rfl | rfl | rfl | rfl | rfl <;> rfl
theorem cpR_ty {p c p' c' : Nat} {l' : gSg} (h : cpR T N p c (.ok (p', l', c'))) (hp : p ≤ N) : (∀ ts, ts.length ≤ 26 → kty l' ts = some (true :: ts)) ∧ p + l'.length ≤ p' ∧ p < p' ∧ p' ≤ N ∧ c' ≤ 60 := by
  obtain ⟨m, r1, h1, h⟩ := h
  rcases h with ⟨g, _, h⟩ | ⟨p1, l1, c1, rfl, h⟩
  · exact absurd h (by simp)
  obtain ⟨q1, e1, e2, e3, e4, e5, e6⟩ := smR_ty _ _ _ _ _ _ _ _ _ h1 (Or.inl rfl) (Or.inl rfl) hp
  rcases h with ⟨_, h⟩ | ⟨_, _, h⟩ | ⟨hc, _, m', r2, h2, h⟩
  · exact absurd h (by simp)
  · exact absurd h (by simp)
  rcases h with ⟨g, _, h⟩ | ⟨p2, l2, c2, rfl, h⟩
  · exact absurd h (by simp)
  have b := nx_lt (T := T) (cmO_lt hc)
  obtain ⟨q2, f1, f2, f3, f4, f5, f6⟩ := smR_ty _ _ _ _ _ _ _ _ _ h2 (Or.inl rfl) (Or.inl rfl) (nx_le (T := T) e5).2
  injection h with h
  injection h with h3 h
  injection h with h4 h5
  rw [List.nil_append] at e1 f1
  subst h3 h4 h5 e1 f1
  have k0 : (opt 0).length = 0 := rfl
  refine ⟨fun ts hts => ?_, ?_, by omega, f5, f6⟩
  · have a1 : kty l1 ts = some (false :: ts) := e2 ts (by omega)
    have a2 : kty l2 (false :: ts) = some (false :: false :: ts) := f2 (false :: ts) (by rw [List.length_cons]; omega)
    rw [List.append_assoc, kty_app _ _ _ _ a1, kty_app _ _ _ _ a2]
    exact kty_cm (cmO_is hc) ts
  · rw [List.length_append, List.length_append]
    show p + (l1.length + l2.length + 1) ≤ p'
    omega
end PUR
