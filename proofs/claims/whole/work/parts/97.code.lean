/-! ===== the code of a word ===== -/
theorem lt_dg {x : Int32} (h : tlt x) : ∃ d, 1 ≤ d ∧ d ≤ 26 ∧ x = nI (96 + d) := by
  obtain ⟨k, hk, rfl⟩ := nI_of (x := x) (fun z => h.1 (Int32.lt_trans z (by decide)))
  have h1 : 97 ≤ k := Classical.byContradiction (fun z => h.1 (nI_lt (a := k) (b := 97) (by omega) (by decide)))
  have h2 : k ≤ 122 := Classical.byContradiction (fun z => h.2 (nI_lt (a := 122) (b := k) (by omega) hk))
  exact ⟨k - 96, by omega, by omega, by rw [show 96 + (k - 96) = k by omega]⟩
theorem dg_31 : ∀ d, d ≤ 26 → (nI (96 + d) &&& 31).toInt64 = Int64.ofNat d := by decide
theorem kc_step {v d : Nat} (hv : v < 2 ^ 55) (hd : d < 32) : Int64.ofNat v <<< ((5 : Int32).toInt64 &&& 63) ||| Int64.ofNat d = Int64.ofNat (32 * v + d) := by
  rw [show ((5 : Int32).toInt64 &&& 63 : Int64) = 5 from by decide]
  apply Int64.toBitVec_inj.mp
  rw [Int64.toBitVec_or, Int64.toBitVec_shiftLeft]
  apply BitVec.eq_of_toNat_eq
  rw [BitVec.toNat_or]
  have e1 : ((Int64.ofNat v).toBitVec <<< ((5 : Int64).toBitVec.smod 64)).toNat = 32 * v := by
    rw [show ((5 : Int64).toBitVec.smod 64) = 5#64 from by decide]
    show (BitVec.ofNat 64 v <<< 5#64).toNat = _
    rw [BitVec.shiftLeft_eq', BitVec.toNat_shiftLeft, BitVec.toNat_ofNat]
    show (v % 2 ^ 64) <<< 5 % 2 ^ 64 = _
    rw [Nat.shiftLeft_eq, Nat.mod_eq_of_lt (a := v) (by omega), Nat.mod_eq_of_lt (by omega)]
    omega
  rw [e1]
  show 32 * v ||| (BitVec.ofNat 64 d).toNat = (BitVec.ofNat 64 (32 * v + d)).toNat
  rw [BitVec.toNat_ofNat, BitVec.toNat_ofNat, Nat.mod_eq_of_lt (a := d) (by omega), Nat.mod_eq_of_lt (a := 32 * v + d) (by omega)]
  have := Nat.shiftLeft_add_eq_or_of_lt (i := 5) (b := d) (by omega) v
  rw [Nat.shiftLeft_eq] at this
  rw [show 32 * v = v * 2 ^ 5 by omega]
  exact this.symm
/-- the code as a number -/
def ncF (D : Nat → Nat) : Nat → Nat → Nat → Nat
  | 0, _, v => v
  | m + 1, k, v => ncF D m (k + 1) (32 * v + D k)
theorem kcF_nc {T : Nat → Int32} {p : Nat} {D : Nat → Nat} : ∀ (m k v : Nat), k + m ≤ 12 → (∀ i, i < k + m → 1 ≤ D i ∧ D i ≤ 26 ∧ T (p + i) = nI (96 + D i)) → v < 32 ^ k → k ≤ 11 ∨ m = 0 → kcF T p m k (Int64.ofNat v) = Int64.ofNat (ncF D m k v) ∧ ncF D m k v < 32 ^ (k + m)
  | 0, k, v, _, _, hv, _ => ⟨rfl, hv⟩
  | m + 1, k, v, hm, hD, hv, _ => by
    have hk := hD k (by omega)
    have hp : (32 : Nat) ^ k ≤ 2 ^ 55 := Nat.le_trans (Nat.pow_le_pow_right (by decide) (show k ≤ 11 by omega)) (by decide)
    have hs : 32 ^ (k + 1) = 32 ^ k * 32 := Nat.pow_succ ..
    have ih := kcF_nc m (k + 1) (32 * v + D k) (by omega) (fun i hi => hD i (by omega)) (by omega) (by omega)
    rw [show k + (m + 1) = k + 1 + m by omega]
    refine ⟨?_, ih.2⟩
    rw [← show kcF T p m (k + 1) (Int64.ofNat (32 * v + D k)) = Int64.ofNat (ncF D (m + 1) k v) from ih.1]
    show kcF T p m (k + 1) (if k < 12 then _ else _) = _
    rw [if_pos (by omega), hk.2.2, dg_31 _ hk.2.1, kc_step (by omega) (by omega)]
theorem ncF_inj {D D' : Nat → Nat} : ∀ (m k v v' : Nat), (∀ i, i < k + m → D i < 32 ∧ D' i < 32) → ncF D m k v = ncF D' m k v' → v = v' ∧ ∀ i, k ≤ i → i < k + m → D i = D' i
  | 0, k, v, v', _, h => ⟨h, fun i a b => absurd b (by omega)⟩
  | m + 1, k, v, v', hD, h => by
    obtain ⟨h1, h2⟩ := ncF_inj m (k + 1) (32 * v + D k) (32 * v' + D' k) (fun i hi => hD i (by omega)) h
    have := hD k (by omega)
    refine ⟨by omega, fun i a b => ?_⟩
    by_cases e : i = k
    · rw [e]; omega
    · exact h2 i (by omega) (by omega)
theorem ncF_ge {D : Nat → Nat} : ∀ (m k v : Nat), v * 32 ^ m ≤ ncF D m k v
  | 0, k, v => by show v * 32 ^ 0 ≤ v; omega
  | m + 1, k, v => by
    have ih := ncF_ge (D := D) m (k + 1) (32 * v + D k)
    refine Nat.le_trans ?_ ih
    rw [Nat.pow_succ, Nat.mul_comm (32 ^ m) 32, ← Nat.mul_assoc]
    exact Nat.mul_le_mul_right _ (by omega)
theorem i64_inj {a b : Nat} (ha : a < 2 ^ 63) (hb : b < 2 ^ 63) (h : Int64.ofNat a = Int64.ofNat b) : a = b := by
  have e : (BitVec.ofNat 64 a).toNat = (BitVec.ofNat 64 b).toNat := congrArg (fun x : Int64 => x.toBitVec.toNat) h
  rw [BitVec.toNat_ofNat, BitVec.toNat_ofNat, Nat.mod_eq_of_lt (by omega), Nat.mod_eq_of_lt (by omega)] at e
  exact e
/-- the run of letters at p is the word l (a is 1) -/
def spl (T : Nat → Int32) (N p : Nat) (l : List Nat) : Prop := trl T N p = l.length ∧ ∀ i, i < l.length → T (p + i) = nI (96 + l.getD i 0)
def wcd (l : List Nat) : Int64 := Int64.ofNat (ncF (fun i => l.getD i 0) l.length 0 0)
theorem qwd_spl {T : Nat → Int32} {N p : Nat} {l : List Nat} (hl : 0 < l.length ∧ l.length ≤ 12) (hd : ∀ i, i < l.length → 1 ≤ l.getD i 0 ∧ l.getD i 0 ≤ 26) (hp : p ≤ N) : ¬ qwd T N p (wcd l) = 0 ↔ spl T N p l := by
  have ht := tru_le (P := ltB) (T := T) hp
  have h60 : (32 : Nat) ^ 12 < 2 ^ 63 := by decide
  have hpw : ∀ m, m ≤ 12 → (32 : Nat) ^ m ≤ 32 ^ 12 := fun m h => Nat.pow_le_pow_right (by decide) h
  constructor
  · intro h
    have hq : 0 < trl T N p ∧ trl T N p < 13 ∧ kcF T p (trl T N p) 0 0 = wcd l := Classical.byContradiction (fun z => h (if_neg z))
    obtain ⟨h0, h13, hc⟩ := hq
    have hD : ∀ i, i < 0 + trl T N p → 1 ≤ (T (p + i)).toNatClampNeg - 96 ∧ (T (p + i)).toNatClampNeg - 96 ≤ 26 ∧ T (p + i) = nI (96 + ((T (p + i)).toNatClampNeg - 96)) := by
      intro i hi
      have hi : i < tru ltB T N p - p := by unfold trl at hi; omega
      obtain ⟨d, d1, d2, e⟩ := lt_dg (of_decide_eq_true (ht.2.2 (p + i) (by omega) (by omega)))
      rw [e, nI_clamp (by omega), show 96 + d - 96 = d by omega]
      exact ⟨d1, d2, rfl⟩
    obtain ⟨e1, e2⟩ := kcF_nc (D := fun i => (T (p + i)).toNatClampNeg - 96) (trl T N p) 0 0 (by omega) hD (by decide) (by omega)
    rw [show Int64.ofNat 0 = 0 from rfl, hc] at e1
    have hl2 : ncF (fun i => l.getD i 0) l.length 0 0 < 32 ^ (0 + l.length) := (kcF_nc (T := fun i => nI (96 + l.getD i 0)) (p := 0) (D := fun i => l.getD i 0) l.length 0 0 (by omega) (fun i hi => ⟨(hd i (by omega)).1, (hd i (by omega)).2, by rw [Nat.zero_add]⟩) (by decide) (by omega)).2
    rw [Nat.zero_add] at e2 hl2
    have ee := i64_inj (Nat.lt_of_lt_of_le hl2 (Nat.le_trans (hpw _ hl.2) (Nat.le_of_lt h60))) (Nat.lt_of_lt_of_le e2 (Nat.le_trans (hpw _ (by omega)) (Nat.le_of_lt h60))) e1
    have low : ∀ (D : Nat → Nat) (m : Nat), 0 < m → 1 ≤ D 0 → 32 ^ (m - 1) ≤ ncF D m 0 0 := by
      intro D m hm h1
      obtain ⟨m, rfl⟩ : ∃ k, m = k + 1 := ⟨m - 1, by omega⟩
      have := ncF_ge (D := D) m 1 (32 * 0 + D 0)
      refine Nat.le_trans ?_ this
      rw [show m + 1 - 1 = m by omega]
      exact Nat.le_mul_of_pos_left _ (by omega)
    have l1 := low (fun i => (T (p + i)).toNatClampNeg - 96) _ h0 (hD 0 (by omega)).1
    have l2 := low (fun i => l.getD i 0) _ hl.1 (hd 0 hl.1).1
    have hlen : trl T N p = l.length := by
      rcases Nat.lt_trichotomy (trl T N p) l.length with q | q | q
      · exact absurd (Nat.le_trans (Nat.pow_le_pow_right (n := 32) (by decide) (show trl T N p ≤ l.length - 1 by omega)) l2) (by rw [ee]; omega)
      · exact q
      · exact absurd (Nat.le_trans (Nat.pow_le_pow_right (n := 32) (by decide) (show l.length ≤ trl T N p - 1 by omega)) l1) (by rw [← ee]; omega)
    rw [hlen] at ee
    obtain ⟨-, g⟩ := ncF_inj (D := fun i => l.getD i 0) l.length 0 0 0 (fun i hi => ⟨by have := hd i (by omega); show l.getD i 0 < 32; omega, by have := hD i (by omega); omega⟩) ee
    refine ⟨hlen, fun i hi => ?_⟩
    rw [(hD i (by omega)).2.2, ← g i (by omega) (by omega)]
  · intro h
    have e := (kcF_nc (T := T) (p := p) (D := fun i => l.getD i 0) l.length 0 0 (by omega) (fun i hi => ⟨(hd i (by omega)).1, (hd i (by omega)).2, h.2 i (by omega)⟩) (by decide) (by omega)).1
    unfold qwd
    rw [h.1, if_pos ⟨hl.1, by omega, e⟩]
    decide
theorem spl_inj {T : Nat → Int32} {N p : Nat} {l l' : List Nat} (h : spl T N p l) (h' : spl T N p l') (hd : ∀ i, i < l.length → l.getD i 0 ≤ 26) (hd' : ∀ i, i < l'.length → l'.getD i 0 ≤ 26) : l = l' := by
  have hlen : l.length = l'.length := h.1.symm.trans h'.1
  refine List.ext_getElem hlen (fun i h1 h2 => ?_)
  have e : nI (96 + l.getD i 0) = nI (96 + l'.getD i 0) := (h.2 i h1).symm.trans (h'.2 i h2)
  have a1 := hd i h1
  have a2 := hd' i h2
  have := nI_inj (by omega) (by omega) e
  rw [List.getD_eq_getElem?_getD, List.getD_eq_getElem?_getD, List.getElem?_eq_getElem h1, List.getElem?_eq_getElem h2] at this
  simp only [Option.getD_some] at this
  omega
theorem wc_junction : (366619534830 : Int64) = wcd [10, 21, 14, 3, 20, 9, 15, 14] := by decide +kernel
theorem qw_junction {T : Nat → Int32} {N p : Nat} (hp : p ≤ N) : ¬ qwd T N p 366619534830 = 0 ↔ spl T N p [10, 21, 14, 3, 20, 9, 15, 14] := by
  rw [wc_junction]
  exact qwd_spl (by decide) (by decide) hp
theorem wc_road : (605220 : Int64) = wcd [18, 15, 1, 4] := by decide +kernel
theorem qw_road {T : Nat → Int32} {N p : Nat} (hp : p ≤ N) : ¬ qwd T N p 605220 = 0 ↔ spl T N p [18, 15, 1, 4] := by
  rw [wc_road]
  exact qwd_spl (by decide) (by decide) hp
theorem wc_clash : (3540584 : Int64) = wcd [3, 12, 1, 19, 8] := by decide +kernel
theorem qw_clash {T : Nat → Int32} {N p : Nat} (hp : p ≤ N) : ¬ qwd T N p 3540584 = 0 ↔ spl T N p [3, 12, 1, 19, 8] := by
  rw [wc_clash]
  exact qwd_spl (by decide) (by decide) hp
theorem wc_score : (20037189 : Int64) = wcd [19, 3, 15, 18, 5] := by decide +kernel
theorem qw_score {T : Nat → Int32} {N p : Nat} (hp : p ≤ N) : ¬ qwd T N p 20037189 = 0 ↔ spl T N p [19, 3, 15, 18, 5] := by
  rw [wc_score]
  exact qwd_spl (by decide) (by decide) hp
theorem wc_let : (12468 : Int64) = wcd [12, 5, 20] := by decide +kernel
theorem qw_let {T : Nat → Int32} {N p : Nat} (hp : p ≤ N) : ¬ qwd T N p 12468 = 0 ↔ spl T N p [12, 5, 20] := by
  rw [wc_let]
  exact qwd_spl (by decide) (by decide) hp
theorem wc_if : (294 : Int64) = wcd [9, 6] := by decide +kernel
theorem qw_if {T : Nat → Int32} {N p : Nat} (hp : p ≤ N) : ¬ qwd T N p 294 = 0 ↔ spl T N p [9, 6] := by
  rw [wc_if]
  exact qwd_spl (by decide) (by decide) hp
theorem wc_not : (14836 : Int64) = wcd [14, 15, 20] := by decide +kernel
theorem qw_not {T : Nat → Int32} {N p : Nat} (hp : p ≤ N) : ¬ qwd T N p 14836 = 0 ↔ spl T N p [14, 15, 20] := by
  rw [wc_not]
  exact qwd_spl (by decide) (by decide) hp
theorem wc_and : (1476 : Int64) = wcd [1, 14, 4] := by decide +kernel
theorem qw_and {T : Nat → Int32} {N p : Nat} (hp : p ≤ N) : ¬ qwd T N p 1476 = 0 ↔ spl T N p [1, 14, 4] := by
  rw [wc_and]
  exact qwd_spl (by decide) (by decide) hp
theorem wc_or : (498 : Int64) = wcd [15, 18] := by decide +kernel
theorem qw_or {T : Nat → Int32} {N p : Nat} (hp : p ≤ N) : ¬ qwd T N p 498 = 0 ↔ spl T N p [15, 18] := by
  rw [wc_or]
  exact qwd_spl (by decide) (by decide) hp
theorem wc_wait : (754996 : Int64) = wcd [23, 1, 9, 20] := by decide +kernel
theorem qw_wait {T : Nat → Int32} {N p : Nat} (hp : p ≤ N) : ¬ qwd T N p 754996 = 0 ↔ spl T N p [23, 1, 9, 20] := by
  rw [wc_wait]
  exact qwd_spl (by decide) (by decide) hp
theorem wc_every : (5969497 : Int64) = wcd [5, 22, 5, 18, 25] := by decide +kernel
theorem qw_every {T : Nat → Int32} {N p : Nat} (hp : p ≤ N) : ¬ qwd T N p 5969497 = 0 ↔ spl T N p [5, 22, 5, 18, 25] := by
  rw [wc_every]
  exact qwd_spl (by decide) (by decide) hp
theorem wc_part : (525908 : Int64) = wcd [16, 1, 18, 20] := by decide +kernel
theorem qw_part {T : Nat → Int32} {N p : Nat} (hp : p ≤ N) : ¬ qwd T N p 525908 = 0 ↔ spl T N p [16, 1, 18, 20] := by
  rw [wc_part]
  exact qwd_spl (by decide) (by decide) hp
theorem wc_scored : (641190052 : Int64) = wcd [19, 3, 15, 18, 5, 4] := by decide +kernel
theorem qw_scored {T : Nat → Int32} {N p : Nat} (hp : p ≤ N) : ¬ qwd T N p 641190052 = 0 ↔ spl T N p [19, 3, 15, 18, 5, 4] := by
  rw [wc_scored]
  exact qwd_spl (by decide) (by decide) hp
theorem wc_sound : (20436420 : Int64) = wcd [19, 15, 21, 14, 4] := by decide +kernel
theorem qw_sound {T : Nat → Int32} {N p : Nat} (hp : p ≤ N) : ¬ qwd T N p 20436420 = 0 ↔ spl T N p [19, 15, 21, 14, 4] := by
  rw [wc_sound]
  exact qwd_spl (by decide) (by decide) hp
theorem wc_since : (20232293 : Int64) = wcd [19, 9, 14, 3, 5] := by decide +kernel
theorem qw_since {T : Nat → Int32} {N p : Nat} (hp : p ≤ N) : ¬ qwd T N p 20232293 = 0 ↔ spl T N p [19, 9, 14, 3, 5] := by
  rw [wc_since]
  exact qwd_spl (by decide) (by decide) hp
theorem wc_went : (759252 : Int64) = wcd [23, 5, 14, 20] := by decide +kernel
theorem qw_went {T : Nat → Int32} {N p : Nat} (hp : p ≤ N) : ¬ qwd T N p 759252 = 0 ↔ spl T N p [23, 5, 14, 20] := by
  rw [wc_went]
  exact qwd_spl (by decide) (by decide) hp
theorem wc_all : (1420 : Int64) = wcd [1, 12, 12] := by decide +kernel
theorem qw_all {T : Nat → Int32} {N p : Nat} (hp : p ≤ N) : ¬ qwd T N p 1420 = 0 ↔ spl T N p [1, 12, 12] := by
  rw [wc_all]
  exact qwd_spl (by decide) (by decide) hp
theorem wc_beat : (70708 : Int64) = wcd [2, 5, 1, 20] := by decide +kernel
theorem qw_beat {T : Nat → Int32} {N p : Nat} (hp : p ≤ N) : ¬ qwd T N p 70708 = 0 ↔ spl T N p [2, 5, 1, 20] := by
  rw [wc_beat]
  exact qwd_spl (by decide) (by decide) hp
theorem wc_hour : (278194 : Int64) = wcd [8, 15, 21, 18] := by decide +kernel
theorem qw_hour {T : Nat → Int32} {N p : Nat} (hp : p ≤ N) : ¬ qwd T N p 278194 = 0 ↔ spl T N p [8, 15, 21, 18] := by
  rw [wc_hour]
  exact qwd_spl (by decide) (by decide) hp
