/-! ===== the code of a word ===== -/
theorem lt_dg {x : Int32} (h : tlt x) : ∃ d, 1 ≤ d ∧ d ≤ 26 ∧ x = nI (96 + d) := by
  obtain ⟨k, hk, rfl⟩ := nI_of (x := x) (fun z => h.1 (Int32.lt_trans z (by decide)))
  have h1 : 97 ≤ k := Classical.byContradiction (fun z => h.1 (nI_lt (a := k) (b := 97) (by omega) (by decide)))
  have h2 : k ≤ 122 := Classical.byContradiction (fun z => h.2 (nI_lt (a := 122) (b := k) (by omega) hk))
  exact ⟨k - 96, by omega, by omega, by rw [show 96 + (k - 96) = k by omega]⟩
theorem dg_31 : ∀ d, d ≤ 26 → (nI (96 + d) &&& 31).toInt64 = Int64.ofNat d := by decide
theorem kc_step {v d : Nat} (hv : v < 2 ^ 55) (hd : d < 32) : Int64.ofNat v <<< ((5 : Int32).toInt64 &&& 63) ||| Int64.ofNat d = Int64.ofNat (32 * v + d) := by
  rw [show ((5 : Int32).toInt64 &&& 63 : Int64) = 5 from by decide]
  apply Int64.toBitVec_inj.mp
  rw [Int64.toBitVec_or, Int64.toBitVec_shiftLeft]
  apply BitVec.eq_of_toNat_eq
  rw [BitVec.toNat_or]
  have e1 : ((Int64.ofNat v).toBitVec <<< ((5 : Int64).toBitVec.smod 64)).toNat = 32 * v := by
    rw [show ((5 : Int64).toBitVec.smod 64) = 5#64 from by decide]
    show (BitVec.ofNat 64 v <<< 5#64).toNat = _
    rw [BitVec.shiftLeft_eq', BitVec.toNat_shiftLeft, BitVec.toNat_ofNat]
    show (v % 2 ^ 64) <<< 5 % 2 ^ 64 = _
    rw [Nat.shiftLeft_eq, Nat.mod_eq_of_lt (a := v) (by omega), Nat.mod_eq_of_lt (by omega)]
    omega
  rw [e1]
  show 32 * v ||| (BitVec.ofNat 64 d).toNat = (BitVec.ofNat 64 (32 * v + d)).toNat
  rw [BitVec.toNat_ofNat, BitVec.toNat_ofNat, Nat.mod_eq_of_lt (a := d) (by omega), Nat.mod_eq_of_lt (a := 32 * v + d) (by omega)]
  have := Nat.shiftLeft_add_eq_or_of_lt (i := 5) (b := d) (by omega) v
  rw [Nat.shiftLeft_eq] at this
  rw [show 32 * v = v * 2 ^ 5 by omega]
  exact this.symm
/-- the code as a number -/
def ncF (D : Nat → Nat) : Nat → Nat → Nat → Nat
  | 0, _, v => v
  | m + 1, k, v => ncF D m (k + 1) (32 * v + D k)
theorem kcF_nc {T : Nat → Int32} {p : Nat} {D : Nat → Nat} : ∀ (m k v : Nat), k + m ≤ 12 → (∀ i, i < k + m → 1 ≤ D i ∧ D i ≤ 26 ∧ T (p + i) = nI (96 + D i)) → v < 32 ^ k → k ≤ 11 ∨ m = 0 → kcF T p m k (Int64.ofNat v) = Int64.ofNat (ncF D m k v) ∧ ncF D m k v < 32 ^ (k + m)
  | 0, k, v, _, _, hv, _ => ⟨rfl, hv⟩
  | m + 1, k, v, hm, hD, hv, _ => by
    have hk := hD k (by omega)
    have hp : (32 : Nat) ^ k ≤ 2 ^ 55 := Nat.le_trans (Nat.pow_le_pow_right (by decide) (show k ≤ 11 by omega)) (by decide)
    have hs : 32 ^ (k + 1) = 32 ^ k * 32 := Nat.pow_succ ..
    have ih := kcF_nc m (k + 1) (32 * v + D k) (by omega) (fun i hi => hD i (by omega)) (by omega) (by omega)
    rw [show k + (m + 1) = k + 1 + m by omega]
    refine ⟨?_, ih.2⟩
    rw [← show kcF T p m (k + 1) (Int64.ofNat (32 * v + D k)) = Int64.ofNat (ncF D (m + 1) k v) from ih.1]
    show kcF T p m (k + 1) (if k < 12 then _ else _) = _
    rw [if_pos (by omega), hk.2.2, dg_31 _ hk.2.1, kc_step (by omega) (by omega)]
theorem ncF_inj {D D' : Nat → Nat} : ∀ (m k v v' : Nat), (∀ i, i < k + m → D i < 32 ∧ D' i < 32) → ncF D m k v = ncF D' m k v' → v = v' ∧ ∀ i, k ≤ i → i < k + m → D i = D' i
  | 0, k, v, v', _, h => ⟨h, fun i a b => absurd b (by omega)⟩
  | m + 1, k, v, v', hD, h => by
    obtain ⟨h1, h2⟩ := ncF_inj m (k + 1) (32 * v + D k) (32 * v' + D' k) (fun i hi => hD i (by omega)) h
    have := hD k (by omega)
    refine ⟨by omega, fun i a b => ?_⟩
    by_cases e : i = k
    · rw [e]; omega
    · exact h2 i (by omega) (by omega)
