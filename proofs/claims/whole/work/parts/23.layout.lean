/-! ===== the whole memory in regions: region r has zn r cells from zb r on; Z r k: its k-th cell ===== -/
def zp (M : gM) (a n : Nat) (c : Nat → va_E) : gM := (M.1, fun q => if a ≤ q ∧ q < a + n then c (q - a) else M.2 q)
theorem jp_zp (M : gM) (a : Nat) (J : gJn) : jp M a J = zp M a 10 (jc a J) := rfl
theorem rp_zp (M : gM) (p n : Nat) (f : Nat → Int32) (g : Nat → Int64) : rp M p n f g = zp M p 3 (rc p n f g) := rfl
def zb (r : Nat) : Nat := if r = 0 then 16 else if r = 1 then 17 else if r < 5 then 19 + 10 * (r - 2) else if r = 5 then 49 else if r = 6 then 50 else if r = 7 then 52 else if r = 8 then 53 else if r < 29 then 55 + 10 * (r - 9) else if r = 29 then 255 else if r = 30 then 259 else if r = 31 then 260 else if r = 32 then 279 else if r < 49 then 284 + 25 * ((r - 33) / 4) + (if (r - 33) % 4 = 0 then 0 else 10 * ((r - 33) % 4) - 9) else if r = 49 then 384 else 408 + 3 * (r - 50)
def zn (r : Nat) : Nat := if r = 0 then 1 else if r = 1 then 2 else if r < 5 then 10 else if r = 5 then 1 else if r = 6 then 2 else if r = 7 then 1 else if r = 8 then 2 else if r < 29 then 10 else if r = 29 then 4 else if r = 30 then 1 else if r = 31 then 19 else if r = 32 then 5 else if r < 49 then (if (r - 33) % 4 = 0 then 1 else if (r - 33) % 4 = 3 then 4 else 10) else if r = 49 then 24 else 3
def zr (q : Nat) : Nat := if q < 17 then 0 else if q < 19 then 1 else if q < 49 then 2 + (q - 19) / 10 else if q < 50 then 5 else if q < 52 then 6 else if q < 53 then 7 else if q < 55 then 8 else if q < 255 then 9 + (q - 55) / 10 else if q < 259 then 29 else if q < 260 then 30 else if q < 279 then 31 else if q < 284 then 32 else if q < 384 then 33 + 4 * ((q - 284) / 25) + (if (q - 284) % 25 < 1 then 0 else ((q - 284) % 25 + 9) / 10) else if q < 408 then 49 else 50 + (q - 408) / 3
def zL (n : Nat) (Z : Nat → Nat → va_E) : gM := (n, fun q => if q < 16 then .inr (0, []) else Z (zr q) (q - zb (zr q)))
theorem zn_le (r : Nat) : zn r ≤ 24 := by
  by_cases hr : r < 50
  · have hall : ∀ r, r < 50 → zn r ≤ 24 := by decide +kernel
    exact hall r hr
  · unfold zn
    rw [if_neg (by omega), if_neg (by omega), if_neg (by omega), if_neg (by omega), if_neg (by omega), if_neg (by omega), if_neg (by omega), if_neg (by omega), if_neg (by omega), if_neg (by omega), if_neg (by omega), if_neg (by omega), if_neg (by omega), if_neg (by omega)]
    decide
theorem zr_of (r k : Nat) (h : k < zn r) : zr (zb r + k) = r ∧ 16 ≤ zb r := by
  by_cases hr : r < 50
  · have hall : ∀ r, r < 50 → ∀ k, k < 24 → k < zn r → zr (zb r + k) = r ∧ 16 ≤ zb r := by decide +kernel
    exact hall r hr k (Nat.lt_of_lt_of_le h (zn_le r)) h
  · have e : zb r = 408 + 3 * (r - 50) := by
      unfold zb
      rw [if_neg (by omega), if_neg (by omega), if_neg (by omega), if_neg (by omega), if_neg (by omega), if_neg (by omega), if_neg (by omega), if_neg (by omega), if_neg (by omega), if_neg (by omega), if_neg (by omega), if_neg (by omega), if_neg (by omega), if_neg (by omega)]
    unfold zn at h
    rw [if_neg (by omega), if_neg (by omega), if_neg (by omega), if_neg (by omega), if_neg (by omega), if_neg (by omega), if_neg (by omega), if_neg (by omega), if_neg (by omega), if_neg (by omega), if_neg (by omega), if_neg (by omega), if_neg (by omega), if_neg (by omega)] at h
    rw [e]
    unfold zr
    rw [if_neg (by omega), if_neg (by omega), if_neg (by omega), if_neg (by omega), if_neg (by omega), if_neg (by omega), if_neg (by omega), if_neg (by omega), if_neg (by omega), if_neg (by omega), if_neg (by omega), if_neg (by omega), if_neg (by omega), if_neg (by omega)]
    omega
set_option maxHeartbeats 4000000 in
theorem zr_in (q : Nat) (h : 16 ≤ q) : zb (zr q) ≤ q ∧ q < zb (zr q) + zn (zr q) := by
  by_cases h1 : q < 55
  · have hall : ∀ q, q < 55 → 16 ≤ q → zb (zr q) ≤ q ∧ q < zb (zr q) + zn (zr q) := by decide +kernel
    exact hall q h1 h
  · by_cases h2 : q < 255
    · have e : zr q = 9 + (q - 55) / 10 := by
        unfold zr
        rw [if_neg (by omega), if_neg (by omega), if_neg (by omega), if_neg (by omega), if_neg (by omega), if_neg (by omega), if_neg (by omega), if_pos h2]
      have hr : 9 ≤ zr q ∧ zr q < 29 := by omega
      have eb : zb (zr q) = 55 + 10 * (zr q - 9) := by
        unfold zb
        rw [if_neg (by omega), if_neg (by omega), if_neg (by omega), if_neg (by omega), if_neg (by omega), if_neg (by omega), if_neg (by omega), if_pos hr.2]
      have en : zn (zr q) = 10 := by
        unfold zn
        rw [if_neg (by omega), if_neg (by omega), if_neg (by omega), if_neg (by omega), if_neg (by omega), if_neg (by omega), if_neg (by omega), if_pos hr.2]
      rw [eb, en]
      omega
    · by_cases h3 : q < 408
      · have hall : ∀ j, j < 153 → zb (zr (255 + j)) ≤ 255 + j ∧ 255 + j < zb (zr (255 + j)) + zn (zr (255 + j)) := by decide +kernel
        have := hall (q - 255) (by omega)
        rw [show 255 + (q - 255) = q by omega] at this
        exact this
      · have e : zr q = 50 + (q - 408) / 3 := by
          unfold zr
          rw [if_neg (by omega), if_neg (by omega), if_neg (by omega), if_neg (by omega), if_neg (by omega), if_neg (by omega), if_neg (by omega), if_neg (by omega), if_neg (by omega), if_neg (by omega), if_neg (by omega), if_neg (by omega), if_neg (by omega), if_neg (by omega)]
        have hr : 50 ≤ zr q := by omega
        have eb : zb (zr q) = 408 + 3 * (zr q - 50) := by
          unfold zb
          rw [if_neg (by omega), if_neg (by omega), if_neg (by omega), if_neg (by omega), if_neg (by omega), if_neg (by omega), if_neg (by omega), if_neg (by omega), if_neg (by omega), if_neg (by omega), if_neg (by omega), if_neg (by omega), if_neg (by omega), if_neg (by omega)]
        have en : zn (zr q) = 3 := by
          unfold zn
          rw [if_neg (by omega), if_neg (by omega), if_neg (by omega), if_neg (by omega), if_neg (by omega), if_neg (by omega), if_neg (by omega), if_neg (by omega), if_neg (by omega), if_neg (by omega), if_neg (by omega), if_neg (by omega), if_neg (by omega), if_neg (by omega)]
        rw [eb, en]
        omega
def zs (Z : Nat → Nat → va_E) (r : Nat) (c : Nat → va_E) : Nat → Nat → va_E := fun i => if i = r then c else Z i
/-- a region of the whole, put anew -/
theorem zL_zp (n : Nat) (Z : Nat → Nat → va_E) (r : Nat) (c : Nat → va_E) : zp (zL n Z) (zb r) (zn r) c = zL n (zs Z r c) := by
  unfold zp zL zs
  refine Prod.ext rfl (funext fun q => ?_)
  show (if zb r ≤ q ∧ q < zb r + zn r then c (q - zb r) else if q < 16 then _ else Z (zr q) (q - zb (zr q))) = (if q < 16 then _ else (if zr q = r then c else Z (zr q)) (q - zb (zr q)))
  by_cases h : zb r ≤ q ∧ q < zb r + zn r
  · have h1 := zr_of r (q - zb r) (by omega)
    rw [show zb r + (q - zb r) = q by omega] at h1
    rw [if_pos h, if_neg (by omega), h1.1, if_pos rfl]
  · rw [if_neg h]
    by_cases h2 : q < 16
    · rw [if_pos h2, if_pos h2]
    · rw [if_neg h2, if_neg h2]
      by_cases h3 : zr q = r
      · have := zr_in q (by omega)
        rw [h3] at this
        exact absurd this h
      · rw [if_neg h3]
theorem zs_self (Z : Nat → Nat → va_E) (r : Nat) : zs Z r (Z r) = Z := by
  funext i
  unfold zs
  split
  · rename_i h
    rw [h]
  · rfl
theorem zL_at {n : Nat} {Z : Nat → Nat → va_E} (r k : Nat) {e : va_E} (hk : k < zn r) (hn : zb r + k < n) (he : Z r k = e) : g_at (zL n Z) (zb r + k) e := by
  have h1 := zr_of r k hk
  refine ⟨by omega, hn, ?_⟩
  show (if zb r + k < 16 then _ else Z (zr (zb r + k)) (zb r + k - zb (zr (zb r + k)))) = e
  rw [if_neg (by omega), h1.1, Nat.add_sub_cancel_left]
  exact he
theorem zL_up {n : Nat} {Z : Nat → Nat → va_E} (r k : Nat) (e : va_E) (hk : k < zn r) : g_up (zL n Z) (zb r + k) e = zL n (zs Z r (fun i => if i = k then e else Z r i)) := by
  rw [← zL_zp]
  unfold g_up zp zL
  refine Prod.ext rfl (funext fun q => ?_)
  show (if q = zb r + k then e else if q < 16 then _ else Z (zr q) (q - zb (zr q))) = (if zb r ≤ q ∧ q < zb r + zn r then (if q - zb r = k then e else Z r (q - zb r)) else if q < 16 then _ else Z (zr q) (q - zb (zr q)))
  by_cases h1 : q = zb r + k
  · subst h1
    rw [if_pos rfl, if_pos ⟨by omega, by omega⟩, if_pos (by omega)]
  · rw [if_neg h1]
    by_cases h2 : zb r ≤ q ∧ q < zb r + zn r
    · have h3 := zr_of r (q - zb r) (by omega)
      rw [show zb r + (q - zb r) = q by omega] at h3
      rw [if_pos h2, if_neg (by omega), if_neg (by omega), h3.1]
    · rw [if_neg h2]
