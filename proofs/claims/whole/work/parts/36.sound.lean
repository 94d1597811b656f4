/-! ===== the two sounds are one ===== -/
def zsm (f : Nat → Int32) (k : Nat) : Nat → Int32
  | 0 => 0
  | n + 1 => f k + zsm f (k + 1) n
theorem zsm_congr {f g : Nat → Int32} : ∀ (n k : Nat), (∀ i, k ≤ i → i < k + n → f i = g i) → zsm f k n = zsm g k n
  | 0, _, _ => rfl
  | n + 1, k, h => by
    show f k + zsm f (k + 1) n = g k + zsm g (k + 1) n
    rw [h k (Nat.le_refl _) (by omega), zsm_congr n (k + 1) (fun i h1 h2 => h i (by omega) (by omega))]
def zt (pn : Nat → Nat) (p q : Nat) : Int32 := g_sounds (j_ap (pn p) (pn q))
theorem zt_comm (pn : Nat → Nat) (p q : Nat) : zt pn p q = zt pn q p := by
  unfold zt j_ap
  congr 1
  split <;> split <;> omega
theorem jswF_sum (pn : Nat → Nat) (set : Int32) (r : Nat) : ∀ (n k : Nat) (acc : Int32), jswF pn set r k n acc = acc + zsm (fun o => if jbit set o = 1 then zt pn r o else 0) k n
  | 0, _, acc => (Int32.add_zero acc).symm
  | n + 1, k, acc => by
    show jswF pn set r (k + 1) n (if jbit set k = 1 then acc + zt pn r k else acc) = acc + ((if jbit set k = 1 then zt pn r k else 0) + zsm _ (k + 1) n)
    rw [jswF_sum pn set r n (k + 1)]
    split
    · rw [Int32.add_assoc]
    · rw [Int32.zero_add]
theorem jsoF_sum (pn : Nat → Nat) (set : Int32) (R : Nat) : ∀ (n k : Nat) (acc : Int32), jsoF pn set R k n acc = acc + zsm (fun k => if jbit set k = 1 then jsw pn (set &&& (1 <<< (nI k &&& 31) - 1)) k R else 0) k n
  | 0, _, acc => (Int32.add_zero acc).symm
  | n + 1, k, acc => by
    show jsoF pn set R (k + 1) n (if jbit set k = 1 then acc + jsw pn (set &&& (1 <<< (nI k &&& 31) - 1)) k R else acc) = acc + ((if jbit set k = 1 then jsw pn (set &&& (1 <<< (nI k &&& 31) - 1)) k R else 0) + zsm _ (k + 1) n)
    rw [jsoF_sum pn set R n (k + 1)]
    split
    · rw [Int32.add_assoc]
    · rw [Int32.zero_add]
theorem ksoI_sum (pn : Nat → Nat) (set : Int32) (a : Nat) : ∀ (n b : Nat) (acc : Int32), ksoI pn set a b n acc = acc + zsm (fun b => if jbit set a = 1 ∧ jbit set b = 1 then zt pn a b else 0) b n
  | 0, _, acc => (Int32.add_zero acc).symm
  | n + 1, b, acc => by
    show ksoI pn set a (b + 1) n (if jbit set a = 1 ∧ jbit set b = 1 then acc + zt pn a b else acc) = acc + ((if jbit set a = 1 ∧ jbit set b = 1 then zt pn a b else 0) + zsm _ (b + 1) n)
    rw [ksoI_sum pn set a n (b + 1)]
    split
    · rw [Int32.add_assoc]
    · rw [Int32.zero_add]
/-- sums over pairs, the greater first and the lesser first -/
def zA (t : Nat → Nat → Int32) (R : Nat) : Nat → Nat → Int32
  | _, 0 => 0
  | a, n + 1 => zsm (t a) (a + 1) n + zA t R (a + 1) n
theorem ksoO_sum (pn : Nat → Nat) (set : Int32) (R : Nat) : ∀ (n a : Nat) (acc : Int32), ksoO pn set R a n acc = acc + zA (fun a b => if jbit set a = 1 ∧ jbit set b = 1 then zt pn a b else 0) R a n
  | 0, _, acc => (Int32.add_zero acc).symm
  | n + 1, a, acc => by
    show ksoO pn set R (a + 1) n (ksoI pn set a (a + 1) n acc) = acc + (zsm (fun b => if jbit set a = 1 ∧ jbit set b = 1 then zt pn a b else 0) (a + 1) n + zA _ R (a + 1) n)
    rw [ksoO_sum pn set R n (a + 1), ksoI_sum, Int32.add_assoc]
set_option maxRecDepth 20000 in
theorem z_mask : ∀ m, m < 64 → ∀ k, k < 6 → ∀ o, o < 6 → jbit (nI m &&& ((1 : Int32) <<< (nI k &&& 31) - 1)) o = if o < k then jbit (nI m) o else 0 := by decide +kernel
theorem zso (pn : Nat → Nat) {m R : Nat} (hm : m < 64) (hR : R ≤ 6) : jso pn (nI m) R = zsm (fun k => zsm (fun o => if o < k then (if jbit (nI m) o = 1 ∧ jbit (nI m) k = 1 then zt pn o k else 0) else 0) 0 R) 1 (R - 1) := by
  unfold jso
  rw [jsoF_sum, Int32.zero_add]
  apply zsm_congr
  intro k hk1 hk2
  by_cases hb : jbit (nI m) k = 1
  · rw [if_pos hb]
    unfold jsw
    rw [jswF_sum, Int32.zero_add]
    apply zsm_congr
    intro o ho1 ho2
    rw [z_mask m hm k (by omega) o (by omega)]
    by_cases h : o < k
    · rw [if_pos h, if_pos h]
      by_cases h2 : jbit (nI m) o = 1
      · rw [if_pos h2, if_pos ⟨h2, hb⟩, zt_comm]
      · rw [if_neg h2, if_neg (fun q => h2 q.1)]
    · rw [if_neg h, if_neg h, if_neg (by decide)]
  · rw [if_neg hb]
    have hz : ∀ (n k0 : Nat), zsm (fun o => if o < k then (if jbit (nI m) o = 1 ∧ jbit (nI m) k = 1 then zt pn o k else 0) else 0) k0 n = 0 := by
      intro n
      induction n with
      | zero => intro k0; rfl
      | succ n ih =>
        intro k0
        show (if k0 < k then (if jbit (nI m) k0 = 1 ∧ jbit (nI m) k = 1 then zt pn k0 k else 0) else 0) + zsm _ (k0 + 1) n = 0
        have h0 : (if k0 < k then (if jbit (nI m) k0 = 1 ∧ jbit (nI m) k = 1 then zt pn k0 k else 0) else 0) = (0 : Int32) := by
          split
          · exact if_neg (fun q => hb q.2)
          · rfl
        rw [h0, ih]
        exact Int32.zero_add 0
    rw [hz]
theorem zsum_eq (t : Nat → Nat → Int32) {R : Nat} (hR : R ≤ 6) : zsm (fun k => zsm (fun o => if o < k then t o k else 0) 0 R) 1 (R - 1) = zA t R 0 R := by
  rcases (show R = 0 ∨ R = 1 ∨ R = 2 ∨ R = 3 ∨ R = 4 ∨ R = 5 ∨ R = 6 by omega) with rfl | rfl | rfl | rfl | rfl | rfl | rfl
  all_goals simp [zsm, zA]
  all_goals ac_rfl
theorem kso_jso (pn : Nat → Nat) {m R : Nat} (hm : m < 64) (hR : R ≤ 6) : kso pn (nI m) R = jso pn (nI m) R := by
  rw [zso pn hm hR]
  unfold kso
  rw [ksoO_sum, Int32.zero_add]
  exact (zsum_eq (fun a b => if jbit (nI m) a = 1 ∧ jbit (nI m) b = 1 then zt pn a b else 0) hR).symm
