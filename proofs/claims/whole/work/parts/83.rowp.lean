/-! ===== the best row: rows in which somebody let in does not wait are of no matter ===== -/
theorem jpcF_ne (J : gJn) (x : Nat) (hx : x < 64) : ∀ (n k : Nat), k + n ≤ 6 → (¬ jpcF J (nI x) k n = 0 ↔ ∀ r, k ≤ r → r < k + n → x.testBit r = true → J 3 r &&& nI x = 0)
  | 0, k, _ => by
    constructor
    · intro _ r h1 h2
      omega
    · intro _ q
      exact absurd (show (1 : Int32) = 0 from q) (by decide)
  | n + 1, k, hk => by
    have ih := jpcF_ne J x hx n (k + 1) (by omega)
    have hb := tb_jbit x hx k (by omega)
    have e : jpcF J (nI x) k (n + 1) = if jbit (nI x) k = 1 ∧ ¬ J 3 k &&& nI x = 0 then 0 else jpcF J (nI x) (k + 1) n := rfl
    rw [e]
    by_cases c : jbit (nI x) k = 1 ∧ ¬ J 3 k &&& nI x = 0
    · rw [if_pos c]
      constructor
      · intro q
        exact absurd rfl q
      · intro q
        exact absurd (q k (Nat.le_refl _) (by omega) (hb.mp c.1)) c.2
    · rw [if_neg c, ih]
      constructor
      · intro q r h1 h2 h3
        by_cases hr : r = k
        · subst hr
          exact Classical.byContradiction (fun z => c ⟨hb.mpr h3, z⟩)
        · exact q r (by omega) (by omega) h3
      · intro q r h1 h2 h3
        exact q r (by omega) (by omega) h3
theorem tb_sub : ∀ x, x < 64 → ∀ r, r < 6 → x.testBit r = true → 2 ^ r ≤ x ∧ (∀ i, i < 6 → (x - 2 ^ r).testBit i = (x.testBit i && decide (i ≠ r))) ∧ nI (x - 2 ^ r) = nI x &&& nI (x - 2 ^ r) := by decide +kernel
theorem pc_sub {J : gJn} {R x r : Nat} (hR : R ≤ 6) (hx : x < 64) (hr : r < R) (hb : x.testBit r = true) (h : ¬ jpcF J (nI x) 0 R = 0) : ¬ jpcF J (nI (x - 2 ^ r)) 0 R = 0 := by
  obtain ⟨h1, h2, h3⟩ := tb_sub x hx r (by omega) hb
  rw [jpcF_ne J _ (Nat.lt_of_le_of_lt (Nat.sub_le _ _) hx) R 0 (by omega)]
  rw [jpcF_ne J _ hx R 0 (by omega)] at h
  intro i hi1 hi2 hi3
  rw [h2 i (by omega)] at hi3
  have := h i hi1 hi2 (Bool.and_eq_true_iff.mp hi3).1
  rw [h3, ← Int32.and_assoc, this]
  exact Int32.zero_and
theorem qfpF_ne (J : gJn) (R P n code : Nat) : ∀ m, (¬ qfpF J R P n code m = 0 ↔ ∀ k, k < m → ¬ jpcF J (nI (qdg P n code k)) 0 R = 0)
  | 0 => by
    constructor
    · intro _ k hk
      omega
    · intro _ q
      exact absurd (show (1 : Int32) = 0 from q) (by decide)
  | m + 1 => by
    have ih := qfpF_ne J R P n code m
    have e : qfpF J R P n code (m + 1) = if jpcF J (nI (qdg P n code m)) 0 R = 0 then 0 else qfpF J R P n code m := rfl
    rw [e]
    by_cases c : jpcF J (nI (qdg P n code m)) 0 R = 0
    · rw [if_pos c]
      constructor
      · intro q
        exact absurd rfl q
      · intro q
        exact absurd c (q m (by omega))
    · rw [if_neg c, ih]
      constructor
      · intro q k hk
        by_cases hm : k = m
        · rw [hm]; exact c
        · exact q k (by omega)
      · intro q k hk
        exact q k (by omega)
/-- an order: of two rows the less waited, then the more heard, then the first -/
def rno (s : g3) (W H : Int32) : Prop := 0 ≤ s.1 ∧ (s.2.1 < W ∨ (W = s.2.1 ∧ ¬ s.2.2 < H))
def rstep (pf : Nat → Prop) [∀ c, Decidable (pf c)] (W H : Nat → Int32) (c : Nat) (s : g3) : g3 := if pf c then (if 0 ≤ s.1 ∧ (s.2.1 < W c ∨ (W c = s.2.1 ∧ ¬ s.2.2 < H c)) then s else (nI c, W c, H c)) else s
theorem rstep_no {pf : Nat → Prop} [∀ c, Decidable (pf c)] {W H : Nat → Int32} {c : Nat} {s : g3} (h : pf c → rno s (W c) (H c)) : rstep pf W H c s = s := by
  unfold rstep
  by_cases p : pf c
  · rw [if_pos p, if_pos (show 0 ≤ s.1 ∧ (s.2.1 < W c ∨ (W c = s.2.1 ∧ ¬ s.2.2 < H c)) from h p)]
  · rw [if_neg p]
def rdom (pf : Nat → Prop) (W H : Nat → Int32) (s : g3) (c : Nat) : Prop := ∀ c', c' < c → pf c' → rno s (W c') (H c')
theorem rdom.step {pf : Nat → Prop} [∀ c, Decidable (pf c)] {W H : Nat → Int32} {s : g3} {c : Nat} (h : rdom pf W H s c) (hc : c < 2 ^ 31) : rdom pf W H (rstep pf W H c s) (c + 1) := by
  unfold rstep
  by_cases p : pf c
  · rw [if_pos p]
    by_cases q : 0 ≤ s.1 ∧ (s.2.1 < W c ∨ (W c = s.2.1 ∧ ¬ s.2.2 < H c))
    · rw [if_pos q]
      intro c' hc' p'
      by_cases e : c' = c
      · rw [e]; exact q
      · exact h c' (by omega) p'
    · rw [if_neg q]
      intro c' hc' p'
      refine ⟨nI_pos' hc, ?_⟩
      show W c < W c' ∨ (W c' = W c ∧ ¬ H c < H c')
      by_cases e : c' = c
      · rw [e]
        exact Or.inr ⟨rfl, Int32.lt_irrefl⟩
      · obtain ⟨s1, s2⟩ := h c' (by omega) p'
        have q2 : ¬ s.2.1 < W c := fun z => q ⟨s1, Or.inl z⟩
        have q3 : W c ≤ s.2.1 := Int32.not_lt.mp q2
        rcases s2 with s2 | ⟨s2, s3⟩
        · exact Or.inl (Int32.lt_of_le_of_lt q3 s2)
        · rw [s2]
          by_cases z : W c = s.2.1
          · right
            refine ⟨z.symm, fun y => ?_⟩
            have q4 : s.2.2 < H c := Classical.byContradiction (fun u => q ⟨s1, Or.inr ⟨z, u⟩⟩)
            exact s3 (Int32.lt_trans q4 y)
          · exact Or.inl (Int32.lt_of_le_of_ne q3 z)
  · rw [if_neg p]
    intro c' hc' p'
    by_cases e : c' = c
    · rw [e] at p'; exact absurd p' p
    · exact h c' (by omega) p'
/-- what a lesser one does as well may be left out -/
theorem qitN_good {pf gd : Nat → Prop} [∀ c, Decidable (pf c)] [∀ c, Decidable (gd c)] {W H : Nat → Int32} {B : Nat} (hB : B < 2 ^ 31) (hgp : ∀ c, gd c → pf c) (hx : ∀ c, c < B → pf c → ¬ gd c → ∃ c', c' < c ∧ pf c' ∧ W c' = W c ∧ H c' = H c) : ∀ (n c : Nat) (s : g3), c + n = B → rdom pf W H s c → qitN (rstep pf W H) c n s = qitN (rstep gd W H) c n s
  | 0, _, _, _, _ => rfl
  | n + 1, c, s, hc, hd => by
    show qitN (rstep pf W H) (c + 1) n (rstep pf W H c s) = qitN (rstep gd W H) (c + 1) n (rstep gd W H c s)
    have e : rstep pf W H c s = rstep gd W H c s := by
      by_cases g : gd c
      · unfold rstep
        rw [if_pos g, if_pos (hgp c g)]
      · rw [rstep_no (pf := gd) (fun q => absurd q g)]
        refine rstep_no (fun p => ?_)
        obtain ⟨c', h1, h2, h3, h4⟩ := hx c (by omega) p g
        have := hd c' h1 h2
        rw [h3, h4] at this
        exact this
    rw [← e]
    exact qitN_good hB hgp hx n (c + 1) _ (by omega) (hd.step (by omega))
theorem qitN_add (f : Nat → g3 → g3) : ∀ (n n' c : Nat) (s : g3), qitN f c (n + n') s = qitN f (c + n) n' (qitN f c n s)
  | 0, n', c, s => by rw [Nat.zero_add]; rfl
  | n + 1, n', c, s => by
    rw [Nat.succ_add]
    show qitN f (c + 1) (n + n') (f c s) = qitN f (c + (n + 1)) n' (qitN f (c + 1) n (f c s))
    rw [qitN_add f n n' (c + 1), show c + 1 + n = c + (n + 1) by omega]
theorem qitN_id {f : Nat → g3 → g3} {s : g3} : ∀ (n c : Nat), (∀ i, c ≤ i → i < c + n → f i s = s) → qitN f c n s = s
  | 0, _, _ => rfl
  | n + 1, c, h => by
    show qitN f (c + 1) n (f c s) = s
    rw [h c (Nat.le_refl _) (by omega)]
    exact qitN_id n (c + 1) (fun i h1 h2 => h i (by omega) (by omega))
def foN (f : Nat → g3 → g3) : Nat → Nat → g3 → g3
  | _, 0, s => s
  | x, n + 1, s => foN f (x + 1) n (f x s)
theorem qitN_blk (f : Nat → g3 → g3) (Q b P : Nat) : ∀ (n x : Nat) (s : g3), x + n = P → qitN f ((b * P + x) * Q) (n * Q) s = foN (fun x s => qitN f ((b * P + x) * Q) Q s) x n s
  | 0, x, s, _ => by rw [Nat.zero_mul]; rfl
  | n + 1, x, s, h => by
    rw [Nat.succ_mul, Nat.add_comm (n * Q) Q, qitN_add]
    show _ = foN (fun x s => qitN f ((b * P + x) * Q) Q s) (x + 1) n (qitN f ((b * P + x) * Q) Q s)
    rw [← qitN_blk f Q b P n (x + 1) _ (by omega), show (b * P + x) * Q + Q = (b * P + (x + 1)) * Q by rw [← Nat.add_assoc, Nat.succ_mul]]
theorem foN_ag {f g : Nat → g3 → g3} : ∀ (n x : Nat) (s : g3), (∀ i s, x ≤ i → i < x + n → f i s = g i s) → foN f x n s = foN g x n s
  | 0, _, _, _ => rfl
  | n + 1, x, s, h => by
    show foN f (x + 1) n (f x s) = foN g (x + 1) n (g x s)
    rw [h x s (Nat.le_refl _) (by omega)]
    exact foN_ag n (x + 1) _ (fun i s h1 h2 => h i s (by omega) (by omega))
/-- the search: k sets are picked, b says which; pruned where even the best to come is worse -/
def rch (P : Nat) (LB : Nat → Nat → Int32) (ok : Nat → Nat → Nat → Bool) (H : Nat → Int32) : Nat → Nat → Nat → g3 → g3
  | 0, k, b, s => if 0 ≤ s.1 ∧ s.2.1 < LB k b then s else if 0 ≤ s.1 ∧ ¬ LB k b < s.2.1 ∧ ¬ s.2.2 < H b then s else (nI b, LB k b, H b)
  | n + 1, k, b, s => if 0 ≤ s.1 ∧ s.2.1 < LB k b then s else foN (fun x s => if ok k b x = true then rch P LB ok H n (k + 1) (b * P + x) s else s) 0 P s
theorem blk_div {Q b i : Nat} (h0 : 0 < Q) (h1 : b * Q ≤ i) (h2 : i < b * Q + Q) : i / Q = b := by
  rw [Nat.div_eq_iff h0]
  constructor
  · exact h1
  · have : b * Q + Q - 1 + 1 = b * Q + Q := by omega
    omega
theorem rch_eq {P N : Nat} (hP : 0 < P) {LB : Nat → Nat → Int32} {ok : Nat → Nat → Nat → Bool} {W H : Nat → Int32} {gd : Nat → Prop} [∀ c, Decidable (gd c)] (gp : Nat → Nat → Prop) (hleaf : ∀ b, LB N b = W b) (hgl : ∀ b, gp N b → gd b) (hlb : ∀ n k b c, k + n = N → c / P ^ n = b → gd c → LB k b ≤ W c) (hok : ∀ k b x, k < N → x < P → gp k b → ok k b x = true → gp (k + 1) (b * P + x)) (hno : ∀ n k b c, k + n = N → c / P ^ n = b → gd c → gp k b) (hno2 : ∀ k b x, k < N → x < P → gp (k + 1) (b * P + x) → ok k b x = true) : ∀ (n k b : Nat) (s : g3), k + n = N → gp k b → rch P LB ok H n k b s = qitN (rstep gd W H) (b * P ^ n) (P ^ n) s
  | 0, k, b, s, hk, hg => by
    have hkN : k = N := by omega
    subst hkN
    rw [Nat.pow_zero, Nat.mul_one]
    show (if 0 ≤ s.1 ∧ s.2.1 < LB k b then s else if 0 ≤ s.1 ∧ ¬ LB k b < s.2.1 ∧ ¬ s.2.2 < H b then s else (nI b, LB k b, H b)) = rstep gd W H b s
    unfold rstep
    rw [if_pos (hgl b hg), hleaf b]
    by_cases c1 : 0 ≤ s.1 ∧ s.2.1 < W b
    · rw [if_pos c1, if_pos ⟨c1.1, Or.inl c1.2⟩]
    · rw [if_neg c1]
      by_cases c2 : 0 ≤ s.1 ∧ ¬ W b < s.2.1 ∧ ¬ s.2.2 < H b
      · rw [if_pos c2]
        have e : W b = s.2.1 := Int32.le_antisymm (Int32.not_lt.mp (fun z => c1 ⟨c2.1, z⟩)) (Int32.not_lt.mp c2.2.1)
        rw [if_pos ⟨c2.1, Or.inr ⟨e, c2.2.2⟩⟩]
      · rw [if_neg c2, if_neg]
        rintro ⟨q1, q2 | ⟨q2, q3⟩⟩
        · exact c1 ⟨q1, q2⟩
        · exact c2 ⟨q1, by rw [q2]; exact Int32.lt_irrefl, q3⟩
  | n + 1, k, b, s, hk, hg => by
    show (if 0 ≤ s.1 ∧ s.2.1 < LB k b then s else foN (fun x s => if ok k b x = true then rch P LB ok H n (k + 1) (b * P + x) s else s) 0 P s) = _
    have hQ : 0 < P ^ n := Nat.pow_pos hP
    by_cases c1 : 0 ≤ s.1 ∧ s.2.1 < LB k b
    · rw [if_pos c1]
      refine (qitN_id _ _ (fun i h1 h2 => rstep_no (fun g => ⟨c1.1, Or.inl ?_⟩))).symm
      exact Int32.lt_of_lt_of_le c1.2 (hlb (n + 1) k b i hk (blk_div (Nat.pow_pos hP) h1 h2) g)
    · rw [if_neg c1]
      have e1 := qitN_blk (rstep gd W H) (P ^ n) b P P 0 s (by omega)
      rw [Nat.add_zero] at e1
      rw [Nat.pow_succ, Nat.mul_comm (P ^ n) P, ← Nat.mul_assoc, e1]
      refine foN_ag P 0 s (fun x s' _ hx => ?_)
      by_cases c2 : ok k b x = true
      · rw [if_pos c2]
        exact rch_eq hP gp hleaf hgl hlb hok hno hno2 n (k + 1) (b * P + x) s' (by omega) (hok k b x (by omega) (by omega) hg c2)
      · rw [if_neg c2]
        refine (qitN_id _ _ (fun i h1 h2 => rstep_no (fun g => ?_))).symm
        exact absurd (hno2 k b x (by omega) (by omega) (hno n (k + 1) (b * P + x) i (by omega) (blk_div hQ h1 h2) g)) c2
