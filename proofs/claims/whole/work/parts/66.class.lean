/-! ===== the class's memory: X r: the rows of region r; O: the rules' references; Q i: rule i, its length and steps; G: the rules' stacks; S, L: the reference ===== -/
abbrev gX : Type := Nat → Nat → Nat → Int32
abbrev gO : Type := Nat → Option Nat
abbrev gU : Type := Nat → Nat × (Nat → Int32)
abbrev gK : Type := Nat → Nat → Int64
def x_r (X : gX) (r : Nat) (v : Nat → Nat → Int32) : gX := fun i => if i = r then v else X i
theorem x_r_eq (X : gX) (r : Nat) (v : Nat → Nat → Int32) : x_r X r v r = v := if_pos rfl
theorem x_r_ne (X : gX) {r i : Nat} (v : Nat → Nat → Int32) (h : i ≠ r) : x_r X r v i = X i := if_neg h
theorem x_rr (X : gX) (r : Nat) (v v' : Nat → Nat → Int32) : x_r (x_r X r v) r v' = x_r X r v' := by
  funext i
  unfold x_r
  split <;> rfl
theorem x_r_id (X : gX) (r : Nat) : x_r X r (X r) = X := by
  funext i
  unfold x_r
  split
  · next h => rw [h]
  · rfl
def j_f (T : Nat → Nat → Int32) (i : Nat) (v : Int32) : Nat → Nat → Int32 := fun k => if k = 0 then upd (T 0) i v else T k
def xc_o (T : Nat → Nat → Int32) (_ : Nat) : va_E := .inr (9, [.ref 17, .ref 19, .ref 29, .ref 39, .ref 49, .ref 50, .ref 52, .ref 53, .ref 255, .ref 259, .ref 260, .ref 279, .ref 280, .ref 281, .ref 282, .ref 283, .int (T 0 16), .int (T 0 17), .int (T 0 18)])
def xc_t (T : Nat → Nat → Int32) (k : Nat) : va_E := match k with
  | 0 => .inr (8, [.ref 18, .int (T 0 1), .int (T 0 2), .int (T 0 3), .int (T 0 4), .int (T 0 5), .int (T 0 6)])
  | _ => gB 400 (T 1)
def xc_rt (T : Nat → Nat → Int32) (k : Nat) : va_E := match k with
  | 0 => .inr (7, [.ref 17, .ref 51, .int (T 0 2), .int (T 0 3)])
  | _ => gI 400 (T 1)
def xc_h (T : Nat → Nat → Int32) (k : Nat) : va_E := match k with
  | 0 => .inr (0, [.ref 54, .int (T 0 1), .int (T 0 2)])
  | _ => gQ 5 20 (fun i => if i < 20 then some (55 + 10 * i) else none)
def xc_n (a : Nat) (T : Nat → Nat → Int32) (k : Nat) : va_E := match k with
  | 0 => .inr (4, [.ref (a + 1), .ref (a + 2), .ref (a + 3), .int (T 0 3)])
  | 1 => gI 10 (T 1)
  | 2 => gI 10 (T 2)
  | _ => gI 10 (T 3)
def xc_s (T : Nat → Nat → Int32) (k : Nat) : va_E := match k with
  | 0 => .inr (5, [.ref 261, .ref 268, .ref 275, .ref 276, .ref 277, .ref 278, .int (T 0 6), .int (T 0 7), .int (T 0 8), .int (T 0 9), .int (T 0 10), .int (T 0 11)])
  | 1 => gQ 7 6 (fun i => if i < 6 then some (262 + i) else none)
  | 8 => gQ 7 6 (fun i => if i < 6 then some (269 + i) else none)
  | 15 => gI 64 (T 15)
  | 16 => gI 64 (T 16)
  | 17 => gI 3 (T 17)
  | 18 => gI 3 (T 18)
  | k => gI 8 (T k)
def xc_a (T : Nat → Nat → Int32) (k : Nat) : va_E := match k with
  | 0 => gI 6 (T 0)
  | 1 => gI 25 (T 1)
  | 2 => gI 25 (T 2)
  | 3 => gI 366 (T 3)
  | _ => gI 42 (T 4)
def xc_i (a : Nat) (T : Nat → Nat → Int32) (_ : Nat) : va_E := .inr (1, [.ref (a + 1), .ref (a + 11), .ref (a + 21), .int (T 0 3), .int (T 0 4), .int (T 0 5)])
def xj (r : Nat) : Bool := decide (r = 2 ∨ r = 3 ∨ r = 4 ∨ (9 ≤ r ∧ r < 29) ∨ (33 ≤ r ∧ r < 49 ∧ ((r - 33) % 4 = 1 ∨ (r - 33) % 4 = 2)))
def xn (r : Nat) : Bool := decide (r = 29 ∨ (33 ≤ r ∧ r < 49 ∧ (r - 33) % 4 = 3))
def xi (r : Nat) : Bool := decide (33 ≤ r ∧ r < 49 ∧ (r - 33) % 4 = 0)
def xc (X : gX) (O : gO) (Q : gU) (G : gK) (S : gS) (L : gLg) (r : Nat) : Nat → va_E :=
  if r = 49 then kc S L
  else if 50 ≤ r then rc (zb r) (Q (r - 50)).1 (Q (r - 50)).2 (G (r - 50))
  else if xj r = true then jc (zb r) (X r)
  else if xn r = true then xc_n (zb r) (X r)
  else if xi r = true then xc_i (zb r) (X r)
  else if r = 0 then xc_o (X 0)
  else if r = 1 then xc_t (X 1)
  else if r = 5 then fun _ => .inr (3, [.ref 17, .ref 39])
  else if r = 6 then xc_rt (X 6)
  else if r = 7 then fun _ => gQ 4 6 O
  else if r = 8 then xc_h (X 8)
  else if r = 30 then fun _ => gQ 6 4 (fun i => if i < 4 then some (284 + 25 * i) else none)
  else if r = 31 then xc_s (X 31)
  else xc_a (X 32)
def xm (n : Nat) (X : gX) (O : gO) (Q : gU) (G : gK) (S : gS) (L : gLg) : gM := zL n (xc X O Q G S L)
theorem zL_ext {n : Nat} {Z Z' : Nat → Nat → va_E} (h : ∀ r k, k < zn r → Z r k = Z' r k) : zL n Z = zL n Z' := by
  unfold zL
  refine Prod.ext rfl (funext fun q => ?_)
  show (if q < 16 then _ else Z (zr q) (q - zb (zr q))) = (if q < 16 then _ else Z' (zr q) (q - zb (zr q)))
  by_cases hq : q < 16
  · rw [if_pos hq, if_pos hq]
  · rw [if_neg hq, if_neg hq]
    have := zr_in q (by omega)
    exact h _ _ (by omega)
section XC
variable {n : Nat} {X : gX} {O : gO} {Q : gU} {G : gK} {S : gS} {L : gLg}
theorem xc_k : xc X O Q G S L 49 = kc S L := if_pos rfl
theorem xc_ru {r : Nat} (h : 50 ≤ r) : xc X O Q G S L r = rc (zb r) (Q (r - 50)).1 (Q (r - 50)).2 (G (r - 50)) := by
  unfold xc
  rw [if_neg (by omega), if_pos h]
theorem xj_lt {r : Nat} (h : xj r = true) : r < 49 := by
  have := of_decide_eq_true h
  omega
theorem xn_lt {r : Nat} (h : xn r = true) : r < 49 ∧ xj r = false := by
  have := of_decide_eq_true h
  exact ⟨by omega, decide_eq_false (by omega)⟩
theorem xc_j {r : Nat} (h : xj r = true) : xc X O Q G S L r = jc (zb r) (X r) := by
  have := xj_lt h
  unfold xc
  rw [if_neg (by omega), if_neg (by omega), if_pos h]
theorem xc_nn {r : Nat} (h : xn r = true) : xc X O Q G S L r = xc_n (zb r) (X r) := by
  have := xn_lt h
  unfold xc
  rw [if_neg (by omega), if_neg (by omega), if_neg (by rw [this.2]; decide), if_pos h]
theorem xc_ii {r : Nat} (h : xi r = true) : xc X O Q G S L r = xc_i (zb r) (X r) := by
  have := of_decide_eq_true h
  have h1 : ¬ xj r = true := by rw [show xj r = false from decide_eq_false (by omega)]; decide
  have h2 : ¬ xn r = true := by rw [show xn r = false from decide_eq_false (by omega)]; decide
  unfold xc
  rw [if_neg (by omega), if_neg (by omega), if_neg h1, if_neg h2, if_pos h]
theorem xc_0 : xc X O Q G S L 0 = xc_o (X 0) := rfl
theorem xc_1 : xc X O Q G S L 1 = xc_t (X 1) := rfl
theorem xc_5 : xc X O Q G S L 5 = fun _ => .inr (3, [.ref 17, .ref 39]) := rfl
theorem xc_6 : xc X O Q G S L 6 = xc_rt (X 6) := rfl
theorem xc_7 : xc X O Q G S L 7 = fun _ => gQ 4 6 O := rfl
theorem xc_8 : xc X O Q G S L 8 = xc_h (X 8) := rfl
theorem xc_30 : xc X O Q G S L 30 = fun _ => gQ 6 4 (fun i => if i < 4 then some (284 + 25 * i) else none) := rfl
theorem xc_31 : xc X O Q G S L 31 = xc_s (X 31) := rfl
theorem xc_32 : xc X O Q G S L 32 = xc_a (X 32) := rfl
theorem xc_loc {X' : gX} {r : Nat} (h : X' r = X r) : xc X' O Q G S L r = xc X O Q G S L r := by
  unfold xc
  by_cases h1 : r = 49
  · rw [if_pos h1, if_pos h1]
  rw [if_neg h1, if_neg h1]
  by_cases h2 : 50 ≤ r
  · rw [if_pos h2, if_pos h2]
  rw [if_neg h2, if_neg h2, h]
  by_cases h3 : xj r = true
  · rw [if_pos h3, if_pos h3]
  rw [if_neg h3, if_neg h3]
  by_cases h4 : xn r = true
  · rw [if_pos h4, if_pos h4]
  rw [if_neg h4, if_neg h4]
  by_cases h5 : xi r = true
  · rw [if_pos h5, if_pos h5]
  rw [if_neg h5, if_neg h5]
  by_cases h6 : r = 0
  · subst h6; rw [if_pos rfl, if_pos rfl, h]
  rw [if_neg h6, if_neg h6]
  by_cases h7 : r = 1
  · subst h7; rw [if_pos rfl, if_pos rfl, h]
  rw [if_neg h7, if_neg h7]
  by_cases h8 : r = 5
  · rw [if_pos h8, if_pos h8]
  rw [if_neg h8, if_neg h8]
  by_cases h9 : r = 6
  · subst h9; rw [if_pos rfl, if_pos rfl, h]
  rw [if_neg h9, if_neg h9]
  by_cases h10 : r = 7
  · rw [if_pos h10, if_pos h10]
  rw [if_neg h10, if_neg h10]
  by_cases h11 : r = 8
  · subst h11; rw [if_pos rfl, if_pos rfl, h]
  rw [if_neg h11, if_neg h11]
  by_cases h12 : r = 30
  · rw [if_pos h12, if_pos h12]
  rw [if_neg h12, if_neg h12]
  by_cases h13 : r = 31
  · subst h13; rw [if_pos rfl, if_pos rfl, h]
  rw [if_neg h13, if_neg h13]
  by_cases h14 : r = 32
  · subst h14; rw [h]
  · exfalso
    have e3 : ¬ (r = 2 ∨ r = 3 ∨ r = 4 ∨ (9 ≤ r ∧ r < 29) ∨ (33 ≤ r ∧ r < 49 ∧ ((r - 33) % 4 = 1 ∨ (r - 33) % 4 = 2))) := fun q => h3 (decide_eq_true q)
    have e4 : ¬ (r = 29 ∨ (33 ≤ r ∧ r < 49 ∧ (r - 33) % 4 = 3)) := fun q => h4 (decide_eq_true q)
    have e5 : ¬ (33 ≤ r ∧ r < 49 ∧ (r - 33) % 4 = 0) := fun q => h5 (decide_eq_true q)
    omega
theorem xm_at (r k : Nat) {e : va_E} (hk : k < zn r) (hn : zb r + k < n) (he : xc X O Q G S L r k = e) : g_at (xm n X O Q G S L) (zb r + k) e := zL_at r k hk hn he
theorem xm_up (r k : Nat) (v : Nat → Nat → Int32) (e : va_E) (hk : k < zn r) (he : xc (x_r X r v) O Q G S L r k = e) (ho : ∀ j, j < zn r → j ≠ k → xc (x_r X r v) O Q G S L r j = xc X O Q G S L r j) : g_up (xm n X O Q G S L) (zb r + k) e = xm n (x_r X r v) O Q G S L := by
  unfold xm
  rw [zL_up r k e hk]
  refine zL_ext (fun i j hj => ?_)
  unfold zs
  by_cases hi : i = r
  · subst hi
    rw [if_pos rfl]
    by_cases hjk : j = k
    · subst hjk
      rw [if_pos rfl, he]
    · rw [if_neg hjk, ho j hj hjk]
  · rw [if_neg hi, xc_loc (x_r_ne X v hi)]
theorem zL_zp' (Z : Nat → Nat → va_E) (r : Nat) {a m : Nat} (ha : zb r = a) (hm : zn r = m) (c : Nat → va_E) : zp (zL n Z) a m c = zL n (zs Z r c) := by
  subst ha hm
  exact zL_zp n Z r c
theorem xj_n {r : Nat} (h : xj r = true) : zn r = 10 := by
  have hall : ∀ r, r < 49 → xj r = true → zn r = 10 := by decide +kernel
  exact hall r (xj_lt h) h
theorem jp_xm {r a : Nat} (h : xj r = true) (ha : zb r = a) (J : gJn) : jp (xm n X O Q G S L) a J = xm n (x_r X r J) O Q G S L := by
  rw [jp_zp]
  unfold xm
  rw [zL_zp' _ r ha (xj_n h)]
  refine zL_ext (fun i j hj => ?_)
  unfold zs
  by_cases hi : i = r
  · subst hi
    rw [if_pos rfl, xc_j h, x_r_eq, ha]
  · rw [if_neg hi, xc_loc (x_r_ne X J hi)]
theorem xm_jp {r a : Nat} (h : xj r = true) (ha : zb r = a) : xm n X O Q G S L = jp (xm n X O Q G S L) a (X r) := by
  rw [jp_xm h ha, x_r_id]
theorem kp_xm (S' : gS) (L' : gLg) : kp (xm n X O Q G S L) S' L' = xm n X O Q G S' L' := by
  unfold kp xm
  rw [zL_zp' _ 49 (by decide +kernel) (by decide +kernel)]
  refine zL_ext (fun i j hj => ?_)
  unfold zs
  by_cases hi : i = 49
  · subst hi
    rw [if_pos rfl]
    rfl
  · rw [if_neg hi]
    unfold xc
    rw [if_neg hi, if_neg hi]
def k_g (G : gK) (i : Nat) (g : Nat → Int64) : gK := fun j => if j = i then g else G j
theorem rp_xm (i : Nat) (g : Nat → Int64) : rp (xm n X O Q G S L) (408 + 3 * i) (Q i).1 (Q i).2 g = xm n X O Q (k_g G i g) S L := by
  rw [rp_zp]
  unfold xm
  have e1 : zb (50 + i) = 408 + 3 * i := by
    unfold zb
    rw [if_neg (by omega), if_neg (by omega), if_neg (by omega), if_neg (by omega), if_neg (by omega), if_neg (by omega), if_neg (by omega), if_neg (by omega), if_neg (by omega), if_neg (by omega), if_neg (by omega), if_neg (by omega), if_neg (by omega), if_neg (by omega)]
    omega
  have e2 : zn (50 + i) = 3 := by
    unfold zn
    rw [if_neg (by omega), if_neg (by omega), if_neg (by omega), if_neg (by omega), if_neg (by omega), if_neg (by omega), if_neg (by omega), if_neg (by omega), if_neg (by omega), if_neg (by omega), if_neg (by omega), if_neg (by omega), if_neg (by omega), if_neg (by omega)]
  rw [zL_zp' _ (50 + i) e1 e2]
  refine zL_ext (fun r j hj => ?_)
  unfold zs
  by_cases hi : r = 50 + i
  · subst hi
    rw [if_pos rfl, xc_ru (by omega), e1, Nat.add_sub_cancel_left]
    unfold k_g
    rw [if_pos rfl]
  · rw [if_neg hi]
    unfold xc
    by_cases h1 : r = 49
    · rw [if_pos h1, if_pos h1]
    rw [if_neg h1, if_neg h1]
    by_cases h2 : 50 ≤ r
    · rw [if_pos h2, if_pos h2]
      unfold k_g
      rw [if_neg (by omega)]
    · rw [if_neg h2, if_neg h2]
theorem k_g_id (G : gK) (i : Nat) : k_g G i (G i) = G := by
  funext j
  unfold k_g
  split
  · next h => rw [h]
  · rfl
theorem k_gg (G : gK) (i : Nat) (g g' : Nat → Int64) : k_g (k_g G i g) i g' = k_g G i g' := by
  funext j
  unfold k_g
  split <;> rfl
theorem xm_rp (i : Nat) : xm n X O Q G S L = rp (xm n X O Q G S L) (408 + 3 * i) (Q i).1 (Q i).2 (G i) := by
  rw [rp_xm, k_g_id]
theorem x_r_comm {r s : Nat} (h : r ≠ s) (v w : Nat → Nat → Int32) : x_r (x_r X r v) s w = x_r (x_r X s w) r v := by
  funext i
  unfold x_r
  by_cases h1 : i = s
  · rw [if_pos h1, if_neg (by omega), if_pos h1]
  · rw [if_neg h1]
    by_cases h2 : i = r
    · rw [if_pos h2, if_pos h2]
    · rw [if_neg h2, if_neg h2, if_neg h1]
theorem xa_0 (hM : 408 ≤ n) : g_at (xm n X O Q G S L) 16 (.inr (9, [.ref 17, .ref 19, .ref 29, .ref 39, .ref 49, .ref 50, .ref 52, .ref 53, .ref 255, .ref 259, .ref 260, .ref 279, .ref 280, .ref 281, .ref 282, .ref 283, .int (X 0 0 16), .int (X 0 0 17), .int (X 0 0 18)])) := xm_at (X := X) 0 0 (by decide +kernel) (Nat.lt_of_lt_of_le (by decide +kernel) hM) rfl
theorem xw_0_f16 {v : Int32} : g_up (xm n X O Q G S L) 16 (.inr (9, [.ref 17, .ref 19, .ref 29, .ref 39, .ref 49, .ref 50, .ref 52, .ref 53, .ref 255, .ref 259, .ref 260, .ref 279, .ref 280, .ref 281, .ref 282, .ref 283, .int v, .int (X 0 0 17), .int (X 0 0 18)])) = xm n (x_r X 0 (j_f (X 0) 16 v)) O Q G S L := xm_up (X := X) 0 0 _ _ (by decide +kernel) rfl (fun j hj hk => by
  have hj : j < 1 := hj
  rcases (show j = 0 by omega) with rfl <;> first | exact absurd rfl hk | rfl)
theorem xw_0_f17 {v : Int32} : g_up (xm n X O Q G S L) 16 (.inr (9, [.ref 17, .ref 19, .ref 29, .ref 39, .ref 49, .ref 50, .ref 52, .ref 53, .ref 255, .ref 259, .ref 260, .ref 279, .ref 280, .ref 281, .ref 282, .ref 283, .int (X 0 0 16), .int v, .int (X 0 0 18)])) = xm n (x_r X 0 (j_f (X 0) 17 v)) O Q G S L := xm_up (X := X) 0 0 _ _ (by decide +kernel) rfl (fun j hj hk => by
  have hj : j < 1 := hj
  rcases (show j = 0 by omega) with rfl <;> first | exact absurd rfl hk | rfl)
theorem xw_0_f18 {v : Int32} : g_up (xm n X O Q G S L) 16 (.inr (9, [.ref 17, .ref 19, .ref 29, .ref 39, .ref 49, .ref 50, .ref 52, .ref 53, .ref 255, .ref 259, .ref 260, .ref 279, .ref 280, .ref 281, .ref 282, .ref 283, .int (X 0 0 16), .int (X 0 0 17), .int v])) = xm n (x_r X 0 (j_f (X 0) 18 v)) O Q G S L := xm_up (X := X) 0 0 _ _ (by decide +kernel) rfl (fun j hj hk => by
  have hj : j < 1 := hj
  rcases (show j = 0 by omega) with rfl <;> first | exact absurd rfl hk | rfl)
theorem xa_1 (hM : 408 ≤ n) : g_at (xm n X O Q G S L) 17 (.inr (8, [.ref 18, .int (X 1 0 1), .int (X 1 0 2), .int (X 1 0 3), .int (X 1 0 4), .int (X 1 0 5), .int (X 1 0 6)])) := xm_at (X := X) 1 0 (by decide +kernel) (Nat.lt_of_lt_of_le (by decide +kernel) hM) rfl
theorem xw_1_f1 {v : Int32} : g_up (xm n X O Q G S L) 17 (.inr (8, [.ref 18, .int v, .int (X 1 0 2), .int (X 1 0 3), .int (X 1 0 4), .int (X 1 0 5), .int (X 1 0 6)])) = xm n (x_r X 1 (j_f (X 1) 1 v)) O Q G S L := xm_up (X := X) 1 0 _ _ (by decide +kernel) rfl (fun j hj hk => by
  have hj : j < 2 := hj
  rcases (show j = 0 ∨ j = 1 by omega) with rfl | rfl <;> first | exact absurd rfl hk | rfl)
theorem xw_1_f2 {v : Int32} : g_up (xm n X O Q G S L) 17 (.inr (8, [.ref 18, .int (X 1 0 1), .int v, .int (X 1 0 3), .int (X 1 0 4), .int (X 1 0 5), .int (X 1 0 6)])) = xm n (x_r X 1 (j_f (X 1) 2 v)) O Q G S L := xm_up (X := X) 1 0 _ _ (by decide +kernel) rfl (fun j hj hk => by
  have hj : j < 2 := hj
  rcases (show j = 0 ∨ j = 1 by omega) with rfl | rfl <;> first | exact absurd rfl hk | rfl)
theorem xw_1_f3 {v : Int32} : g_up (xm n X O Q G S L) 17 (.inr (8, [.ref 18, .int (X 1 0 1), .int (X 1 0 2), .int v, .int (X 1 0 4), .int (X 1 0 5), .int (X 1 0 6)])) = xm n (x_r X 1 (j_f (X 1) 3 v)) O Q G S L := xm_up (X := X) 1 0 _ _ (by decide +kernel) rfl (fun j hj hk => by
  have hj : j < 2 := hj
  rcases (show j = 0 ∨ j = 1 by omega) with rfl | rfl <;> first | exact absurd rfl hk | rfl)
theorem xw_1_f4 {v : Int32} : g_up (xm n X O Q G S L) 17 (.inr (8, [.ref 18, .int (X 1 0 1), .int (X 1 0 2), .int (X 1 0 3), .int v, .int (X 1 0 5), .int (X 1 0 6)])) = xm n (x_r X 1 (j_f (X 1) 4 v)) O Q G S L := xm_up (X := X) 1 0 _ _ (by decide +kernel) rfl (fun j hj hk => by
  have hj : j < 2 := hj
  rcases (show j = 0 ∨ j = 1 by omega) with rfl | rfl <;> first | exact absurd rfl hk | rfl)
theorem xw_1_f5 {v : Int32} : g_up (xm n X O Q G S L) 17 (.inr (8, [.ref 18, .int (X 1 0 1), .int (X 1 0 2), .int (X 1 0 3), .int (X 1 0 4), .int v, .int (X 1 0 6)])) = xm n (x_r X 1 (j_f (X 1) 5 v)) O Q G S L := xm_up (X := X) 1 0 _ _ (by decide +kernel) rfl (fun j hj hk => by
  have hj : j < 2 := hj
  rcases (show j = 0 ∨ j = 1 by omega) with rfl | rfl <;> first | exact absurd rfl hk | rfl)
theorem xw_1_f6 {v : Int32} : g_up (xm n X O Q G S L) 17 (.inr (8, [.ref 18, .int (X 1 0 1), .int (X 1 0 2), .int (X 1 0 3), .int (X 1 0 4), .int (X 1 0 5), .int v])) = xm n (x_r X 1 (j_f (X 1) 6 v)) O Q G S L := xm_up (X := X) 1 0 _ _ (by decide +kernel) rfl (fun j hj hk => by
  have hj : j < 2 := hj
  rcases (show j = 0 ∨ j = 1 by omega) with rfl | rfl <;> first | exact absurd rfl hk | rfl)
theorem xa_6 (hM : 408 ≤ n) : g_at (xm n X O Q G S L) 50 (.inr (7, [.ref 17, .ref 51, .int (X 6 0 2), .int (X 6 0 3)])) := xm_at (X := X) 6 0 (by decide +kernel) (Nat.lt_of_lt_of_le (by decide +kernel) hM) rfl
theorem xw_6_f2 {v : Int32} : g_up (xm n X O Q G S L) 50 (.inr (7, [.ref 17, .ref 51, .int v, .int (X 6 0 3)])) = xm n (x_r X 6 (j_f (X 6) 2 v)) O Q G S L := xm_up (X := X) 6 0 _ _ (by decide +kernel) rfl (fun j hj hk => by
  have hj : j < 2 := hj
  rcases (show j = 0 ∨ j = 1 by omega) with rfl | rfl <;> first | exact absurd rfl hk | rfl)
theorem xw_6_f3 {v : Int32} : g_up (xm n X O Q G S L) 50 (.inr (7, [.ref 17, .ref 51, .int (X 6 0 2), .int v])) = xm n (x_r X 6 (j_f (X 6) 3 v)) O Q G S L := xm_up (X := X) 6 0 _ _ (by decide +kernel) rfl (fun j hj hk => by
  have hj : j < 2 := hj
  rcases (show j = 0 ∨ j = 1 by omega) with rfl | rfl <;> first | exact absurd rfl hk | rfl)
theorem xa_8 (hM : 408 ≤ n) : g_at (xm n X O Q G S L) 53 (.inr (0, [.ref 54, .int (X 8 0 1), .int (X 8 0 2)])) := xm_at (X := X) 8 0 (by decide +kernel) (Nat.lt_of_lt_of_le (by decide +kernel) hM) rfl
theorem xw_8_f1 {v : Int32} : g_up (xm n X O Q G S L) 53 (.inr (0, [.ref 54, .int v, .int (X 8 0 2)])) = xm n (x_r X 8 (j_f (X 8) 1 v)) O Q G S L := xm_up (X := X) 8 0 _ _ (by decide +kernel) rfl (fun j hj hk => by
  have hj : j < 2 := hj
  rcases (show j = 0 ∨ j = 1 by omega) with rfl | rfl <;> first | exact absurd rfl hk | rfl)
theorem xw_8_f2 {v : Int32} : g_up (xm n X O Q G S L) 53 (.inr (0, [.ref 54, .int (X 8 0 1), .int v])) = xm n (x_r X 8 (j_f (X 8) 2 v)) O Q G S L := xm_up (X := X) 8 0 _ _ (by decide +kernel) rfl (fun j hj hk => by
  have hj : j < 2 := hj
  rcases (show j = 0 ∨ j = 1 by omega) with rfl | rfl <;> first | exact absurd rfl hk | rfl)
theorem xa_31 (hM : 408 ≤ n) : g_at (xm n X O Q G S L) 260 (.inr (5, [.ref 261, .ref 268, .ref 275, .ref 276, .ref 277, .ref 278, .int (X 31 0 6), .int (X 31 0 7), .int (X 31 0 8), .int (X 31 0 9), .int (X 31 0 10), .int (X 31 0 11)])) := xm_at (X := X) 31 0 (by decide +kernel) (Nat.lt_of_lt_of_le (by decide +kernel) hM) rfl
theorem xw_31_f6 {v : Int32} : g_up (xm n X O Q G S L) 260 (.inr (5, [.ref 261, .ref 268, .ref 275, .ref 276, .ref 277, .ref 278, .int v, .int (X 31 0 7), .int (X 31 0 8), .int (X 31 0 9), .int (X 31 0 10), .int (X 31 0 11)])) = xm n (x_r X 31 (j_f (X 31) 6 v)) O Q G S L := xm_up (X := X) 31 0 _ _ (by decide +kernel) rfl (fun j hj hk => by
  have hj : j < 19 := hj
  rcases (show j = 0 ∨ j = 1 ∨ j = 2 ∨ j = 3 ∨ j = 4 ∨ j = 5 ∨ j = 6 ∨ j = 7 ∨ j = 8 ∨ j = 9 ∨ j = 10 ∨ j = 11 ∨ j = 12 ∨ j = 13 ∨ j = 14 ∨ j = 15 ∨ j = 16 ∨ j = 17 ∨ j = 18 by omega) with rfl | rfl | rfl | rfl | rfl | rfl | rfl | rfl | rfl | rfl | rfl | rfl | rfl | rfl | rfl | rfl | rfl | rfl | rfl <;> first | exact absurd rfl hk | rfl)
theorem xw_31_f7 {v : Int32} : g_up (xm n X O Q G S L) 260 (.inr (5, [.ref 261, .ref 268, .ref 275, .ref 276, .ref 277, .ref 278, .int (X 31 0 6), .int v, .int (X 31 0 8), .int (X 31 0 9), .int (X 31 0 10), .int (X 31 0 11)])) = xm n (x_r X 31 (j_f (X 31) 7 v)) O Q G S L := xm_up (X := X) 31 0 _ _ (by decide +kernel) rfl (fun j hj hk => by
  have hj : j < 19 := hj
  rcases (show j = 0 ∨ j = 1 ∨ j = 2 ∨ j = 3 ∨ j = 4 ∨ j = 5 ∨ j = 6 ∨ j = 7 ∨ j = 8 ∨ j = 9 ∨ j = 10 ∨ j = 11 ∨ j = 12 ∨ j = 13 ∨ j = 14 ∨ j = 15 ∨ j = 16 ∨ j = 17 ∨ j = 18 by omega) with rfl | rfl | rfl | rfl | rfl | rfl | rfl | rfl | rfl | rfl | rfl | rfl | rfl | rfl | rfl | rfl | rfl | rfl | rfl <;> first | exact absurd rfl hk | rfl)
theorem xw_31_f8 {v : Int32} : g_up (xm n X O Q G S L) 260 (.inr (5, [.ref 261, .ref 268, .ref 275, .ref 276, .ref 277, .ref 278, .int (X 31 0 6), .int (X 31 0 7), .int v, .int (X 31 0 9), .int (X 31 0 10), .int (X 31 0 11)])) = xm n (x_r X 31 (j_f (X 31) 8 v)) O Q G S L := xm_up (X := X) 31 0 _ _ (by decide +kernel) rfl (fun j hj hk => by
  have hj : j < 19 := hj
  rcases (show j = 0 ∨ j = 1 ∨ j = 2 ∨ j = 3 ∨ j = 4 ∨ j = 5 ∨ j = 6 ∨ j = 7 ∨ j = 8 ∨ j = 9 ∨ j = 10 ∨ j = 11 ∨ j = 12 ∨ j = 13 ∨ j = 14 ∨ j = 15 ∨ j = 16 ∨ j = 17 ∨ j = 18 by omega) with rfl | rfl | rfl | rfl | rfl | rfl | rfl | rfl | rfl | rfl | rfl | rfl | rfl | rfl | rfl | rfl | rfl | rfl | rfl <;> first | exact absurd rfl hk | rfl)
theorem xw_31_f9 {v : Int32} : g_up (xm n X O Q G S L) 260 (.inr (5, [.ref 261, .ref 268, .ref 275, .ref 276, .ref 277, .ref 278, .int (X 31 0 6), .int (X 31 0 7), .int (X 31 0 8), .int v, .int (X 31 0 10), .int (X 31 0 11)])) = xm n (x_r X 31 (j_f (X 31) 9 v)) O Q G S L := xm_up (X := X) 31 0 _ _ (by decide +kernel) rfl (fun j hj hk => by
  have hj : j < 19 := hj
  rcases (show j = 0 ∨ j = 1 ∨ j = 2 ∨ j = 3 ∨ j = 4 ∨ j = 5 ∨ j = 6 ∨ j = 7 ∨ j = 8 ∨ j = 9 ∨ j = 10 ∨ j = 11 ∨ j = 12 ∨ j = 13 ∨ j = 14 ∨ j = 15 ∨ j = 16 ∨ j = 17 ∨ j = 18 by omega) with rfl | rfl | rfl | rfl | rfl | rfl | rfl | rfl | rfl | rfl | rfl | rfl | rfl | rfl | rfl | rfl | rfl | rfl | rfl <;> first | exact absurd rfl hk | rfl)
theorem xw_31_f10 {v : Int32} : g_up (xm n X O Q G S L) 260 (.inr (5, [.ref 261, .ref 268, .ref 275, .ref 276, .ref 277, .ref 278, .int (X 31 0 6), .int (X 31 0 7), .int (X 31 0 8), .int (X 31 0 9), .int v, .int (X 31 0 11)])) = xm n (x_r X 31 (j_f (X 31) 10 v)) O Q G S L := xm_up (X := X) 31 0 _ _ (by decide +kernel) rfl (fun j hj hk => by
  have hj : j < 19 := hj
  rcases (show j = 0 ∨ j = 1 ∨ j = 2 ∨ j = 3 ∨ j = 4 ∨ j = 5 ∨ j = 6 ∨ j = 7 ∨ j = 8 ∨ j = 9 ∨ j = 10 ∨ j = 11 ∨ j = 12 ∨ j = 13 ∨ j = 14 ∨ j = 15 ∨ j = 16 ∨ j = 17 ∨ j = 18 by omega) with rfl | rfl | rfl | rfl | rfl | rfl | rfl | rfl | rfl | rfl | rfl | rfl | rfl | rfl | rfl | rfl | rfl | rfl | rfl <;> first | exact absurd rfl hk | rfl)
theorem xw_31_f11 {v : Int32} : g_up (xm n X O Q G S L) 260 (.inr (5, [.ref 261, .ref 268, .ref 275, .ref 276, .ref 277, .ref 278, .int (X 31 0 6), .int (X 31 0 7), .int (X 31 0 8), .int (X 31 0 9), .int (X 31 0 10), .int v])) = xm n (x_r X 31 (j_f (X 31) 11 v)) O Q G S L := xm_up (X := X) 31 0 _ _ (by decide +kernel) rfl (fun j hj hk => by
  have hj : j < 19 := hj
  rcases (show j = 0 ∨ j = 1 ∨ j = 2 ∨ j = 3 ∨ j = 4 ∨ j = 5 ∨ j = 6 ∨ j = 7 ∨ j = 8 ∨ j = 9 ∨ j = 10 ∨ j = 11 ∨ j = 12 ∨ j = 13 ∨ j = 14 ∨ j = 15 ∨ j = 16 ∨ j = 17 ∨ j = 18 by omega) with rfl | rfl | rfl | rfl | rfl | rfl | rfl | rfl | rfl | rfl | rfl | rfl | rfl | rfl | rfl | rfl | rfl | rfl | rfl <;> first | exact absurd rfl hk | rfl)
theorem xa_5 (hM : 408 ≤ n) : g_at (xm n X O Q G S L) 49 (.inr (3, [.ref 17, .ref 39])) := xm_at (X := X) 5 0 (by decide +kernel) (Nat.lt_of_lt_of_le (by decide +kernel) hM) rfl
theorem xa_7 (hM : 408 ≤ n) : g_at (xm n X O Q G S L) 52 (gQ 4 6 O) := xm_at (X := X) 7 0 (by decide +kernel) (Nat.lt_of_lt_of_le (by decide +kernel) hM) rfl
theorem xa_30 (hM : 408 ≤ n) : g_at (xm n X O Q G S L) 259 (gQ 6 4 (fun i => if i < 4 then some (284 + 25 * i) else none)) := xm_at (X := X) 30 0 (by decide +kernel) (Nat.lt_of_lt_of_le (by decide +kernel) hM) rfl
theorem xa_8_1 (hM : 408 ≤ n) : g_at (xm n X O Q G S L) 54 (gQ 5 20 (fun i => if i < 20 then some (55 + 10 * i) else none)) := xm_at (X := X) 8 1 (by decide +kernel) (Nat.lt_of_lt_of_le (by decide +kernel) hM) rfl
theorem xa_31_1 (hM : 408 ≤ n) : g_at (xm n X O Q G S L) 261 (gQ 7 6 (fun i => if i < 6 then some (262 + i) else none)) := xm_at (X := X) 31 1 (by decide +kernel) (Nat.lt_of_lt_of_le (by decide +kernel) hM) rfl
theorem xa_31_8 (hM : 408 ≤ n) : g_at (xm n X O Q G S L) 268 (gQ 7 6 (fun i => if i < 6 then some (269 + i) else none)) := xm_at (X := X) 31 8 (by decide +kernel) (Nat.lt_of_lt_of_le (by decide +kernel) hM) rfl
theorem xa_1_1 (hM : 408 ≤ n) : g_at (xm n X O Q G S L) 18 (gB 400 (X 1 1)) := xm_at (X := X) 1 1 (by decide +kernel) (Nat.lt_of_lt_of_le (by decide +kernel) hM) rfl
theorem xw_1_1 {v : Nat → Int32} : g_up (xm n X O Q G S L) 18 (gB 400 v) = xm n (x_r X 1 (j_s (X 1) 1 v)) O Q G S L := xm_up (X := X) 1 1 _ _ (by decide +kernel) rfl (fun j hj hk => by
  have hj : j < 2 := hj
  rcases (show j = 0 ∨ j = 1 by omega) with rfl | rfl <;> first | exact absurd rfl hk | rfl)
theorem xa_6_1 (hM : 408 ≤ n) : g_at (xm n X O Q G S L) 51 (gI 400 (X 6 1)) := xm_at (X := X) 6 1 (by decide +kernel) (Nat.lt_of_lt_of_le (by decide +kernel) hM) rfl
theorem xw_6_1 {v : Nat → Int32} : g_up (xm n X O Q G S L) 51 (gI 400 v) = xm n (x_r X 6 (j_s (X 6) 1 v)) O Q G S L := xm_up (X := X) 6 1 _ _ (by decide +kernel) rfl (fun j hj hk => by
  have hj : j < 2 := hj
  rcases (show j = 0 ∨ j = 1 by omega) with rfl | rfl <;> first | exact absurd rfl hk | rfl)
theorem xa_32_0 (hM : 408 ≤ n) : g_at (xm n X O Q G S L) 279 (gI 6 (X 32 0)) := xm_at (X := X) 32 0 (by decide +kernel) (Nat.lt_of_lt_of_le (by decide +kernel) hM) rfl
theorem xw_32_0 {v : Nat → Int32} : g_up (xm n X O Q G S L) 279 (gI 6 v) = xm n (x_r X 32 (j_s (X 32) 0 v)) O Q G S L := xm_up (X := X) 32 0 _ _ (by decide +kernel) rfl (fun j hj hk => by
  have hj : j < 5 := hj
  rcases (show j = 0 ∨ j = 1 ∨ j = 2 ∨ j = 3 ∨ j = 4 by omega) with rfl | rfl | rfl | rfl | rfl <;> first | exact absurd rfl hk | rfl)
theorem xa_32_1 (hM : 408 ≤ n) : g_at (xm n X O Q G S L) 280 (gI 25 (X 32 1)) := xm_at (X := X) 32 1 (by decide +kernel) (Nat.lt_of_lt_of_le (by decide +kernel) hM) rfl
theorem xw_32_1 {v : Nat → Int32} : g_up (xm n X O Q G S L) 280 (gI 25 v) = xm n (x_r X 32 (j_s (X 32) 1 v)) O Q G S L := xm_up (X := X) 32 1 _ _ (by decide +kernel) rfl (fun j hj hk => by
  have hj : j < 5 := hj
  rcases (show j = 0 ∨ j = 1 ∨ j = 2 ∨ j = 3 ∨ j = 4 by omega) with rfl | rfl | rfl | rfl | rfl <;> first | exact absurd rfl hk | rfl)
theorem xa_32_2 (hM : 408 ≤ n) : g_at (xm n X O Q G S L) 281 (gI 25 (X 32 2)) := xm_at (X := X) 32 2 (by decide +kernel) (Nat.lt_of_lt_of_le (by decide +kernel) hM) rfl
theorem xw_32_2 {v : Nat → Int32} : g_up (xm n X O Q G S L) 281 (gI 25 v) = xm n (x_r X 32 (j_s (X 32) 2 v)) O Q G S L := xm_up (X := X) 32 2 _ _ (by decide +kernel) rfl (fun j hj hk => by
  have hj : j < 5 := hj
  rcases (show j = 0 ∨ j = 1 ∨ j = 2 ∨ j = 3 ∨ j = 4 by omega) with rfl | rfl | rfl | rfl | rfl <;> first | exact absurd rfl hk | rfl)
theorem xa_32_3 (hM : 408 ≤ n) : g_at (xm n X O Q G S L) 282 (gI 366 (X 32 3)) := xm_at (X := X) 32 3 (by decide +kernel) (Nat.lt_of_lt_of_le (by decide +kernel) hM) rfl
theorem xw_32_3 {v : Nat → Int32} : g_up (xm n X O Q G S L) 282 (gI 366 v) = xm n (x_r X 32 (j_s (X 32) 3 v)) O Q G S L := xm_up (X := X) 32 3 _ _ (by decide +kernel) rfl (fun j hj hk => by
  have hj : j < 5 := hj
  rcases (show j = 0 ∨ j = 1 ∨ j = 2 ∨ j = 3 ∨ j = 4 by omega) with rfl | rfl | rfl | rfl | rfl <;> first | exact absurd rfl hk | rfl)
theorem xa_32_4 (hM : 408 ≤ n) : g_at (xm n X O Q G S L) 283 (gI 42 (X 32 4)) := xm_at (X := X) 32 4 (by decide +kernel) (Nat.lt_of_lt_of_le (by decide +kernel) hM) rfl
theorem xw_32_4 {v : Nat → Int32} : g_up (xm n X O Q G S L) 283 (gI 42 v) = xm n (x_r X 32 (j_s (X 32) 4 v)) O Q G S L := xm_up (X := X) 32 4 _ _ (by decide +kernel) rfl (fun j hj hk => by
  have hj : j < 5 := hj
  rcases (show j = 0 ∨ j = 1 ∨ j = 2 ∨ j = 3 ∨ j = 4 by omega) with rfl | rfl | rfl | rfl | rfl <;> first | exact absurd rfl hk | rfl)
theorem xa_31_15 (hM : 408 ≤ n) : g_at (xm n X O Q G S L) 275 (gI 64 (X 31 15)) := xm_at (X := X) 31 15 (by decide +kernel) (Nat.lt_of_lt_of_le (by decide +kernel) hM) rfl
theorem xw_31_15 {v : Nat → Int32} : g_up (xm n X O Q G S L) 275 (gI 64 v) = xm n (x_r X 31 (j_s (X 31) 15 v)) O Q G S L := xm_up (X := X) 31 15 _ _ (by decide +kernel) rfl (fun j hj hk => by
  have hj : j < 19 := hj
  rcases (show j = 0 ∨ j = 1 ∨ j = 2 ∨ j = 3 ∨ j = 4 ∨ j = 5 ∨ j = 6 ∨ j = 7 ∨ j = 8 ∨ j = 9 ∨ j = 10 ∨ j = 11 ∨ j = 12 ∨ j = 13 ∨ j = 14 ∨ j = 15 ∨ j = 16 ∨ j = 17 ∨ j = 18 by omega) with rfl | rfl | rfl | rfl | rfl | rfl | rfl | rfl | rfl | rfl | rfl | rfl | rfl | rfl | rfl | rfl | rfl | rfl | rfl <;> first | exact absurd rfl hk | rfl)
theorem xa_31_16 (hM : 408 ≤ n) : g_at (xm n X O Q G S L) 276 (gI 64 (X 31 16)) := xm_at (X := X) 31 16 (by decide +kernel) (Nat.lt_of_lt_of_le (by decide +kernel) hM) rfl
theorem xw_31_16 {v : Nat → Int32} : g_up (xm n X O Q G S L) 276 (gI 64 v) = xm n (x_r X 31 (j_s (X 31) 16 v)) O Q G S L := xm_up (X := X) 31 16 _ _ (by decide +kernel) rfl (fun j hj hk => by
  have hj : j < 19 := hj
  rcases (show j = 0 ∨ j = 1 ∨ j = 2 ∨ j = 3 ∨ j = 4 ∨ j = 5 ∨ j = 6 ∨ j = 7 ∨ j = 8 ∨ j = 9 ∨ j = 10 ∨ j = 11 ∨ j = 12 ∨ j = 13 ∨ j = 14 ∨ j = 15 ∨ j = 16 ∨ j = 17 ∨ j = 18 by omega) with rfl | rfl | rfl | rfl | rfl | rfl | rfl | rfl | rfl | rfl | rfl | rfl | rfl | rfl | rfl | rfl | rfl | rfl | rfl <;> first | exact absurd rfl hk | rfl)
theorem xa_31_17 (hM : 408 ≤ n) : g_at (xm n X O Q G S L) 277 (gI 3 (X 31 17)) := xm_at (X := X) 31 17 (by decide +kernel) (Nat.lt_of_lt_of_le (by decide +kernel) hM) rfl
theorem xw_31_17 {v : Nat → Int32} : g_up (xm n X O Q G S L) 277 (gI 3 v) = xm n (x_r X 31 (j_s (X 31) 17 v)) O Q G S L := xm_up (X := X) 31 17 _ _ (by decide +kernel) rfl (fun j hj hk => by
  have hj : j < 19 := hj
  rcases (show j = 0 ∨ j = 1 ∨ j = 2 ∨ j = 3 ∨ j = 4 ∨ j = 5 ∨ j = 6 ∨ j = 7 ∨ j = 8 ∨ j = 9 ∨ j = 10 ∨ j = 11 ∨ j = 12 ∨ j = 13 ∨ j = 14 ∨ j = 15 ∨ j = 16 ∨ j = 17 ∨ j = 18 by omega) with rfl | rfl | rfl | rfl | rfl | rfl | rfl | rfl | rfl | rfl | rfl | rfl | rfl | rfl | rfl | rfl | rfl | rfl | rfl <;> first | exact absurd rfl hk | rfl)
theorem xa_31_18 (hM : 408 ≤ n) : g_at (xm n X O Q G S L) 278 (gI 3 (X 31 18)) := xm_at (X := X) 31 18 (by decide +kernel) (Nat.lt_of_lt_of_le (by decide +kernel) hM) rfl
theorem xw_31_18 {v : Nat → Int32} : g_up (xm n X O Q G S L) 278 (gI 3 v) = xm n (x_r X 31 (j_s (X 31) 18 v)) O Q G S L := xm_up (X := X) 31 18 _ _ (by decide +kernel) rfl (fun j hj hk => by
  have hj : j < 19 := hj
  rcases (show j = 0 ∨ j = 1 ∨ j = 2 ∨ j = 3 ∨ j = 4 ∨ j = 5 ∨ j = 6 ∨ j = 7 ∨ j = 8 ∨ j = 9 ∨ j = 10 ∨ j = 11 ∨ j = 12 ∨ j = 13 ∨ j = 14 ∨ j = 15 ∨ j = 16 ∨ j = 17 ∨ j = 18 by omega) with rfl | rfl | rfl | rfl | rfl | rfl | rfl | rfl | rfl | rfl | rfl | rfl | rfl | rfl | rfl | rfl | rfl | rfl | rfl <;> first | exact absurd rfl hk | rfl)
theorem xs_at {k : Nat} (hM : 408 ≤ n) (h : (2 ≤ k ∧ k < 8) ∨ (9 ≤ k ∧ k < 15)) : g_at (xm n X O Q G S L) (260 + k) (gI 8 (X 31 k)) := by
  rcases (show k = 2 ∨ k = 3 ∨ k = 4 ∨ k = 5 ∨ k = 6 ∨ k = 7 ∨ k = 9 ∨ k = 10 ∨ k = 11 ∨ k = 12 ∨ k = 13 ∨ k = 14 by omega) with rfl | rfl | rfl | rfl | rfl | rfl | rfl | rfl | rfl | rfl | rfl | rfl <;> exact xm_at (X := X) 31 _ (by decide +kernel) (Nat.lt_of_lt_of_le (by decide +kernel) hM) rfl
set_option maxHeartbeats 4000000 in
theorem xs_up {k : Nat} {v : Nat → Int32} (h : (2 ≤ k ∧ k < 8) ∨ (9 ≤ k ∧ k < 15)) : g_up (xm n X O Q G S L) (260 + k) (gI 8 v) = xm n (x_r X 31 (j_s (X 31) k v)) O Q G S L := by
  rcases (show k = 2 ∨ k = 3 ∨ k = 4 ∨ k = 5 ∨ k = 6 ∨ k = 7 ∨ k = 9 ∨ k = 10 ∨ k = 11 ∨ k = 12 ∨ k = 13 ∨ k = 14 by omega) with rfl | rfl | rfl | rfl | rfl | rfl | rfl | rfl | rfl | rfl | rfl | rfl <;> exact xm_up (X := X) 31 _ _ _ (by decide +kernel) rfl (fun j hj hk => by
    have hj : j < 19 := hj
    rcases (show j = 0 ∨ j = 1 ∨ j = 2 ∨ j = 3 ∨ j = 4 ∨ j = 5 ∨ j = 6 ∨ j = 7 ∨ j = 8 ∨ j = 9 ∨ j = 10 ∨ j = 11 ∨ j = 12 ∨ j = 13 ∨ j = 14 ∨ j = 15 ∨ j = 16 ∨ j = 17 ∨ j = 18 by omega) with rfl | rfl | rfl | rfl | rfl | rfl | rfl | rfl | rfl | rfl | rfl | rfl | rfl | rfl | rfl | rfl | rfl | rfl | rfl <;> first | exact absurd rfl hk | rfl)
/-- a Notes, and an Image, at their regions -/
def xN (n r a : Nat) : Prop := xn r = true ∧ zb r = a ∧ a + 4 ≤ n
theorem xn_n {r : Nat} (h : xn r = true) : zn r = 4 := by
  have hall : ∀ r, r < 49 → xn r = true → zn r = 4 := by decide +kernel
  exact hall r (xn_lt h).1 h
theorem xN_at {r a : Nat} (h : xN n r a) (k : Nat) (hk : k < 4) : g_at (xm n X O Q G S L) (a + k) (xc_n a (X r) k) := by
  obtain ⟨h1, h2, h3⟩ := h
  subst h2
  exact xm_at r k (by rw [xn_n h1]; exact hk) (by omega) (by rw [xc_nn h1])
theorem xN_up {r a : Nat} (h : xN n r a) (k : Nat) (hk : k < 4) (v : Nat → Nat → Int32) (e : va_E) (he : xc_n a v k = e) (ho : ∀ j, j < 4 → j ≠ k → xc_n a v j = xc_n a (X r) j) : g_up (xm n X O Q G S L) (a + k) e = xm n (x_r X r v) O Q G S L := by
  obtain ⟨h1, h2, h3⟩ := h
  subst h2
  refine xm_up r k v e (by rw [xn_n h1]; exact hk) (by rw [xc_nn h1, x_r_eq]; exact he) (fun j hj hjk => ?_)
  rw [xc_nn h1, x_r_eq, xc_nn h1]
  exact ho j (by rw [xn_n h1] at hj; exact hj) hjk
theorem xa_n0 {r a : Nat} (h : xN n r a) : g_at (xm n X O Q G S L) a (.inr (4, [.ref (a + 1), .ref (a + 2), .ref (a + 3), .int (X r 0 3)])) := xN_at h 0 (by decide)
theorem xw_n0 {r a : Nat} (h : xN n r a) {v : Int32} : g_up (xm n X O Q G S L) a (.inr (4, [.ref (a + 1), .ref (a + 2), .ref (a + 3), .int v])) = xm n (x_r X r (j_f (X r) 3 v)) O Q G S L := xN_up h 0 (by decide) _ _ rfl (fun j hj hk => by
  rcases (show j = 0 ∨ j = 1 ∨ j = 2 ∨ j = 3 by omega) with rfl | rfl | rfl | rfl <;> first | exact absurd rfl hk | rfl)
theorem xa_n1 {r a : Nat} (h : xN n r a) : g_at (xm n X O Q G S L) (a + 1) (gI 10 (X r 1)) := xN_at h 1 (by decide)
theorem xw_n1 {r a : Nat} (h : xN n r a) {v : Nat → Int32} : g_up (xm n X O Q G S L) (a + 1) (gI 10 v) = xm n (x_r X r (j_s (X r) 1 v)) O Q G S L := xN_up h 1 (by decide) _ _ rfl (fun j hj hk => by
  rcases (show j = 0 ∨ j = 1 ∨ j = 2 ∨ j = 3 by omega) with rfl | rfl | rfl | rfl <;> first | exact absurd rfl hk | rfl)
theorem xa_n2 {r a : Nat} (h : xN n r a) : g_at (xm n X O Q G S L) (a + 2) (gI 10 (X r 2)) := xN_at h 2 (by decide)
theorem xw_n2 {r a : Nat} (h : xN n r a) {v : Nat → Int32} : g_up (xm n X O Q G S L) (a + 2) (gI 10 v) = xm n (x_r X r (j_s (X r) 2 v)) O Q G S L := xN_up h 2 (by decide) _ _ rfl (fun j hj hk => by
  rcases (show j = 0 ∨ j = 1 ∨ j = 2 ∨ j = 3 by omega) with rfl | rfl | rfl | rfl <;> first | exact absurd rfl hk | rfl)
theorem xa_n3 {r a : Nat} (h : xN n r a) : g_at (xm n X O Q G S L) (a + 3) (gI 10 (X r 3)) := xN_at h 3 (by decide)
theorem xw_n3 {r a : Nat} (h : xN n r a) {v : Nat → Int32} : g_up (xm n X O Q G S L) (a + 3) (gI 10 v) = xm n (x_r X r (j_s (X r) 3 v)) O Q G S L := xN_up h 3 (by decide) _ _ rfl (fun j hj hk => by
  rcases (show j = 0 ∨ j = 1 ∨ j = 2 ∨ j = 3 by omega) with rfl | rfl | rfl | rfl <;> first | exact absurd rfl hk | rfl)
theorem xI_e {k : Nat} (hk : k < 4) : zb (33 + 4 * k) = 284 + 25 * k ∧ zn (33 + 4 * k) = 1 ∧ xi (33 + 4 * k) = true := by
  have hall : ∀ k, k < 4 → zb (33 + 4 * k) = 284 + 25 * k ∧ zn (33 + 4 * k) = 1 ∧ xi (33 + 4 * k) = true := by decide +kernel
  exact hall k hk
theorem xI_at {k : Nat} (hk : k < 4) (hM : 408 ≤ n) : g_at (xm n X O Q G S L) (284 + 25 * k) (xc_i (284 + 25 * k) (X (33 + 4 * k)) 0) := by
  obtain ⟨e1, e2, e3⟩ := xI_e hk
  have h := xm_at (n := n) (X := X) (O := O) (Q := Q) (G := G) (S := S) (L := L) (33 + 4 * k) 0 (e := xc_i (284 + 25 * k) (X (33 + 4 * k)) 0) (by rw [e2]; decide) (by omega) (by rw [xc_ii e3, e1])
  rw [e1] at h
  exact h
theorem xI_up {k : Nat} (hk : k < 4) (v : Nat → Nat → Int32) (e : va_E) (he : xc_i (284 + 25 * k) v 0 = e) : g_up (xm n X O Q G S L) (284 + 25 * k) e = xm n (x_r X (33 + 4 * k) v) O Q G S L := by
  obtain ⟨e1, e2, e3⟩ := xI_e hk
  have h := xm_up (n := n) (X := X) (O := O) (Q := Q) (G := G) (S := S) (L := L) (33 + 4 * k) 0 v e (by rw [e2]; decide) (by rw [xc_ii e3, e1, x_r_eq]; exact he) (fun j hj hjk => by
    rw [e2] at hj
    exact absurd (show j = 0 by omega) hjk)
  rw [e1] at h
  exact h
theorem xw_i3 {k : Nat} (hk : k < 4) {v : Int32} : g_up (xm n X O Q G S L) (284 + 25 * k) (.inr (1, [.ref (284 + 25 * k + 1), .ref (284 + 25 * k + 11), .ref (284 + 25 * k + 21), .int v, .int (X (33 + 4 * k) 0 4), .int (X (33 + 4 * k) 0 5)])) = xm n (x_r X (33 + 4 * k) (j_f (X (33 + 4 * k)) 3 v)) O Q G S L := xI_up hk _ _ rfl
theorem xw_i4 {k : Nat} (hk : k < 4) {v : Int32} : g_up (xm n X O Q G S L) (284 + 25 * k) (.inr (1, [.ref (284 + 25 * k + 1), .ref (284 + 25 * k + 11), .ref (284 + 25 * k + 21), .int (X (33 + 4 * k) 0 3), .int v, .int (X (33 + 4 * k) 0 5)])) = xm n (x_r X (33 + 4 * k) (j_f (X (33 + 4 * k)) 4 v)) O Q G S L := xI_up hk _ _ rfl
theorem xw_i5 {k : Nat} (hk : k < 4) {v : Int32} : g_up (xm n X O Q G S L) (284 + 25 * k) (.inr (1, [.ref (284 + 25 * k + 1), .ref (284 + 25 * k + 11), .ref (284 + 25 * k + 21), .int (X (33 + 4 * k) 0 3), .int (X (33 + 4 * k) 0 4), .int v])) = xm n (x_r X (33 + 4 * k) (j_f (X (33 + 4 * k)) 5 v)) O Q G S L := xI_up hk _ _ rfl
end XC
