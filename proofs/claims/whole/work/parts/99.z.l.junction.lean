/-! ===== reading a junction: as functions (the same for both) ===== -/
def jnE (T : Nat → Int32) (N p : Nat) : Int32 := fE p (if tk T N p = 2 then 1 else 0)
theorem jnE_ne {T : Nat → Int32} {N p : Nat} (hp : p ≤ 400) : ¬ jnE T N p = 0 := by
  unfold jnE
  split
  · exact fE_ne (w := 1) hp (by decide)
  · exact fE_ne (w := 0) hp (by decide)
def jad (J : gJn) (a b c : Int32) : gJn := j_c (j_s (j_s (j_s J 0 (upd (J 0) (jR J) a)) 1 (upd (J 1) (jR J) b)) 2 (upd (J 2) (jR J) c)) 2 (nI (jR J + 1))
def jor (f : Nat → Int32) (x : Nat) (y : Int32) : Nat → Int32 := upd f x (f x ||| (1 : Int32) <<< (y &&& 31))
def jcs (J : gJn) (a b : Int32) : gJn := j_s J 3 (jor (jor (J 3) a.toNatClampNeg b) b.toNatClampNeg a)
def jsc (J : gJn) (b r : Int32) : gJn := j_s J 8 (jor (J 8) b.toNatClampNeg r)
def jcF (T : Nat → Int32) (N w p : Nat) (J : gJn) : Except Int32 (Nat × gJn) :=
  if w = 0 then (if tno T N p 1 12 then (if tno T N (nx T N p) 1 9 then .ok (nx T N (nx T N p), j_c (j_c J 0 (tv T N p)) 1 (tv T N (nx T N p))) else .error (jnE T N (nx T N p))) else .error (jnE T N p))
  else if w = 1 then (if tno T N p 0 30 then (if tno T N (nx T N p) 1 12 then (if tno T N (nx T N (nx T N p)) 0 11 then .ok (nx T N (nx T N (nx T N p)), jad J (tv T N p) (tv T N (nx T N p)) (tv T N (nx T N (nx T N p)))) else .error (jnE T N (nx T N (nx T N p)))) else .error (jnE T N (nx T N p))) else .error (jnE T N p))
  else if w = 2 then (if tno T N p 0 (J 9 2 - 1) then (if tno T N (nx T N p) 0 (J 9 2 - 1) ∧ ¬ tv T N (nx T N p) = tv T N p then .ok (nx T N (nx T N p), jcs J (tv T N p) (tv T N (nx T N p))) else .error (jnE T N (nx T N p))) else .error (jnE T N p))
  else (if tno T N p 0 (J 9 0 - 1) then (if tno T N (nx T N p) 0 (J 9 2 - 1) then .ok (nx T N (nx T N p), jsc J (tv T N p) (tv T N (nx T N p))) else .error (jnE T N (nx T N p))) else .error (jnE T N p))
theorem tno_lt {T : Nat → Int32} {N p : Nat} {lo hi : Int32} (h : tno T N p lo hi) : p < N := (tk_is2.mp h.1).1
theorem tno_nI {T : Nat → Int32} {N p h : Nat} (hh : h < 2 ^ 30) (hn : tno T N p 0 (nI h - 1)) : ∃ x, x < h ∧ tv T N p = nI x := by
  obtain ⟨x, hx, e⟩ := num5 hn.1 hn.2.1
  refine ⟨x, ?_, e⟩
  have h2 := hn.2.2.2
  rw [e] at h2
  cases h with
  | zero =>
    exfalso
    rw [show nI 0 - 1 = (-1 : Int32) by decide] at h2
    have h3 := Int32.le_iff_toInt_le.mp h2
    rw [nI_toInt (by omega)] at h3
    have : (-1 : Int32).toInt = -1 := by decide
    omega
  | succ h =>
    rw [sA_eq] at h2
    exact Nat.lt_succ_of_le ((nI_leI (by omega) (by omega)).mp h2)
def wjN (T : Nat → Int32) (N p : Nat) : Int32 := if qwd T N p 366619534830 = 0 then (if qwd T N p 605220 = 0 then (if qwd T N p 3540584 = 0 then (if qwd T N p 20037189 = 0 then -1 else 3) else 2) else 1) else 0
theorem wj_is (T : Nat → Int32) (N p : Nat) : wjN T N p = -1 ∨ ∃ w, w < 4 ∧ wjN T N p = nI w := by
  unfold wjN
  by_cases h0 : qwd T N p 366619534830 = 0
  rotate_left 1
  · rw [if_neg h0]; exact Or.inr ⟨0, by decide, rfl⟩
  rw [if_pos h0]
  by_cases h1 : qwd T N p 605220 = 0
  rotate_left 1
  · rw [if_neg h1]; exact Or.inr ⟨1, by decide, rfl⟩
  rw [if_pos h1]
  by_cases h2 : qwd T N p 3540584 = 0
  rotate_left 1
  · rw [if_neg h2]; exact Or.inr ⟨2, by decide, rfl⟩
  rw [if_pos h2]
  by_cases h3 : qwd T N p 20037189 = 0
  rotate_left 1
  · rw [if_neg h3]; exact Or.inr ⟨3, by decide, rfl⟩
  rw [if_pos h3]
  exact Or.inl rfl
theorem wj_te {T : Nat → Int32} {N p : Nat} (hp : p ≤ N) (h : ¬ wjN T N p = -1) : p < N ∧ te T N p = tru ltB T N p := by
  refine Classical.byContradiction (fun z => h ?_)
  have hz : ∀ w : Int64, qwd T N p w = 0 := fun w => Classical.byContradiction (fun y => z ⟨(wd_te hp y).1, (wd_te hp y).2.2⟩)
  unfold wjN
  rw [if_pos (hz _), if_pos (hz _), if_pos (hz _), if_pos (hz _)]
def jms (n w : Nat) (J : gJn) : Prop := 40 ≤ n ∨ (w = 1 ∧ ¬ J 9 2 < 6) ∨ ¬ (n = 0 ↔ w = 0)
def jlR (T : Nat → Int32) (N : Nat) : Nat → Nat → Nat → gJn → Except Int32 gJn → Prop
  | 0, _, _, _, _ => False
  | m + 1, p, n, J, r => (wjN T N p = -1 ∧ r = .error (fE p 0)) ∨ ∃ w, w < 4 ∧ wjN T N p = nI w ∧ ((jms n w J ∧ r = .error (fE p 4)) ∨ (¬ jms n w J ∧ ((∃ g, jcF T N w (nx T N p) J = .error g ∧ r = .error g) ∨ ∃ p1 J1, jcF T N w (nx T N p) J = .ok (p1, J1) ∧
    ((¬ p1 < N ∧ r = .ok J1) ∨ (p1 < N ∧ ¬ sgn T N p1 59 ∧ r = .error (fE p1 0)) ∨ (sgn T N p1 59 ∧ jlR T N m (nx T N p1) (n + 1) J1 r)))))
/-! ===== the class ===== -/
def cj (X : gX) (T : Nat → Int32) (N p : Nat) (J : gJn) : Prop := ctk (X 1) T N p 0 ∧ p ≤ N ∧ X 4 = J
def cje (X : gX) (T : Nat → Int32) (N : Nat) (g : Int32) : Prop := ¬ g = 0 ∧ ∃ p, p ≤ N ∧ ctk (X 1) T N p g
def xg (X X' : gX) : Prop := ∀ r, r ≠ 1 → r ≠ 4 → X' r = X r
theorem xg.refl (X : gX) : xg X X := fun _ _ _ => rfl
theorem xg.trans {X X' X'' : gX} (h : xg X X') (h' : xg X' X'') : xg X X'' := fun r a b => (h' r a b).trans (h r a b)
theorem xg.r1 (X : gX) (V : Nat → Nat → Int32) : xg X (x_r X 1 V) := fun r a _ => x_r_ne X V a
theorem xg.r4 (X : gX) (V : Nat → Nat → Int32) : xg X (x_r X 4 V) := fun r _ a => x_r_ne X V a
section CJ
variable {n : Nat} {X : gX} {O : gO} {Q : gU} {G : gK} {S : gS} {L : gLg} {T : Nat → Int32} {N p : Nat} {J : gJn} {g : Int32}
theorem c_X8_numQ (hM : 408 ≤ n) (hN : N ≤ 400) (hq : cj X T N p J) (lo hi : Int32) : SX 1 0 0 mX8_takeNumber [.ref 17, .int lo, .int hi] (xm n X O Q G S L) (fun v M' => ∃ X', M' = xm n X' O Q G S L ∧ xg X X' ∧ X' 4 = X 4 ∧ ((tno T N p lo hi ∧ v = some (.int (tv T N p)) ∧ cj X' T N (nx T N p) J) ∨ (¬ tno T N p lo hi ∧ v = some (.int 0) ∧ ctk (X' 1) T N p (jnE T N p) ∧ cje X' T N (jnE T N p)))) := by
  refine SX.weaken (c_X8_takeNumber hM hN hq.2.1 hq.1 lo hi) (fun v M' h => ?_)
  obtain ⟨rfl, V, rfl, hV⟩ := h
  have hp := hq.2.1
  refine ⟨_, rfl, xg.r1 _ _, rfl, ?_⟩
  by_cases h : tno T N p lo hi
  · rw [if_pos ⟨rfl, h⟩, if_pos ⟨rfl, h⟩] at hV
    exact Or.inl ⟨h, by rw [if_pos ⟨rfl, h⟩], hV, (nx_le hp).2, hq.2.2⟩
  · rw [if_neg (fun z => h z.2), if_neg (fun z => h z.2), if_pos rfl] at hV
    exact Or.inr ⟨h, by rw [if_neg (fun z => h z.2)], hV, jnE_ne (by omega), p, hp, hV⟩
theorem c_X8_numE (hM : 408 ≤ n) (hN : N ≤ 400) (hp : p ≤ N) (h0 : ¬ g = 0) (hc : ctk (X 1) T N p g) (lo hi : Int32) : SX 1 0 0 mX8_takeNumber [.ref 17, .int lo, .int hi] (xm n X O Q G S L) (fun v M' => v = some (.int 0) ∧ ∃ X', M' = xm n X' O Q G S L ∧ xg X X' ∧ ctk (X' 1) T N p g) := by
  refine SX.weaken (c_X8_takeNumber hM hN hp hc lo hi) (fun v M' h => ?_)
  obtain ⟨rfl, V, rfl, hV⟩ := h
  rw [if_neg (fun z => h0 z.1), if_neg (fun z => h0 z.1), if_neg h0] at hV
  exact ⟨by rw [if_neg (fun z => h0 z.1)], _, rfl, xg.r1 _ _, hV⟩
theorem x_addRoad (hM : 408 ≤ n) {R : Nat} (hX : X 4 = J) (hR : J 9 2 = nI R) (hR6 : R < 6) (w0 w1 w2 : Int32) : SX 0 0 0 mX2_addRoad [.ref 39, .int w0, .int w1, .int w2] (xm n X O Q G S L) (fun v M' => v = none ∧ M' = xm n (x_r X 4 (jad J w0 w1 w2)) O Q G S L) := by
  have e := xJ_4.eq (n := n) (O := O) (Q := Q) (G := G) (S := S) (L := L) hX
  have c := c_X2_addRoad (J := J) (R := R) w0 w1 w2 (xJ_4.b hM (X := X) (O := O) (Q := Q) (G := G) (S := S) (L := L)) hR hR6
  rw [← e] at c
  refine SX.weaken c (fun v M' q => ?_)
  obtain ⟨rfl, rfl⟩ := q
  refine ⟨rfl, ?_⟩
  rw [xJ_4.up]
  unfold jad jR
  rw [hR, nI_clamp (by omega)]
end CJ
