/-! ===== rows that differ behind their end are one ===== -/
def g_ceq (e e' : va_E) : Prop := e = e' ∨ ∃ (t n : Nat) (f f' : Nat → Int32), e = .inl (t, n, .inl f) ∧ e' = .inl (t, n, .inl f') ∧ ∀ j, j < n → f j = f' j
def g_eqv (M M' : gM) : Prop := M.1 = M'.1 ∧ ∀ k, g_ceq (M.2 k) (M'.2 k)
theorem g_arr_ext (c : ClassId) (n : Nat) {f f' : Nat → Value} (h : ∀ j, j < n → f j = f' j) : arrV c n f = arrV c n f' := by
  unfold arrV
  congr 1
  apply Array.ext_getElem?
  intro i
  by_cases hi : i < n
  · simp [hi, h i hi]
  · simp [hi]
theorem g_ceq.at {g : gG} {e e' : va_E} {q : Nat} {H : Heap} (h : g_ceq e e') (hP : va_at g.1 vwCl (q, g_e g e) H) : va_at g.1 vwCl (q, g_e g e') H := by
  rcases h with h | ⟨t, n, f, f', h1, h2, h3⟩
  · rw [← h]; exact hP
  · subst h1
    subst h2
    have h4 : H[q]? = some (arrV (g.2.1 t) n (fun j => .int (f j))) := hP
    show H[q]? = some (arrV (g.2.1 t) n (fun j => .int (f' j)))
    rw [h4, g_arr_ext (g.2.1 t) n (f := fun j => Value.int (f j)) (f' := fun j => Value.int (f' j)) (fun j hj => by rw [h3 j hj])]
theorem g_R.eqv {g : gG} {M M' : gM} {H : Heap} (h : g_R g M H) (he : g_eqv M M') : g_R g M' H := by
  obtain ⟨h1, h2, h3⟩ := h
  refine ⟨by rw [← he.1]; exact h1, by rw [← he.1]; exact h2, fun k q hk => ?_⟩
  have hl : k < M'.1 - 16 := by
    have := (List.getElem?_eq_some_iff.mp hk).1
    rw [g_ws_len] at this
    exact this
  rw [g_ws_get g M' hl] at hk
  cases hk
  have h5 := h3 k _ (g_ws_get g M (by rw [he.1]; exact hl))
  exact (he.2 (k + 16)).at h5
theorem rx_eqv {E : gE} {nL a b pc : Nat} {ls : List (Option Value)} {st : List Value} {M M' : gM} (he : g_eqv M M') (kk : RX E nL a b pc ls st M') : RX E nL a b pc ls st M := by
  obtain ⟨p, l, e, R, s, m, args, below, meth, c, Q, g⟩ := E
  intro H locs arr cells slots hR hS hL hc hs
  exact kk H locs arr cells slots (hR.eqv he) hS hL hc hs
theorem g_ceq.rf (e : va_E) : g_ceq e e := Or.inl rfl
theorem g_eqv.rf (M : gM) : g_eqv M M := ⟨rfl, fun _ => Or.inl rfl⟩
theorem jp_eqv (M : gM) (a : Nat) {J K : gJn} (h : ∀ f i, (f < 8 ∧ i < 6) ∨ (f = 8 ∧ i < 12) ∨ (f = 9 ∧ i < 6) → J f i = K f i) : g_eqv (jp M a J) (jp M a K) := by
  refine ⟨rfl, fun q => ?_⟩
  show g_ceq (if a ≤ q ∧ q < a + 10 then jc a J (q - a) else M.2 q) (if a ≤ q ∧ q < a + 10 then jc a K (q - a) else M.2 q)
  by_cases hq : a ≤ q ∧ q < a + 10
  · rw [if_pos hq, if_pos hq]
    have hc : ∀ k, k < 10 → g_ceq (jc a J k) (jc a K k) := by
      intro k hk
      rcases (show k = 0 ∨ k = 1 ∨ k = 2 ∨ k = 3 ∨ k = 4 ∨ k = 5 ∨ k = 6 ∨ k = 7 ∨ k = 8 ∨ k = 9 by omega) with rfl | rfl | rfl | rfl | rfl | rfl | rfl | rfl | rfl | rfl
      · left
        simp only [jc]
        rw [h 9 0 (by omega), h 9 1 (by omega), h 9 2 (by omega), h 9 3 (by omega), h 9 4 (by omega), h 9 5 (by omega)]
      · exact Or.inr ⟨0, 6, J 0, K 0, rfl, rfl, fun j hj => h 0 j (by omega)⟩
      · exact Or.inr ⟨0, 6, J 1, K 1, rfl, rfl, fun j hj => h 1 j (by omega)⟩
      · exact Or.inr ⟨0, 6, J 2, K 2, rfl, rfl, fun j hj => h 2 j (by omega)⟩
      · exact Or.inr ⟨0, 6, J 3, K 3, rfl, rfl, fun j hj => h 3 j (by omega)⟩
      · exact Or.inr ⟨0, 6, J 4, K 4, rfl, rfl, fun j hj => h 4 j (by omega)⟩
      · exact Or.inr ⟨0, 6, J 5, K 5, rfl, rfl, fun j hj => h 5 j (by omega)⟩
      · exact Or.inr ⟨0, 6, J 6, K 6, rfl, rfl, fun j hj => h 6 j (by omega)⟩
      · exact Or.inr ⟨0, 6, J 7, K 7, rfl, rfl, fun j hj => h 7 j (by omega)⟩
      · exact Or.inr ⟨0, 12, J 8, K 8, rfl, rfl, fun j hj => h 8 j (by omega)⟩
    exact hc (q - a) (by omega)
  · rw [if_neg hq, if_neg hq]
    exact Or.inl rfl
theorem rx_call0 {E : gE} {nL pc a b : Nat} {ls : List (Option Value)} {st : List Value} {M : gM} (h : RX E nL (a + 0) (b + 0) pc ls st M) : RX E nL a b pc ls st M := h
theorem rx_iald1N {d : Nat} {mi : gMi} {E : gE} {nL a b pc : Nat} {ls : List (Option Value)} {st : List Value} {M : gM} (hE : g_E d mi E) {i : Nat} (hd : decode mi.2.1 pc = .ok (.iaload, 1)) (hi : i < 5) (kk : RX E nL a b (pc + 1) ls (.int (g_rests i) :: st) M) : RX E nL a b pc ls (.int (nI i) :: .ref 1 :: st) M :=
  rx_iald1 hE hd (vp_in_nI hi (by decide)) (by rw [nI_clamp (by omega)]; exact kk)
theorem rx_iald2N {d : Nat} {mi : gMi} {E : gE} {nL a b pc : Nat} {ls : List (Option Value)} {st : List Value} {M : gM} (hE : g_E d mi E) {i : Nat} (hd : decode mi.2.1 pc = .ok (.iaload, 1)) (hi : i < 12) (kk : RX E nL a b (pc + 1) ls (.int (g_sounds i) :: st) M) : RX E nL a b pc ls (.int (nI i) :: .ref 2 :: st) M :=
  rx_iald2 hE hd (vp_in_nI hi (by decide)) (by rw [nI_clamp (by omega)]; exact kk)
/-- two Junctions side by side: the inner one's cells -/
theorem jp_in {M : gM} {a c : Nat} {J K : gJn} (h : jb M a) (hd : a + 10 ≤ c ∨ c + 10 ≤ a) (k : Nat) (hk : k < 10) : g_at (jp (jp M a J) c K) (a + k) (jc a J k) := by
  rw [jp_comm hd]
  exact jp_at (M := jp M c K) h k hk
theorem jw_in {M : gM} {a c : Nat} {J J' K : gJn} {e : va_E} (k : Nat) (hd : a + 10 ≤ c ∨ c + 10 ≤ a) (hw : g_up (jp (jp M c K) a J) (a + k) e = jp (jp M c K) a J') : g_up (jp (jp M a J) c K) (a + k) e = jp (jp M a J') c K := by
  rw [jp_comm hd, hw, jp_comm hd]
theorem g_up_up (M : gM) (x : Nat) (e e' : va_E) : g_up (g_up M x e) x e' = g_up M x e' := by
  unfold g_up
  refine Prod.ext rfl (funext fun q => ?_)
  show (if q = x then e' else if q = x then e else M.2 q) = (if q = x then e' else M.2 q)
  split <;> rfl
theorem g_at_up {M : gM} {x : Nat} {e e' : va_E} (h : g_at M x e) : g_at (g_up M x e') x e' := ⟨h.1, h.2.1, if_pos rfl⟩
theorem g_up_id {M : gM} {x : Nat} {e : va_E} (h : g_at M x e) : g_up M x e = M := by
  unfold g_up
  refine Prod.ext rfl (funext fun q => ?_)
  show (if q = x then e else M.2 q) = M.2 q
  split
  · rename_i hq
    rw [hq]
    exact h.2.2.symm
  · rfl
theorem jp_eqv_in {M M' : gM} (c : Nat) (K : gJn) (h : g_eqv M M') : g_eqv (jp M c K) (jp M' c K) := by
  refine ⟨h.1, fun q => ?_⟩
  show g_ceq (if c ≤ q ∧ q < c + 10 then jc c K (q - c) else M.2 q) (if c ≤ q ∧ q < c + 10 then jc c K (q - c) else M'.2 q)
  by_cases hq : c ≤ q ∧ q < c + 10
  · rw [if_pos hq, if_pos hq]
    exact Or.inl rfl
  · rw [if_neg hq, if_neg hq]
    exact h.2 q
theorem jp_row (M : gM) (a : Nat) (J : gJn) (k : Nat) {v v' : Nat → Int32} (hk : k ≤ 8) (h : ∀ i, i < (if k = 8 then 12 else 6) → v i = v' i) : g_eqv (jp M a (j_s J k v)) (jp M a (j_s J k v')) := by
  refine jp_eqv M a (fun f i hf => ?_)
  unfold j_s
  by_cases hfk : f = k
  · subst hfk
    rw [if_pos rfl, if_pos rfl]
    refine h i ?_
    split <;> omega
  · rw [if_neg hfk, if_neg hfk]
theorem jp_cpy (M : gM) (a c : Nat) (J K L : gJn) (k : Nat) (g0 : Nat → Int32) (n : Int32) (hk : k ≤ 8) (hn : n.toNatClampNeg = if k = 8 then 12 else 6) : g_eqv (jp (jp M a (j_s J k (va_cpy (K k) g0 (0 : Int32).toNatClampNeg (0 : Int32).toNatClampNeg n.toNatClampNeg))) c L) (jp (jp M a (j_s J k (K k))) c L) := by
  refine jp_eqv_in c L (jp_row M a J k hk (fun i hi => ?_))
  show (if 0 ≤ i ∧ i < 0 + n.toNatClampNeg then K k (0 + (i - 0)) else g0 i) = K k i
  rw [if_pos ⟨Nat.zero_le _, by rw [hn]; omega⟩]
  congr 1
  omega
