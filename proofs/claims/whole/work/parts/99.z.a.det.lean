/-! ===== what is read is determined ===== -/
section DET
variable {T : Nat → Int32} {N : Nat}
theorem nI_m1 {w : Nat} (h : w < 2 ^ 31) : ¬ nI w = -1 := fun e => by
  have e2 := congrArg Int32.toInt e
  rw [nI_toInt h] at e2
  have : (-1 : Int32).toInt = -1 := by decide
  omega
theorem pvO_det {p c : Nat} {x x' : Nat × Nat} (h : pvO T N p c x) (h' : pvO T N p c x') : x = x' := by
  obtain ⟨_, h⟩ := h
  obtain ⟨_, h'⟩ := h'
  rcases h with ⟨a1, _, a2, a3, a4⟩ | ⟨a1, a2, a3, a4⟩ <;> rcases h' with ⟨b1, _, b2, b3, b4⟩ | ⟨b1, b2, b3, b4⟩
  · exact Prod.ext (a2.trans b2.symm) (nI_inj (by omega) (by omega) (a4.symm.trans b4))
  · exact absurd a1 b1
  · exact absurd b1 a1
  · exact Prod.ext (a2.trans b2.symm) (nI_inj (by omega) (by omega) (a4.symm.trans b4))
theorem pvOE {p c w : Nat} {x : Nat × Nat} (h : pvO T N p c x) (h' : pvE T N p c w) : False := by
  obtain ⟨h0, h⟩ := h
  rcases h' with ⟨b1, b2, _⟩ | ⟨b1, b2, _⟩ | ⟨b1, _⟩
  · rcases h with ⟨a1, _⟩ | ⟨_, _, a3, a4⟩
    · exact b1 a1
    · rw [a4] at b2
      exact nI_m1 (by omega) b2
  · rcases h with ⟨_, a1, _⟩ | ⟨a1, _⟩
    · exact b2 a1
    · exact a1 b1
  · omega
theorem pvE_det {p c w w' : Nat} (h : pvE T N p c w) (h' : pvE T N p c w') : w = w' := by
  rcases h with ⟨a1, a2, a3⟩ | ⟨a1, a2, a3⟩ | ⟨_, a2, a3⟩ <;> rcases h' with ⟨b1, b2, b3⟩ | ⟨b1, b2, b3⟩ | ⟨_, b2, b3⟩
  · omega
  · exact absurd b1 a1
  · rcases b2 with z | z
    · exact absurd z.1 a1
    · exact absurd a2 z.2
  · exact absurd a1 b1
  · omega
  · rcases b2 with z | z
    · exact absurd z.2 a2
    · exact absurd a1 z.1
  · rcases a2 with z | z
    · exact absurd z.1 b1
    · exact absurd b2 z.2
  · rcases a2 with z | z
    · exact absurd z.2 b2
    · exact absurd b1 z.1
  · omega
theorem smR_det : ∀ (m m' a t p : Nat) (l : gSg) (c : Nat) (r r' : gRs), smR T N m a t p l c r → smR T N m' a t p l c r' → r = r'
  | 0, _, _, _, _, _, _, _, _, h, _ => absurd h id
  | _ + 1, 0, _, _, _, _, _, _, _, _, h => absurd h id
  | m + 1, m' + 1, a, t, p, l, c, r, r', h, h' => by
    rcases h with ⟨w, h1, rfl⟩ | ⟨x, h1, h⟩ <;> rcases h' with ⟨w', h1', rfl⟩ | ⟨x', h1', h'⟩
    · rw [pvE_det h1 h1']
    · exact absurd h1 (fun z => pvOE h1' z)
    · exact absurd h1' (fun z => pvOE h1 z)
    · obtain rfl := pvO_det h1 h1'
      rcases h with ⟨e1, h⟩ | ⟨e1, e2, h⟩ | ⟨e1, e2, h⟩ <;> rcases h' with ⟨f1, h'⟩ | ⟨f1, f2, h'⟩ | ⟨f1, f2, h'⟩
      · exact smR_det m m' _ _ _ _ _ _ _ h h'
      · exact absurd f1 e1
      · exact absurd f1 e1
      · exact absurd e1 f1
      · exact smR_det m m' _ _ _ _ _ _ _ h h'
      · exact absurd f2 e2
      · exact absurd e1 f1
      · exact absurd e2 f2
      · rw [h, h']
theorem two_det {α : Type} {r1 r2 : Except Int32 α} {r r' : gRs} {f f' : α → Prop} (h12 : r1 = r2) (h : (∃ g, r1 = .error g ∧ r = .error g) ∨ ∃ y, r1 = .ok y ∧ f y) (h' : (∃ g, r2 = .error g ∧ r' = .error g) ∨ ∃ y, r2 = .ok y ∧ f' y) (hf : ∀ y, f y → f' y → r = r') : r = r' := by
  subst h12
  rcases h with ⟨g, e, h⟩ | ⟨y, e, h⟩ <;> rcases h' with ⟨g', e', h'⟩ | ⟨y', e', h'⟩
  · rw [e] at e'
    injection e' with e'
    rw [h, h', e']
  · rw [e] at e'
    exact absurd e' (by simp)
  · rw [e] at e'
    exact absurd e' (by simp)
  · rw [e] at e'
    injection e' with e'
    subst e'
    exact hf y h h'
theorem cpR_det {p c : Nat} {r r' : gRs} (h : cpR T N p c r) (h' : cpR T N p c r') : r = r' := by
  obtain ⟨m, r1, a1, h⟩ := h
  obtain ⟨m', r1', b1, h'⟩ := h'
  obtain rfl := smR_det _ _ _ _ _ _ _ _ _ a1 b1
  rcases h with ⟨g, e, h⟩ | ⟨p1, l1, c1, e, h⟩ <;> rcases h' with ⟨g', e', h'⟩ | ⟨p1', l1', c1', e', h'⟩
  · rw [e] at e'
    injection e' with e'
    rw [h, h', e']
  · rw [e] at e'
    exact absurd e' (by simp)
  · rw [e] at e'
    exact absurd e' (by simp)
  · rw [e] at e'
    injection e' with e'
    injection e' with z1 e'
    injection e' with z2 z3
    subst z1 z2 z3
    rcases h with ⟨k1, h⟩ | ⟨k1, k2, h⟩ | ⟨k1, k2, m2, r2, a2, h⟩ <;> rcases h' with ⟨j1, h'⟩ | ⟨j1, j2, h'⟩ | ⟨j1, j2, m2', r2', b2, h'⟩
    · rw [h, h']
    · exact absurd k1 j1
    · exact absurd k1 j1
    · exact absurd j1 k1
    · rw [h, h']
    · omega
    · exact absurd j1 k1
    · omega
    · obtain rfl := smR_det _ _ _ _ _ _ _ _ _ a2 b2
      rcases h with ⟨g, e, h⟩ | ⟨p2, l2, c2, e, h⟩ <;> rcases h' with ⟨g', e', h'⟩ | ⟨p2', l2', c2', e', h'⟩
      · rw [e] at e'
        injection e' with e'
        rw [h, h', e']
      · rw [e] at e'
        exact absurd e' (by simp)
      · rw [e] at e'
        exact absurd e' (by simp)
      · rw [e] at e'
        injection e' with e'
        injection e' with z1 e'
        injection e' with z2 z3
        subst z1 z2 z3
        rw [h, h']
theorem mtR_det : ∀ (m m' : Nat) (b : Bool) (O : List Nat) (p : Nat) (l : gSg) (c : Nat) (r r' : gRs), mtR T N m b O p l c r → mtR T N m' b O p l c r' → r = r'
  | 0, _, _, _, _, _, _, _, _, h, _ => absurd h id
  | _ + 1, 0, _, _, _, _, _, _, _, _, h => absurd h id
  | m + 1, m' + 1, false, O, p, l, c, r, r', h, h' => by
    rcases h with ⟨a1, h⟩ | ⟨a1, a2, h⟩ | ⟨a1, a2, r1, a3, h⟩ <;> rcases h' with ⟨b1, h'⟩ | ⟨b1, b2, h'⟩ | ⟨b1, b2, r1', b3, h'⟩
    · rcases h with ⟨k, h⟩ | ⟨k, h⟩ <;> rcases h' with ⟨j, h'⟩ | ⟨j, h'⟩
      · rw [h, h']
      · omega
      · omega
      · exact mtR_det m m' _ _ _ _ _ _ _ h h'
    · exact absurd b1 a1
    · exact absurd b1 a1
    · exact absurd a1 b1
    · rcases h with ⟨k, h⟩ | ⟨k, h⟩ <;> rcases h' with ⟨j, h'⟩ | ⟨j, h'⟩
      · rw [h, h']
      · omega
      · omega
      · exact mtR_det m m' _ _ _ _ _ _ _ h h'
    · exact absurd a2 b2
    · exact absurd a1 b1
    · exact absurd b2 a2
    · obtain rfl := cpR_det a3 b3
      rcases h with ⟨g, e, h⟩ | ⟨p1, l1, c1, e, h⟩ <;> rcases h' with ⟨g', e', h'⟩ | ⟨p1', l1', c1', e', h'⟩
      · rw [e] at e'
        injection e' with e'
        rw [h, h', e']
      · rw [e] at e'
        exact absurd e' (by simp)
      · rw [e] at e'
        exact absurd e' (by simp)
      · rw [e] at e'
        injection e' with e'
        injection e' with z1 e'
        injection e' with z2 z3
        subst z1 z2 z3
        exact mtR_det m m' _ _ _ _ _ _ _ h h'
  | m + 1, m' + 1, true, O, p, l, c, r, r', h, h' => by
    rcases h with ⟨a1, h⟩ | ⟨a1, a2, h⟩ | ⟨a1, a2, a3, h⟩ | ⟨a1, a2, a3, h⟩ <;> rcases h' with ⟨b1, h'⟩ | ⟨b1, b2, h'⟩ | ⟨b1, b2, b3, h'⟩ | ⟨b1, b2, b3, h'⟩
    · exact mtR_det m m' _ _ _ _ _ _ _ h h'
    · exact absurd a1 b1
    · exact absurd a1 b1
    · exact absurd a1 b1
    · exact absurd b1 a1
    · exact mtR_det m m' _ _ _ _ _ _ _ h h'
    · exact absurd b2 a2
    · exact absurd b2 a2
    · exact absurd b1 a1
    · exact absurd a2 b2
    · exact mtR_det m m' _ _ _ _ _ _ _ h h'
    · exact absurd b3 a3
    · exact absurd b1 a1
    · exact absurd a2 b2
    · exact absurd a3 b3
    · rcases h with ⟨k, h⟩ | ⟨k, h⟩ <;> rcases h' with ⟨j, h'⟩ | ⟨j, h'⟩
      · rw [h, h']
      · exact absurd k j
      · exact absurd j k
      · rw [h, h']
theorem clR_det {p c : Nat} {r r' : Except Int32 (Nat × gCl × Nat)} (h : clR T N p c r) (h' : clR T N p c r') : r = r' := by
  obtain ⟨m, r1, a1, h⟩ := h
  obtain ⟨m', r1', b1, h'⟩ := h'
  obtain rfl := smR_det _ _ _ _ _ _ _ _ _ a1 b1
  rcases h with ⟨g, e, h⟩ | ⟨p1, l1, c1, e, h⟩ <;> rcases h' with ⟨g', e', h'⟩ | ⟨p1', l1', c1', e', h'⟩
  · rw [e] at e'
    injection e' with e'
    rw [h, h', e']
  · rw [e] at e'
    exact absurd e' (by simp)
  · rw [e] at e'
    exact absurd e' (by simp)
  · rw [e] at e'
    injection e' with e'
    injection e' with z1 e'
    injection e' with z2 z3
    subst z1 z2 z3
    rcases h with ⟨k1, h⟩ | ⟨k1, m2, r2, a2, h⟩ <;> rcases h' with ⟨j1, h'⟩ | ⟨j1, m2', r2', b2, h'⟩
    · rw [h, h']
    · exact absurd k1 j1
    · exact absurd j1 k1
    · obtain rfl := mtR_det _ _ _ _ _ _ _ _ _ a2 b2
      rcases h with ⟨g, e, h⟩ | ⟨p2, l2, c2, e, h⟩ <;> rcases h' with ⟨g', e', h'⟩ | ⟨p2', l2', c2', e', h'⟩
      · rw [e] at e'
        injection e' with e'
        rw [h, h', e']
      · rw [e] at e'
        exact absurd e' (by simp)
      · rw [e] at e'
        exact absurd e' (by simp)
      · rw [e] at e'
        injection e' with e'
        injection e' with z1 e'
        injection e' with z2 z3
        subst z1 z2 z3
        rw [h, h']
theorem rlR_det : ∀ (m m' p n c : Nat) (cl : List gCl) (r r' : Except Int32 (List gCl)), rlR T N m p n c cl r → rlR T N m' p n c cl r' → r = r'
  | 0, _, _, _, _, _, _, _, h, _ => absurd h id
  | _ + 1, 0, _, _, _, _, _, _, _, h => absurd h id
  | m + 1, m' + 1, p, n, c, cl, r, r', h, h' => by
    rcases h with ⟨a1, h⟩ | ⟨a1, a2, h⟩ | ⟨a1, a2, r1, a3, h⟩ <;> rcases h' with ⟨b1, h'⟩ | ⟨b1, b2, h'⟩ | ⟨b1, b2, r1', b3, h'⟩
    · rw [h, h']
    · exact absurd a1 b1
    · exact absurd a1 b1
    · exact absurd b1 a1
    · rw [h, h']
    · omega
    · exact absurd b1 a1
    · omega
    · obtain rfl := clR_det a3 b3
      rcases h with ⟨g, e, h⟩ | ⟨p1, q, c1, e, h⟩ <;> rcases h' with ⟨g', e', h'⟩ | ⟨p1', q', c1', e', h'⟩
      · rw [e] at e'
        injection e' with e'
        rw [h, h', e']
      · rw [e] at e'
        exact absurd e' (by simp)
      · rw [e] at e'
        exact absurd e' (by simp)
      · rw [e] at e'
        injection e' with e'
        injection e' with z1 e'
        injection e' with z2 z3
        subst z1 z2 z3
        rcases h with ⟨k1, h⟩ | ⟨k1, k2, h⟩ | ⟨k1, h⟩ <;> rcases h' with ⟨j1, h'⟩ | ⟨j1, j2, h'⟩ | ⟨j1, h'⟩
        · rw [h, h']
        · exact absurd j1 k1
        · exact absurd j1.1 k1
        · exact absurd k1 j1
        · rw [h, h']
        · exact absurd j1 k2
        · exact absurd k1.1 j1
        · exact absurd k1 j2
        · exact rlR_det m m' _ _ _ _ _ _ h h'
end DET
