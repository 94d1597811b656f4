/-! ===== the Junction's methods over the class's memory ===== -/
def xJ (r a : Nat) : Prop := xj r = true ∧ zb r = a ∧ 16 ≤ a ∧ a + 10 ≤ 384
theorem xJ_2 : xJ 2 19 := by unfold xJ; decide +kernel
theorem xJ_3 : xJ 3 29 := by unfold xJ; decide +kernel
theorem xJ_4 : xJ 4 39 := by unfold xJ; decide +kernel
theorem xJ_h {i : Nat} (hi : i < 20) : xJ (9 + i) (55 + 10 * i) := by
  have hall : ∀ i, i < 20 → xj (9 + i) = true ∧ zb (9 + i) = 55 + 10 * i := by decide +kernel
  exact ⟨(hall i hi).1, (hall i hi).2, by omega, by omega⟩
theorem xJ_in {k : Nat} (hk : k < 4) : xJ (34 + 4 * k) (284 + 25 * k + 1) := by
  have hall : ∀ i, i < 4 → xj (34 + 4 * i) = true ∧ zb (34 + 4 * i) = 284 + 25 * i + 1 := by decide +kernel
  exact ⟨(hall k hk).1, (hall k hk).2, by omega, by omega⟩
theorem xJ_it {k : Nat} (hk : k < 4) : xJ (35 + 4 * k) (284 + 25 * k + 11) := by
  have hall : ∀ i, i < 4 → xj (35 + 4 * i) = true ∧ zb (35 + 4 * i) = 284 + 25 * i + 11 := by decide +kernel
  exact ⟨(hall k hk).1, (hall k hk).2, by omega, by omega⟩
theorem xN_29 {n : Nat} (hM : 408 ≤ n) : xN n 29 255 := ⟨by decide +kernel, by decide +kernel, by omega⟩
theorem xN_i {n k : Nat} (hk : k < 4) (hM : 408 ≤ n) : xN n (36 + 4 * k) (284 + 25 * k + 21) := by
  have hall : ∀ i, i < 4 → xn (36 + 4 * i) = true ∧ zb (36 + 4 * i) = 284 + 25 * i + 21 := by decide +kernel
  exact ⟨(hall k hk).1, (hall k hk).2, by omega⟩
section XJ
variable {n : Nat} {X : gX} {O : gO} {Q : gU} {G : gK} {S : gS} {L : gLg} {r a : Nat} {J : gJn}
theorem xJ.b (h : xJ r a) (hM : 408 ≤ n) : jb (xm n X O Q G S L) a := ⟨h.2.2.1, by show a + 10 ≤ n; have := h.2.2.2; omega⟩
theorem xJ.up (h : xJ r a) (J : gJn) : jp (xm n X O Q G S L) a J = xm n (x_r X r J) O Q G S L := jp_xm h.1 h.2.1 J
theorem xJ.eq (h : xJ r a) (hX : X r = J) : xm n X O Q G S L = jp (xm n X O Q G S L) a J := by
  subst hX
  exact xm_jp h.1 h.2.1
theorem xa_j (h : xJ r a) (hM : 408 ≤ n) : g_at (xm n X O Q G S L) a (jc a (X r) 0) := by
  have e := h.eq (n := n) (O := O) (Q := Q) (G := G) (S := S) (L := L) (X := X) rfl
  rw [e]
  exact jp_o (h.b hM)
theorem xa_j1 (h : xJ r a) (hM : 408 ≤ n) : g_at (xm n X O Q G S L) (a + 1) (gI 6 (X r 0)) := by
  have e := h.eq (n := n) (O := O) (Q := Q) (G := G) (S := S) (L := L) (X := X) rfl
  rw [e]
  exact jp_1 (h.b hM)
theorem xw_j1 (h : xJ r a) {v : Nat → Int32} : g_up (xm n X O Q G S L) (a + 1) (gI 6 v) = xm n (x_r X r (j_s (X r) 0 v)) O Q G S L := by
  have e := h.eq (n := n) (O := O) (Q := Q) (G := G) (S := S) (L := L) (X := X) rfl
  rw [e, jw_1, h.up]
theorem xa_j2 (h : xJ r a) (hM : 408 ≤ n) : g_at (xm n X O Q G S L) (a + 2) (gI 6 (X r 1)) := by
  have e := h.eq (n := n) (O := O) (Q := Q) (G := G) (S := S) (L := L) (X := X) rfl
  rw [e]
  exact jp_2 (h.b hM)
theorem xw_j2 (h : xJ r a) {v : Nat → Int32} : g_up (xm n X O Q G S L) (a + 2) (gI 6 v) = xm n (x_r X r (j_s (X r) 1 v)) O Q G S L := by
  have e := h.eq (n := n) (O := O) (Q := Q) (G := G) (S := S) (L := L) (X := X) rfl
  rw [e, jw_2, h.up]
theorem xa_j3 (h : xJ r a) (hM : 408 ≤ n) : g_at (xm n X O Q G S L) (a + 3) (gI 6 (X r 2)) := by
  have e := h.eq (n := n) (O := O) (Q := Q) (G := G) (S := S) (L := L) (X := X) rfl
  rw [e]
  exact jp_3 (h.b hM)
theorem xw_j3 (h : xJ r a) {v : Nat → Int32} : g_up (xm n X O Q G S L) (a + 3) (gI 6 v) = xm n (x_r X r (j_s (X r) 2 v)) O Q G S L := by
  have e := h.eq (n := n) (O := O) (Q := Q) (G := G) (S := S) (L := L) (X := X) rfl
  rw [e, jw_3, h.up]
theorem xa_j4 (h : xJ r a) (hM : 408 ≤ n) : g_at (xm n X O Q G S L) (a + 4) (gI 6 (X r 3)) := by
  have e := h.eq (n := n) (O := O) (Q := Q) (G := G) (S := S) (L := L) (X := X) rfl
  rw [e]
  exact jp_4 (h.b hM)
theorem xw_j4 (h : xJ r a) {v : Nat → Int32} : g_up (xm n X O Q G S L) (a + 4) (gI 6 v) = xm n (x_r X r (j_s (X r) 3 v)) O Q G S L := by
  have e := h.eq (n := n) (O := O) (Q := Q) (G := G) (S := S) (L := L) (X := X) rfl
  rw [e, jw_4, h.up]
theorem xa_j5 (h : xJ r a) (hM : 408 ≤ n) : g_at (xm n X O Q G S L) (a + 5) (gI 6 (X r 4)) := by
  have e := h.eq (n := n) (O := O) (Q := Q) (G := G) (S := S) (L := L) (X := X) rfl
  rw [e]
  exact jp_5 (h.b hM)
theorem xw_j5 (h : xJ r a) {v : Nat → Int32} : g_up (xm n X O Q G S L) (a + 5) (gI 6 v) = xm n (x_r X r (j_s (X r) 4 v)) O Q G S L := by
  have e := h.eq (n := n) (O := O) (Q := Q) (G := G) (S := S) (L := L) (X := X) rfl
  rw [e, jw_5, h.up]
theorem xa_j6 (h : xJ r a) (hM : 408 ≤ n) : g_at (xm n X O Q G S L) (a + 6) (gI 6 (X r 5)) := by
  have e := h.eq (n := n) (O := O) (Q := Q) (G := G) (S := S) (L := L) (X := X) rfl
  rw [e]
  exact jp_6 (h.b hM)
theorem xw_j6 (h : xJ r a) {v : Nat → Int32} : g_up (xm n X O Q G S L) (a + 6) (gI 6 v) = xm n (x_r X r (j_s (X r) 5 v)) O Q G S L := by
  have e := h.eq (n := n) (O := O) (Q := Q) (G := G) (S := S) (L := L) (X := X) rfl
  rw [e, jw_6, h.up]
theorem xa_j7 (h : xJ r a) (hM : 408 ≤ n) : g_at (xm n X O Q G S L) (a + 7) (gI 6 (X r 6)) := by
  have e := h.eq (n := n) (O := O) (Q := Q) (G := G) (S := S) (L := L) (X := X) rfl
  rw [e]
  exact jp_7 (h.b hM)
theorem xw_j7 (h : xJ r a) {v : Nat → Int32} : g_up (xm n X O Q G S L) (a + 7) (gI 6 v) = xm n (x_r X r (j_s (X r) 6 v)) O Q G S L := by
  have e := h.eq (n := n) (O := O) (Q := Q) (G := G) (S := S) (L := L) (X := X) rfl
  rw [e, jw_7, h.up]
theorem xa_j8 (h : xJ r a) (hM : 408 ≤ n) : g_at (xm n X O Q G S L) (a + 8) (gI 6 (X r 7)) := by
  have e := h.eq (n := n) (O := O) (Q := Q) (G := G) (S := S) (L := L) (X := X) rfl
  rw [e]
  exact jp_8 (h.b hM)
theorem xw_j8 (h : xJ r a) {v : Nat → Int32} : g_up (xm n X O Q G S L) (a + 8) (gI 6 v) = xm n (x_r X r (j_s (X r) 7 v)) O Q G S L := by
  have e := h.eq (n := n) (O := O) (Q := Q) (G := G) (S := S) (L := L) (X := X) rfl
  rw [e, jw_8, h.up]
theorem xa_j9 (h : xJ r a) (hM : 408 ≤ n) : g_at (xm n X O Q G S L) (a + 9) (gI 12 (X r 8)) := by
  have e := h.eq (n := n) (O := O) (Q := Q) (G := G) (S := S) (L := L) (X := X) rfl
  rw [e]
  exact jp_9 (h.b hM)
theorem xw_j9 (h : xJ r a) {v : Nat → Int32} : g_up (xm n X O Q G S L) (a + 9) (gI 12 v) = xm n (x_r X r (j_s (X r) 8 v)) O Q G S L := by
  have e := h.eq (n := n) (O := O) (Q := Q) (G := G) (S := S) (L := L) (X := X) rfl
  rw [e, jw_9, h.up]
theorem xw_jc0 (h : xJ r a) {v : Int32} : g_up (xm n X O Q G S L) a (.inr (2, [.ref (a + 1), .ref (a + 2), .ref (a + 3), .ref (a + 4), .ref (a + 5), .ref (a + 6), .ref (a + 7), .ref (a + 8), .ref (a + 9), .int v, .int (X r 9 1), .int (X r 9 2), .int (X r 9 3), .int (X r 9 4), .int (X r 9 5)])) = xm n (x_r X r (j_c (X r) 0 v)) O Q G S L := by
  have e := h.eq (n := n) (O := O) (Q := Q) (G := G) (S := S) (L := L) (X := X) rfl
  rw [e, jw_c0, h.up]
theorem xw_jc1 (h : xJ r a) {v : Int32} : g_up (xm n X O Q G S L) a (.inr (2, [.ref (a + 1), .ref (a + 2), .ref (a + 3), .ref (a + 4), .ref (a + 5), .ref (a + 6), .ref (a + 7), .ref (a + 8), .ref (a + 9), .int (X r 9 0), .int v, .int (X r 9 2), .int (X r 9 3), .int (X r 9 4), .int (X r 9 5)])) = xm n (x_r X r (j_c (X r) 1 v)) O Q G S L := by
  have e := h.eq (n := n) (O := O) (Q := Q) (G := G) (S := S) (L := L) (X := X) rfl
  rw [e, jw_c1, h.up]
theorem xw_jc2 (h : xJ r a) {v : Int32} : g_up (xm n X O Q G S L) a (.inr (2, [.ref (a + 1), .ref (a + 2), .ref (a + 3), .ref (a + 4), .ref (a + 5), .ref (a + 6), .ref (a + 7), .ref (a + 8), .ref (a + 9), .int (X r 9 0), .int (X r 9 1), .int v, .int (X r 9 3), .int (X r 9 4), .int (X r 9 5)])) = xm n (x_r X r (j_c (X r) 2 v)) O Q G S L := by
  have e := h.eq (n := n) (O := O) (Q := Q) (G := G) (S := S) (L := L) (X := X) rfl
  rw [e, jw_c2, h.up]
theorem xw_jc3 (h : xJ r a) {v : Int32} : g_up (xm n X O Q G S L) a (.inr (2, [.ref (a + 1), .ref (a + 2), .ref (a + 3), .ref (a + 4), .ref (a + 5), .ref (a + 6), .ref (a + 7), .ref (a + 8), .ref (a + 9), .int (X r 9 0), .int (X r 9 1), .int (X r 9 2), .int v, .int (X r 9 4), .int (X r 9 5)])) = xm n (x_r X r (j_c (X r) 3 v)) O Q G S L := by
  have e := h.eq (n := n) (O := O) (Q := Q) (G := G) (S := S) (L := L) (X := X) rfl
  rw [e, jw_c3, h.up]
theorem xw_jc4 (h : xJ r a) {v : Int32} : g_up (xm n X O Q G S L) a (.inr (2, [.ref (a + 1), .ref (a + 2), .ref (a + 3), .ref (a + 4), .ref (a + 5), .ref (a + 6), .ref (a + 7), .ref (a + 8), .ref (a + 9), .int (X r 9 0), .int (X r 9 1), .int (X r 9 2), .int (X r 9 3), .int v, .int (X r 9 5)])) = xm n (x_r X r (j_c (X r) 4 v)) O Q G S L := by
  have e := h.eq (n := n) (O := O) (Q := Q) (G := G) (S := S) (L := L) (X := X) rfl
  rw [e, jw_c4, h.up]
theorem xw_jc5 (h : xJ r a) {v : Int32} : g_up (xm n X O Q G S L) a (.inr (2, [.ref (a + 1), .ref (a + 2), .ref (a + 3), .ref (a + 4), .ref (a + 5), .ref (a + 6), .ref (a + 7), .ref (a + 8), .ref (a + 9), .int (X r 9 0), .int (X r 9 1), .int (X r 9 2), .int (X r 9 3), .int (X r 9 4), .int v])) = xm n (x_r X r (j_c (X r) 5 v)) O Q G S L := by
  have e := h.eq (n := n) (O := O) (Q := Q) (G := G) (S := S) (L := L) (X := X) rfl
  rw [e, jw_c5, h.up]
theorem x_isTold (h : xJ r a) (hM : 408 ≤ n) (hX : X r = J) : SX 0 0 0 mX2_isTold [.ref a] (xm n X O Q G S L) (fun v M' => v = some (.int (j_isTold J)) ∧ M' = xm n X O Q G S L) := by
  have e := h.eq (n := n) (O := O) (Q := Q) (G := G) (S := S) (L := L) hX
  rw [e]
  exact c_X2_isTold (h.b hM)
theorem x_hasRoad (h : xJ r a) (hM : 408 ≤ n) (hX : X r = J) (k : Int32) : SX 0 0 0 mX2_hasRoad [.ref a, .int k] (xm n X O Q G S L) (fun v M' => v = some (.int (j_hasRoad J k)) ∧ M' = xm n X O Q G S L) := by
  have e := h.eq (n := n) (O := O) (Q := Q) (G := G) (S := S) (L := L) hX
  rw [e]
  exact c_X2_hasRoad k (h.b hM)
theorem x_hasBeat (h : xJ r a) (hM : 408 ≤ n) (hX : X r = J) (k : Int32) : SX 0 0 0 mX2_hasBeat [.ref a, .int k] (xm n X O Q G S L) (fun v M' => v = some (.int (j_hasBeat J k)) ∧ M' = xm n X O Q G S L) := by
  have e := h.eq (n := n) (O := O) (Q := Q) (G := G) (S := S) (L := L) hX
  rw [e]
  exact c_X2_hasBeat k (h.b hM)
theorem x_beatOfBar (h : xJ r a) (hM : 408 ≤ n) (hX : X r = J) : SX 0 0 0 mX2_beatOfBar [.ref a] (xm n X O Q G S L) (fun v M' => v = some (.int (j_bob J)) ∧ M' = xm n X O Q G S L) := by
  have e := h.eq (n := n) (O := O) (Q := Q) (G := G) (S := S) (L := L) hX
  rw [e]
  exact c_X2_beatOfBar (h.b hM)
theorem x_sinceLetIn (h : xJ r a) (hM : 408 ≤ n) (hX : X r = J) {k : Nat} (hk : k < 6) : SX 1 0 0 mX2_sinceLetIn [.ref a, .int (nI k)] (xm n X O Q G S L) (fun v M' => v = some (.int (j_since J k)) ∧ M' = xm n X O Q G S L) := by
  have e := h.eq (n := n) (O := O) (Q := Q) (G := G) (S := S) (L := L) hX
  rw [e]
  exact c_X2_sinceLetIn (h.b hM) hk
theorem x_isPeaceful (h : xJ r a) (hM : 408 ≤ n) (hX : X r = J) (hj : jok J) (s : Int32) : SX 0 0 0 mX2_isPeaceful [.ref a, .int s] (xm n X O Q G S L) (fun v M' => v = some (.int (jpcF J s 0 (jR J))) ∧ M' = xm n X O Q G S L) := by
  have e := h.eq (n := n) (O := O) (Q := Q) (G := G) (S := S) (L := L) hX
  rw [e]
  exact c_X2_isPeaceful s (h.b hM) hj.1 hj.2.1
theorem x_soundOf (h : xJ r a) (hM : 408 ≤ n) (hX : X r = J) (hj : jok J) (s : Int32) : SX 2 0 0 mX2_soundOf [.ref a, .int s] (xm n X O Q G S L) (fun v M' => v = some (.int (jso (jP J) s (jR J))) ∧ M' = xm n X O Q G S L) := by
  have e := h.eq (n := n) (O := O) (Q := Q) (G := G) (S := S) (L := L) hX
  rw [e]
  exact c_X2_soundOf s (h.b hM) hj.1 hj.2.1 hj.2.2.1
theorem x_fullest (h : xJ r a) (hM : 408 ≤ n) (hX : X r = J) (hj : jok J) (h0 : 0 < jR J) : SX 0 0 0 mX2_fullest [.ref a] (xm n X O Q G S L) (fun v M' => v = some (.int (nI (jfull (J 0) (jR J)))) ∧ M' = xm n X O Q G S L) := by
  have e := h.eq (n := n) (O := O) (Q := Q) (G := G) (S := S) (L := L) hX
  rw [e]
  exact c_X2_fullest (h.b hM) hj.1 hj.2.1 h0
theorem x_sumOf (h : xJ r a) (hM : 408 ≤ n) (hX : X r = J) (hj : jok J) {f : Nat} (hf : f < 8) : SX 0 0 0 mX2_sumOf [.ref a, .ref (a + (f + 1))] (xm n X O Q G S L) (fun v M' => v = some (.int (jsum (J f) (jR J))) ∧ M' = xm n X O Q G S L) := by
  have e := h.eq (n := n) (O := O) (Q := Q) (G := G) (S := S) (L := L) hX
  rw [e]
  refine c_X2_sumOf (h.b hM) hj.1 hj.2.1 ?_
  rcases (show f = 0 ∨ f = 1 ∨ f = 2 ∨ f = 3 ∨ f = 4 ∨ f = 5 ∨ f = 6 ∨ f = 7 by omega) with rfl | rfl | rfl | rfl | rfl | rfl | rfl | rfl
  · exact jp_1 (h.b hM)
  · exact jp_2 (h.b hM)
  · exact jp_3 (h.b hM)
  · exact jp_4 (h.b hM)
  · exact jp_5 (h.b hM)
  · exact jp_6 (h.b hM)
  · exact jp_7 (h.b hM)
  · exact jp_8 (h.b hM)
theorem x_addWaiting (h : xJ r a) (hM : 408 ≤ n) (hX : X r = J) {k : Nat} (hk : k < 6) (m : Int32) : SX 1 0 0 mX2_addWaiting [.ref a, .int (nI k), .int m] (xm n X O Q G S L) (fun v M' => v = none ∧ M' = xm n (x_r X r (j_addw J k m)) O Q G S L) := by
  have e := h.eq (n := n) (O := O) (Q := Q) (G := G) (S := S) (L := L) hX
  have c := c_X2_addWaiting (J := J) m (h.b (n := n) (X := X) (O := O) (Q := Q) (G := G) (S := S) (L := L) hM) hk
  rw [← e, h.up] at c
  exact c
theorem x_leave (h : xJ r a) (hM : 408 ≤ n) (hX : X r = J) {k : Nat} (hk : k < 6) : SX 1 0 0 mX2_leave [.ref a, .int (nI k)] (xm n X O Q G S L) (fun v M' => v = some (.int (j_many J k)) ∧ M' = xm n (x_r X r (j_leave J k)) O Q G S L) := by
  have e := h.eq (n := n) (O := O) (Q := Q) (G := G) (S := S) (L := L) hX
  have c := c_X2_leave (J := J) (h.b (n := n) (X := X) (O := O) (Q := Q) (G := G) (S := S) (L := L) hM) hk
  rw [← e, h.up] at c
  exact c
theorem x_arrive (h : xJ r a) (hM : 408 ≤ n) (hX : X r = J) (hj : jok J) : SX 2 0 0 mX2_arrive [.ref a] (xm n X O Q G S L) (fun v M' => v = none ∧ M' = xm n (x_r X r (jarF 0 (jR J) J)) O Q G S L) := by
  have e := h.eq (n := n) (O := O) (Q := Q) (G := G) (S := S) (L := L) hX
  have c := c_X2_arrive (J := J) (h.b (n := n) (X := X) (O := O) (Q := Q) (G := G) (S := S) (L := L) hM) hj.1 hj.2.1
  rw [← e, h.up] at c
  exact c
theorem x_goThrough (h : xJ r a) (hM : 408 ≤ n) (hX : X r = J) (hj : jok J) (s : Int32) : SX 3 0 0 mX2_goThrough [.ref a, .int s] (xm n X O Q G S L) (fun v M' => v = none ∧ M' = xm n (x_r X r (j_go (jP J) (jR J) s J)) O Q G S L) := by
  have e := h.eq (n := n) (O := O) (Q := Q) (G := G) (S := S) (L := L) hX
  have c := c_X2_goThrough (J := J) s (h.b (n := n) (X := X) (O := O) (Q := Q) (G := G) (S := S) (L := L) hM) hj.1 hj.2.1 hj.2.2.1
  rw [← e, h.up] at c
  exact c
theorem x_forget (h : xJ r a) (hM : 408 ≤ n) (hX : X r = J) : SX 1 0 0 mX2_forget [.ref a] (xm n X O Q G S L) (fun v M' => v = none ∧ M' = xm n (x_r X r (j_zero)) O Q G S L) := by
  have e := h.eq (n := n) (O := O) (Q := Q) (G := G) (S := S) (L := L) hX
  have c := c_X2_forget (J := J) (h.b (n := n) (X := X) (O := O) (Q := Q) (G := G) (S := S) (L := L) hM)
  rw [← e, h.up] at c
  exact c
theorem x_copyFrom {r2 a2 : Nat} (h : xJ r a) (h2 : xJ r2 a2) (hr : a + 10 ≤ a2 ∨ a2 + 10 ≤ a) (hM : 408 ≤ n) (hX : X r2 = J) : SX 1 0 0 mX2_copyFrom [.ref a, .ref a2] (xm n X O Q G S L) (fun v M' => v = none ∧ M' = xm n (x_r X r J) O Q G S L) := by
  have hne : r2 ≠ r := by
    intro q
    have e1 := h.2.1
    have e2 := h2.2.1
    rw [q] at e2
    omega
  have c := c_X2_copyFrom (J := X r) (K := J) (h.b (n := n) (X := X) (O := O) (Q := Q) (G := G) (S := S) (L := L) hM) (h2.b (n := n) (X := X) (O := O) (Q := Q) (G := G) (S := S) (L := L) hM) hr
  rw [← h.eq (n := n) (O := O) (Q := Q) (G := G) (S := S) (L := L) (X := X) rfl, ← h2.eq (n := n) (O := O) (Q := Q) (G := G) (S := S) (L := L) hX, h.up, ← h2.eq (X := x_r X r J) (by rw [x_r_ne _ _ hne]; exact hX)] at c
  exact c
/-- the value v stands for the rule whose tests are t -/
def xT (Q : gU) (n : Nat) (v : Value) (t : gJn → Nat → Int32 → Bool) : Prop := (v = .null ∧ t = jt0) ∨ ∃ i, 408 + 3 * i + 3 ≤ n ∧ v = .ref (408 + 3 * i) ∧ t = jt1 (Q i).2 (Q i).1 ∧ (Q i).1 < 2 ^ 31
theorem x_oneBeat (h : xJ r a) (hM : 408 ≤ n) (hX : X r = J) (hj : jok J) {v : Value} {t : gJn → Nat → Int32 → Bool} (hv : xT Q n v t) : SX 5 0 0 mX2_oneBeat [.ref a, v] (xm n X O Q G S L) (fun w M' => w = some (.int (jset t J)) ∧ ∃ G' : gK, M' = xm n (x_r X r (jone t J)) O Q G' S L) := by
  have e := h.eq (n := n) (O := O) (Q := Q) (G := G) (S := S) (L := L) hX
  rcases hv with ⟨rfl, rfl⟩ | ⟨i, hi, rfl, rfl, hn⟩
  · have c := c_X2_oneBeat0 (J := J) (h.b (n := n) (X := X) (O := O) (Q := Q) (G := G) (S := S) (L := L) hM) hj
    rw [← e] at c
    refine SX.weaken c (fun v M' q => ?_)
    obtain ⟨rfl, rfl⟩ := q
    exact ⟨rfl, G, h.up _⟩
  · have hrb : rb (xm n X O Q G S L) (408 + 3 * i) := ⟨by omega, hi⟩
    have c := c_X2_oneBeat1 (J := J) (f := (Q i).2) (g := G i) (h.b (n := n) (X := X) (O := O) (Q := Q) (G := G) (S := S) (L := L) hM) hrb (Or.inr (by have := h.2.2.2; omega)) hn hj
    rw [rp_xm, k_g_id, ← e] at c
    refine SX.weaken c (fun v M' q => ?_)
    obtain ⟨rfl, op, rfl⟩ := q
    exact ⟨rfl, k_g G i op, by rw [rp_xm, h.up]⟩
theorem x_goOn (h : xJ r a) (hM : 408 ≤ n) (hX : X r = J) (hj : jok J) {v : Value} {t : gJn → Nat → Int32 → Bool} (hv : xT Q n v t) {N : Nat} (hT : jT J + N < 1000000) : SX 6 0 0 mX2_goOn [.ref a, .int (nI N), v] (xm n X O Q G S L) (fun w M' => w = none ∧ ∃ G' : gK, M' = xm n (x_r X r (jmanyF t N J)) O Q G' S L) := by
  have e := h.eq (n := n) (O := O) (Q := Q) (G := G) (S := S) (L := L) hX
  rcases hv with ⟨rfl, rfl⟩ | ⟨i, hi, rfl, rfl, hn⟩
  · have c := c_X2_goOn0 (J := J) (N := N) (h.b (n := n) (X := X) (O := O) (Q := Q) (G := G) (S := S) (L := L) hM) hj hT
    rw [← e] at c
    refine SX.weaken c (fun v M' q => ?_)
    obtain ⟨rfl, rfl⟩ := q
    exact ⟨rfl, G, h.up _⟩
  · have hrb : rb (xm n X O Q G S L) (408 + 3 * i) := ⟨by omega, hi⟩
    have c := c_X2_goOn1 (J := J) (N := N) (f := (Q i).2) (g := G i) (h.b (n := n) (X := X) (O := O) (Q := Q) (G := G) (S := S) (L := L) hM) hrb (Or.inr (by have := h.2.2.2; omega)) hn hj hT
    rw [rp_xm, k_g_id, ← e] at c
    refine SX.weaken c (fun v M' q => ?_)
    obtain ⟨rfl, op, rfl⟩ := q
    exact ⟨rfl, k_g G i op, by rw [rp_xm, h.up]⟩
end XJ
/-- the rules -/
def xR (n : Nat) (X : gX) (O : gO) (Q : gU) : Prop := ∃ c, c ≤ 6 ∧ X 0 0 16 = nI c ∧ n = 408 + 3 * c ∧ ∀ j, j < c → O j = some (408 + 3 * j) ∧ (Q j).1 ≤ 400
def xtf (X : gX) (Q : gU) (f : Int32) : gJn → Nat → Int32 → Bool := if f < 0 then jt0 else if X 0 0 16 ≤ f then jt0 else jt1 (Q f.toNatClampNeg).2 (Q f.toNatClampNeg).1
theorem xR.M {n : Nat} {X : gX} {O : gO} {Q : gU} (h : xR n X O Q) : 408 ≤ n := by
  obtain ⟨c, h1, h2, h3, h4⟩ := h
  omega
theorem xR.eq {n : Nat} {X X' : gX} {O : gO} {Q : gU} (h : xR n X O Q) (h0 : X' 0 0 16 = X 0 0 16) : xR n X' O Q := by
  obtain ⟨c, h1, h2, h3, h4⟩ := h
  exact ⟨c, h1, by rw [h0]; exact h2, h3, h4⟩
theorem xtf_eq {X X' : gX} {Q : gU} {f : Int32} (h0 : X' 0 0 16 = X 0 0 16) : xtf X' Q f = xtf X Q f := by
  unfold xtf
  rw [h0]
set_option maxRecDepth 100000 in
set_option maxHeartbeats 1000000 in
theorem c_X10_within {M : gM} (x a b : Int32) : SX 0 0 0 mX10_within [.int x, .int a, .int b] (M) (fun v M' => v = some (.int (q_in x a b)) ∧ M' = M) := by
  refine SX.intro [some (.int x), some (.int a), some (.int b)] (by decide +kernel) (Nat.le_of_ble_eq_true rfl) rfl (fun E hE hQ => ?_)
  refine rx_iload_n hE dX10_within_0 (i := 0) rfl rfl ?_
  refine rx_iload_n hE dX10_within_1 (i := 1) rfl rfl ?_
  refine rx_icmp_lt (tgt := 14) hE dX10_within_2 (by decide) (fun c2 => ?_) (fun c2 => ?_)
  · refine rx_iconst hE dX10_within_14 (v := 0) (by decide) ?_
    exact rx_tret hE hQ rfl rfl dX10_within_15 ⟨by simp [q_in, *], rfl⟩
  · refine rx_iload_n hE dX10_within_5 (i := 0) rfl rfl ?_
    refine rx_iload_n hE dX10_within_6 (i := 2) rfl rfl ?_
    refine rx_icmp_gt (tgt := 14) hE dX10_within_7 (by decide) (fun c7 => ?_) (fun c7 => ?_)
    · refine rx_iconst hE dX10_within_14 (v := 0) (by decide) ?_
      exact rx_tret hE hQ rfl rfl dX10_within_15 ⟨by simp [q_in, *], rfl⟩
    · refine rx_iconst hE dX10_within_10 (v := 1) (by decide) ?_
      refine rx_goto (tgt := 15) hE dX10_within_11 (by decide) ?_
      exact rx_tret hE hQ rfl rfl dX10_within_15 ⟨by simp [q_in, *], rfl⟩
set_option maxRecDepth 100000 in
set_option maxHeartbeats 1000000 in
theorem c_X10_ruleOf {n : Nat} {X : gX} {O : gO} {Q : gU} {G : gK} {S : gS} {L : gLg} (hM : 408 ≤ n) (hR : xR n X O Q) (f : Int32) : SX 0 0 0 mX10_ruleOf [.ref 16, .int f] (xm n X O Q G S L) (fun v M' => ∃ u, v = some u ∧ xT Q n u (xtf X Q f) ∧ M' = xm n X O Q G S L) := by
  refine SX.intro [some (.ref 16), some (.int f)] (by decide +kernel) (Nat.le_of_ble_eq_true rfl) rfl (fun E hE hQ => ?_)
  refine rx_iload_n hE dX10_ruleOf_0 (i := 1) rfl rfl ?_
  refine rx_if_lt (tgt := 21) hE dX10_ruleOf_1 (by decide) (fun c1 => ?_) (fun c1 => ?_)
  · refine rx_null hE dX10_ruleOf_21 ?_
    exact rx_aretN hE hQ (Or.inl ⟨_, rfl⟩) rfl dX10_ruleOf_22 ⟨.null, rfl, Or.inl ⟨rfl, by simp [xtf, *]⟩, rfl⟩
  · refine rx_iload_n hE dX10_ruleOf_4 (i := 1) rfl rfl ?_
    refine rx_aload_n hE dX10_ruleOf_5 (i := 0) rfl rfl ?_
    refine rx_getf hE dX10_ruleOf_6 fl_X10_99_9 (xa_0 hM) rfl ?_
    refine rx_icmp_ge (tgt := 21) hE dX10_ruleOf_9 (by decide) (fun c9 => ?_) (fun c9 => ?_)
    · refine rx_null hE dX10_ruleOf_21 ?_
      exact rx_aretN hE hQ (Or.inl ⟨_, rfl⟩) rfl dX10_ruleOf_22 ⟨.null, rfl, Or.inl ⟨rfl, by simp [xtf, *]⟩, rfl⟩
    · obtain ⟨c, hc6, hc, hn, hO⟩ := id hR
      obtain ⟨k, hk, rfl⟩ := nI_of c1
      have hkc : k < c := by
        rcases Nat.lt_or_ge k c with h | h
        · exact h
        · exact absurd (by rw [hc]; exact nI_le h hk) c9
      refine rx_aload_n hE dX10_ruleOf_12 (i := 0) rfl rfl ?_
      refine rx_getf hE dX10_ruleOf_13 fl_X10_49_9 (xa_0 hM) rfl ?_
      refine rx_iload_n hE dX10_ruleOf_16 (i := 1) rfl rfl ?_
      refine rx_aaldN hE (by decide) rfl dX10_ruleOf_17 (xa_7 hM) (by omega) (by decide) ?_
      rw [(hO k hkc).1]
      refine rx_goto (tgt := 22) hE dX10_ruleOf_18 (by decide) ?_
      exact rx_aret hE hQ (Or.inl ⟨_, rfl⟩) rfl dX10_ruleOf_22 ⟨_, rfl, Or.inr ⟨k, by omega, rfl, by unfold xtf; rw [if_neg c1, if_neg c9, nI_clamp hk], by have := (hO k hkc).2; omega⟩, rfl⟩
