/-! ===== the reference reads a junction ===== -/
def kb1 (S : gS) (T : Nat → Int32) (N q : Nat) : Prop := (S 0 1 = nI N ∧ S 1 = T) ∧ q ≤ N ∧ S 0 8 = nI q ∧ S 0 9 = 0
def kjr (R : Nat → Int32) (J : gJn) (k : Nat) : Prop := R 0 = (if k = 0 then 0 else 1) ∧ R 1 = J 9 0 ∧ R 2 = J 9 1 ∧ R 3 = J 9 2 ∧ (∀ i, i < 6 → R (54 + i) = J 1 i ∧ R (60 + i) = J 0 i ∧ R (66 + i) = J 2 i ∧ R (72 + i) = J 3 i) ∧ (∀ i, i < 12 → R (78 + i) = J 8 i) ∧ ∀ i, 4 ≤ i → i < 54 → R i = 0
def kfj (S S' : gS) : Prop := (∀ r, r ≠ 0 → r ≠ 6 → S' r = S r) ∧ ∀ i, i ≠ 8 → i ≠ 9 → i ≠ 10 → S' 0 i = S 0 i
theorem kfj.refl (S : gS) : kfj S S := ⟨fun _ _ _ => rfl, fun _ _ _ _ => rfl⟩
theorem kfj.trans {S S' S'' : gS} (h : kfj S S') (h' : kfj S' S'') : kfj S S'' := ⟨fun k a b => (h'.1 k a b).trans (h.1 k a b), fun i a b c => (h'.2 i a b c).trans (h.2 i a b c)⟩
theorem kno.j {S S' : gS} (h : kno S S') : kfj S S' := ⟨fun k a _ => h.1 k a, h.2⟩
theorem kfj.f (S : gS) {i : Nat} (hi : i = 8 ∨ i = 9 ∨ i = 10) (v : Int32) : kfj S (k_f S i v) := ⟨fun k a _ => kf_row v a, fun j a b c => kf_ne v (by omega)⟩
theorem kfj.s6 (S : gS) (v : Nat → Int32) : kfj S (k_s S 6 v) := ⟨fun j _ a => if_neg a, fun _ _ _ _ => rfl⟩
theorem kb1.mv {S : gS} {T : Nat → Int32} {N q q' : Nat} (h : kb1 S T N q) (hq : q' ≤ N) : kb1 (k_f S 8 (nI q')) T N q' := ⟨h.1, hq, rfl, h.2.2.2⟩
section KB
variable {M : gM} {S : gS} {L : gLg} {T : Nat → Int32} {N q p : Nat}
theorem c_X11_seeB (hM : 408 ≤ M.1) (hN : N ≤ 400) (hq : kb1 S T N q) : SX 0 0 0 mX11_see [.ref 384] (kp M S L) (fun v M' => v = some (.int (if sk T N q < N then T (sk T N q) &&& 255 else -1)) ∧ M' = kp M (k_f S 8 (nI (sk T N q))) L) := c_X11_see hM hN hq.1.1 hq.1.2 hq.2.1 hq.2.2.1
theorem c_X11_seeBZ (hM : 408 ≤ M.1) (hN : N ≤ 400) (hq : kb1 S T N p) (hz : sk T N p = p) : SX 0 0 0 mX11_see [.ref 384] (kp M S L) (fun v M' => v = some (.int (if p < N then T p &&& 255 else -1)) ∧ M' = kp M S L) := by
  have h := c_X11_seeB (M := M) (L := L) hM hN hq
  rw [hz, ← hq.2.2.1, k_f_id2] at h
  exact h
theorem c_X11_isWordBZ (hM : 408 ≤ M.1) (hN : N ≤ 400) (hq : kb1 S T N p) (hz : sk T N p = p) (w : Int64) : SX 1 0 0 mX11_isWord [.ref 384, .long w] (kp M S L) (fun v M' => v = some (.int (qwd T N p w)) ∧ M' = kp M S L) := by
  have h := c_X11_isWord (M := M) (L := L) hM hN hq.1.1 hq.1.2 hq.2.1 hq.2.2.1 w
  rw [hz, ← hq.2.2.1, k_f_id2] at h
  exact h
theorem c_X11_failsB (hM : 408 ≤ M.1) (h9 : S 0 9 = 0) (p w : Nat) : SX 0 0 0 mX11_fails [.ref 384, .int (nI w), .int (nI p)] (kp M S L) (fun v M' => v = some (.int 0) ∧ ∃ S', M' = kp M S' L ∧ kfj S S' ∧ S' 0 9 = fE p (nI w)) := by
  refine SX.weaken (c_X11_fails hM (nI w) (nI p)) (fun v M' h => ?_)
  obtain ⟨rfl, rfl⟩ := h
  rw [if_pos h9]
  exact ⟨rfl, _, rfl, kfj.f S (by omega) _, rfl⟩
theorem c_X11_passWordB (hM : 408 ≤ M.1) (hN : N ≤ 400) (hq : kb1 S T N q) : SX 1 0 0 mX11_passWord [.ref 384] (kp M S L) (fun v M' => v = none ∧ ∃ S', M' = kp M S' L ∧ kfj S S' ∧ S' 6 = S 6 ∧ kb1 S' T N (tru ltB T N q)) := by
  refine SX.weaken (c_X11_passWord hM hN hq.1.1 hq.1.2 hq.2.1 hq.2.2.1) (fun v M' h => ?_)
  obtain ⟨rfl, rfl⟩ := h
  exact ⟨rfl, _, rfl, kfj.f S (by omega) _, rfl, hq.mv (tru_le hq.2.1).2.1⟩
theorem c_X11_numB (hM : 408 ≤ M.1) (hN : N ≤ 400) (hq : kb1 S T N q) (lo hi : Int32) : SX 1 0 0 mX11_numberHere [.ref 384, .int lo, .int hi] (kp M S L) (fun v M' => ∃ S', M' = kp M S' L ∧ kfj S S' ∧ S' 6 = S 6 ∧ ((tno T N (sk T N q) lo hi ∧ v = some (.int 1) ∧ kb1 S' T N (te T N (sk T N q)) ∧ S' 0 10 = tv T N (sk T N q)) ∨ (¬ tno T N (sk T N q) lo hi ∧ v = some (.int 0) ∧ S' 0 9 = jnE T N (sk T N q)))) := by
  refine SX.weaken (c_X11_numberHere hM hN hq.1.1 hq.1.2 hq.2.1 hq.2.2.1 lo hi) (fun v M' h => ?_)
  obtain ⟨S', rfl, hno, hk⟩ := h
  refine ⟨S', rfl, hno.j, hno.1 6 (by decide), ?_⟩
  rcases hk with ⟨hg, rfl, e8, e9, e10⟩ | ⟨hg, rfl, e9⟩
  · exact Or.inl ⟨hg, rfl, ⟨⟨(hno.2 1 (by decide) (by decide) (by decide)).trans hq.1.1, (hno.1 1 (by decide)).trans hq.1.2⟩, (te_le (sk_le hq.2.1).2).2.1, e8, e9.trans hq.2.2.2⟩, e10⟩
  · refine Or.inr ⟨hg, rfl, e9.trans ?_⟩
    rw [hq.2.2.2, tfl_0]
    rfl
theorem c_X11_cellB (hM : 408 ≤ M.1) (hN : N ≤ 400) (hq : kb1 S T N q) {i : Nat} (hi9 : i < 90) (lo hi : Int32) : SX 2 0 0 mX11_cellHere [.ref 384, .int (nI i), .int lo, .int hi] (kp M S L) (fun v M' => ∃ S', M' = kp M S' L ∧ kfj S S' ∧ ((tno T N (sk T N q) lo hi ∧ v = some (.int 1) ∧ kb1 S' T N (te T N (sk T N q)) ∧ S' 6 = upd (S 6) i (tv T N (sk T N q))) ∨ (¬ tno T N (sk T N q) lo hi ∧ v = some (.int 0) ∧ S' 0 9 = jnE T N (sk T N q)))) := by
  refine SX.weaken (c_X11_cellHere hM hN hq.1.1 hq.1.2 hq.2.1 hq.2.2.1 hi9 lo hi) (fun v M' h => ?_)
  obtain ⟨S', hno, hk, rfl⟩ := h
  rcases hk with ⟨hg, rfl, e8, e9, e10⟩ | ⟨hg, rfl, e9⟩
  · rw [if_pos hg]
    exact ⟨_, rfl, hno.j.trans (kfj.s6 S' _), Or.inl ⟨hg, rfl, ⟨⟨(hno.2 1 (by decide) (by decide) (by decide)).trans hq.1.1, (hno.1 1 (by decide)).trans hq.1.2⟩, (te_le (sk_le hq.2.1).2).2.1, e8, e9.trans hq.2.2.2⟩, rfl⟩⟩
  · rw [if_neg hg]
    refine ⟨S', rfl, hno.j, Or.inr ⟨hg, rfl, e9.trans ?_⟩⟩
    rw [hq.2.2.2, tfl_0]
    rfl
end KB
section KJR
variable {f : Nat → Int32} {J : gJn} {k : Nat}
theorem kjr_0 (h : kjr f J 0) (a b : Int32) : kjr (upd (upd (upd f 1 a) 2 b) 0 1) (j_c (j_c J 0 a) 1 b) 1 := by
  obtain ⟨_, h1, h2, h3, h4, h5, h6⟩ := h
  refine ⟨upd_e0 _ _ _, ?_, ?_, ?_, fun i hi => ?_, fun i hi => ?_, fun i a b => ?_⟩
  · rw [upd_n0 _ _ (by decide), upd_n0 _ _ (by decide), upd_e0, jc_f (by decide), jc_e]
  · rw [upd_n0 _ _ (by decide), upd_e0, jc_e]
  · rw [upd_n0 _ _ (by decide), upd_n0 _ _ (by decide), upd_n0 _ _ (by decide), jc_f (by decide), jc_f (by decide)]; exact h3
  · have e : ∀ j, 3 ≤ j → upd (upd (upd f 1 a) 2 b) 0 1 j = f j := fun j hj => by rw [upd_n0 _ _ (by omega), upd_n0 _ _ (by omega), upd_n0 _ _ (by omega)]
    rw [e _ (by omega), e _ (by omega), e _ (by omega), e _ (by omega)]
    exact h4 i hi
  · rw [upd_n0 _ _ (by omega), upd_n0 _ _ (by omega), upd_n0 _ _ (by omega)]
    exact h5 i hi
  · rw [upd_n0 _ _ (by omega), upd_n0 _ _ (by omega), upd_n0 _ _ (by omega)]
    exact h6 i a b
theorem kjr_1 {R : Nat} (h : kjr f J k) (hk : ¬ k = 0) (hR : J 9 2 = nI R) (hR6 : R < 6) (a b c : Int32) : kjr (upd (upd (upd (upd f (60 + R) a) (54 + R) b) (66 + R) c) 3 (nI (R + 1))) (jad J a b c) (k + 1) := by
  obtain ⟨h0, h1, h2, h3, h4, h5, h6⟩ := h
  have hj : jR J = R := by unfold jR; rw [hR, nI_clamp (by omega)]
  have e : ∀ j, j ≠ 3 → j ≠ 60 + R → j ≠ 54 + R → j ≠ 66 + R → upd (upd (upd (upd f (60 + R) a) (54 + R) b) (66 + R) c) 3 (nI (R + 1)) j = f j := fun j a1 a2 a3 a4 => by rw [upd_n0 _ _ a1, upd_n0 _ _ a4, upd_n0 _ _ a3, upd_n0 _ _ a2]
  unfold jad
  rw [hj]
  refine ⟨?_, ?_, ?_, ?_, fun i hi => ⟨?_, ?_, ?_, ?_⟩, fun i hi => ?_, fun i x y => ?_⟩
  · rw [e _ (by omega) (by omega) (by omega) (by omega), h0, if_neg hk, if_neg (by omega)]
  · rw [e _ (by omega) (by omega) (by omega) (by omega), jc_f (by decide)]; exact h1
  · rw [e _ (by omega) (by omega) (by omega) (by omega), jc_f (by decide)]; exact h2
  · rw [upd_e0, jc_e]
  · rw [jc_r (by decide), js_r (by decide), js_e]
    by_cases z : i = R
    · subst z
      rw [upd_n0 _ _ (by omega), upd_n0 _ _ (by omega), upd_e0]
      exact (upd_e0 _ _ _).symm
    · rw [e _ (by omega) (by omega) (by omega) (by omega)]
      exact (h4 i hi).1.trans (upd_n0 _ _ z).symm
  · rw [jc_r (by decide), js_r (by decide), js_r (by decide), js_e]
    by_cases z : i = R
    · subst z
      rw [upd_n0 _ _ (by omega), upd_n0 _ _ (by omega), upd_n0 _ _ (by omega), upd_e0]
      exact (upd_e0 _ _ _).symm
    · rw [e _ (by omega) (by omega) (by omega) (by omega)]
      exact (h4 i hi).2.1.trans (upd_n0 _ _ z).symm
  · rw [jc_r (by decide), js_e]
    by_cases z : i = R
    · subst z
      rw [upd_n0 _ _ (by omega), upd_e0]
      exact (upd_e0 _ _ _).symm
    · rw [e _ (by omega) (by omega) (by omega) (by omega)]
      exact (h4 i hi).2.2.1.trans (upd_n0 _ _ z).symm
  · rw [e _ (by omega) (by omega) (by omega) (by omega)]
    exact (h4 i hi).2.2.2
  · rw [e _ (by omega) (by omega) (by omega) (by omega)]
    exact h5 i hi
  · rw [e _ (by omega) (by omega) (by omega) (by omega)]
    exact h6 i x y
theorem kjr_2 (h : kjr f J k) (hk : ¬ k = 0) {x y : Nat} (hx : x < 6) (hy : y < 6) : kjr (jor (jor f (72 + x) (nI y)) (72 + y) (nI x)) (jcs J (nI x) (nI y)) (k + 1) := by
  obtain ⟨h0, h1, h2, h3, h4, h5, h6⟩ := h
  have e : ∀ j, j ≠ 72 + x → j ≠ 72 + y → jor (jor f (72 + x) (nI y)) (72 + y) (nI x) j = f j := fun j a b => by unfold jor; rw [upd_n0 _ _ b, upd_n0 _ _ a]
  unfold jcs
  rw [nI_clamp (show x < 2 ^ 31 by omega), nI_clamp (show y < 2 ^ 31 by omega)]
  refine ⟨?_, ?_, ?_, ?_, fun i hi => ⟨?_, ?_, ?_, ?_⟩, fun i hi => ?_, fun i a b => ?_⟩
  · rw [e _ (by omega) (by omega), h0, if_neg hk, if_neg (by omega)]
  · rw [e _ (by omega) (by omega)]; exact h1
  · rw [e _ (by omega) (by omega)]; exact h2
  · rw [e _ (by omega) (by omega)]; exact h3
  · rw [e _ (by omega) (by omega)]; exact (h4 i hi).1
  · rw [e _ (by omega) (by omega)]; exact (h4 i hi).2.1
  · rw [e _ (by omega) (by omega)]; exact (h4 i hi).2.2.1
  · rw [js_e]
    have h1' : ∀ i, i < 6 → jor f (72 + x) (nI y) (72 + i) = jor (J 3) x (nI y) i := fun i hi => by
      unfold jor
      by_cases z : i = x
      · subst z
        rw [upd_e0, upd_e0, (h4 i hi).2.2.2]
      · rw [upd_n0 _ _ (by omega), upd_n0 _ _ z, (h4 i hi).2.2.2]
    show upd (jor f (72 + x) (nI y)) (72 + y) _ (72 + i) = upd (jor (J 3) x (nI y)) y _ i
    by_cases z : i = y
    · subst z
      rw [upd_e0, upd_e0, h1' i hi]
    · rw [upd_n0 _ _ (by omega), upd_n0 _ _ z, h1' i hi]
  · rw [e _ (by omega) (by omega)]; exact h5 i hi
  · rw [e _ (by omega) (by omega)]; exact h6 i a b
theorem kjr_3 (h : kjr f J k) (hk : ¬ k = 0) {b r : Nat} (hb : b < 12) : kjr (jor f (78 + b) (nI r)) (jsc J (nI b) (nI r)) (k + 1) := by
  obtain ⟨h0, h1, h2, h3, h4, h5, h6⟩ := h
  have e : ∀ j, j ≠ 78 + b → jor f (78 + b) (nI r) j = f j := fun j a => by unfold jor; rw [upd_n0 _ _ a]
  unfold jsc
  rw [nI_clamp (show b < 2 ^ 31 by omega)]
  refine ⟨?_, ?_, ?_, ?_, fun i hi => ⟨?_, ?_, ?_, ?_⟩, fun i hi => ?_, fun i x y => ?_⟩
  · rw [e _ (by omega), h0, if_neg hk, if_neg (by omega)]
  · rw [e _ (by omega)]; exact h1
  · rw [e _ (by omega)]; exact h2
  · rw [e _ (by omega)]; exact h3
  · rw [e _ (by omega)]; exact (h4 i hi).1
  · rw [e _ (by omega)]; exact (h4 i hi).2.1
  · rw [e _ (by omega)]; exact (h4 i hi).2.2.1
  · rw [e _ (by omega)]; exact (h4 i hi).2.2.2
  · rw [js_e]
    unfold jor
    by_cases z : i = b
    · subst z
      rw [upd_e0, upd_e0, h5 i hi]
    · rw [upd_n0 _ _ (by omega), upd_n0 _ _ z, h5 i hi]
  · rw [e _ (by omega)]; exact h6 i x y
end KJR
