/-! ===== a beat of the reference, by the score or by the rule in force ===== -/
def kT (S : gS) (t : gJn → Nat → Int32 → Bool) : Prop := (S 0 21 < 0 ∧ t = jt0) ∨ ∃ (i : Nat) (cl : List gCl), i < 6 ∧ S 0 21 = nI i ∧ krel S i cl ∧ ∀ J, jok J → jls J → jset t J = jset (ktT cl) J
theorem kprog_eq {S S' : gS} (h2 : S' 2 = S 2) {i b : Nat} {p : List (Nat × Nat)} (h : kprog S i b p) : kprog S' i b p := by
  unfold kprog at h ⊢
  rw [h2]
  exact h
theorem krel_eq {S S' : gS} (h2 : S' 2 = S 2) (h4 : S' 4 = S 4) (h5 : S' 5 = S 5) {i : Nat} {cl : List gCl} (h : krel S i cl) : krel S' i cl := by
  unfold krel kcl kprog at h ⊢
  rw [h2, h4, h5]
  exact h
theorem kT_eq {S S' : gS} (h2 : S' 2 = S 2) (h4 : S' 4 = S 4) (h5 : S' 5 = S 5) (h0 : S' 0 21 = S 0 21) {t : gJn → Nat → Int32 → Bool} (h : kT S t) : kT S' t := by
  rcases h with ⟨a, b⟩ | ⟨i, cl, a, b, c, d⟩
  · exact Or.inl ⟨by rw [h0]; exact a, b⟩
  · exact Or.inr ⟨i, cl, a, by rw [h0]; exact b, krel_eq h2 h4 h5 c, d⟩
theorem kgsF_lt (J : gJn) : ∀ (n k m : Nat), m < 64 → k + n ≤ 6 → ∃ m', m' < 64 ∧ kgsF J k n (nI m) = nI m'
  | 0, _, m, hm, _ => ⟨m, hm, rfl⟩
  | n + 1, k, m, hm, hk => by
    show ∃ m', m' < 64 ∧ kgsF J (k + 1) n (nI m ||| (if J 7 k ≤ 0 then 0 else (1 : Int32) <<< (nI k &&& 31))) = nI m'
    split
    · rw [k_or0 m hm]
      exact kgsF_lt J n (k + 1) m hm (by omega)
    · rw [(k_or m hm k (by omega)).1]
      exact kgsF_lt J n (k + 1) _ (k_or m hm k (by omega)).2 (by omega)
theorem jset_lt (t : gJn → Nat → Int32 → Bool) {J : gJn} (h : jok J) : ∃ m, m < 64 ∧ jset t J = nI m := jobF_lt _ _ (jR J) 0 0 (by decide) (by have := h.2.1; omega)
theorem kps_one (t : gJn → Nat → Int32 → Bool) {J : gJn} (h : jok J) : kps (jP J) (jR J) (jset t J) (jarF 0 (jR J) J) = jone t J := by
  unfold jone
  refine kps_go _ _ _ _ ?_
  obtain ⟨m, hm, e⟩ := kgsF_lt (kaF (jset t J) 0 (jR J) (jarF 0 (jR J) J)) (jR J) 0 0 (by decide) (by have := h.2.1; omega)
  rw [show (0 : Int32) = nI 0 from rfl, e]
  exact kso_jso _ hm h.2.1
def kIp (S : gS) (L : gLg) (S' : gS) (L' : gLg) : Prop := ∃ tp : Int32, S' = k_f S 18 tp ∧ L' 0 = L 0
theorem kIp.refl (S : gS) (L : gLg) : kIp S L S L := ⟨S 0 18, (kf_id S 18).symm, rfl⟩
theorem kIp.trans {S S' S'' : gS} {L L' L'' : gLg} (h : kIp S L S' L') (h' : kIp S' L' S'' L'') : kIp S L S'' L'' := by
  obtain ⟨a, e1, e2⟩ := h
  obtain ⟨b, e3, e4⟩ := h'
  exact ⟨b, by rw [e3, e1, k_ff], by rw [e4, e2]⟩
theorem jok.bobk {S : gS} {J : gJn} (h : jok J) (h1 : S 10 0 = 1) : k_bob S J = nI (jQ J) := by
  rw [← h.bob]
  unfold k_bob j_bob
  rw [if_pos h1, if_neg h.nB]
theorem jarF_QP (n k : Nat) (J : gJn) : jQ (jarF k n J) = jQ J ∧ jP (jarF k n J) = jP J := by
  unfold jQ jP jT jB
  rw [jarF_f (by decide), jarF_f (by decide)]
  exact ⟨rfl, rfl⟩
set_option maxRecDepth 100000 in
theorem c_X11_pass {M : gM} {S : gS} {L : gLg} {J : gJn} (hM : 408 ≤ M.1) {t : gJn → Nat → Int32 → Bool} (h1 : S 10 0 = 1) (hpl : S 0 24 < 0) (hT : kT S t) (hj : jfit J) : SX 6 0 0 mX11_passes [.ref 384] (kp M (kput S J) L) (fun v M' => v = some (.int (jset t J)) ∧ ∃ (S' : gS) (L' : gLg), M' = kp M (kput S' (jone t J)) L' ∧ kIp S L S' L') := by
  obtain ⟨m, hm, em⟩ := jset_lt t hj.1
  have hlet : SX 5 0 0 mX11_letIn [.ref 384] (kp M (kput S (jarF 0 (jR J) J)) L) (fun v M' => v = some (.int (nI m)) ∧ ∃ (S' : gS) (L' : gLg), M' = kp M (kput S' (jarF 0 (jR J) J)) L' ∧ kIp S L S' L') := by
    have ha := hj.1.arr (jR J) 0
    have hq := jarF_QP (jR J) 0 J
    have hR : (jarF 0 (jR J) J) 9 2 = nI (jR J) := by rw [jarF_f (by decide)]; exact hj.1.1
    have hB : ¬ (jarF 0 (jR J) J) 9 0 = 0 := fun q => ha.nB (by rw [q]; decide)
    rcases hT with ⟨hF, rfl⟩ | ⟨i, cl, hi, hF, hrel, hs⟩
    · refine SX.weaken (c_X11_letIn0 hM hpl h1 hR hj.1.2.1 ha.2.2.1 hB (ha.bobk h1) ha.q12 hF) (fun v M' h => ?_)
      obtain ⟨rfl, rfl⟩ := h
      exact ⟨congrArg (fun x => some (Value.int x)) em, S, L, rfl, kIp.refl S L⟩
    · refine SX.weaken (c_X11_letIn1 hM cl hpl h1 hR hj.1.2.1 ha.2.2.1 hB (ha.bobk h1) ha.q12 hF hi hrel) (fun v M' h => ?_)
      obtain ⟨rfl, tp, g8, g9, rfl⟩ := h
      refine ⟨congrArg (fun x => some (Value.int x)) ?_, _, _, rfl, tp, rfl, rfl⟩
      rw [← em, hs J hj.1 hj.ls]
      unfold jset
      congr 1
      unfold ktT
      rw [jarF_R]
  refine SX.weaken (c_X11_passes hM hj.1.1 hj.1.2.1 hj.1.2.2.1 hj.ev hlet) (fun v M' h => ?_)
  obtain ⟨rfl, S', L', rfl, hI⟩ := h
  refine ⟨congrArg (fun x => some (Value.int x)) em.symm, S', L', ?_, hI⟩
  rw [← em, kps_one t hj.1]
