/-! ===== what went last is of no matter to a beat ===== -/
theorem jarF_s7 (g : Nat → Int32) : ∀ (n k : Nat) (J : gJn), jarF k n (j_s J 7 g) = j_s (jarF k n J) 7 g
  | 0, _, _ => rfl
  | n + 1, k, J => by
    show jarF (k + 1) n (jarS k (j_s J 7 g)) = j_s (jarF (k + 1) n (jarS k J)) 7 g
    rw [← jarF_s7 g n (k + 1)]
    congr 1
    show (if nI k = J 9 5 then j_s J 7 g else if J 1 k ≤ 0 then j_s J 7 g else if J 9 3 - J 9 3 / J 1 k * J 1 k = 0 then j_addw (j_s J 7 g) k 1 else j_s J 7 g) = j_s (if nI k = J 9 5 then J else if J 1 k ≤ 0 then J else if J 9 3 - J 9 3 / J 1 k * J 1 k = 0 then j_addw J k 1 else J) 7 g
    split
    · rfl
    · split
      · rfl
      · split
        · funext f
          unfold j_addw j_s
          by_cases h : f = 0
          · subst h; rfl
          · by_cases h7 : f = 7
            · subst h7; rfl
            · simp only [h, h7, if_false]
        · rfl
theorem jobF_J {J J' : gJn} (h : J 3 = J' 3) (t : Nat → Int32 → Bool) : ∀ (n k : Nat) (s : Int32), jobF J t k n s = jobF J' t k n s
  | 0, _, _ => rfl
  | n + 1, k, s => by
    show jobF J t (k + 1) n (if J 3 k &&& s = 0 then _ else s) = jobF J' t (k + 1) n (if J' 3 k &&& s = 0 then _ else s)
    rw [h]
    exact jobF_J h t n (k + 1) _
theorem kT.s7 {S : gS} {t : gJn → Nat → Int32 → Bool} (h : kT S t) {J : gJn} (hj : jok J) (hl : jls J) (g : Nat → Int32) : jset t (j_s J 7 g) = jset t J := by
  rcases h with ⟨_, rfl⟩ | ⟨_, cl, _, _, _, hs⟩
  · show jobF (jarF 0 (jR J) (j_s J 7 g)) (jt0 (jarF 0 (jR J) (j_s J 7 g))) 0 (jR J) 0 = jobF (jarF 0 (jR J) J) (jt0 (jarF 0 (jR J) J)) 0 (jR J) 0
    rw [jarF_s7]
    exact jobF_J (J := j_s (jarF 0 (jR J) J) 7 g) (J' := jarF 0 (jR J) J) rfl (jt0 (jarF 0 (jR J) J)) _ _ _
  · rw [hs J hj hl, hs (j_s J 7 g) hj hl]
    show jobF (jarF 0 (jR J) (j_s J 7 g)) (ktT cl (jarF 0 (jR J) (j_s J 7 g))) 0 (jR J) 0 = jobF (jarF 0 (jR J) J) (ktT cl (jarF 0 (jR J) J)) 0 (jR J) 0
    rw [jarF_s7]
    exact jobF_J (J := j_s (jarF 0 (jR J) J) 7 g) (J' := jarF 0 (jR J) J) rfl (ktT cl (jarF 0 (jR J) J)) _ _ _
theorem kaS_s7 (s : Int32) (k : Nat) (J : gJn) (g : Nat → Int32) : kaS s k (j_s J 7 g) = j_s (kaS s k J) 7 (upd g k (kaS s k J 7 k)) := by
  unfold kaS
  split
  · have e : (j_s (j_s (j_leave J k) 7 (upd (J 7) k (j_many J k))) 6 (upd (J 6) k (J 9 3))) 7 k = j_many J k := upd_eq
    rw [e]
    funext f
    unfold j_leave j_s
    by_cases h7 : f = 7
    · subst h7; rfl
    · by_cases h6 : f = 6
      · subst h6; rfl
      · by_cases h4 : f = 4
        · subst h4; rfl
        · by_cases h0 : f = 0
          · subst h0; rfl
          · simp only [h0, h4, h6, h7, if_false]
  · have e : (j_s J 7 (upd (J 7) k 0)) 7 k = 0 := upd_eq
    rw [e]
    funext f
    unfold j_s
    by_cases h7 : f = 7
    · subst h7; rfl
    · simp only [h7, if_false]
theorem kaF_s7 (s : Int32) : ∀ (n k : Nat) (J : gJn) (g : Nat → Int32), ∃ g', kaF s k n (j_s J 7 g) = j_s (kaF s k n J) 7 g' ∧ ∀ i, k ≤ i → i < k + n → g' i = kaF s k n J 7 i
  | 0, k, J, g => ⟨g, rfl, fun i h1 h2 => by omega⟩
  | n + 1, k, J, g => by
    obtain ⟨g', e, h⟩ := kaF_s7 s n (k + 1) (kaS s k J) (upd g k (kaS s k J 7 k))
    refine ⟨g', ?_, fun i h1 h2 => ?_⟩
    · show kaF s (k + 1) n (kaS s k (j_s J 7 g)) = _
      rw [kaS_s7, e]
      rfl
    · by_cases hi : i = k
      · subst hi
        show g' i = kaF s (i + 1) n (kaS s i J) 7 i
        have e2 : kaF s (i + 1) n (j_s (kaS s i J) 7 (upd g i (kaS s i J 7 i))) 7 i = g' i := by rw [e]; rfl
        rw [← e2, kaF_7 s n (i + 1) _ (by omega), kaF_7 s n (i + 1) _ (by omega)]
        exact upd_eq
      · exact h i (by omega) (by omega)
theorem kbF_s7 (g : Nat → Int32) : ∀ (n k : Nat) (J : gJn), kbF k n (j_s J 7 g) = j_s (kbF k n J) 7 g
  | 0, _, _ => rfl
  | n + 1, k, J => by
    show kbF (k + 1) n (jgt2 k (j_s J 7 g)) = j_s (kbF (k + 1) n (jgt2 k J)) 7 g
    rw [← kbF_s7 g n (k + 1)]
    congr 1
    funext f
    unfold jgt2 j_s
    by_cases h5 : f = 5
    · subst h5; rfl
    · by_cases h7 : f = 7
      · subst h7; rfl
      · simp only [h5, h7, if_false]
theorem j_c_s7 (J : gJn) (g : Nat → Int32) (c : Nat) (v : Int32) : j_c (j_s J 7 g) c v = j_s (j_c J c v) 7 g := by
  funext f
  unfold j_c j_s
  by_cases h9 : f = 9
  · subst h9; rfl
  · by_cases h7 : f = 7
    · subst h7; rfl
    · simp only [h9, h7, if_false]
theorem j_s_s7 (J : gJn) (g : Nat → Int32) {c : Nat} (hc : c ≠ 7) (v : Nat → Int32) : j_s (j_s J 7 g) c v = j_s (j_s J c v) 7 g := by
  funext f
  unfold j_s
  by_cases h : f = c
  · rw [if_pos h, if_neg (by omega), if_pos h]
  · rw [if_neg h]
    by_cases h7 : f = 7
    · rw [if_pos h7, if_pos h7]
    · rw [if_neg h7, if_neg h7, if_neg h]
theorem j_ss (J : gJn) (c : Nat) (v v' : Nat → Int32) : j_s (j_s J c v) c v' = j_s J c v' := by
  funext f
  unfold j_s
  split <;> rfl
theorem jone_s7 {t : gJn → Nat → Int32 → Bool} {J : gJn} (g : Nat → Int32) (ht : jset t (j_s J 7 g) = jset t J) : ∃ g', jone t (j_s J 7 g) = j_s (jone t J) 7 g' ∧ ∀ i, i < jR J → g' i = jone t J 7 i := by
  obtain ⟨g', e, h⟩ := kaF_s7 (jset t J) (jR J) 0 (jarF 0 (jR J) J) g
  refine ⟨g', ?_, fun i hi => by rw [jone_7]; exact h i (by omega) (by omega)⟩
  unfold jone
  rw [ht]
  show j_end (jP J) (jR J) (jgtF (jset t J) 0 (jR J) (jarF 0 (jR J) (j_s J 7 g)) 0) = j_s (j_end (jP J) (jR J) (jgtF (jset t J) 0 (jR J) (jarF 0 (jR J) J) 0)) 7 g'
  rw [jarF_s7]
  have e2 : (jgtF (jset t J) 0 (jR J) (j_s (jarF 0 (jR J) J) 7 g) 0).2 = (jgtF (jset t J) 0 (jR J) (jarF 0 (jR J) J) 0).2 := by
    rw [jgtF_snd (jset t J) (jR J) 0 _ (kaF (jset t J) 0 (jR J) (jarF 0 (jR J) J)) 0 (fun i h1 h2 => by rw [e]; exact (h i h1 h2).symm), jgtF_snd (jset t J) (jR J) 0 _ (kaF (jset t J) 0 (jR J) (jarF 0 (jR J) J)) 0 (fun i h1 h2 => rfl)]
  have e1 : (jgtF (jset t J) 0 (jR J) (j_s (jarF 0 (jR J) J) 7 g) 0).1 = j_s (jgtF (jset t J) 0 (jR J) (jarF 0 (jR J) J) 0).1 7 g' := by
    rw [jgtF_fst, jgtF_fst, e, kbF_s7]
  unfold j_end
  rw [e2, e1, ← j_c_s7, ← j_c_s7]
  rfl
theorem c_X11_passg {M : gM} {S : gS} {L : gLg} {J : gJn} {g : Nat → Int32} (hM : 408 ≤ M.1) {t : gJn → Nat → Int32 → Bool} (h1 : S 10 0 = 1) (hpl : S 0 24 < 0) (hT : kT S t) (hj : jfit J) : SX 6 0 0 mX11_passes [.ref 384] (kp M (kput S (j_s J 7 g)) L) (fun v M' => v = some (.int (jset t J)) ∧ ∃ (S' : gS) (L' : gLg) (g' : Nat → Int32), M' = kp M (kput S' (j_s (jone t J) 7 g')) L' ∧ kIp S L S' L' ∧ ∀ i, i < jR J → g' i = jone t J 7 i) := by
  have e := hT.s7 hj.1 hj.ls g
  refine SX.weaken (c_X11_pass (J := j_s J 7 g) hM h1 hpl hT hj) (fun v M' h => ?_)
  obtain ⟨rfl, S', L', rfl, hI⟩ := h
  obtain ⟨g', e2, h2⟩ := jone_s7 g e
  exact ⟨by rw [e], S', L', g', by rw [e2], hI, h2⟩
