/-! ===== rows of signs that are typed: true is a truth, false a number ===== -/
def kty : List (Nat × Nat) → List Bool → Option (List Bool)
  | [], ts => some ts
  | q :: p, ts => if q.1 ≤ 1 then (if q.2 < 100000 ∧ (q.1 = 1 → q.2 < 12) ∧ ts.length < 30 then kty p (false :: ts) else none)
    else if ¬ (q.2 = 0 ∧ q.1 < 15) then none
    else if q.1 = 11 then (match ts with
      | true :: t => kty p (true :: t)
      | _ => none)
    else if q.1 = 12 ∨ q.1 = 13 then (match ts with
      | true :: true :: t => kty p (true :: t)
      | _ => none)
    else (match ts with
      | false :: false :: t => kty p (decide (6 ≤ q.1 ∧ q.1 ≤ 10) :: t)
      | _ => none)
def vty : List Int64 → List Bool → Prop
  | [], [] => True
  | x :: st, b :: ts => (b = true → x = 0 ∨ x = 1) ∧ vty st ts
  | _, _ => False
theorem vty_len : ∀ {st : List Int64} {ts : List Bool}, vty st ts → st.length = ts.length
  | [], [], _ => rfl
  | _ :: _, _ :: _, h => congrArg (· + 1) (vty_len h.2)
theorem kty_app : ∀ (p q : List (Nat × Nat)) (ts ts' : List Bool), kty p ts = some ts' → kty (p ++ q) ts = kty q ts'
  | [], _, _, _, h => by
    injection h with h
    subst h
    rfl
  | x :: p, q, ts, ts', h => by
    simp only [kty, List.cons_append] at h ⊢
    by_cases c0 : x.1 ≤ 1
    · rw [if_pos c0] at h ⊢
      by_cases c : x.2 < 100000 ∧ (x.1 = 1 → x.2 < 12) ∧ ts.length < 30
      · rw [if_pos c] at h ⊢
        exact kty_app p q _ _ h
      · rw [if_neg c] at h
        exact absurd h (by simp)
    · rw [if_neg c0] at h ⊢
      by_cases c1 : ¬ (x.2 = 0 ∧ x.1 < 15)
      · rw [if_pos c1] at h
        exact absurd h (by simp)
      · rw [if_neg c1] at h ⊢
        by_cases c2 : x.1 = 11
        · rw [if_pos c2] at h ⊢
          split at h
          · exact kty_app p q _ _ h
          · exact absurd h (by simp)
        · rw [if_neg c2] at h ⊢
          by_cases c3 : x.1 = 12 ∨ x.1 = 13
          · rw [if_pos c3] at h ⊢
            split at h
            · exact kty_app p q _ _ h
            · exact absurd h (by simp)
          · rw [if_neg c3] at h ⊢
            split at h
            · exact kty_app p q _ _ h
            · exact absurd h (by simp)
theorem kty_wf : ∀ (p : List (Nat × Nat)) (ts ts' : List Bool), kty p ts = some ts' → kwf p ts.length
  | [], _, _, _ => trivial
  | x :: p, ts, ts', h => by
    simp only [kty] at h
    by_cases c0 : x.1 ≤ 1
    · rw [if_pos c0] at h
      by_cases c : x.2 < 100000 ∧ (x.1 = 1 → x.2 < 12) ∧ ts.length < 30
      · rw [if_pos c] at h
        refine ⟨c.1, by omega, ?_⟩
        rw [if_pos c0]
        exact ⟨c.2.1, by omega, kty_wf p _ _ h⟩
      · rw [if_neg c] at h
        exact absurd h (by simp)
    · rw [if_neg c0] at h
      by_cases c1 : ¬ (x.2 = 0 ∧ x.1 < 15)
      · rw [if_pos c1] at h
        exact absurd h (by simp)
      · rw [if_neg c1] at h
        have c1' : x.2 = 0 ∧ x.1 < 15 := Decidable.not_not.mp c1
        refine ⟨by omega, c1'.2, ?_⟩
        rw [if_neg c0]
        by_cases c2 : x.1 = 11
        · rw [if_pos c2] at h ⊢
          split at h
          · exact ⟨by simp, kty_wf p _ _ h⟩
          · exact absurd h (by simp)
        · rw [if_neg c2] at h ⊢
          by_cases c3 : x.1 = 12 ∨ x.1 = 13
          · rw [if_pos c3] at h
            split at h
            · exact ⟨by simp, kty_wf p _ _ h⟩
            · exact absurd h (by simp)
          · rw [if_neg c3] at h
            split at h
            · exact ⟨by simp, kty_wf p (_ :: _) _ h⟩
            · exact absurd h (by simp)
def cenc (q : Nat × Nat) : Int32 := if q.1 = 0 then nI q.2 else if q.1 = 1 then -2 - nI q.2 else if q.1 = 11 then -32 else csig q.1
theorem cenc_0 : ∀ (q : Nat × Nat), q.1 = 0 → q.2 < 100000 → ¬ cenc q ≤ -20 ∧ ¬ cenc q < 0 ∧ cenc q = nI q.2 := by
  intro q h h2
  have e : cenc q = nI q.2 := if_pos h
  rw [e]
  have hn : (nI q.2).toInt = q.2 := nI_toInt (by omega)
  refine ⟨fun c => ?_, fun c => ?_, rfl⟩
  · have := Int32.le_iff_toInt_le.mp c
    rw [hn] at this
    have e2 : (-20 : Int32).toInt = -20 := by decide
    omega
  · have := Int32.lt_iff_toInt_lt.mp c
    rw [hn] at this
    have e2 : (0 : Int32).toInt = 0 := by decide
    omega
theorem cenc_1 : ∀ v, v < 12 → ¬ (-2 - nI v : Int32) ≤ -20 ∧ (-2 - nI v : Int32) < 0 ∧ -2 - (-2 - nI v : Int32) = nI v := by decide
theorem cenc_s : ∀ s, s < 15 → 1 < s → s ≠ 11 → csig s ≤ -20 ∧ csig s ≠ -32 ∧ csig s ≠ -33 ∧ csig s ≠ -34 := by decide
theorem j_tb01 (c : Prop) [Decidable c] : j_tb c = 0 ∨ j_tb c = 1 := by
  unfold j_tb
  split
  · exact Or.inr rfl
  · exact Or.inl rfl
theorem csig_tb (s : Nat) (h : 6 ≤ s ∧ s ≤ 10) (x y : Int64) : j_join (csig s) x y = 0 ∨ j_join (csig s) x y = 1 := by
  rcases (show s = 6 ∨ s = 7 ∨ s = 8 ∨ s = 9 ∨ s = 10 by omega) with rfl | rfl | rfl | rfl | rfl
  · show j_join (-25) x y = 0 ∨ _
    exact j_tb01 _
  · show j_join (-26) x y = 0 ∨ _
    exact j_tb01 _
  · show j_join (-27) x y = 0 ∨ _
    exact j_tb01 _
  · show j_join (-28) x y = 0 ∨ _
    exact j_tb01 _
  · show j_join (-29) x y = 0 ∨ _
    exact j_tb01 _
theorem csig_ao (s : Nat) (h : s = 12 ∨ s = 13) {x y : Int64} (hx : x = 0 ∨ x = 1) (hy : y = 0 ∨ y = 1) : j_join (csig s) x y = 0 ∨ j_join (csig s) x y = 1 := by
  rcases h with rfl | rfl <;> rcases hx with rfl | rfl <;> rcases hy with rfl | rfl <;> decide
set_option maxRecDepth 20000 in
/-- a typed row reckoned on both sides -/
theorem jsf_run (f : Nat → Int32) (wd : Nat → Int64) (wdc : Int32 → Int64) (hw : ∀ i, i < 12 → wdc (nI i) = wd i) (b : List Int64) (hb : b.length ≤ 1) (m : Nat) : ∀ (p : List (Nat × Nat)) (ts ts' : List Bool) (st : List Int64) (k : Nat) (op : Nat → Int64), kty p ts = some ts' → vty st ts → kst op (st ++ b) → (∀ j x, p[j]? = some x → f (k + j) = cenc x) → ∃ st' op', kev wd p st = some st' ∧ vty st' ts' ∧ kst op' (st' ++ b) ∧ jsfF f wdc k (p.length + m) (st ++ b).length op = jsfF f wdc (k + p.length) m (st' ++ b).length op'
  | [], ts, ts', st, k, op, h, hv, hk, hf => by
    injection h with h
    subst h
    refine ⟨st, op, rfl, hv, hk, ?_⟩
    rw [List.length_nil, Nat.zero_add, Nat.add_zero]
  | q :: p, ts, ts', st, k, op, h, hv, hk, hf => by
    have hl := vty_len hv
    have hf0 : f k = cenc q := hf 0 q rfl
    have hf' : ∀ j x, p[j]? = some x → f (k + 1 + j) = cenc x := fun j x hj => by
      have := hf (j + 1) x (by simpa using hj)
      rw [show k + 1 + j = k + (j + 1) by omega]
      exact this
    have go : ∀ (ts1 : List Bool) (st1 : List Int64) (op1 : Nat → Int64), kty p ts1 = some ts' → vty st1 ts1 → kst op1 (st1 ++ b) → kev wd (q :: p) st = kev wd p st1 → jsfF f wdc k ((q :: p).length + m) (st ++ b).length op = jsfF f wdc (k + 1) (p.length + m) (st1 ++ b).length op1 → ∃ st' op', kev wd (q :: p) st = some st' ∧ vty st' ts' ∧ kst op' (st' ++ b) ∧ jsfF f wdc k ((q :: p).length + m) (st ++ b).length op = jsfF f wdc (k + (q :: p).length) m (st' ++ b).length op' := by
      intro ts1 st1 op1 h1 h2 h3 h4 h5
      obtain ⟨st', op', e1, e2, e3, e4⟩ := jsf_run f wd wdc hw b hb m p ts1 ts' st1 (k + 1) op1 h1 h2 h3 hf'
      refine ⟨st', op', h4.trans e1, e2, e3, h5.trans (e4.trans ?_)⟩
      rw [show k + (q :: p).length = k + 1 + p.length by rw [List.length_cons]; omega]
    have hlen : (q :: p).length + m = (p.length + m) + 1 := by rw [List.length_cons]; omega
    rw [hlen] at go ⊢
    simp only [kty] at h
    by_cases c0 : q.1 ≤ 1
    · rw [if_pos c0] at h
      by_cases c : q.2 < 100000 ∧ (q.1 = 1 → q.2 < 12) ∧ ts.length < 30
      · rw [if_pos c] at h
        have htop : (st ++ b).length < 32 := by rw [List.length_append]; omega
        by_cases c1 : q.1 = 0
        · obtain ⟨a1, a2, a3⟩ := cenc_0 q c1 c.1
          refine go (false :: ts) ((nI q.2).toInt64 :: st) (vp_updL op (st ++ b).length (nI q.2).toInt64) h ⟨fun hx => absurd hx (by decide), hv⟩ (kst_push hk) ?_ ?_
          · simp only [kev, if_pos c1]
          · simp only [jsfF]
            rw [hf0, if_neg a1, if_pos htop, if_neg a2, a3]
            rfl
        · have c2 : q.1 = 1 := by omega
          obtain ⟨a1, a2, a3⟩ := cenc_1 q.2 (c.2.1 c2)
          have e : cenc q = -2 - nI q.2 := by unfold cenc; rw [if_neg c1, if_pos c2]
          refine go (false :: ts) (wd q.2 :: st) (vp_updL op (st ++ b).length (wd q.2)) h ⟨fun hx => absurd hx (by decide), hv⟩ (kst_push hk) ?_ ?_
          · simp only [kev, if_neg c1, if_pos c2]
          · simp only [jsfF]
            rw [hf0, e, if_neg a1, if_pos htop, if_pos a2, a3, hw q.2 (c.2.1 c2)]
            rfl
      · rw [if_neg c] at h
        exact absurd h (by simp)
    · rw [if_neg c0] at h
      by_cases c1 : ¬ (q.2 = 0 ∧ q.1 < 15)
      · rw [if_pos c1] at h
        exact absurd h (by simp)
      · rw [if_neg c1] at h
        have c1' : q.2 = 0 ∧ q.1 < 15 := Decidable.not_not.mp c1
        by_cases c2 : q.1 = 11
        · rw [if_pos c2] at h
          split at h
          · next t =>
            cases st with
            | nil => exact absurd hl (by simp)
            | cons x st =>
              have e : cenc q = -32 := by unfold cenc; rw [if_neg (by omega), if_neg (by omega), if_pos c2]
              have hx := hv.1 rfl
              refine go (true :: t) ((1 - x) :: st) (vp_updL op (st ++ b).length (1 - x)) h ⟨fun _ => by rcases hx with rfl | rfl <;> decide, hv.2⟩ (kst_push (kst_tail hk)) ?_ ?_
              · simp only [kev, if_neg (show ¬ q.1 = 0 by omega), if_neg (show ¬ q.1 = 1 by omega), if_pos c2]
              · simp only [jsfF]
                have ht : op (st ++ b).length = x := kst_top hk
                rw [hf0, e, if_pos (by decide), if_pos ⟨rfl, by simp⟩]
                rw [show (x :: st ++ b).length - 1 = (st ++ b).length by simp, ht]
                rw [show (if x = 0 then (1 : Int64) else 0) = 1 - x by rcases hx with rfl | rfl <;> decide]
                rfl
          · exact absurd h (by simp)
        · rw [if_neg c2] at h
          have e : cenc q = csig q.1 := by unfold cenc; rw [if_neg (by omega), if_neg (by omega), if_neg c2]
          obtain ⟨s1, s2, s3, s4⟩ := cenc_s q.1 c1'.2 (by omega) c2
          have bin : ∀ (x y : Int64) (st0 : List Int64) (bt : Bool) (t : List Bool), st = y :: x :: st0 → kty p (bt :: t) = some ts' → (bt = true → j_join (csig q.1) x y = 0 ∨ j_join (csig q.1) x y = 1) → vty st0 t → ∃ st' op', kev wd (q :: p) st = some st' ∧ vty st' ts' ∧ kst op' (st' ++ b) ∧ jsfF f wdc k (p.length + m + 1) (st ++ b).length op = jsfF f wdc (k + (q :: p).length) m (st' ++ b).length op' := by
            intro x y st0 bt t hst hty hbt hv0
            subst hst
            refine go (bt :: t) (j_join (csig q.1) x y :: st0) (vp_updL op (st0 ++ b).length (j_join (csig q.1) x y)) hty ⟨hbt, hv0⟩ (kst_push (kst_tail (kst_tail hk))) ?_ ?_
            · simp only [kev, if_neg (show ¬ q.1 = 0 by omega), if_neg (show ¬ q.1 = 1 by omega), if_neg c2]
            · have ht : op (x :: st0 ++ b).length = y := kst_top hk
              have ht2 : op (st0 ++ b).length = x := kst_top (kst_tail hk)
              simp only [jsfF]
              rw [hf0, e, if_pos s1, if_neg (fun z => s2 z.1), if_neg (fun z => s3 z.1), if_neg (fun z => s4 z.1), if_pos (by simp)]
              rw [show (y :: x :: st0 ++ b).length - 1 = (x :: st0 ++ b).length by simp, show (y :: x :: st0 ++ b).length - 2 = (st0 ++ b).length by simp, ht, ht2]
              rfl
          by_cases c3 : q.1 = 12 ∨ q.1 = 13
          · rw [if_pos c3] at h
            split at h
            · next t =>
              match st, hl, hv with
              | y :: x :: st0, _, hv => exact bin x y st0 true t rfl h (fun _ => csig_ao q.1 c3 (hv.2.1 rfl) (hv.1 rfl)) hv.2.2
            · exact absurd h (by simp)
          · rw [if_neg c3] at h
            split at h
            · next t =>
              match st, hl, hv with
              | y :: x :: st0, _, hv => exact bin x y st0 _ t rfl h (fun hd => csig_tb q.1 (of_decide_eq_true hd) x y) hv.2.2
            · exact absurd h (by simp)
