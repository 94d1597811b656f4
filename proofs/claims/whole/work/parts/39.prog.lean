def cstep (q : gCl) : List Int32 := q.1.map cenc ++ (match q.2 with
  | none => [-33]
  | some t => t.map cenc ++ [-34])
def csteps (cl : List gCl) : List Int32 := cl.flatMap cstep
/-- a clause that is typed -/
def kct (q : gCl) : Prop := kty q.1 [] = some [false] ∧ ∀ t, q.2 = some t → kty t [] = some [true]
theorem kev_ty {wd : Nat → Int64} {p : List (Nat × Nat)} {ts ts' : List Bool} {st : List Int64} (h : kty p ts = some ts') (hv : vty st ts) : ∃ st', kev wd p st = some st' ∧ vty st' ts' := by
  obtain ⟨st', op', e1, e2, e3, e4⟩ := jsf_run (fun j => match p[j]? with | some x => cenc x | none => 0) wd (fun x => wd x.toNatClampNeg) (fun i hi => by rw [nI_clamp (by omega)]) [] (by decide) 0 p ts ts' st 0 (fun i => match st[st.length - 1 - i]? with | some x => x | none => 0) h hv (by
    intro i x hi
    rw [List.append_nil] at hi ⊢
    have := (List.getElem?_eq_some_iff.mp hi).1
    show (match st[st.length - 1 - (st.length - 1 - i)]? with | some x => x | none => 0) = x
    rw [show st.length - 1 - (st.length - 1 - i) = i by omega, hi]) (by
    intro j x hj
    show (match p[0 + j]? with | some x => cenc x | none => 0) = cenc x
    rw [Nat.zero_add, hj])
  exact ⟨st', e1, e2⟩
theorem kct.cw {q : gCl} (h : kct q) : kcw q := by
  refine ⟨kty_wf q.1 [] _ h.1, fun wd => ?_, fun t ht => ⟨kty_wf t [] _ (h.2 t ht), fun wd => ?_⟩⟩
  · obtain ⟨st', e1, e2⟩ := kev_ty (wd := wd) h.1 (st := []) trivial
    match st', e2 with
    | [r], _ => exact ⟨r, e1⟩
  · obtain ⟨st', e1, e2⟩ := kev_ty (wd := wd) (h.2 t ht) (st := []) trivial
    match st', e2 with
    | [r], e2 =>
      rcases e2.1 rfl with rfl | rfl
      · exact Or.inl e1
      · exact Or.inr e1
theorem jsf_cl (f : Nat → Int32) (wd : Nat → Int64) (wdc : Int32 → Int64) (hw : ∀ i, i < 12 → wdc (nI i) = wd i) : ∀ (cl : List gCl) (k : Nat) (op : Nat → Int64), (∀ q ∈ cl, kct q) → (∀ j x, (csteps cl)[j]? = some x → f (k + j) = x) → jsfF f wdc k (csteps cl).length 0 op = krv wd cl
  | [], k, op, _, _ => rfl
  | q :: cl, k, op, hc, hf => by
    have hq := hc q List.mem_cons_self
    have e : csteps (q :: cl) = cstep q ++ csteps cl := rfl
    have hfa : ∀ (a b : List Int32) (n : Nat), csteps (q :: cl) = a ++ b → a.length = n → (∀ j x, a[j]? = some x → f (k + j) = x) ∧ ∀ j x, b[j]? = some x → f (k + n + j) = x := by
      intro a b n hab hn
      constructor
      · intro j x hj
        exact hf j x (by rw [hab, List.getElem?_append_left (List.getElem?_eq_some_iff.mp hj).1]; exact hj)
      · intro j x hj
        rw [Nat.add_assoc]
        exact hf (n + j) x (by rw [hab, List.getElem?_append_right (by omega), hn, Nat.add_sub_cancel_left]; exact hj)
    have hmap : ∀ (p : List (Nat × Nat)) (k0 : Nat), (∀ j x, (p.map cenc)[j]? = some x → f (k0 + j) = x) → ∀ j x, p[j]? = some x → f (k0 + j) = cenc x := by
      intro p k0 h j x hj
      exact h j _ (by rw [List.getElem?_map, hj]; rfl)
    obtain ⟨p, o⟩ := q
    cases o with
    | none =>
      have e2 : csteps ((p, none) :: cl) = p.map cenc ++ (-33 :: csteps cl) := by rw [e]; simp [cstep]
      obtain ⟨h1, h2⟩ := hfa _ _ p.length e2 (by simp)
      rw [show (csteps ((p, none) :: cl)).length = p.length + (1 + (csteps cl).length) by rw [e2]; simp; omega]
      obtain ⟨st', op', e3, e4, e5, e6⟩ := jsf_run f wd wdc hw [] (by decide) (1 + (csteps cl).length) p [] [false] [] k op hq.1 trivial (kst_nil _) (hmap p k h1)
      rw [show (0 : Nat) = (([] : List Int64) ++ []).length from rfl, e6]
      match st', e3, e4, e5 with
      | [r], e3, e4, e5 =>
        have h0 := h2 0 (-33) rfl
        rw [Nat.add_zero] at h0
        have ht : op' 0 = r := kst_top e5
        rw [Nat.add_comm 1]
        show (if f (k + p.length) ≤ -20 then _ else _) = kval wd p
        rw [h0, if_pos (by decide), if_neg (fun z => absurd z.1 (by decide)), if_pos ⟨rfl, by simp⟩]
        unfold kval
        rw [e3]
        exact ht
    | some t =>
      have e2 : csteps ((p, some t) :: cl) = p.map cenc ++ (t.map cenc ++ (-34 :: csteps cl)) := by rw [e]; simp [cstep]
      obtain ⟨h1, h2⟩ := hfa _ _ p.length e2 (by simp)
      have e2' : csteps ((p, some t) :: cl) = (p.map cenc ++ t.map cenc) ++ (-34 :: csteps cl) := by rw [e2, List.append_assoc]
      obtain ⟨_, h4⟩ := hfa _ _ (p.length + t.length) e2' (by simp)
      have h3 : ∀ j x, (t.map cenc)[j]? = some x → f (k + p.length + j) = x := fun j x hj => h2 j x (by rw [List.getElem?_append_left (List.getElem?_eq_some_iff.mp hj).1]; exact hj)
      rw [show (csteps ((p, some t) :: cl)).length = p.length + (t.length + (1 + (csteps cl).length)) by rw [e2]; simp; omega]
      obtain ⟨st', op', e3, e4, e5, e6⟩ := jsf_run f wd wdc hw [] (by decide) (t.length + (1 + (csteps cl).length)) p [] [false] [] k op hq.1 trivial (kst_nil _) (hmap p k h1)
      rw [show (0 : Nat) = (([] : List Int64) ++ []).length from rfl, e6]
      match st', e3, e4, e5 with
      | [r], e3, e4, e5 =>
        obtain ⟨st2, op2, e7, e8, e9, e10⟩ := jsf_run f wd wdc hw [r] (by simp) (1 + (csteps cl).length) t [] [true] [] (k + p.length) op' (hq.2 t rfl) trivial e5 (hmap t _ h3)
        rw [show ([r] ++ ([] : List Int64)).length = ([] ++ [r]).length from rfl, e10]
        match st2, e7, e8, e9 with
        | [b], e7, e8, e9 =>
          have h0 := h4 0 (-34) rfl
          rw [Nat.add_zero] at h0
          have ht : op2 1 = b := kst_top e9
          have ht2 : op2 0 = r := kst_top (kst_tail e9)
          have hp : kval wd p = r := by unfold kval; rw [e3]
          have htv : kval wd t = b := by unfold kval; rw [e7]
          rw [Nat.add_comm 1, Nat.add_assoc]
          show (if f (k + (p.length + t.length)) ≤ -20 then _ else _) = (if kval wd t = 1 then kval wd p else krv wd cl)
          rw [← Nat.add_assoc] at h0
          rw [← Nat.add_assoc, h0, if_pos (by decide), if_neg (fun z => absurd z.1 (by decide)), if_neg (fun z => absurd z.1 (by decide)), if_pos ⟨rfl, by simp⟩, hp, htv]
          show (if op2 1 = 0 then jsfF f wdc (k + p.length + t.length + 1) (csteps cl).length 0 op2 else op2 0) = _
          rw [ht, ht2]
          rcases e8.1 rfl with rfl | rfl
          · rw [if_pos rfl, if_neg (by decide)]
            exact jsf_cl f wd wdc hw cl _ _ (fun q hq => hc q (List.mem_cons_of_mem _ hq)) (fun j x hj => by
              have := h4 (j + 1) x (by simpa using hj)
              rw [← this]
              congr 1
              omega)
          · rw [if_neg (by decide), if_pos rfl]
/-- a rule's steps in the class are those of its clauses -/
def crel (f : Nat → Int32) (n : Nat) (cl : List gCl) : Prop := n = (csteps cl).length ∧ (∀ j x, (csteps cl)[j]? = some x → f j = x) ∧ ∀ q ∈ cl, kct q
theorem crel.eq {f : Nat → Int32} {n : Nat} {cl : List gCl} (h : crel f n cl) {wd : Nat → Int64} {wdc : Int32 → Int64} (hw : ∀ i, i < 12 → wdc (nI i) = wd i) : jsf f n wdc = krv wd cl := by
  unfold jsf
  rw [h.1]
  exact jsf_cl f wd wdc hw cl 0 _ h.2.2 (fun j x hj => by rw [Nat.zero_add]; exact h.2.1 j x hj)
def ktT (cl : List gCl) (J : gJn) (k : Nat) (s : Int32) : Bool := ktr cl (jP J) (jR J) (jQ J) J k s
/-- what was let in last is a beat, or never -/
def jls (J : gJn) : Prop := ∀ i, i < 6 → J 6 i = -1 ∨ ¬ J 6 i < 0
theorem jok.nB {J : gJn} (h : jok J) : ¬ J 9 0 ≤ 0 := by
  rw [h.2.2.2.1]
  exact nI_nle h.2.2.2.2.1 (by have := h.2.2.2.2.2.1; omega)
theorem jarF_R (n k : Nat) (J : gJn) : jR (jarF k n J) = jR J := by
  unfold jR
  rw [jarF_f (by decide)]
theorem crel.set {f : Nat → Int32} {n : Nat} {cl : List gCl} (h : crel f n cl) {J : gJn} (hj : jok J) (hl : jls J) : jset (jt1 f n) J = jset (ktT cl) J := by
  unfold jset
  rw [show (0 : Int32) = nI 0 from rfl]
  have ha := hj.arr (jR J) 0
  refine jobF_congr _ _ _ (jR J) 0 0 (by decide) (by have := hj.2.1; omega) (fun k m hk1 hk2 hm => ?_)
  unfold jt1 ktT ktr
  rw [h.eq (wd := kwords (jP (jarF 0 (jR J) J)) (jR (jarF 0 (jR J) J)) (jQ (jarF 0 (jR J) J)) (jarF 0 (jR J) J) k (nI m)) (fun i hi => (w_all _ ha.nB (by rw [jarF_R]; omega) ha.2.1 hm (by rw [jarF_f (by decide)]; exact hl k (by have := hj.2.1; omega)) i hi).symm)]
