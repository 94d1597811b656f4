/-! ===== the search finds what the reference finds ===== -/
theorem rW_ag {e w v : Nat → Nat} {m T : Nat} {d d' : Nat → Nat} {k : Nat} (h : ∀ i, i < k → d i = d' i) (r : Nat) : rW e w v m T d k r = rW e w v m T d' k r := rsF_ag k (fun i hi => by show (d i).testBit r = (d' i).testBit r; rw [h i hi])
theorem rwt_ag {e w v : Nat → Nat} {m T : Nat} {d d' : Nat → Nat} {k : Nat} (h : ∀ i, i < k → d i = d' i) (r : Nat) : rwt e w v m T d k r = rwt e w v m T d' k r := by
  unfold rwt
  rw [rW_ag h]
def rlb (e w v : Nat → Nat) (m T R N : Nat) (k b : Nat) : Nat := nsum (fun r => (rsF (e r) m T (fun i => if i < k then (qdg (2 ^ R) k b i).testBit r else true) (w r, v r) N).2) R
def rLB (e w v : Nat → Nat) (m T R N : Nat) (k b : Nat) : Int32 := nI (rlb e w v m T R N k b)
def rokb (J : gJn) (e w v : Nat → Nat) (m T R : Nat) (k b x : Nat) : Bool := decide (¬ jpcF J (nI x) 0 R = 0) && (List.range R).all (fun r => !x.testBit r || decide (0 < rwt e w v m T (qdg (2 ^ R) k b) k r))
theorem rokb_iff {J : gJn} {e w v : Nat → Nat} {m T R k b x : Nat} : rokb J e w v m T R k b x = true ↔ (¬ jpcF J (nI x) 0 R = 0 ∧ ∀ r, r < R → x.testBit r = true → 0 < rwt e w v m T (qdg (2 ^ R) k b) k r) := by
  unfold rokb
  rw [Bool.and_eq_true_iff, decide_eq_true_iff, List.all_eq_true]
  constructor
  · rintro ⟨h1, h2⟩
    refine ⟨h1, fun r hr hb => ?_⟩
    have := h2 r (List.mem_range.mpr hr)
    rw [hb] at this
    exact of_decide_eq_true this
  · rintro ⟨h1, h2⟩
    refine ⟨h1, fun r hr => ?_⟩
    by_cases hb : x.testBit r = true
    · rw [hb, decide_eq_true (h2 r (List.mem_range.mp hr) hb)]
      rfl
    · rw [Bool.eq_false_iff.mpr hb]
      rfl
def rhc (pn : Nat → Nat) (R : Nat) (h0 : Int32) (d : Nat → Nat) : Nat → Int32
  | 0 => h0
  | k + 1 => j_heard (rhc pn R h0 d k) (jso pn (nI (d k)) R)
theorem rhd_rhc {e w v : Nat → Nat} {m T R : Nat} {pn : Nat → Nat} {h0 : Int32} {d : Nat → Nat} (hR : R ≤ 6) : ∀ k, (∀ i, i < k → d i < 2 ^ R ∧ ∀ r, r < R → (d i).testBit r = true → 0 < rwt e w v m T d i r) → rhd e w v m T R pn h0 d k = rhc pn R h0 d k
  | 0, _ => rfl
  | k + 1, h => by
    show j_heard (rhd e w v m T R pn h0 d k) (jso pn (nI (sdN (fun r => (d k).testBit r && decide (0 < rwt e w v m T d k r)) R)) R) = j_heard (rhc pn R h0 d k) (jso pn (nI (d k)) R)
    obtain ⟨h1, h2⟩ := h k (by omega)
    have e1 : sdN (fun r => (d k).testBit r && decide (0 < rwt e w v m T d k r)) R = d k := by
      rw [sdN_ag (q := (d k).testBit) R (fun i hi => ?_), sdN_all R hR _ h1]
      show ((d k).testBit i && decide (0 < rwt e w v m T d k i)) = (d k).testBit i
      by_cases hb : (d k).testBit i = true
      · rw [hb, decide_eq_true (h2 i hi hb)]
        rfl
      · rw [Bool.eq_false_iff.mpr hb]
        rfl
    rw [rhd_rhc hR k (fun i hi => h i (by omega)), e1]
theorem rstep_cg {pf : Nat → Prop} [∀ c, Decidable (pf c)] {W H H' : Nat → Int32} {c : Nat} {s : g3} (h : pf c → H c = H' c) : rstep pf W H c s = rstep pf W H' c s := by
  unfold rstep
  by_cases p : pf c
  · rw [if_pos p, if_pos p, h p]
  · rw [if_neg p, if_neg p]
theorem qitN_cg {f g : Nat → g3 → g3} (h : ∀ c s, f c s = g c s) : ∀ (n c : Nat) (s : g3), qitN f c n s = qitN g c n s
  | 0, _, _ => rfl
  | n + 1, c, s => by
    show qitN f (c + 1) n (f c s) = qitN g (c + 1) n (g c s)
    rw [h, qitN_cg h n]
theorem pow6' {R : Nat} (hR : R ≤ 6) : 2 ^ R ≤ 64 := (pow6 R hR).2
theorem rok.vals {J : gJn} {R : Nat} {e : Nat → Nat} {m T : Nat} {w v : Nat → Nat} (h : rok J R e m T w v) (hR : R ≤ 6) (hj : jR J = R) {N : Nat} (hT : T + N < 2 ^ 30) {d : Nat → Nat} (hd : ∀ i, d i < 2 ^ R) : jsum (qpl d 0 N J 5) R = nI (nsum (fun r => (rW e w v m T d N r).2) R) ∧ nsum (fun r => (rW e w v m T d N r).2) R ≤ 599994 ∧ qpl d 0 N J 9 4 = rhd e w v m T R (jP J) (J 9 4) d N := by
  have hp := pow6' hR
  obtain ⟨a1, a2, a3, a4⟩ := h.many hR hj (d := d) N (fun i _ => Nat.lt_of_lt_of_le (hd i) hp) hT
  obtain ⟨t1, t2⟩ := a1.tot
  exact ⟨t1, Nat.le_trans t2 (Nat.le_trans (Nat.mul_le_mul_right 99999 hR) (Nat.le_of_ble_eq_true rfl)), a4⟩
theorem rch_ro {J : gJn} {R : Nat} {e : Nat → Nat} {m T : Nat} {w v : Nat → Nat} (h : rok J R e m T w v) (hR : R ≤ 6) (hj : jR J = R) {N : Nat} (hN : N ≤ 3) (hT : T + N < 2 ^ 30) : rch (2 ^ R) (rLB e w v m T R N) (rokb J e w v m T R) (fun b => rhc (jP J) R (J 9 4) (qdg (2 ^ R) N b) N) N 0 0 (-1, 0, 0) = qro J N := by
  have hp := pow6' hR
  have hP : 0 < 2 ^ R := Nat.pow_pos (by decide)
  have hdl : ∀ n c k, qdg (2 ^ R) n c k < 2 ^ R := fun n c k => Nat.mod_lt _ hP
  have hv := fun c => h.vals hR hj hT (d := qdg (2 ^ R) N c) (hdl N c)
  have hgd : ∀ c, Decidable (¬ qfpF J R (2 ^ R) N c N = 0 ∧ ∀ k, k < N → ∀ r, r < R → (qdg (2 ^ R) N c k).testBit r = true → 0 < rwt e w v m T (qdg (2 ^ R) N c) k r) := fun c => Classical.propDecidable _
  have e0 : qro J N = qitN (rstep (fun c => ¬ qfpF J R (2 ^ R) N c N = 0) (fun c => jsum (qpl (qdg (2 ^ R) N c) 0 N J 5) R) (fun c => qpl (qdg (2 ^ R) N c) 0 N J 9 4)) 0 ((2 ^ R) ^ N) (-1, 0, 0) := by
    unfold qro
    rw [hj, Nat.mul_comm N R, Nat.pow_mul]
    have key : ∀ (n c : Nat) (s : g3), qitN (qro1 J N) c n s = qitN (rstep (fun c => ¬ qfpF J R (2 ^ R) N c N = 0) (fun c => jsum (qpl (qdg (2 ^ R) N c) 0 N J 5) R) (fun c => qpl (qdg (2 ^ R) N c) 0 N J 9 4)) c n s := by
      intro n
      induction n with
      | zero => intro c s; rfl
      | succ n ih =>
        intro c s
        show qitN (qro1 J N) (c + 1) n (qro1 J N c s) = qitN _ (c + 1) n (rstep (fun c => ¬ qfpF J R (2 ^ R) N c N = 0) (fun c => jsum (qpl (qdg (2 ^ R) N c) 0 N J 5) R) (fun c => qpl (qdg (2 ^ R) N c) 0 N J 9 4) c s)
        have e1 : qro1 J N c s = rstep (fun c => ¬ qfpF J R (2 ^ R) N c N = 0) (fun c => jsum (qpl (qdg (2 ^ R) N c) 0 N J 5) R) (fun c => qpl (qdg (2 ^ R) N c) 0 N J 9 4) c s := by
          unfold qro1 rstep
          rw [hj]
          by_cases z : qfpF J R (2 ^ R) N c N = 0
          · rw [if_pos z, if_neg (fun q => q z)]
          · rw [if_neg z, if_pos z]
        rw [ih, e1]
    exact key _ _ _
  have hB : (2 ^ R) ^ N < 2 ^ 31 := Nat.lt_of_le_of_lt (Nat.le_trans (Nat.pow_le_pow_left hp N) (Nat.pow_le_pow_right (by decide) hN)) (Nat.le_of_ble_eq_true rfl)
  rw [e0, qitN_good (gd := fun c => ¬ qfpF J R (2 ^ R) N c N = 0 ∧ ∀ k, k < N → ∀ r, r < R → (qdg (2 ^ R) N c k).testBit r = true → 0 < rwt e w v m T (qdg (2 ^ R) N c) k r) hB (fun c q => q.1) ?_ _ 0 _ (by omega) (fun c' hc' => absurd hc' (Nat.not_lt_zero c'))]
  · have e2 : ∀ (n c : Nat) (s : g3), qitN (rstep (fun c => ¬ qfpF J R (2 ^ R) N c N = 0 ∧ ∀ k, k < N → ∀ r, r < R → (qdg (2 ^ R) N c k).testBit r = true → 0 < rwt e w v m T (qdg (2 ^ R) N c) k r) (fun c => jsum (qpl (qdg (2 ^ R) N c) 0 N J 5) R) (fun c => qpl (qdg (2 ^ R) N c) 0 N J 9 4)) c n s = qitN (rstep (fun c => ¬ qfpF J R (2 ^ R) N c N = 0 ∧ ∀ k, k < N → ∀ r, r < R → (qdg (2 ^ R) N c k).testBit r = true → 0 < rwt e w v m T (qdg (2 ^ R) N c) k r) (fun c => jsum (qpl (qdg (2 ^ R) N c) 0 N J 5) R) (fun b => rhc (jP J) R (J 9 4) (qdg (2 ^ R) N b) N)) c n s := by
      refine qitN_cg (fun c s => rstep_cg (fun g => ?_))
      show qpl (qdg (2 ^ R) N c) 0 N J 9 4 = rhc (jP J) R (J 9 4) (qdg (2 ^ R) N c) N
      rw [(hv c).2.2, rhd_rhc hR N (fun i hi => ⟨hdl N c i, g.2 i hi⟩)]
    rw [e2]
    have e3 := rch_eq (P := 2 ^ R) (N := N) hP (LB := rLB e w v m T R N) (ok := rokb J e w v m T R) (W := fun c => jsum (qpl (qdg (2 ^ R) N c) 0 N J 5) R) (H := fun b => rhc (jP J) R (J 9 4) (qdg (2 ^ R) N b) N) (gd := fun c => ¬ qfpF J R (2 ^ R) N c N = 0 ∧ ∀ k, k < N → ∀ r, r < R → (qdg (2 ^ R) N c k).testBit r = true → 0 < rwt e w v m T (qdg (2 ^ R) N c) k r) (fun k b => ∀ i, i < k → ¬ jpcF J (nI (qdg (2 ^ R) k b i)) 0 R = 0 ∧ ∀ r, r < R → (qdg (2 ^ R) k b i).testBit r = true → 0 < rwt e w v m T (qdg (2 ^ R) k b) i r) ?_ ?_ ?_ ?_ ?_ ?_ N 0 0 (-1, 0, 0) (by omega) (fun i hi => absurd hi (Nat.not_lt_zero i))
    · rw [e3, Nat.zero_mul]
    · intro b
      rw [(hv b).1]
      refine congrArg nI (nsum_ag R (fun r hr => ?_))
      exact congrArg Prod.snd (rsF_ag N (fun i hi => if_pos hi))
    · intro b g
      exact ⟨(qfpF_ne J R (2 ^ R) N b N).mpr (fun k hk => (g k hk).1), fun k hk => (g k hk).2⟩
    · intro n k b c hk hc g
      rw [(hv c).1]
      refine nI_le (nsum_le2 R (fun r hr => (rsF_mono N (fun i hi hb => ?_)).2)) (Nat.lt_of_le_of_lt (hv c).2.1 (Nat.le_of_ble_eq_true rfl))
      by_cases hik : i < k
      · rw [if_pos hik, ← qdg_pre hc hik, hk]
        exact hb
      · rw [if_neg hik]
    · intro k b x hk hx g hok
      obtain ⟨o1, o2⟩ := rokb_iff.mp hok
      have hd1 : (b * 2 ^ R + x) / (2 ^ R) ^ 1 = b := by rw [Nat.pow_one, Nat.add_comm, Nat.add_mul_div_right _ _ hP, Nat.div_eq_of_lt hx, Nat.zero_add]
      have hlo : ∀ i, i < k → qdg (2 ^ R) (k + 1) (b * 2 ^ R + x) i = qdg (2 ^ R) k b i := fun i hi => qdg_pre hd1 hi
      have hhi : qdg (2 ^ R) (k + 1) (b * 2 ^ R + x) k = x := by rw [qdg_l, Nat.add_comm, Nat.add_mul_mod_self_right, Nat.mod_eq_of_lt hx]
      intro i hi
      by_cases hik : i = k
      · subst hik
        rw [hhi]
        refine ⟨o1, fun r hr hb => ?_⟩
        rw [rwt_ag hlo]
        exact o2 r hr hb
      · have hik : i < k := by omega
        rw [hlo i hik]
        refine ⟨(g i hik).1, fun r hr hb => ?_⟩
        rw [rwt_ag (fun j hj => hlo j (by omega))]
        exact (g i hik).2 r hr hb
    · intro n k b c hk hc g i hi
      have hlo : ∀ j, j < k → qdg (2 ^ R) k b j = qdg (2 ^ R) N c j := fun j hj => by rw [← hk]; exact (qdg_pre hc hj).symm
      rw [hlo i hi]
      refine ⟨(qfpF_ne J R (2 ^ R) N c N).mp g.1 i (by omega), fun r hr hb => ?_⟩
      rw [rwt_ag (fun j hj => hlo j (by omega))]
      exact g.2 i (by omega) r hr hb
    · intro k b x hk hx g
      have hd1 : (b * 2 ^ R + x) / (2 ^ R) ^ 1 = b := by rw [Nat.pow_one, Nat.add_comm, Nat.add_mul_div_right _ _ hP, Nat.div_eq_of_lt hx, Nat.zero_add]
      have hlo : ∀ i, i < k → qdg (2 ^ R) (k + 1) (b * 2 ^ R + x) i = qdg (2 ^ R) k b i := fun i hi => qdg_pre hd1 hi
      have hhi : qdg (2 ^ R) (k + 1) (b * 2 ^ R + x) k = x := by rw [qdg_l, Nat.add_comm, Nat.add_mul_mod_self_right, Nat.mod_eq_of_lt hx]
      have := g k (by omega)
      rw [hhi] at this
      refine rokb_iff.mpr ⟨this.1, fun r hr hb => ?_⟩
      rw [← rwt_ag hlo]
      exact this.2 r hr hb
  · intro c hc p g
    have g2 : ∃ k0 r0, k0 < N ∧ r0 < R ∧ (qdg (2 ^ R) N c k0).testBit r0 = true ∧ rwt e w v m T (qdg (2 ^ R) N c) k0 r0 = 0 := by
      refine Classical.byContradiction (fun q => g ⟨p, fun k hk r hr hb => ?_⟩)
      exact Nat.pos_of_ne_zero (fun z => q ⟨k, r, hk, hr, hb, z⟩)
    obtain ⟨k0, r0, hk0, hr0, hb, hz⟩ := g2
    have hx64 : qdg (2 ^ R) N c k0 < 64 := Nat.lt_of_lt_of_le (hdl N c k0) hp
    obtain ⟨s1, s2, s3⟩ := tb_sub _ hx64 r0 (by omega) hb
    have hpw : 0 < 2 ^ r0 := Nat.pow_pos (by decide)
    obtain ⟨d', hd'⟩ : ∃ d' : Nat → Nat, d' = fun k => if k = k0 then qdg (2 ^ R) N c k0 - 2 ^ r0 else qdg (2 ^ R) N c k := ⟨_, rfl⟩
    have d0 : d' k0 = qdg (2 ^ R) N c k0 - 2 ^ r0 := by rw [hd']; exact if_pos rfl
    have d1 : ∀ k, k ≠ k0 → d' k = qdg (2 ^ R) N c k := fun k hk => by rw [hd']; exact if_neg hk
    have dle : ∀ i, d' i ≤ qdg (2 ^ R) N c i := fun i => by
      by_cases hi : i = k0
      · rw [hi, d0]; exact Nat.sub_le _ _
      · rw [d1 i hi]; exact Nat.le_refl _
    have dlt : ∀ i, d' i < 2 ^ R := fun i => Nat.lt_of_le_of_lt (dle i) (hdl N c i)
    have hdg : ∀ k, k < N → qdg (2 ^ R) N (cdg (2 ^ R) d' N) k = d' k := fun k hk => dg_cd hP N (fun i _ => dlt i) k hk
    have hbit : ∀ r, r < R → ∀ i, i < N → r ≠ r0 → (d' i).testBit r = (qdg (2 ^ R) N c i).testBit r := fun r hr i _ hrr => by
      by_cases hi : i = k0
      · rw [hi, d0, s2 r (by omega), decide_eq_true hrr, Bool.and_true]
      · rw [d1 i hi]
    have hrW : ∀ k, k ≤ N → ∀ r, r < R → rW e w v m T (qdg (2 ^ R) N (cdg (2 ^ R) d' N)) k r = rW e w v m T (qdg (2 ^ R) N c) k r := fun k hk r hr => by
      rw [rW_ag (d' := d') (fun i hi => hdg i (by omega))]
      by_cases hrr : r = r0
      · subst hrr
        refine (rsF_idle (k0 := k0) (fun i hi => ?_) hz k).symm
        show (qdg (2 ^ R) N c i).testBit r = (d' i).testBit r
        rw [d1 i hi]
      · exact rsF_ag k (fun i hi => hbit r hr i (by omega) hrr)
    refine ⟨cdg (2 ^ R) d' N, ?_, ?_, ?_, ?_⟩
    · have h1 := cdg_lt2 hP (d := qdg (2 ^ R) N c) (d' := d') (k0 := k0) (by rw [d0]; omega) N hk0 (fun i _ => dle i)
      rw [cd_dg hP N c hc] at h1
      exact h1
    · refine (qfpF_ne J R (2 ^ R) N _ N).mpr (fun k hk => ?_)
      have pk := (qfpF_ne J R (2 ^ R) N c N).mp p k hk
      rw [hdg k hk]
      by_cases hi : k = k0
      · rw [hi, d0]
        rw [hi] at pk
        exact pc_sub hR hx64 hr0 hb pk
      · rw [d1 k hi]
        exact pk
    · show jsum (qpl (qdg (2 ^ R) N (cdg (2 ^ R) d' N)) 0 N J 5) R = jsum (qpl (qdg (2 ^ R) N c) 0 N J 5) R
      rw [(hv _).1, (hv c).1]
      exact congrArg nI (nsum_ag R (fun r hr => by rw [hrW N (Nat.le_refl _) r hr]))
    · show qpl (qdg (2 ^ R) N (cdg (2 ^ R) d' N)) 0 N J 9 4 = qpl (qdg (2 ^ R) N c) 0 N J 9 4
      rw [(hv _).2.2, (hv c).2.2]
      have key : ∀ k, k ≤ N → rhd e w v m T R (jP J) (J 9 4) (qdg (2 ^ R) N (cdg (2 ^ R) d' N)) k = rhd e w v m T R (jP J) (J 9 4) (qdg (2 ^ R) N c) k := by
        intro k
        induction k with
        | zero => intro _; rfl
        | succ k ih =>
          intro hk
          show j_heard (rhd e w v m T R (jP J) (J 9 4) (qdg (2 ^ R) N (cdg (2 ^ R) d' N)) k) (jso (jP J) (nI (sdN (fun r => (qdg (2 ^ R) N (cdg (2 ^ R) d' N) k).testBit r && decide (0 < rwt e w v m T (qdg (2 ^ R) N (cdg (2 ^ R) d' N)) k r)) R)) R) = j_heard (rhd e w v m T R (jP J) (J 9 4) (qdg (2 ^ R) N c) k) (jso (jP J) (nI (sdN (fun r => (qdg (2 ^ R) N c k).testBit r && decide (0 < rwt e w v m T (qdg (2 ^ R) N c) k r)) R)) R)
          rw [ih (by omega), sdN_ag R (q := fun r => (qdg (2 ^ R) N c k).testBit r && decide (0 < rwt e w v m T (qdg (2 ^ R) N c) k r)) (fun r hr => ?_)]
          have ew : rwt e w v m T (qdg (2 ^ R) N (cdg (2 ^ R) d' N)) k r = rwt e w v m T (qdg (2 ^ R) N c) k r := by
            unfold rwt
            rw [hrW k (by omega) r hr]
          rw [ew, hdg k (by omega)]
          by_cases hrr : r = r0
          · by_cases hi : k = k0
            · rw [hi, hrr, hz]
              simp
            · rw [d1 k hi]
          · rw [hbit r hr k (by omega) hrr]
      exact key N (Nat.le_refl _)
