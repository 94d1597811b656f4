/-! ===== tokens: T the bytes, N the length ===== -/
def truF (P : Int32 → Bool) (T : Nat → Int32) (N : Nat) : Nat → Nat → Nat
  | 0, p => p
  | k + 1, p => if p < N ∧ P (T p) = true then truF P T N k (p + 1) else p
def tru (P : Int32 → Bool) (T : Nat → Int32) (N p : Nat) : Nat := truF P T N (N - p) p
section TRU
variable {P : Int32 → Bool} {T : Nat → Int32} {N p : Nat}
theorem tru_s (h : p < N) (hp : P (T p) = true) : tru P T N p = tru P T N (p + 1) := by
  unfold tru
  rw [show N - p = N - (p + 1) + 1 by omega]
  exact if_pos ⟨h, hp⟩
theorem tru_z (h : ¬ (p < N ∧ P (T p) = true)) : tru P T N p = p := by
  unfold tru
  rcases N - p with _ | k
  · rfl
  · exact if_neg h
theorem truF_le : ∀ (k p : Nat), k + p ≤ N → p ≤ truF P T N k p ∧ truF P T N k p ≤ k + p ∧ ∀ i, p ≤ i → i < truF P T N k p → P (T i) = true
  | 0, p, _ => ⟨Nat.le_refl _, by show p ≤ 0 + p; omega, fun i h1 h2 => absurd h2 (by show ¬ i < p; omega)⟩
  | k + 1, p, h => by
    show p ≤ (if p < N ∧ P (T p) = true then truF P T N k (p + 1) else p) ∧ (if p < N ∧ P (T p) = true then truF P T N k (p + 1) else p) ≤ k + 1 + p ∧ ∀ i, p ≤ i → i < (if p < N ∧ P (T p) = true then truF P T N k (p + 1) else p) → P (T i) = true
    by_cases hc : p < N ∧ P (T p) = true
    · rw [if_pos hc]
      obtain ⟨h1, h2, h3⟩ := truF_le k (p + 1) (by omega)
      refine ⟨by omega, by omega, fun i a b => ?_⟩
      by_cases e : i = p
      · rw [e]; exact hc.2
      · exact h3 i (by omega) b
    · rw [if_neg hc]
      exact ⟨Nat.le_refl _, by omega, fun i a b => absurd b (by omega)⟩
theorem tru_le (h : p ≤ N) : p ≤ tru P T N p ∧ tru P T N p ≤ N ∧ ∀ i, p ≤ i → i < tru P T N p → P (T i) = true := by
  obtain ⟨h1, h2, h3⟩ := truF_le (P := P) (T := T) (N := N) (N - p) p (by omega)
  exact ⟨h1, by show truF P T N (N - p) p ≤ N; omega, h3⟩
theorem truF_end : ∀ (k p : Nat), k + p = N → ¬ (truF P T N k p < N ∧ P (T (truF P T N k p)) = true)
  | 0, p, h => fun q => absurd q.1 (by show ¬ p < N; omega)
  | k + 1, p, h => by
    show ¬ ((if p < N ∧ P (T p) = true then truF P T N k (p + 1) else p) < N ∧ P (T (if p < N ∧ P (T p) = true then truF P T N k (p + 1) else p)) = true)
    by_cases hc : p < N ∧ P (T p) = true
    · rw [if_pos hc]
      exact truF_end k (p + 1) (by omega)
    · rw [if_neg hc]
      exact hc
theorem tru_end (h : p ≤ N) : ¬ (tru P T N p < N ∧ P (T (tru P T N p)) = true) := truF_end (N - p) p (by omega)
end TRU
abbrev tbl (c : Int32) : Prop := c = 32
abbrev tlt (c : Int32) : Prop := ¬ c < 97 ∧ ¬ 122 < c
abbrev tdg (c : Int32) : Prop := ¬ c < 48 ∧ ¬ 57 < c
def blB : Int32 → Bool := fun c => decide (tbl c)
def ltB : Int32 → Bool := fun c => decide (tlt c)
def dgB : Int32 → Bool := fun c => decide (tdg c)
def sk (T : Nat → Int32) (N p : Nat) : Nat := tru blB T N p
def tk (T : Nat → Int32) (N p : Nat) : Nat := if ¬ p < N then 0 else if tlt (T p) then 1 else if tdg (T p) then 2 else 3
abbrev tsg (T : Nat → Int32) (N p : Nat) : Prop := (T p = 60 ∨ T p = 62) ∧ p + 1 < N ∧ T (p + 1) = 61
def te (T : Nat → Int32) (N p : Nat) : Nat := if ¬ p < N then p else if tlt (T p) then tru ltB T N p else if tdg (T p) then tru dgB T N p else if tsg T N p then p + 2 else p + 1
def tvF (T : Nat → Int32) : Nat → Nat → Int32 → Int32
  | 0, _, v => v
  | k + 1, p, v => tvF T k (p + 1) (v * 10 + T p - 48)
def tv (T : Nat → Int32) (N p : Nat) : Int32 := if tk T N p = 2 then tvF T (te T N p - p) p 0 else if tsg T N p then T p + 256 else T p
theorem tk_0 {T : Nat → Int32} {N p : Nat} (h : ¬ p < N) : tk T N p = 0 ∧ te T N p = p := ⟨if_pos h, if_pos h⟩
theorem tk_1 {T : Nat → Int32} {N p : Nat} (h : p < N) (h1 : tlt (T p)) : tk T N p = 1 ∧ te T N p = tru ltB T N p := by
  unfold tk te
  rw [if_neg (fun q => q h), if_pos h1, if_neg (fun q => q h), if_pos h1]
  exact ⟨rfl, rfl⟩
theorem tk_2 {T : Nat → Int32} {N p : Nat} (h : p < N) (h1 : ¬ tlt (T p)) (h2 : tdg (T p)) : tk T N p = 2 ∧ te T N p = tru dgB T N p := by
  unfold tk te
  rw [if_neg (fun q => q h), if_neg h1, if_pos h2, if_neg (fun q => q h), if_neg h1, if_pos h2]
  exact ⟨rfl, rfl⟩
theorem tk_3 {T : Nat → Int32} {N p : Nat} (h : p < N) (h1 : ¬ tlt (T p)) (h2 : ¬ tdg (T p)) : tk T N p = 3 ∧ te T N p = (if tsg T N p then p + 2 else p + 1) ∧ tv T N p = (if tsg T N p then T p + 256 else T p) := by
  have e : tk T N p = 3 := by
    unfold tk
    rw [if_neg (fun q => q h), if_neg h1, if_neg h2]
  refine ⟨e, ?_, ?_⟩
  · unfold te
    rw [if_neg (fun q => q h), if_neg h1, if_neg h2]
  · unfold tv
    rw [e, if_neg (by decide)]
theorem te_le {T : Nat → Int32} {N p : Nat} (h : p ≤ N) : p ≤ te T N p ∧ te T N p ≤ N ∧ (p < N → p < te T N p) := by
  by_cases h0 : p < N
  · by_cases h1 : tlt (T p)
    · rw [(tk_1 h0 h1).2]
      have e := tru_s (P := ltB) h0 (decide_eq_true h1)
      have e2 := tru_le (P := ltB) (T := T) (N := N) (p := p + 1) (by omega)
      rw [e]
      exact ⟨by omega, e2.2.1, fun _ => by omega⟩
    · by_cases h2 : tdg (T p)
      · rw [(tk_2 h0 h1 h2).2]
        have e := tru_s (P := dgB) h0 (decide_eq_true h2)
        have e2 := tru_le (P := dgB) (T := T) (N := N) (p := p + 1) (by omega)
        rw [e]
        exact ⟨by omega, e2.2.1, fun _ => by omega⟩
      · rw [(tk_3 h0 h1 h2).2.1]
        by_cases h3 : tsg T N p
        · rw [if_pos h3]
          have := h3.2.1
          exact ⟨by omega, by omega, fun _ => by omega⟩
        · rw [if_neg h3]
          exact ⟨by omega, by omega, fun _ => by omega⟩
  · rw [(tk_0 h0).2]
    exact ⟨Nat.le_refl _, h, fun q => absurd q h0⟩
/-- the tape's fields: length N, bytes T, at p, fault f -/
def tst (V : Nat → Nat → Int32) (T : Nat → Int32) (N p : Nat) (f : Int32) : Prop := V 0 1 = nI N ∧ V 1 = T ∧ V 0 2 = nI p ∧ V 0 6 = f
/-- the token at p stands there -/
def ctk (V : Nat → Nat → Int32) (T : Nat → Int32) (N p : Nat) (f : Int32) : Prop := tst V T N (te T N p) f ∧ V 0 3 = nI (tk T N p) ∧ V 0 4 = nI p ∧ (2 ≤ tk T N p → V 0 5 = tv T N p)
theorem tst.at {V : Nat → Nat → Int32} {T : Nat → Int32} {N p : Nat} {f : Int32} (h : tst V T N p f) (q : Nat) : tst (j_f V 2 (nI q)) T N q f := ⟨h.1, h.2.1, rfl, h.2.2.2⟩
theorem tst.o {V : Nat → Nat → Int32} {T : Nat → Int32} {N p : Nat} {f : Int32} (h : tst V T N p f) {k : Nat} (hk : k = 3 ∨ k = 4 ∨ k = 5) (v : Int32) : tst (j_f V k v) T N p f := by
  rcases hk with rfl | rfl | rfl <;> exact ⟨h.1, h.2.1, h.2.2.1, h.2.2.2⟩
set_option maxRecDepth 100000 in
set_option maxHeartbeats 1000000 in
theorem c_X8_next {n : Nat} {X : gX} {O : gO} {Q : gU} {G : gK} {S : gS} {L : gLg} (hM : 408 ≤ n) {T : Nat → Int32} {N p0 : Nat} {f : Int32} (hN : N ≤ 400) (hp0 : p0 ≤ N) (ht0 : tst (X 1) T N p0 f) : SX 0 0 0 mX8_next [.ref 17] (xm n X O Q G S L) (fun v M' => v = none ∧ ∃ V, M' = xm n (x_r X 1 V) O Q G S L ∧ ctk V T N (sk T N p0) f) := by
  refine SX.intro [some (.ref 17)] (by decide +kernel) (Nat.le_of_ble_eq_true rfl) rfl (fun E hE hQ => ?_)
  have tail : ∀ (V : Nat → Nat → Int32) (P0 : Nat), P0 ≤ N → tst V T N P0 f → sk T N p0 = P0 → RX E mX8_next.2.2.1 0 0 38 [some (.ref 17)] [] (xm n (x_r X 1 V) O Q G S L) := by
    intro V P0 hP0 ht hsk
    rw [hsk] at hQ
    have l2 : tk T N P0 = 1 → ∀ (m2 p : Nat) (V : Nat → Nat → Int32), p + m2 = N → tst V T N p f → V 0 3 = nI (tk T N P0) → V 0 4 = nI P0 → tru ltB T N p = te T N P0 → RX E mX8_next.2.2.1 0 0 98 [some (.ref 17)] [] (xm n (x_r X 1 V) O Q G S L) := by
      intro hk1 m2
      induction m2 with
      | zero =>
        intro p V hpn ht h3 h4 hE2
        refine rx_aload_n hE dX8_next_98 (i := 0) rfl rfl ?_
        refine rx_getf hE dX8_next_99 fl_X8_19_8 (xa_1 hM) rfl ?_
        refine rx_int _ (nI p) ht.2.2.1 ?_
        refine rx_aload_n hE dX8_next_102 (i := 0) rfl rfl ?_
        refine rx_getf hE dX8_next_103 fl_X8_15_8 (xa_1 hM) rfl ?_
        refine rx_int _ (nI N) ht.1 ?_
        refine rx_icmp_ge (tgt := 357) hE dX8_next_106 (by decide) (fun c106 => ?_) (fun c106 => absurd (nI_le (a := N) (b := p) (by omega) (by omega)) c106)
        exact rx_vret hE hQ rfl dX8_next_357 ⟨rfl, V, rfl, ⟨by rw [← hE2, tru_z (fun q => absurd q.1 (by omega))]; exact ht, h3, h4, fun q => absurd q (by rw [hk1]; decide)⟩⟩
      | succ m2 ihm2 =>
        intro p V hpn ht h3 h4 hE2
        refine rx_aload_n hE dX8_next_98 (i := 0) rfl rfl ?_
        refine rx_getf hE dX8_next_99 fl_X8_19_8 (xa_1 hM) rfl ?_
        refine rx_int _ (nI p) ht.2.2.1 ?_
        refine rx_aload_n hE dX8_next_102 (i := 0) rfl rfl ?_
        refine rx_getf hE dX8_next_103 fl_X8_15_8 (xa_1 hM) rfl ?_
        refine rx_int _ (nI N) ht.1 ?_
        refine rx_icmp_ge (tgt := 357) hE dX8_next_106 (by decide) (fun c106 => absurd c106 (nI_ge (a := p) (b := N) (by omega) (by omega))) (fun c106 => ?_)
        refine rx_aload_n hE dX8_next_109 (i := 0) rfl rfl ?_
        refine rx_getf hE dX8_next_110 fl_X8_9_8 (xa_1 hM) rfl ?_
        refine rx_aload_n hE dX8_next_113 (i := 0) rfl rfl ?_
        refine rx_getf hE dX8_next_114 fl_X8_19_8 (xa_1 hM) rfl ?_
        refine rx_int _ (nI p) ht.2.2.1 ?_
        refine rx_baldN hE dX8_next_117 (xa_1_1 hM) (by omega) (by decide) ?_
        refine rx_int _ (T p) (congrFun ht.2.1 p) ?_
        refine rx_bipush hE dX8_next_118 (v := 97) (by decide) ?_
        refine rx_icmp_lt (tgt := 357) hE dX8_next_120 (by decide) (fun c120 => ?_) (fun c120 => ?_)
        · exact rx_vret hE hQ rfl dX8_next_357 ⟨rfl, V, rfl, ⟨by rw [← hE2, tru_z (fun q => (of_decide_eq_true q.2).1 c120)]; exact ht, h3, h4, fun q => absurd q (by rw [hk1]; decide)⟩⟩
        · refine rx_aload_n hE dX8_next_123 (i := 0) rfl rfl ?_
          refine rx_getf hE dX8_next_124 fl_X8_9_8 (xa_1 hM) rfl ?_
          refine rx_aload_n hE dX8_next_127 (i := 0) rfl rfl ?_
          refine rx_getf hE dX8_next_128 fl_X8_19_8 (xa_1 hM) rfl ?_
          refine rx_int _ (nI p) ht.2.2.1 ?_
          refine rx_baldN hE dX8_next_131 (xa_1_1 hM) (by omega) (by decide) ?_
          refine rx_int _ (T p) (congrFun ht.2.1 p) ?_
          refine rx_bipush hE dX8_next_132 (v := 122) (by decide) ?_
          refine rx_icmp_gt (tgt := 357) hE dX8_next_134 (by decide) (fun c134 => ?_) (fun c134 => ?_)
          · exact rx_vret hE hQ rfl dX8_next_357 ⟨rfl, V, rfl, ⟨by rw [← hE2, tru_z (fun q => (of_decide_eq_true q.2).2 c134)]; exact ht, h3, h4, fun q => absurd q (by rw [hk1]; decide)⟩⟩
          · refine rx_aload_n hE dX8_next_137 (i := 0) rfl rfl ?_
            refine rx_dup hE dX8_next_138 rfl ?_
            refine rx_getf hE dX8_next_139 fl_X8_19_8 (xa_1 hM) rfl ?_
            refine rx_int _ (nI p) ht.2.2.1 ?_
            refine rx_iconst hE dX8_next_142 (v := 1) (by decide) ?_
            refine rx_iadd hE dX8_next_143 ?_
            refine rx_int _ (nI (p + 1)) (nI_1 p) ?_
            refine rx_put hE dX8_next_144 fl_X8_19_8 fw_8_2 (xa_1 hM) (fun _ => rfl) (fun _ => rfl) (Nat.le_of_ble_eq_true rfl) ?_
            refine rx_mem (M' := xm n (x_r X 1 (j_f V 2 (nI (p + 1)))) O Q G S L) (xw_1_f2.trans (by rw [x_rr, x_r_eq])) ?_
            refine rx_goto (tgt := 98) hE dX8_next_147 (by decide) ?_
            exact ihm2 (p + 1) _ (by omega) (ht.at (p + 1)) h3 h4 (by rw [← hE2]; exact (tru_s (by omega) (decide_eq_true ⟨c120, c134⟩)).symm)
    have l3 : ∀ (m3 p : Nat) (V : Nat → Nat → Int32), p + m3 = N → tst V T N p f → V 0 3 = nI (tk T N P0) → V 0 4 = nI P0 → tru dgB T N p = te T N P0 → tvF T (te T N P0 - p) p (V 0 5) = tv T N P0 → RX E mX8_next.2.2.1 0 0 188 [some (.ref 17)] [] (xm n (x_r X 1 V) O Q G S L) := by
      intro m3
      induction m3 with
      | zero =>
        intro p V hpn ht h3 h4 hE2 h5
        refine rx_aload_n hE dX8_next_188 (i := 0) rfl rfl ?_
        refine rx_getf hE dX8_next_189 fl_X8_19_8 (xa_1 hM) rfl ?_
        refine rx_int _ (nI p) ht.2.2.1 ?_
        refine rx_aload_n hE dX8_next_192 (i := 0) rfl rfl ?_
        refine rx_getf hE dX8_next_193 fl_X8_15_8 (xa_1 hM) rfl ?_
        refine rx_int _ (nI N) ht.1 ?_
        refine rx_icmp_ge (tgt := 357) hE dX8_next_196 (by decide) (fun c196 => ?_) (fun c196 => absurd (nI_le (a := N) (b := p) (by omega) (by omega)) c196)
        exact rx_vret hE hQ rfl dX8_next_357 ⟨rfl, V, rfl, ⟨by rw [← hE2, tru_z (fun q => absurd q.1 (by omega))]; exact ht, h3, h4, fun _ => by rw [← h5, ← hE2, tru_z (fun q => absurd q.1 (by omega)), Nat.sub_self]; rfl⟩⟩
      | succ m3 ihm3 =>
        intro p V hpn ht h3 h4 hE2 h5
        refine rx_aload_n hE dX8_next_188 (i := 0) rfl rfl ?_
        refine rx_getf hE dX8_next_189 fl_X8_19_8 (xa_1 hM) rfl ?_
        refine rx_int _ (nI p) ht.2.2.1 ?_
        refine rx_aload_n hE dX8_next_192 (i := 0) rfl rfl ?_
        refine rx_getf hE dX8_next_193 fl_X8_15_8 (xa_1 hM) rfl ?_
        refine rx_int _ (nI N) ht.1 ?_
        refine rx_icmp_ge (tgt := 357) hE dX8_next_196 (by decide) (fun c196 => absurd c196 (nI_ge (a := p) (b := N) (by omega) (by omega))) (fun c196 => ?_)
        refine rx_aload_n hE dX8_next_199 (i := 0) rfl rfl ?_
        refine rx_getf hE dX8_next_200 fl_X8_9_8 (xa_1 hM) rfl ?_
        refine rx_aload_n hE dX8_next_203 (i := 0) rfl rfl ?_
        refine rx_getf hE dX8_next_204 fl_X8_19_8 (xa_1 hM) rfl ?_
        refine rx_int _ (nI p) ht.2.2.1 ?_
        refine rx_baldN hE dX8_next_207 (xa_1_1 hM) (by omega) (by decide) ?_
        refine rx_int _ (T p) (congrFun ht.2.1 p) ?_
        refine rx_bipush hE dX8_next_208 (v := 48) (by decide) ?_
        refine rx_icmp_lt (tgt := 357) hE dX8_next_210 (by decide) (fun c210 => ?_) (fun c210 => ?_)
        · exact rx_vret hE hQ rfl dX8_next_357 ⟨rfl, V, rfl, ⟨by rw [← hE2, tru_z (fun q => (of_decide_eq_true q.2).1 c210)]; exact ht, h3, h4, fun _ => by rw [← h5, ← hE2, tru_z (fun q => (of_decide_eq_true q.2).1 c210), Nat.sub_self]; rfl⟩⟩
        · refine rx_aload_n hE dX8_next_213 (i := 0) rfl rfl ?_
          refine rx_getf hE dX8_next_214 fl_X8_9_8 (xa_1 hM) rfl ?_
          refine rx_aload_n hE dX8_next_217 (i := 0) rfl rfl ?_
          refine rx_getf hE dX8_next_218 fl_X8_19_8 (xa_1 hM) rfl ?_
          refine rx_int _ (nI p) ht.2.2.1 ?_
          refine rx_baldN hE dX8_next_221 (xa_1_1 hM) (by omega) (by decide) ?_
          refine rx_int _ (T p) (congrFun ht.2.1 p) ?_
          refine rx_bipush hE dX8_next_222 (v := 57) (by decide) ?_
          refine rx_icmp_gt (tgt := 357) hE dX8_next_224 (by decide) (fun c224 => ?_) (fun c224 => ?_)
          · exact rx_vret hE hQ rfl dX8_next_357 ⟨rfl, V, rfl, ⟨by rw [← hE2, tru_z (fun q => (of_decide_eq_true q.2).2 c224)]; exact ht, h3, h4, fun _ => by rw [← h5, ← hE2, tru_z (fun q => (of_decide_eq_true q.2).2 c224), Nat.sub_self]; rfl⟩⟩
          · refine rx_aload_n hE dX8_next_227 (i := 0) rfl rfl ?_
            refine rx_aload_n hE dX8_next_228 (i := 0) rfl rfl ?_
            refine rx_getf hE dX8_next_229 fl_X8_28_8 (xa_1 hM) rfl ?_
            refine rx_bipush hE dX8_next_232 (v := 10) (by decide) ?_
            refine rx_imul hE dX8_next_234 ?_
            refine rx_aload_n hE dX8_next_235 (i := 0) rfl rfl ?_
            refine rx_getf hE dX8_next_236 fl_X8_9_8 (xa_1 hM) rfl ?_
            refine rx_aload_n hE dX8_next_239 (i := 0) rfl rfl ?_
            refine rx_getf hE dX8_next_240 fl_X8_19_8 (xa_1 hM) rfl ?_
            refine rx_int _ (nI p) ht.2.2.1 ?_
            refine rx_baldN hE dX8_next_243 (xa_1_1 hM) (by omega) (by decide) ?_
            refine rx_int _ (T p) (congrFun ht.2.1 p) ?_
            refine rx_iadd hE dX8_next_244 ?_
            refine rx_bipush hE dX8_next_245 (v := 48) (by decide) ?_
            refine rx_isub hE dX8_next_247 ?_
            refine rx_put hE dX8_next_248 fl_X8_28_8 fw_8_5 (xa_1 hM) (fun _ => rfl) (fun _ => rfl) (Nat.le_of_ble_eq_true rfl) ?_
            refine rx_mem (M' := xm n (x_r X 1 (j_f V 5 (V 0 5 * 10 + T p - 48))) O Q G S L) (xw_1_f5.trans (by rw [x_rr, x_r_eq])) ?_
            refine rx_aload_n hE dX8_next_251 (i := 0) rfl rfl ?_
            refine rx_dup hE dX8_next_252 rfl ?_
            refine rx_getf hE dX8_next_253 fl_X8_19_8 (xa_1 hM) rfl ?_
            refine rx_int _ (nI p) ht.2.2.1 ?_
            refine rx_iconst hE dX8_next_256 (v := 1) (by decide) ?_
            refine rx_iadd hE dX8_next_257 ?_
            refine rx_int _ (nI (p + 1)) (nI_1 p) ?_
            refine rx_put hE dX8_next_258 fl_X8_19_8 fw_8_2 (xa_1 hM) (fun _ => rfl) (fun _ => rfl) (Nat.le_of_ble_eq_true rfl) ?_
            refine rx_mem (M' := xm n (x_r X 1 (j_f (j_f V 5 (V 0 5 * 10 + T p - 48)) 2 (nI (p + 1)))) O Q G S L) (xw_1_f2.trans (by rw [x_rr, x_r_eq])) ?_
            refine rx_goto (tgt := 188) hE dX8_next_261 (by decide) ?_
            exact ihm3 (p + 1) _ (by omega) ((ht.o (k := 5) (by decide) _).at (p + 1)) h3 h4 (by rw [← hE2]; exact (tru_s (by omega) (decide_eq_true ⟨c210, c224⟩)).symm) (by rw [← h5, show te T N P0 - p = te T N P0 - (p + 1) + 1 by have := tru_le (P := dgB) (T := T) (N := N) (p := p + 1) (by omega); have := tru_s (P := dgB) (T := T) (N := N) (p := p) (by omega) (decide_eq_true ⟨c210, c224⟩); omega]; rfl)
    refine rx_aload_n hE dX8_next_38 (i := 0) rfl rfl ?_
    refine rx_aload_n hE dX8_next_39 (i := 0) rfl rfl ?_
    refine rx_getf hE dX8_next_40 fl_X8_19_8 (xa_1 hM) rfl ?_
    refine rx_int _ (nI P0) ht.2.2.1 ?_
    refine rx_put hE dX8_next_43 fl_X8_25_8 fw_8_4 (xa_1 hM) (fun _ => rfl) (fun _ => rfl) (Nat.le_of_ble_eq_true rfl) ?_
    refine rx_mem (M' := xm n (x_r X 1 (j_f V 4 (nI P0))) O Q G S L) (xw_1_f4.trans (by rw [x_rr, x_r_eq])) ?_
    refine rx_aload_n hE dX8_next_46 (i := 0) rfl rfl ?_
    refine rx_getf hE dX8_next_47 fl_X8_19_8 (xa_1 hM) rfl ?_
    refine rx_int _ (nI P0) ht.2.2.1 ?_
    refine rx_aload_n hE dX8_next_50 (i := 0) rfl rfl ?_
    refine rx_getf hE dX8_next_51 fl_X8_15_8 (xa_1 hM) rfl ?_
    refine rx_int _ (nI N) ht.1 ?_
    refine rx_icmp_lt (tgt := 65) hE dX8_next_54 (by decide) (fun c54 => ?_) (fun c54 => ?_)
    · have hpN : P0 < N := (nI_ltI (a := P0) (b := N) (by omega) (by omega)).mp c54
      refine rx_aload_n hE dX8_next_65 (i := 0) rfl rfl ?_
      refine rx_getf hE dX8_next_66 fl_X8_9_8 (xa_1 hM) rfl ?_
      refine rx_aload_n hE dX8_next_69 (i := 0) rfl rfl ?_
      refine rx_getf hE dX8_next_70 fl_X8_19_8 (xa_1 hM) rfl ?_
      refine rx_int _ (nI P0) ht.2.2.1 ?_
      refine rx_baldN hE dX8_next_73 (xa_1_1 hM) (by omega) (by decide) ?_
      refine rx_int _ (T P0) (congrFun ht.2.1 P0) ?_
      refine rx_bipush hE dX8_next_74 (v := 97) (by decide) ?_
      refine rx_icmp_lt (tgt := 150) hE dX8_next_76 (by decide) (fun c76 => ?_) (fun c76 => ?_)
      · refine rx_aload_n hE dX8_next_150 (i := 0) rfl rfl ?_
        refine rx_getf hE dX8_next_151 fl_X8_9_8 (xa_1 hM) rfl ?_
        refine rx_aload_n hE dX8_next_154 (i := 0) rfl rfl ?_
        refine rx_getf hE dX8_next_155 fl_X8_19_8 (xa_1 hM) rfl ?_
        refine rx_int _ (nI P0) ht.2.2.1 ?_
        refine rx_baldN hE dX8_next_158 (xa_1_1 hM) (by omega) (by decide) ?_
        refine rx_int _ (T P0) (congrFun ht.2.1 P0) ?_
        refine rx_bipush hE dX8_next_159 (v := 48) (by decide) ?_
        refine rx_icmp_lt (tgt := 264) hE dX8_next_161 (by decide) (fun c161 => ?_) (fun c161 => ?_)
        · refine rx_aload_n hE dX8_next_264 (i := 0) rfl rfl ?_
          refine rx_iconst hE dX8_next_265 (v := 3) (by decide) ?_
          refine rx_put hE dX8_next_266 fl_X8_22_8 fw_8_3 (xa_1 hM) (fun _ => rfl) (fun _ => rfl) (Nat.le_of_ble_eq_true rfl) ?_
          refine rx_mem (M' := xm n (x_r X 1 (j_f (j_f V 4 (nI P0)) 3 3)) O Q G S L) (xw_1_f3.trans (by rw [x_rr, x_r_eq])) ?_
          refine rx_aload_n hE dX8_next_269 (i := 0) rfl rfl ?_
          refine rx_aload_n hE dX8_next_270 (i := 0) rfl rfl ?_
          refine rx_getf hE dX8_next_271 fl_X8_9_8 (xa_1 hM) rfl ?_
          refine rx_aload_n hE dX8_next_274 (i := 0) rfl rfl ?_
          refine rx_getf hE dX8_next_275 fl_X8_19_8 (xa_1 hM) rfl ?_
          refine rx_int _ (nI P0) ht.2.2.1 ?_
          refine rx_baldN hE dX8_next_278 (xa_1_1 hM) (by omega) (by decide) ?_
          refine rx_int _ (T P0) (congrFun ht.2.1 P0) ?_
          refine rx_put hE dX8_next_279 fl_X8_28_8 fw_8_5 (xa_1 hM) (fun _ => rfl) (fun _ => rfl) (Nat.le_of_ble_eq_true rfl) ?_
          refine rx_mem (M' := xm n (x_r X 1 (j_f (j_f (j_f V 4 (nI P0)) 3 3) 5 (T P0))) O Q G S L) (xw_1_f5.trans (by rw [x_rr, x_r_eq])) ?_
          refine rx_aload_n hE dX8_next_282 (i := 0) rfl rfl ?_
          refine rx_dup hE dX8_next_283 rfl ?_
          refine rx_getf hE dX8_next_284 fl_X8_19_8 (xa_1 hM) rfl ?_
          refine rx_int _ (nI P0) ht.2.2.1 ?_
          refine rx_iconst hE dX8_next_287 (v := 1) (by decide) ?_
          refine rx_iadd hE dX8_next_288 ?_
          refine rx_int _ (nI (P0 + 1)) (nI_1 P0) ?_
          refine rx_put hE dX8_next_289 fl_X8_19_8 fw_8_2 (xa_1 hM) (fun _ => rfl) (fun _ => rfl) (Nat.le_of_ble_eq_true rfl) ?_
          refine rx_mem (M' := xm n (x_r X 1 (j_f (j_f (j_f (j_f V 4 (nI P0)) 3 3) 5 (T P0)) 2 (nI (P0 + 1)))) O Q G S L) (xw_1_f2.trans (by rw [x_rr, x_r_eq])) ?_
          refine rx_aload_n hE dX8_next_292 (i := 0) rfl rfl ?_
          refine rx_getf hE dX8_next_293 fl_X8_28_8 (xa_1 hM) rfl ?_
          refine rx_int _ (T P0) rfl ?_
          refine rx_bipush hE dX8_next_296 (v := 60) (by decide) ?_
          refine rx_icmp_eq (tgt := 310) hE dX8_next_298 (by decide) (fun c298 => ?_) (fun c298 => ?_)
          · refine rx_aload_n hE dX8_next_310 (i := 0) rfl rfl ?_
            refine rx_getf hE dX8_next_311 fl_X8_19_8 (xa_1 hM) rfl ?_
            refine rx_int _ (nI (P0 + 1)) rfl ?_
            refine rx_aload_n hE dX8_next_314 (i := 0) rfl rfl ?_
            refine rx_getf hE dX8_next_315 fl_X8_15_8 (xa_1 hM) rfl ?_
            refine rx_int _ (nI N) ht.1 ?_
            refine rx_icmp_ge (tgt := 357) hE dX8_next_318 (by decide) (fun c318 => ?_) (fun c318 => ?_)
            · exact rx_vret hE hQ rfl dX8_next_357 ⟨rfl, _, rfl, ⟨by rw [(tk_3 hpN (fun q => q.1 c76) (fun q => q.1 c161)).2.1, if_neg (show ¬ tsg T N P0 from fun q => absurd c318 (nI_ge (a := P0 + 1) (b := N) (by have := q.2.1; omega) (by omega)))]; exact (((ht.o (k := 4) (by decide) _).o (k := 3) (by decide) _).o (k := 5) (by decide) _).at (P0 + 1), by rw [(tk_3 hpN (fun q => q.1 c76) (fun q => q.1 c161)).1]; rfl, rfl, fun _ => by rw [(tk_3 hpN (fun q => q.1 c76) (fun q => q.1 c161)).2.2, if_neg (show ¬ tsg T N P0 from fun q => absurd c318 (nI_ge (a := P0 + 1) (b := N) (by have := q.2.1; omega) (by omega)))]; rfl⟩⟩
            · have hp1 : P0 + 1 < N := Classical.byContradiction (fun q => c318 (nI_le (by omega) (by omega)))
              refine rx_aload_n hE dX8_next_321 (i := 0) rfl rfl ?_
              refine rx_getf hE dX8_next_322 fl_X8_9_8 (xa_1 hM) rfl ?_
              refine rx_aload_n hE dX8_next_325 (i := 0) rfl rfl ?_
              refine rx_getf hE dX8_next_326 fl_X8_19_8 (xa_1 hM) rfl ?_
              refine rx_int _ (nI (P0 + 1)) rfl ?_
              refine rx_baldN hE dX8_next_329 (xa_1_1 hM) (by omega) (by decide) ?_
              refine rx_int _ (T (P0 + 1)) (congrFun ht.2.1 (P0 + 1)) ?_
              refine rx_bipush hE dX8_next_330 (v := 61) (by decide) ?_
              refine rx_icmp_ne (tgt := 357) hE dX8_next_332 (by decide) (fun c332 => ?_) (fun c332 => ?_)
              · exact rx_vret hE hQ rfl dX8_next_357 ⟨rfl, _, rfl, ⟨by rw [(tk_3 hpN (fun q => q.1 c76) (fun q => q.1 c161)).2.1, if_neg (show ¬ tsg T N P0 from fun q => c332 q.2.2)]; exact (((ht.o (k := 4) (by decide) _).o (k := 3) (by decide) _).o (k := 5) (by decide) _).at (P0 + 1), by rw [(tk_3 hpN (fun q => q.1 c76) (fun q => q.1 c161)).1]; rfl, rfl, fun _ => by rw [(tk_3 hpN (fun q => q.1 c76) (fun q => q.1 c161)).2.2, if_neg (show ¬ tsg T N P0 from fun q => c332 q.2.2)]; rfl⟩⟩
              · refine rx_aload_n hE dX8_next_335 (i := 0) rfl rfl ?_
                refine rx_dup hE dX8_next_336 rfl ?_
                refine rx_getf hE dX8_next_337 fl_X8_28_8 (xa_1 hM) rfl ?_
                refine rx_int _ (T P0) rfl ?_
                refine rx_sipush hE dX8_next_340 (v := 256) (by decide) ?_
                refine rx_iadd hE dX8_next_343 ?_
                refine rx_put hE dX8_next_344 fl_X8_28_8 fw_8_5 (xa_1 hM) (fun _ => rfl) (fun _ => rfl) (Nat.le_of_ble_eq_true rfl) ?_
                refine rx_mem (M' := xm n (x_r X 1 (j_f (j_f (j_f (j_f (j_f V 4 (nI P0)) 3 3) 5 (T P0)) 2 (nI (P0 + 1))) 5 (T P0 + 256))) O Q G S L) (xw_1_f5.trans (by rw [x_rr, x_r_eq])) ?_
                refine rx_aload_n hE dX8_next_347 (i := 0) rfl rfl ?_
                refine rx_dup hE dX8_next_348 rfl ?_
                refine rx_getf hE dX8_next_349 fl_X8_19_8 (xa_1 hM) rfl ?_
                refine rx_int _ (nI (P0 + 1)) rfl ?_
                refine rx_iconst hE dX8_next_352 (v := 1) (by decide) ?_
                refine rx_iadd hE dX8_next_353 ?_
                refine rx_int _ (nI (P0 + 1 + 1)) (nI_1 (P0 + 1)) ?_
                refine rx_put hE dX8_next_354 fl_X8_19_8 fw_8_2 (xa_1 hM) (fun _ => rfl) (fun _ => rfl) (Nat.le_of_ble_eq_true rfl) ?_
                refine rx_mem (M' := xm n (x_r X 1 (j_f (j_f (j_f (j_f (j_f (j_f V 4 (nI P0)) 3 3) 5 (T P0)) 2 (nI (P0 + 1))) 5 (T P0 + 256)) 2 (nI (P0 + 1 + 1)))) O Q G S L) (xw_1_f2.trans (by rw [x_rr, x_r_eq])) ?_
                exact rx_vret hE hQ rfl dX8_next_357 ⟨rfl, _, rfl, ⟨by rw [(tk_3 hpN (fun q => q.1 c76) (fun q => q.1 c161)).2.1, if_pos (show tsg T N P0 from ⟨Or.inl c298, hp1, c332⟩)]; exact (((((ht.o (k := 4) (by decide) _).o (k := 3) (by decide) _).o (k := 5) (by decide) _).at (P0 + 1)).o (k := 5) (by decide) _).at (P0 + 1 + 1), by rw [(tk_3 hpN (fun q => q.1 c76) (fun q => q.1 c161)).1]; rfl, rfl, fun _ => by rw [(tk_3 hpN (fun q => q.1 c76) (fun q => q.1 c161)).2.2, if_pos (show tsg T N P0 from ⟨Or.inl c298, hp1, c332⟩)]; rfl⟩⟩
          · refine rx_aload_n hE dX8_next_301 (i := 0) rfl rfl ?_
            refine rx_getf hE dX8_next_302 fl_X8_28_8 (xa_1 hM) rfl ?_
            refine rx_int _ (T P0) rfl ?_
            refine rx_bipush hE dX8_next_305 (v := 62) (by decide) ?_
            refine rx_icmp_ne (tgt := 357) hE dX8_next_307 (by decide) (fun c307 => ?_) (fun c307 => ?_)
            · exact rx_vret hE hQ rfl dX8_next_357 ⟨rfl, _, rfl, ⟨by rw [(tk_3 hpN (fun q => q.1 c76) (fun q => q.1 c161)).2.1, if_neg (show ¬ tsg T N P0 from fun q => q.1.elim c298 c307)]; exact (((ht.o (k := 4) (by decide) _).o (k := 3) (by decide) _).o (k := 5) (by decide) _).at (P0 + 1), by rw [(tk_3 hpN (fun q => q.1 c76) (fun q => q.1 c161)).1]; rfl, rfl, fun _ => by rw [(tk_3 hpN (fun q => q.1 c76) (fun q => q.1 c161)).2.2, if_neg (show ¬ tsg T N P0 from fun q => q.1.elim c298 c307)]; rfl⟩⟩
            · refine rx_aload_n hE dX8_next_310 (i := 0) rfl rfl ?_
              refine rx_getf hE dX8_next_311 fl_X8_19_8 (xa_1 hM) rfl ?_
              refine rx_int _ (nI (P0 + 1)) rfl ?_
              refine rx_aload_n hE dX8_next_314 (i := 0) rfl rfl ?_
              refine rx_getf hE dX8_next_315 fl_X8_15_8 (xa_1 hM) rfl ?_
              refine rx_int _ (nI N) ht.1 ?_
              refine rx_icmp_ge (tgt := 357) hE dX8_next_318 (by decide) (fun c318 => ?_) (fun c318 => ?_)
              · exact rx_vret hE hQ rfl dX8_next_357 ⟨rfl, _, rfl, ⟨by rw [(tk_3 hpN (fun q => q.1 c76) (fun q => q.1 c161)).2.1, if_neg (show ¬ tsg T N P0 from fun q => absurd c318 (nI_ge (a := P0 + 1) (b := N) (by have := q.2.1; omega) (by omega)))]; exact (((ht.o (k := 4) (by decide) _).o (k := 3) (by decide) _).o (k := 5) (by decide) _).at (P0 + 1), by rw [(tk_3 hpN (fun q => q.1 c76) (fun q => q.1 c161)).1]; rfl, rfl, fun _ => by rw [(tk_3 hpN (fun q => q.1 c76) (fun q => q.1 c161)).2.2, if_neg (show ¬ tsg T N P0 from fun q => absurd c318 (nI_ge (a := P0 + 1) (b := N) (by have := q.2.1; omega) (by omega)))]; rfl⟩⟩
              · have hp1 : P0 + 1 < N := Classical.byContradiction (fun q => c318 (nI_le (by omega) (by omega)))
                refine rx_aload_n hE dX8_next_321 (i := 0) rfl rfl ?_
                refine rx_getf hE dX8_next_322 fl_X8_9_8 (xa_1 hM) rfl ?_
                refine rx_aload_n hE dX8_next_325 (i := 0) rfl rfl ?_
                refine rx_getf hE dX8_next_326 fl_X8_19_8 (xa_1 hM) rfl ?_
                refine rx_int _ (nI (P0 + 1)) rfl ?_
                refine rx_baldN hE dX8_next_329 (xa_1_1 hM) (by omega) (by decide) ?_
                refine rx_int _ (T (P0 + 1)) (congrFun ht.2.1 (P0 + 1)) ?_
                refine rx_bipush hE dX8_next_330 (v := 61) (by decide) ?_
                refine rx_icmp_ne (tgt := 357) hE dX8_next_332 (by decide) (fun c332 => ?_) (fun c332 => ?_)
                · exact rx_vret hE hQ rfl dX8_next_357 ⟨rfl, _, rfl, ⟨by rw [(tk_3 hpN (fun q => q.1 c76) (fun q => q.1 c161)).2.1, if_neg (show ¬ tsg T N P0 from fun q => c332 q.2.2)]; exact (((ht.o (k := 4) (by decide) _).o (k := 3) (by decide) _).o (k := 5) (by decide) _).at (P0 + 1), by rw [(tk_3 hpN (fun q => q.1 c76) (fun q => q.1 c161)).1]; rfl, rfl, fun _ => by rw [(tk_3 hpN (fun q => q.1 c76) (fun q => q.1 c161)).2.2, if_neg (show ¬ tsg T N P0 from fun q => c332 q.2.2)]; rfl⟩⟩
                · refine rx_aload_n hE dX8_next_335 (i := 0) rfl rfl ?_
                  refine rx_dup hE dX8_next_336 rfl ?_
                  refine rx_getf hE dX8_next_337 fl_X8_28_8 (xa_1 hM) rfl ?_
                  refine rx_int _ (T P0) rfl ?_
                  refine rx_sipush hE dX8_next_340 (v := 256) (by decide) ?_
                  refine rx_iadd hE dX8_next_343 ?_
                  refine rx_put hE dX8_next_344 fl_X8_28_8 fw_8_5 (xa_1 hM) (fun _ => rfl) (fun _ => rfl) (Nat.le_of_ble_eq_true rfl) ?_
                  refine rx_mem (M' := xm n (x_r X 1 (j_f (j_f (j_f (j_f (j_f V 4 (nI P0)) 3 3) 5 (T P0)) 2 (nI (P0 + 1))) 5 (T P0 + 256))) O Q G S L) (xw_1_f5.trans (by rw [x_rr, x_r_eq])) ?_
                  refine rx_aload_n hE dX8_next_347 (i := 0) rfl rfl ?_
                  refine rx_dup hE dX8_next_348 rfl ?_
                  refine rx_getf hE dX8_next_349 fl_X8_19_8 (xa_1 hM) rfl ?_
                  refine rx_int _ (nI (P0 + 1)) rfl ?_
                  refine rx_iconst hE dX8_next_352 (v := 1) (by decide) ?_
                  refine rx_iadd hE dX8_next_353 ?_
                  refine rx_int _ (nI (P0 + 1 + 1)) (nI_1 (P0 + 1)) ?_
                  refine rx_put hE dX8_next_354 fl_X8_19_8 fw_8_2 (xa_1 hM) (fun _ => rfl) (fun _ => rfl) (Nat.le_of_ble_eq_true rfl) ?_
                  refine rx_mem (M' := xm n (x_r X 1 (j_f (j_f (j_f (j_f (j_f (j_f V 4 (nI P0)) 3 3) 5 (T P0)) 2 (nI (P0 + 1))) 5 (T P0 + 256)) 2 (nI (P0 + 1 + 1)))) O Q G S L) (xw_1_f2.trans (by rw [x_rr, x_r_eq])) ?_
                  exact rx_vret hE hQ rfl dX8_next_357 ⟨rfl, _, rfl, ⟨by rw [(tk_3 hpN (fun q => q.1 c76) (fun q => q.1 c161)).2.1, if_pos (show tsg T N P0 from ⟨Or.inr c307, hp1, c332⟩)]; exact (((((ht.o (k := 4) (by decide) _).o (k := 3) (by decide) _).o (k := 5) (by decide) _).at (P0 + 1)).o (k := 5) (by decide) _).at (P0 + 1 + 1), by rw [(tk_3 hpN (fun q => q.1 c76) (fun q => q.1 c161)).1]; rfl, rfl, fun _ => by rw [(tk_3 hpN (fun q => q.1 c76) (fun q => q.1 c161)).2.2, if_pos (show tsg T N P0 from ⟨Or.inr c307, hp1, c332⟩)]; rfl⟩⟩
        · refine rx_aload_n hE dX8_next_164 (i := 0) rfl rfl ?_
          refine rx_getf hE dX8_next_165 fl_X8_9_8 (xa_1 hM) rfl ?_
          refine rx_aload_n hE dX8_next_168 (i := 0) rfl rfl ?_
          refine rx_getf hE dX8_next_169 fl_X8_19_8 (xa_1 hM) rfl ?_
          refine rx_int _ (nI P0) ht.2.2.1 ?_
          refine rx_baldN hE dX8_next_172 (xa_1_1 hM) (by omega) (by decide) ?_
          refine rx_int _ (T P0) (congrFun ht.2.1 P0) ?_
          refine rx_bipush hE dX8_next_173 (v := 57) (by decide) ?_
          refine rx_icmp_gt (tgt := 264) hE dX8_next_175 (by decide) (fun c175 => ?_) (fun c175 => ?_)
          · refine rx_aload_n hE dX8_next_264 (i := 0) rfl rfl ?_
            refine rx_iconst hE dX8_next_265 (v := 3) (by decide) ?_
            refine rx_put hE dX8_next_266 fl_X8_22_8 fw_8_3 (xa_1 hM) (fun _ => rfl) (fun _ => rfl) (Nat.le_of_ble_eq_true rfl) ?_
            refine rx_mem (M' := xm n (x_r X 1 (j_f (j_f V 4 (nI P0)) 3 3)) O Q G S L) (xw_1_f3.trans (by rw [x_rr, x_r_eq])) ?_
            refine rx_aload_n hE dX8_next_269 (i := 0) rfl rfl ?_
            refine rx_aload_n hE dX8_next_270 (i := 0) rfl rfl ?_
            refine rx_getf hE dX8_next_271 fl_X8_9_8 (xa_1 hM) rfl ?_
            refine rx_aload_n hE dX8_next_274 (i := 0) rfl rfl ?_
            refine rx_getf hE dX8_next_275 fl_X8_19_8 (xa_1 hM) rfl ?_
            refine rx_int _ (nI P0) ht.2.2.1 ?_
            refine rx_baldN hE dX8_next_278 (xa_1_1 hM) (by omega) (by decide) ?_
            refine rx_int _ (T P0) (congrFun ht.2.1 P0) ?_
            refine rx_put hE dX8_next_279 fl_X8_28_8 fw_8_5 (xa_1 hM) (fun _ => rfl) (fun _ => rfl) (Nat.le_of_ble_eq_true rfl) ?_
            refine rx_mem (M' := xm n (x_r X 1 (j_f (j_f (j_f V 4 (nI P0)) 3 3) 5 (T P0))) O Q G S L) (xw_1_f5.trans (by rw [x_rr, x_r_eq])) ?_
            refine rx_aload_n hE dX8_next_282 (i := 0) rfl rfl ?_
            refine rx_dup hE dX8_next_283 rfl ?_
            refine rx_getf hE dX8_next_284 fl_X8_19_8 (xa_1 hM) rfl ?_
            refine rx_int _ (nI P0) ht.2.2.1 ?_
            refine rx_iconst hE dX8_next_287 (v := 1) (by decide) ?_
            refine rx_iadd hE dX8_next_288 ?_
            refine rx_int _ (nI (P0 + 1)) (nI_1 P0) ?_
            refine rx_put hE dX8_next_289 fl_X8_19_8 fw_8_2 (xa_1 hM) (fun _ => rfl) (fun _ => rfl) (Nat.le_of_ble_eq_true rfl) ?_
            refine rx_mem (M' := xm n (x_r X 1 (j_f (j_f (j_f (j_f V 4 (nI P0)) 3 3) 5 (T P0)) 2 (nI (P0 + 1)))) O Q G S L) (xw_1_f2.trans (by rw [x_rr, x_r_eq])) ?_
            refine rx_aload_n hE dX8_next_292 (i := 0) rfl rfl ?_
            refine rx_getf hE dX8_next_293 fl_X8_28_8 (xa_1 hM) rfl ?_
            refine rx_int _ (T P0) rfl ?_
            refine rx_bipush hE dX8_next_296 (v := 60) (by decide) ?_
            refine rx_icmp_eq (tgt := 310) hE dX8_next_298 (by decide) (fun c298 => ?_) (fun c298 => ?_)
            · refine rx_aload_n hE dX8_next_310 (i := 0) rfl rfl ?_
              refine rx_getf hE dX8_next_311 fl_X8_19_8 (xa_1 hM) rfl ?_
              refine rx_int _ (nI (P0 + 1)) rfl ?_
              refine rx_aload_n hE dX8_next_314 (i := 0) rfl rfl ?_
              refine rx_getf hE dX8_next_315 fl_X8_15_8 (xa_1 hM) rfl ?_
              refine rx_int _ (nI N) ht.1 ?_
              refine rx_icmp_ge (tgt := 357) hE dX8_next_318 (by decide) (fun c318 => ?_) (fun c318 => ?_)
              · exact rx_vret hE hQ rfl dX8_next_357 ⟨rfl, _, rfl, ⟨by rw [(tk_3 hpN (fun q => q.1 c76) (fun q => q.2 c175)).2.1, if_neg (show ¬ tsg T N P0 from fun q => absurd c318 (nI_ge (a := P0 + 1) (b := N) (by have := q.2.1; omega) (by omega)))]; exact (((ht.o (k := 4) (by decide) _).o (k := 3) (by decide) _).o (k := 5) (by decide) _).at (P0 + 1), by rw [(tk_3 hpN (fun q => q.1 c76) (fun q => q.2 c175)).1]; rfl, rfl, fun _ => by rw [(tk_3 hpN (fun q => q.1 c76) (fun q => q.2 c175)).2.2, if_neg (show ¬ tsg T N P0 from fun q => absurd c318 (nI_ge (a := P0 + 1) (b := N) (by have := q.2.1; omega) (by omega)))]; rfl⟩⟩
              · have hp1 : P0 + 1 < N := Classical.byContradiction (fun q => c318 (nI_le (by omega) (by omega)))
                refine rx_aload_n hE dX8_next_321 (i := 0) rfl rfl ?_
                refine rx_getf hE dX8_next_322 fl_X8_9_8 (xa_1 hM) rfl ?_
                refine rx_aload_n hE dX8_next_325 (i := 0) rfl rfl ?_
                refine rx_getf hE dX8_next_326 fl_X8_19_8 (xa_1 hM) rfl ?_
                refine rx_int _ (nI (P0 + 1)) rfl ?_
                refine rx_baldN hE dX8_next_329 (xa_1_1 hM) (by omega) (by decide) ?_
                refine rx_int _ (T (P0 + 1)) (congrFun ht.2.1 (P0 + 1)) ?_
                refine rx_bipush hE dX8_next_330 (v := 61) (by decide) ?_
                refine rx_icmp_ne (tgt := 357) hE dX8_next_332 (by decide) (fun c332 => ?_) (fun c332 => ?_)
                · exact rx_vret hE hQ rfl dX8_next_357 ⟨rfl, _, rfl, ⟨by rw [(tk_3 hpN (fun q => q.1 c76) (fun q => q.2 c175)).2.1, if_neg (show ¬ tsg T N P0 from fun q => c332 q.2.2)]; exact (((ht.o (k := 4) (by decide) _).o (k := 3) (by decide) _).o (k := 5) (by decide) _).at (P0 + 1), by rw [(tk_3 hpN (fun q => q.1 c76) (fun q => q.2 c175)).1]; rfl, rfl, fun _ => by rw [(tk_3 hpN (fun q => q.1 c76) (fun q => q.2 c175)).2.2, if_neg (show ¬ tsg T N P0 from fun q => c332 q.2.2)]; rfl⟩⟩
                · refine rx_aload_n hE dX8_next_335 (i := 0) rfl rfl ?_
                  refine rx_dup hE dX8_next_336 rfl ?_
                  refine rx_getf hE dX8_next_337 fl_X8_28_8 (xa_1 hM) rfl ?_
                  refine rx_int _ (T P0) rfl ?_
                  refine rx_sipush hE dX8_next_340 (v := 256) (by decide) ?_
                  refine rx_iadd hE dX8_next_343 ?_
                  refine rx_put hE dX8_next_344 fl_X8_28_8 fw_8_5 (xa_1 hM) (fun _ => rfl) (fun _ => rfl) (Nat.le_of_ble_eq_true rfl) ?_
                  refine rx_mem (M' := xm n (x_r X 1 (j_f (j_f (j_f (j_f (j_f V 4 (nI P0)) 3 3) 5 (T P0)) 2 (nI (P0 + 1))) 5 (T P0 + 256))) O Q G S L) (xw_1_f5.trans (by rw [x_rr, x_r_eq])) ?_
                  refine rx_aload_n hE dX8_next_347 (i := 0) rfl rfl ?_
                  refine rx_dup hE dX8_next_348 rfl ?_
                  refine rx_getf hE dX8_next_349 fl_X8_19_8 (xa_1 hM) rfl ?_
                  refine rx_int _ (nI (P0 + 1)) rfl ?_
                  refine rx_iconst hE dX8_next_352 (v := 1) (by decide) ?_
                  refine rx_iadd hE dX8_next_353 ?_
                  refine rx_int _ (nI (P0 + 1 + 1)) (nI_1 (P0 + 1)) ?_
                  refine rx_put hE dX8_next_354 fl_X8_19_8 fw_8_2 (xa_1 hM) (fun _ => rfl) (fun _ => rfl) (Nat.le_of_ble_eq_true rfl) ?_
                  refine rx_mem (M' := xm n (x_r X 1 (j_f (j_f (j_f (j_f (j_f (j_f V 4 (nI P0)) 3 3) 5 (T P0)) 2 (nI (P0 + 1))) 5 (T P0 + 256)) 2 (nI (P0 + 1 + 1)))) O Q G S L) (xw_1_f2.trans (by rw [x_rr, x_r_eq])) ?_
                  exact rx_vret hE hQ rfl dX8_next_357 ⟨rfl, _, rfl, ⟨by rw [(tk_3 hpN (fun q => q.1 c76) (fun q => q.2 c175)).2.1, if_pos (show tsg T N P0 from ⟨Or.inl c298, hp1, c332⟩)]; exact (((((ht.o (k := 4) (by decide) _).o (k := 3) (by decide) _).o (k := 5) (by decide) _).at (P0 + 1)).o (k := 5) (by decide) _).at (P0 + 1 + 1), by rw [(tk_3 hpN (fun q => q.1 c76) (fun q => q.2 c175)).1]; rfl, rfl, fun _ => by rw [(tk_3 hpN (fun q => q.1 c76) (fun q => q.2 c175)).2.2, if_pos (show tsg T N P0 from ⟨Or.inl c298, hp1, c332⟩)]; rfl⟩⟩
            · refine rx_aload_n hE dX8_next_301 (i := 0) rfl rfl ?_
              refine rx_getf hE dX8_next_302 fl_X8_28_8 (xa_1 hM) rfl ?_
              refine rx_int _ (T P0) rfl ?_
              refine rx_bipush hE dX8_next_305 (v := 62) (by decide) ?_
              refine rx_icmp_ne (tgt := 357) hE dX8_next_307 (by decide) (fun c307 => ?_) (fun c307 => ?_)
              · exact rx_vret hE hQ rfl dX8_next_357 ⟨rfl, _, rfl, ⟨by rw [(tk_3 hpN (fun q => q.1 c76) (fun q => q.2 c175)).2.1, if_neg (show ¬ tsg T N P0 from fun q => q.1.elim c298 c307)]; exact (((ht.o (k := 4) (by decide) _).o (k := 3) (by decide) _).o (k := 5) (by decide) _).at (P0 + 1), by rw [(tk_3 hpN (fun q => q.1 c76) (fun q => q.2 c175)).1]; rfl, rfl, fun _ => by rw [(tk_3 hpN (fun q => q.1 c76) (fun q => q.2 c175)).2.2, if_neg (show ¬ tsg T N P0 from fun q => q.1.elim c298 c307)]; rfl⟩⟩
              · refine rx_aload_n hE dX8_next_310 (i := 0) rfl rfl ?_
                refine rx_getf hE dX8_next_311 fl_X8_19_8 (xa_1 hM) rfl ?_
                refine rx_int _ (nI (P0 + 1)) rfl ?_
                refine rx_aload_n hE dX8_next_314 (i := 0) rfl rfl ?_
                refine rx_getf hE dX8_next_315 fl_X8_15_8 (xa_1 hM) rfl ?_
                refine rx_int _ (nI N) ht.1 ?_
                refine rx_icmp_ge (tgt := 357) hE dX8_next_318 (by decide) (fun c318 => ?_) (fun c318 => ?_)
                · exact rx_vret hE hQ rfl dX8_next_357 ⟨rfl, _, rfl, ⟨by rw [(tk_3 hpN (fun q => q.1 c76) (fun q => q.2 c175)).2.1, if_neg (show ¬ tsg T N P0 from fun q => absurd c318 (nI_ge (a := P0 + 1) (b := N) (by have := q.2.1; omega) (by omega)))]; exact (((ht.o (k := 4) (by decide) _).o (k := 3) (by decide) _).o (k := 5) (by decide) _).at (P0 + 1), by rw [(tk_3 hpN (fun q => q.1 c76) (fun q => q.2 c175)).1]; rfl, rfl, fun _ => by rw [(tk_3 hpN (fun q => q.1 c76) (fun q => q.2 c175)).2.2, if_neg (show ¬ tsg T N P0 from fun q => absurd c318 (nI_ge (a := P0 + 1) (b := N) (by have := q.2.1; omega) (by omega)))]; rfl⟩⟩
                · have hp1 : P0 + 1 < N := Classical.byContradiction (fun q => c318 (nI_le (by omega) (by omega)))
                  refine rx_aload_n hE dX8_next_321 (i := 0) rfl rfl ?_
                  refine rx_getf hE dX8_next_322 fl_X8_9_8 (xa_1 hM) rfl ?_
                  refine rx_aload_n hE dX8_next_325 (i := 0) rfl rfl ?_
                  refine rx_getf hE dX8_next_326 fl_X8_19_8 (xa_1 hM) rfl ?_
                  refine rx_int _ (nI (P0 + 1)) rfl ?_
                  refine rx_baldN hE dX8_next_329 (xa_1_1 hM) (by omega) (by decide) ?_
                  refine rx_int _ (T (P0 + 1)) (congrFun ht.2.1 (P0 + 1)) ?_
                  refine rx_bipush hE dX8_next_330 (v := 61) (by decide) ?_
                  refine rx_icmp_ne (tgt := 357) hE dX8_next_332 (by decide) (fun c332 => ?_) (fun c332 => ?_)
                  · exact rx_vret hE hQ rfl dX8_next_357 ⟨rfl, _, rfl, ⟨by rw [(tk_3 hpN (fun q => q.1 c76) (fun q => q.2 c175)).2.1, if_neg (show ¬ tsg T N P0 from fun q => c332 q.2.2)]; exact (((ht.o (k := 4) (by decide) _).o (k := 3) (by decide) _).o (k := 5) (by decide) _).at (P0 + 1), by rw [(tk_3 hpN (fun q => q.1 c76) (fun q => q.2 c175)).1]; rfl, rfl, fun _ => by rw [(tk_3 hpN (fun q => q.1 c76) (fun q => q.2 c175)).2.2, if_neg (show ¬ tsg T N P0 from fun q => c332 q.2.2)]; rfl⟩⟩
                  · refine rx_aload_n hE dX8_next_335 (i := 0) rfl rfl ?_
                    refine rx_dup hE dX8_next_336 rfl ?_
                    refine rx_getf hE dX8_next_337 fl_X8_28_8 (xa_1 hM) rfl ?_
                    refine rx_int _ (T P0) rfl ?_
                    refine rx_sipush hE dX8_next_340 (v := 256) (by decide) ?_
                    refine rx_iadd hE dX8_next_343 ?_
                    refine rx_put hE dX8_next_344 fl_X8_28_8 fw_8_5 (xa_1 hM) (fun _ => rfl) (fun _ => rfl) (Nat.le_of_ble_eq_true rfl) ?_
                    refine rx_mem (M' := xm n (x_r X 1 (j_f (j_f (j_f (j_f (j_f V 4 (nI P0)) 3 3) 5 (T P0)) 2 (nI (P0 + 1))) 5 (T P0 + 256))) O Q G S L) (xw_1_f5.trans (by rw [x_rr, x_r_eq])) ?_
                    refine rx_aload_n hE dX8_next_347 (i := 0) rfl rfl ?_
                    refine rx_dup hE dX8_next_348 rfl ?_
                    refine rx_getf hE dX8_next_349 fl_X8_19_8 (xa_1 hM) rfl ?_
                    refine rx_int _ (nI (P0 + 1)) rfl ?_
                    refine rx_iconst hE dX8_next_352 (v := 1) (by decide) ?_
                    refine rx_iadd hE dX8_next_353 ?_
                    refine rx_int _ (nI (P0 + 1 + 1)) (nI_1 (P0 + 1)) ?_
                    refine rx_put hE dX8_next_354 fl_X8_19_8 fw_8_2 (xa_1 hM) (fun _ => rfl) (fun _ => rfl) (Nat.le_of_ble_eq_true rfl) ?_
                    refine rx_mem (M' := xm n (x_r X 1 (j_f (j_f (j_f (j_f (j_f (j_f V 4 (nI P0)) 3 3) 5 (T P0)) 2 (nI (P0 + 1))) 5 (T P0 + 256)) 2 (nI (P0 + 1 + 1)))) O Q G S L) (xw_1_f2.trans (by rw [x_rr, x_r_eq])) ?_
                    exact rx_vret hE hQ rfl dX8_next_357 ⟨rfl, _, rfl, ⟨by rw [(tk_3 hpN (fun q => q.1 c76) (fun q => q.2 c175)).2.1, if_pos (show tsg T N P0 from ⟨Or.inr c307, hp1, c332⟩)]; exact (((((ht.o (k := 4) (by decide) _).o (k := 3) (by decide) _).o (k := 5) (by decide) _).at (P0 + 1)).o (k := 5) (by decide) _).at (P0 + 1 + 1), by rw [(tk_3 hpN (fun q => q.1 c76) (fun q => q.2 c175)).1]; rfl, rfl, fun _ => by rw [(tk_3 hpN (fun q => q.1 c76) (fun q => q.2 c175)).2.2, if_pos (show tsg T N P0 from ⟨Or.inr c307, hp1, c332⟩)]; rfl⟩⟩
          · refine rx_aload_n hE dX8_next_178 (i := 0) rfl rfl ?_
            refine rx_iconst hE dX8_next_179 (v := 2) (by decide) ?_
            refine rx_put hE dX8_next_180 fl_X8_22_8 fw_8_3 (xa_1 hM) (fun _ => rfl) (fun _ => rfl) (Nat.le_of_ble_eq_true rfl) ?_
            refine rx_mem (M' := xm n (x_r X 1 (j_f (j_f V 4 (nI P0)) 3 2)) O Q G S L) (xw_1_f3.trans (by rw [x_rr, x_r_eq])) ?_
            refine rx_aload_n hE dX8_next_183 (i := 0) rfl rfl ?_
            refine rx_iconst hE dX8_next_184 (v := 0) (by decide) ?_
            refine rx_put hE dX8_next_185 fl_X8_28_8 fw_8_5 (xa_1 hM) (fun _ => rfl) (fun _ => rfl) (Nat.le_of_ble_eq_true rfl) ?_
            refine rx_mem (M' := xm n (x_r X 1 (j_f (j_f (j_f V 4 (nI P0)) 3 2) 5 0)) O Q G S L) (xw_1_f5.trans (by rw [x_rr, x_r_eq])) ?_
            have hk2 := tk_2 hpN (fun q => q.1 c76) ⟨c161, c175⟩
            exact l3 (N - P0) P0 _ (by omega) (((ht.o (k := 4) (by decide) _).o (k := 3) (by decide) _).o (k := 5) (by decide) _) (by rw [hk2.1]; rfl) rfl hk2.2.symm (by unfold tv; rw [if_pos hk2.1]; rfl)
      · refine rx_aload_n hE dX8_next_79 (i := 0) rfl rfl ?_
        refine rx_getf hE dX8_next_80 fl_X8_9_8 (xa_1 hM) rfl ?_
        refine rx_aload_n hE dX8_next_83 (i := 0) rfl rfl ?_
        refine rx_getf hE dX8_next_84 fl_X8_19_8 (xa_1 hM) rfl ?_
        refine rx_int _ (nI P0) ht.2.2.1 ?_
        refine rx_baldN hE dX8_next_87 (xa_1_1 hM) (by omega) (by decide) ?_
        refine rx_int _ (T P0) (congrFun ht.2.1 P0) ?_
        refine rx_bipush hE dX8_next_88 (v := 122) (by decide) ?_
        refine rx_icmp_gt (tgt := 150) hE dX8_next_90 (by decide) (fun c90 => ?_) (fun c90 => ?_)
        · refine rx_aload_n hE dX8_next_150 (i := 0) rfl rfl ?_
          refine rx_getf hE dX8_next_151 fl_X8_9_8 (xa_1 hM) rfl ?_
          refine rx_aload_n hE dX8_next_154 (i := 0) rfl rfl ?_
          refine rx_getf hE dX8_next_155 fl_X8_19_8 (xa_1 hM) rfl ?_
          refine rx_int _ (nI P0) ht.2.2.1 ?_
          refine rx_baldN hE dX8_next_158 (xa_1_1 hM) (by omega) (by decide) ?_
          refine rx_int _ (T P0) (congrFun ht.2.1 P0) ?_
          refine rx_bipush hE dX8_next_159 (v := 48) (by decide) ?_
          refine rx_icmp_lt (tgt := 264) hE dX8_next_161 (by decide) (fun c161 => ?_) (fun c161 => ?_)
          · refine rx_aload_n hE dX8_next_264 (i := 0) rfl rfl ?_
            refine rx_iconst hE dX8_next_265 (v := 3) (by decide) ?_
            refine rx_put hE dX8_next_266 fl_X8_22_8 fw_8_3 (xa_1 hM) (fun _ => rfl) (fun _ => rfl) (Nat.le_of_ble_eq_true rfl) ?_
            refine rx_mem (M' := xm n (x_r X 1 (j_f (j_f V 4 (nI P0)) 3 3)) O Q G S L) (xw_1_f3.trans (by rw [x_rr, x_r_eq])) ?_
            refine rx_aload_n hE dX8_next_269 (i := 0) rfl rfl ?_
            refine rx_aload_n hE dX8_next_270 (i := 0) rfl rfl ?_
            refine rx_getf hE dX8_next_271 fl_X8_9_8 (xa_1 hM) rfl ?_
            refine rx_aload_n hE dX8_next_274 (i := 0) rfl rfl ?_
            refine rx_getf hE dX8_next_275 fl_X8_19_8 (xa_1 hM) rfl ?_
            refine rx_int _ (nI P0) ht.2.2.1 ?_
            refine rx_baldN hE dX8_next_278 (xa_1_1 hM) (by omega) (by decide) ?_
            refine rx_int _ (T P0) (congrFun ht.2.1 P0) ?_
            refine rx_put hE dX8_next_279 fl_X8_28_8 fw_8_5 (xa_1 hM) (fun _ => rfl) (fun _ => rfl) (Nat.le_of_ble_eq_true rfl) ?_
            refine rx_mem (M' := xm n (x_r X 1 (j_f (j_f (j_f V 4 (nI P0)) 3 3) 5 (T P0))) O Q G S L) (xw_1_f5.trans (by rw [x_rr, x_r_eq])) ?_
            refine rx_aload_n hE dX8_next_282 (i := 0) rfl rfl ?_
            refine rx_dup hE dX8_next_283 rfl ?_
            refine rx_getf hE dX8_next_284 fl_X8_19_8 (xa_1 hM) rfl ?_
            refine rx_int _ (nI P0) ht.2.2.1 ?_
            refine rx_iconst hE dX8_next_287 (v := 1) (by decide) ?_
            refine rx_iadd hE dX8_next_288 ?_
            refine rx_int _ (nI (P0 + 1)) (nI_1 P0) ?_
            refine rx_put hE dX8_next_289 fl_X8_19_8 fw_8_2 (xa_1 hM) (fun _ => rfl) (fun _ => rfl) (Nat.le_of_ble_eq_true rfl) ?_
            refine rx_mem (M' := xm n (x_r X 1 (j_f (j_f (j_f (j_f V 4 (nI P0)) 3 3) 5 (T P0)) 2 (nI (P0 + 1)))) O Q G S L) (xw_1_f2.trans (by rw [x_rr, x_r_eq])) ?_
            refine rx_aload_n hE dX8_next_292 (i := 0) rfl rfl ?_
            refine rx_getf hE dX8_next_293 fl_X8_28_8 (xa_1 hM) rfl ?_
            refine rx_int _ (T P0) rfl ?_
            refine rx_bipush hE dX8_next_296 (v := 60) (by decide) ?_
            refine rx_icmp_eq (tgt := 310) hE dX8_next_298 (by decide) (fun c298 => ?_) (fun c298 => ?_)
            · refine rx_aload_n hE dX8_next_310 (i := 0) rfl rfl ?_
              refine rx_getf hE dX8_next_311 fl_X8_19_8 (xa_1 hM) rfl ?_
              refine rx_int _ (nI (P0 + 1)) rfl ?_
              refine rx_aload_n hE dX8_next_314 (i := 0) rfl rfl ?_
              refine rx_getf hE dX8_next_315 fl_X8_15_8 (xa_1 hM) rfl ?_
              refine rx_int _ (nI N) ht.1 ?_
              refine rx_icmp_ge (tgt := 357) hE dX8_next_318 (by decide) (fun c318 => ?_) (fun c318 => ?_)
              · exact rx_vret hE hQ rfl dX8_next_357 ⟨rfl, _, rfl, ⟨by rw [(tk_3 hpN (fun q => q.2 c90) (fun q => q.1 c161)).2.1, if_neg (show ¬ tsg T N P0 from fun q => absurd c318 (nI_ge (a := P0 + 1) (b := N) (by have := q.2.1; omega) (by omega)))]; exact (((ht.o (k := 4) (by decide) _).o (k := 3) (by decide) _).o (k := 5) (by decide) _).at (P0 + 1), by rw [(tk_3 hpN (fun q => q.2 c90) (fun q => q.1 c161)).1]; rfl, rfl, fun _ => by rw [(tk_3 hpN (fun q => q.2 c90) (fun q => q.1 c161)).2.2, if_neg (show ¬ tsg T N P0 from fun q => absurd c318 (nI_ge (a := P0 + 1) (b := N) (by have := q.2.1; omega) (by omega)))]; rfl⟩⟩
              · have hp1 : P0 + 1 < N := Classical.byContradiction (fun q => c318 (nI_le (by omega) (by omega)))
                refine rx_aload_n hE dX8_next_321 (i := 0) rfl rfl ?_
                refine rx_getf hE dX8_next_322 fl_X8_9_8 (xa_1 hM) rfl ?_
                refine rx_aload_n hE dX8_next_325 (i := 0) rfl rfl ?_
                refine rx_getf hE dX8_next_326 fl_X8_19_8 (xa_1 hM) rfl ?_
                refine rx_int _ (nI (P0 + 1)) rfl ?_
                refine rx_baldN hE dX8_next_329 (xa_1_1 hM) (by omega) (by decide) ?_
                refine rx_int _ (T (P0 + 1)) (congrFun ht.2.1 (P0 + 1)) ?_
                refine rx_bipush hE dX8_next_330 (v := 61) (by decide) ?_
                refine rx_icmp_ne (tgt := 357) hE dX8_next_332 (by decide) (fun c332 => ?_) (fun c332 => ?_)
                · exact rx_vret hE hQ rfl dX8_next_357 ⟨rfl, _, rfl, ⟨by rw [(tk_3 hpN (fun q => q.2 c90) (fun q => q.1 c161)).2.1, if_neg (show ¬ tsg T N P0 from fun q => c332 q.2.2)]; exact (((ht.o (k := 4) (by decide) _).o (k := 3) (by decide) _).o (k := 5) (by decide) _).at (P0 + 1), by rw [(tk_3 hpN (fun q => q.2 c90) (fun q => q.1 c161)).1]; rfl, rfl, fun _ => by rw [(tk_3 hpN (fun q => q.2 c90) (fun q => q.1 c161)).2.2, if_neg (show ¬ tsg T N P0 from fun q => c332 q.2.2)]; rfl⟩⟩
                · refine rx_aload_n hE dX8_next_335 (i := 0) rfl rfl ?_
                  refine rx_dup hE dX8_next_336 rfl ?_
                  refine rx_getf hE dX8_next_337 fl_X8_28_8 (xa_1 hM) rfl ?_
                  refine rx_int _ (T P0) rfl ?_
                  refine rx_sipush hE dX8_next_340 (v := 256) (by decide) ?_
                  refine rx_iadd hE dX8_next_343 ?_
                  refine rx_put hE dX8_next_344 fl_X8_28_8 fw_8_5 (xa_1 hM) (fun _ => rfl) (fun _ => rfl) (Nat.le_of_ble_eq_true rfl) ?_
                  refine rx_mem (M' := xm n (x_r X 1 (j_f (j_f (j_f (j_f (j_f V 4 (nI P0)) 3 3) 5 (T P0)) 2 (nI (P0 + 1))) 5 (T P0 + 256))) O Q G S L) (xw_1_f5.trans (by rw [x_rr, x_r_eq])) ?_
                  refine rx_aload_n hE dX8_next_347 (i := 0) rfl rfl ?_
                  refine rx_dup hE dX8_next_348 rfl ?_
                  refine rx_getf hE dX8_next_349 fl_X8_19_8 (xa_1 hM) rfl ?_
                  refine rx_int _ (nI (P0 + 1)) rfl ?_
                  refine rx_iconst hE dX8_next_352 (v := 1) (by decide) ?_
                  refine rx_iadd hE dX8_next_353 ?_
                  refine rx_int _ (nI (P0 + 1 + 1)) (nI_1 (P0 + 1)) ?_
                  refine rx_put hE dX8_next_354 fl_X8_19_8 fw_8_2 (xa_1 hM) (fun _ => rfl) (fun _ => rfl) (Nat.le_of_ble_eq_true rfl) ?_
                  refine rx_mem (M' := xm n (x_r X 1 (j_f (j_f (j_f (j_f (j_f (j_f V 4 (nI P0)) 3 3) 5 (T P0)) 2 (nI (P0 + 1))) 5 (T P0 + 256)) 2 (nI (P0 + 1 + 1)))) O Q G S L) (xw_1_f2.trans (by rw [x_rr, x_r_eq])) ?_
                  exact rx_vret hE hQ rfl dX8_next_357 ⟨rfl, _, rfl, ⟨by rw [(tk_3 hpN (fun q => q.2 c90) (fun q => q.1 c161)).2.1, if_pos (show tsg T N P0 from ⟨Or.inl c298, hp1, c332⟩)]; exact (((((ht.o (k := 4) (by decide) _).o (k := 3) (by decide) _).o (k := 5) (by decide) _).at (P0 + 1)).o (k := 5) (by decide) _).at (P0 + 1 + 1), by rw [(tk_3 hpN (fun q => q.2 c90) (fun q => q.1 c161)).1]; rfl, rfl, fun _ => by rw [(tk_3 hpN (fun q => q.2 c90) (fun q => q.1 c161)).2.2, if_pos (show tsg T N P0 from ⟨Or.inl c298, hp1, c332⟩)]; rfl⟩⟩
            · refine rx_aload_n hE dX8_next_301 (i := 0) rfl rfl ?_
              refine rx_getf hE dX8_next_302 fl_X8_28_8 (xa_1 hM) rfl ?_
              refine rx_int _ (T P0) rfl ?_
              refine rx_bipush hE dX8_next_305 (v := 62) (by decide) ?_
              refine rx_icmp_ne (tgt := 357) hE dX8_next_307 (by decide) (fun c307 => ?_) (fun c307 => ?_)
              · exact rx_vret hE hQ rfl dX8_next_357 ⟨rfl, _, rfl, ⟨by rw [(tk_3 hpN (fun q => q.2 c90) (fun q => q.1 c161)).2.1, if_neg (show ¬ tsg T N P0 from fun q => q.1.elim c298 c307)]; exact (((ht.o (k := 4) (by decide) _).o (k := 3) (by decide) _).o (k := 5) (by decide) _).at (P0 + 1), by rw [(tk_3 hpN (fun q => q.2 c90) (fun q => q.1 c161)).1]; rfl, rfl, fun _ => by rw [(tk_3 hpN (fun q => q.2 c90) (fun q => q.1 c161)).2.2, if_neg (show ¬ tsg T N P0 from fun q => q.1.elim c298 c307)]; rfl⟩⟩
              · refine rx_aload_n hE dX8_next_310 (i := 0) rfl rfl ?_
                refine rx_getf hE dX8_next_311 fl_X8_19_8 (xa_1 hM) rfl ?_
                refine rx_int _ (nI (P0 + 1)) rfl ?_
                refine rx_aload_n hE dX8_next_314 (i := 0) rfl rfl ?_
                refine rx_getf hE dX8_next_315 fl_X8_15_8 (xa_1 hM) rfl ?_
                refine rx_int _ (nI N) ht.1 ?_
                refine rx_icmp_ge (tgt := 357) hE dX8_next_318 (by decide) (fun c318 => ?_) (fun c318 => ?_)
                · exact rx_vret hE hQ rfl dX8_next_357 ⟨rfl, _, rfl, ⟨by rw [(tk_3 hpN (fun q => q.2 c90) (fun q => q.1 c161)).2.1, if_neg (show ¬ tsg T N P0 from fun q => absurd c318 (nI_ge (a := P0 + 1) (b := N) (by have := q.2.1; omega) (by omega)))]; exact (((ht.o (k := 4) (by decide) _).o (k := 3) (by decide) _).o (k := 5) (by decide) _).at (P0 + 1), by rw [(tk_3 hpN (fun q => q.2 c90) (fun q => q.1 c161)).1]; rfl, rfl, fun _ => by rw [(tk_3 hpN (fun q => q.2 c90) (fun q => q.1 c161)).2.2, if_neg (show ¬ tsg T N P0 from fun q => absurd c318 (nI_ge (a := P0 + 1) (b := N) (by have := q.2.1; omega) (by omega)))]; rfl⟩⟩
                · have hp1 : P0 + 1 < N := Classical.byContradiction (fun q => c318 (nI_le (by omega) (by omega)))
                  refine rx_aload_n hE dX8_next_321 (i := 0) rfl rfl ?_
                  refine rx_getf hE dX8_next_322 fl_X8_9_8 (xa_1 hM) rfl ?_
                  refine rx_aload_n hE dX8_next_325 (i := 0) rfl rfl ?_
                  refine rx_getf hE dX8_next_326 fl_X8_19_8 (xa_1 hM) rfl ?_
                  refine rx_int _ (nI (P0 + 1)) rfl ?_
                  refine rx_baldN hE dX8_next_329 (xa_1_1 hM) (by omega) (by decide) ?_
                  refine rx_int _ (T (P0 + 1)) (congrFun ht.2.1 (P0 + 1)) ?_
                  refine rx_bipush hE dX8_next_330 (v := 61) (by decide) ?_
                  refine rx_icmp_ne (tgt := 357) hE dX8_next_332 (by decide) (fun c332 => ?_) (fun c332 => ?_)
                  · exact rx_vret hE hQ rfl dX8_next_357 ⟨rfl, _, rfl, ⟨by rw [(tk_3 hpN (fun q => q.2 c90) (fun q => q.1 c161)).2.1, if_neg (show ¬ tsg T N P0 from fun q => c332 q.2.2)]; exact (((ht.o (k := 4) (by decide) _).o (k := 3) (by decide) _).o (k := 5) (by decide) _).at (P0 + 1), by rw [(tk_3 hpN (fun q => q.2 c90) (fun q => q.1 c161)).1]; rfl, rfl, fun _ => by rw [(tk_3 hpN (fun q => q.2 c90) (fun q => q.1 c161)).2.2, if_neg (show ¬ tsg T N P0 from fun q => c332 q.2.2)]; rfl⟩⟩
                  · refine rx_aload_n hE dX8_next_335 (i := 0) rfl rfl ?_
                    refine rx_dup hE dX8_next_336 rfl ?_
                    refine rx_getf hE dX8_next_337 fl_X8_28_8 (xa_1 hM) rfl ?_
                    refine rx_int _ (T P0) rfl ?_
                    refine rx_sipush hE dX8_next_340 (v := 256) (by decide) ?_
                    refine rx_iadd hE dX8_next_343 ?_
                    refine rx_put hE dX8_next_344 fl_X8_28_8 fw_8_5 (xa_1 hM) (fun _ => rfl) (fun _ => rfl) (Nat.le_of_ble_eq_true rfl) ?_
                    refine rx_mem (M' := xm n (x_r X 1 (j_f (j_f (j_f (j_f (j_f V 4 (nI P0)) 3 3) 5 (T P0)) 2 (nI (P0 + 1))) 5 (T P0 + 256))) O Q G S L) (xw_1_f5.trans (by rw [x_rr, x_r_eq])) ?_
                    refine rx_aload_n hE dX8_next_347 (i := 0) rfl rfl ?_
                    refine rx_dup hE dX8_next_348 rfl ?_
                    refine rx_getf hE dX8_next_349 fl_X8_19_8 (xa_1 hM) rfl ?_
                    refine rx_int _ (nI (P0 + 1)) rfl ?_
                    refine rx_iconst hE dX8_next_352 (v := 1) (by decide) ?_
                    refine rx_iadd hE dX8_next_353 ?_
                    refine rx_int _ (nI (P0 + 1 + 1)) (nI_1 (P0 + 1)) ?_
                    refine rx_put hE dX8_next_354 fl_X8_19_8 fw_8_2 (xa_1 hM) (fun _ => rfl) (fun _ => rfl) (Nat.le_of_ble_eq_true rfl) ?_
                    refine rx_mem (M' := xm n (x_r X 1 (j_f (j_f (j_f (j_f (j_f (j_f V 4 (nI P0)) 3 3) 5 (T P0)) 2 (nI (P0 + 1))) 5 (T P0 + 256)) 2 (nI (P0 + 1 + 1)))) O Q G S L) (xw_1_f2.trans (by rw [x_rr, x_r_eq])) ?_
                    exact rx_vret hE hQ rfl dX8_next_357 ⟨rfl, _, rfl, ⟨by rw [(tk_3 hpN (fun q => q.2 c90) (fun q => q.1 c161)).2.1, if_pos (show tsg T N P0 from ⟨Or.inr c307, hp1, c332⟩)]; exact (((((ht.o (k := 4) (by decide) _).o (k := 3) (by decide) _).o (k := 5) (by decide) _).at (P0 + 1)).o (k := 5) (by decide) _).at (P0 + 1 + 1), by rw [(tk_3 hpN (fun q => q.2 c90) (fun q => q.1 c161)).1]; rfl, rfl, fun _ => by rw [(tk_3 hpN (fun q => q.2 c90) (fun q => q.1 c161)).2.2, if_pos (show tsg T N P0 from ⟨Or.inr c307, hp1, c332⟩)]; rfl⟩⟩
          · refine rx_aload_n hE dX8_next_164 (i := 0) rfl rfl ?_
            refine rx_getf hE dX8_next_165 fl_X8_9_8 (xa_1 hM) rfl ?_
            refine rx_aload_n hE dX8_next_168 (i := 0) rfl rfl ?_
            refine rx_getf hE dX8_next_169 fl_X8_19_8 (xa_1 hM) rfl ?_
            refine rx_int _ (nI P0) ht.2.2.1 ?_
            refine rx_baldN hE dX8_next_172 (xa_1_1 hM) (by omega) (by decide) ?_
            refine rx_int _ (T P0) (congrFun ht.2.1 P0) ?_
            refine rx_bipush hE dX8_next_173 (v := 57) (by decide) ?_
            refine rx_icmp_gt (tgt := 264) hE dX8_next_175 (by decide) (fun c175 => ?_) (fun c175 => ?_)
            · refine rx_aload_n hE dX8_next_264 (i := 0) rfl rfl ?_
              refine rx_iconst hE dX8_next_265 (v := 3) (by decide) ?_
              refine rx_put hE dX8_next_266 fl_X8_22_8 fw_8_3 (xa_1 hM) (fun _ => rfl) (fun _ => rfl) (Nat.le_of_ble_eq_true rfl) ?_
              refine rx_mem (M' := xm n (x_r X 1 (j_f (j_f V 4 (nI P0)) 3 3)) O Q G S L) (xw_1_f3.trans (by rw [x_rr, x_r_eq])) ?_
              refine rx_aload_n hE dX8_next_269 (i := 0) rfl rfl ?_
              refine rx_aload_n hE dX8_next_270 (i := 0) rfl rfl ?_
              refine rx_getf hE dX8_next_271 fl_X8_9_8 (xa_1 hM) rfl ?_
              refine rx_aload_n hE dX8_next_274 (i := 0) rfl rfl ?_
              refine rx_getf hE dX8_next_275 fl_X8_19_8 (xa_1 hM) rfl ?_
              refine rx_int _ (nI P0) ht.2.2.1 ?_
              refine rx_baldN hE dX8_next_278 (xa_1_1 hM) (by omega) (by decide) ?_
              refine rx_int _ (T P0) (congrFun ht.2.1 P0) ?_
              refine rx_put hE dX8_next_279 fl_X8_28_8 fw_8_5 (xa_1 hM) (fun _ => rfl) (fun _ => rfl) (Nat.le_of_ble_eq_true rfl) ?_
              refine rx_mem (M' := xm n (x_r X 1 (j_f (j_f (j_f V 4 (nI P0)) 3 3) 5 (T P0))) O Q G S L) (xw_1_f5.trans (by rw [x_rr, x_r_eq])) ?_
              refine rx_aload_n hE dX8_next_282 (i := 0) rfl rfl ?_
              refine rx_dup hE dX8_next_283 rfl ?_
              refine rx_getf hE dX8_next_284 fl_X8_19_8 (xa_1 hM) rfl ?_
              refine rx_int _ (nI P0) ht.2.2.1 ?_
              refine rx_iconst hE dX8_next_287 (v := 1) (by decide) ?_
              refine rx_iadd hE dX8_next_288 ?_
              refine rx_int _ (nI (P0 + 1)) (nI_1 P0) ?_
              refine rx_put hE dX8_next_289 fl_X8_19_8 fw_8_2 (xa_1 hM) (fun _ => rfl) (fun _ => rfl) (Nat.le_of_ble_eq_true rfl) ?_
              refine rx_mem (M' := xm n (x_r X 1 (j_f (j_f (j_f (j_f V 4 (nI P0)) 3 3) 5 (T P0)) 2 (nI (P0 + 1)))) O Q G S L) (xw_1_f2.trans (by rw [x_rr, x_r_eq])) ?_
              refine rx_aload_n hE dX8_next_292 (i := 0) rfl rfl ?_
              refine rx_getf hE dX8_next_293 fl_X8_28_8 (xa_1 hM) rfl ?_
              refine rx_int _ (T P0) rfl ?_
              refine rx_bipush hE dX8_next_296 (v := 60) (by decide) ?_
              refine rx_icmp_eq (tgt := 310) hE dX8_next_298 (by decide) (fun c298 => ?_) (fun c298 => ?_)
              · refine rx_aload_n hE dX8_next_310 (i := 0) rfl rfl ?_
                refine rx_getf hE dX8_next_311 fl_X8_19_8 (xa_1 hM) rfl ?_
                refine rx_int _ (nI (P0 + 1)) rfl ?_
                refine rx_aload_n hE dX8_next_314 (i := 0) rfl rfl ?_
                refine rx_getf hE dX8_next_315 fl_X8_15_8 (xa_1 hM) rfl ?_
                refine rx_int _ (nI N) ht.1 ?_
                refine rx_icmp_ge (tgt := 357) hE dX8_next_318 (by decide) (fun c318 => ?_) (fun c318 => ?_)
                · exact rx_vret hE hQ rfl dX8_next_357 ⟨rfl, _, rfl, ⟨by rw [(tk_3 hpN (fun q => q.2 c90) (fun q => q.2 c175)).2.1, if_neg (show ¬ tsg T N P0 from fun q => absurd c318 (nI_ge (a := P0 + 1) (b := N) (by have := q.2.1; omega) (by omega)))]; exact (((ht.o (k := 4) (by decide) _).o (k := 3) (by decide) _).o (k := 5) (by decide) _).at (P0 + 1), by rw [(tk_3 hpN (fun q => q.2 c90) (fun q => q.2 c175)).1]; rfl, rfl, fun _ => by rw [(tk_3 hpN (fun q => q.2 c90) (fun q => q.2 c175)).2.2, if_neg (show ¬ tsg T N P0 from fun q => absurd c318 (nI_ge (a := P0 + 1) (b := N) (by have := q.2.1; omega) (by omega)))]; rfl⟩⟩
                · have hp1 : P0 + 1 < N := Classical.byContradiction (fun q => c318 (nI_le (by omega) (by omega)))
                  refine rx_aload_n hE dX8_next_321 (i := 0) rfl rfl ?_
                  refine rx_getf hE dX8_next_322 fl_X8_9_8 (xa_1 hM) rfl ?_
                  refine rx_aload_n hE dX8_next_325 (i := 0) rfl rfl ?_
                  refine rx_getf hE dX8_next_326 fl_X8_19_8 (xa_1 hM) rfl ?_
                  refine rx_int _ (nI (P0 + 1)) rfl ?_
                  refine rx_baldN hE dX8_next_329 (xa_1_1 hM) (by omega) (by decide) ?_
                  refine rx_int _ (T (P0 + 1)) (congrFun ht.2.1 (P0 + 1)) ?_
                  refine rx_bipush hE dX8_next_330 (v := 61) (by decide) ?_
                  refine rx_icmp_ne (tgt := 357) hE dX8_next_332 (by decide) (fun c332 => ?_) (fun c332 => ?_)
                  · exact rx_vret hE hQ rfl dX8_next_357 ⟨rfl, _, rfl, ⟨by rw [(tk_3 hpN (fun q => q.2 c90) (fun q => q.2 c175)).2.1, if_neg (show ¬ tsg T N P0 from fun q => c332 q.2.2)]; exact (((ht.o (k := 4) (by decide) _).o (k := 3) (by decide) _).o (k := 5) (by decide) _).at (P0 + 1), by rw [(tk_3 hpN (fun q => q.2 c90) (fun q => q.2 c175)).1]; rfl, rfl, fun _ => by rw [(tk_3 hpN (fun q => q.2 c90) (fun q => q.2 c175)).2.2, if_neg (show ¬ tsg T N P0 from fun q => c332 q.2.2)]; rfl⟩⟩
                  · refine rx_aload_n hE dX8_next_335 (i := 0) rfl rfl ?_
                    refine rx_dup hE dX8_next_336 rfl ?_
                    refine rx_getf hE dX8_next_337 fl_X8_28_8 (xa_1 hM) rfl ?_
                    refine rx_int _ (T P0) rfl ?_
                    refine rx_sipush hE dX8_next_340 (v := 256) (by decide) ?_
                    refine rx_iadd hE dX8_next_343 ?_
                    refine rx_put hE dX8_next_344 fl_X8_28_8 fw_8_5 (xa_1 hM) (fun _ => rfl) (fun _ => rfl) (Nat.le_of_ble_eq_true rfl) ?_
                    refine rx_mem (M' := xm n (x_r X 1 (j_f (j_f (j_f (j_f (j_f V 4 (nI P0)) 3 3) 5 (T P0)) 2 (nI (P0 + 1))) 5 (T P0 + 256))) O Q G S L) (xw_1_f5.trans (by rw [x_rr, x_r_eq])) ?_
                    refine rx_aload_n hE dX8_next_347 (i := 0) rfl rfl ?_
                    refine rx_dup hE dX8_next_348 rfl ?_
                    refine rx_getf hE dX8_next_349 fl_X8_19_8 (xa_1 hM) rfl ?_
                    refine rx_int _ (nI (P0 + 1)) rfl ?_
                    refine rx_iconst hE dX8_next_352 (v := 1) (by decide) ?_
                    refine rx_iadd hE dX8_next_353 ?_
                    refine rx_int _ (nI (P0 + 1 + 1)) (nI_1 (P0 + 1)) ?_
                    refine rx_put hE dX8_next_354 fl_X8_19_8 fw_8_2 (xa_1 hM) (fun _ => rfl) (fun _ => rfl) (Nat.le_of_ble_eq_true rfl) ?_
                    refine rx_mem (M' := xm n (x_r X 1 (j_f (j_f (j_f (j_f (j_f (j_f V 4 (nI P0)) 3 3) 5 (T P0)) 2 (nI (P0 + 1))) 5 (T P0 + 256)) 2 (nI (P0 + 1 + 1)))) O Q G S L) (xw_1_f2.trans (by rw [x_rr, x_r_eq])) ?_
                    exact rx_vret hE hQ rfl dX8_next_357 ⟨rfl, _, rfl, ⟨by rw [(tk_3 hpN (fun q => q.2 c90) (fun q => q.2 c175)).2.1, if_pos (show tsg T N P0 from ⟨Or.inl c298, hp1, c332⟩)]; exact (((((ht.o (k := 4) (by decide) _).o (k := 3) (by decide) _).o (k := 5) (by decide) _).at (P0 + 1)).o (k := 5) (by decide) _).at (P0 + 1 + 1), by rw [(tk_3 hpN (fun q => q.2 c90) (fun q => q.2 c175)).1]; rfl, rfl, fun _ => by rw [(tk_3 hpN (fun q => q.2 c90) (fun q => q.2 c175)).2.2, if_pos (show tsg T N P0 from ⟨Or.inl c298, hp1, c332⟩)]; rfl⟩⟩
              · refine rx_aload_n hE dX8_next_301 (i := 0) rfl rfl ?_
                refine rx_getf hE dX8_next_302 fl_X8_28_8 (xa_1 hM) rfl ?_
                refine rx_int _ (T P0) rfl ?_
                refine rx_bipush hE dX8_next_305 (v := 62) (by decide) ?_
                refine rx_icmp_ne (tgt := 357) hE dX8_next_307 (by decide) (fun c307 => ?_) (fun c307 => ?_)
                · exact rx_vret hE hQ rfl dX8_next_357 ⟨rfl, _, rfl, ⟨by rw [(tk_3 hpN (fun q => q.2 c90) (fun q => q.2 c175)).2.1, if_neg (show ¬ tsg T N P0 from fun q => q.1.elim c298 c307)]; exact (((ht.o (k := 4) (by decide) _).o (k := 3) (by decide) _).o (k := 5) (by decide) _).at (P0 + 1), by rw [(tk_3 hpN (fun q => q.2 c90) (fun q => q.2 c175)).1]; rfl, rfl, fun _ => by rw [(tk_3 hpN (fun q => q.2 c90) (fun q => q.2 c175)).2.2, if_neg (show ¬ tsg T N P0 from fun q => q.1.elim c298 c307)]; rfl⟩⟩
                · refine rx_aload_n hE dX8_next_310 (i := 0) rfl rfl ?_
                  refine rx_getf hE dX8_next_311 fl_X8_19_8 (xa_1 hM) rfl ?_
                  refine rx_int _ (nI (P0 + 1)) rfl ?_
                  refine rx_aload_n hE dX8_next_314 (i := 0) rfl rfl ?_
                  refine rx_getf hE dX8_next_315 fl_X8_15_8 (xa_1 hM) rfl ?_
                  refine rx_int _ (nI N) ht.1 ?_
                  refine rx_icmp_ge (tgt := 357) hE dX8_next_318 (by decide) (fun c318 => ?_) (fun c318 => ?_)
                  · exact rx_vret hE hQ rfl dX8_next_357 ⟨rfl, _, rfl, ⟨by rw [(tk_3 hpN (fun q => q.2 c90) (fun q => q.2 c175)).2.1, if_neg (show ¬ tsg T N P0 from fun q => absurd c318 (nI_ge (a := P0 + 1) (b := N) (by have := q.2.1; omega) (by omega)))]; exact (((ht.o (k := 4) (by decide) _).o (k := 3) (by decide) _).o (k := 5) (by decide) _).at (P0 + 1), by rw [(tk_3 hpN (fun q => q.2 c90) (fun q => q.2 c175)).1]; rfl, rfl, fun _ => by rw [(tk_3 hpN (fun q => q.2 c90) (fun q => q.2 c175)).2.2, if_neg (show ¬ tsg T N P0 from fun q => absurd c318 (nI_ge (a := P0 + 1) (b := N) (by have := q.2.1; omega) (by omega)))]; rfl⟩⟩
                  · have hp1 : P0 + 1 < N := Classical.byContradiction (fun q => c318 (nI_le (by omega) (by omega)))
                    refine rx_aload_n hE dX8_next_321 (i := 0) rfl rfl ?_
                    refine rx_getf hE dX8_next_322 fl_X8_9_8 (xa_1 hM) rfl ?_
                    refine rx_aload_n hE dX8_next_325 (i := 0) rfl rfl ?_
                    refine rx_getf hE dX8_next_326 fl_X8_19_8 (xa_1 hM) rfl ?_
                    refine rx_int _ (nI (P0 + 1)) rfl ?_
                    refine rx_baldN hE dX8_next_329 (xa_1_1 hM) (by omega) (by decide) ?_
                    refine rx_int _ (T (P0 + 1)) (congrFun ht.2.1 (P0 + 1)) ?_
                    refine rx_bipush hE dX8_next_330 (v := 61) (by decide) ?_
                    refine rx_icmp_ne (tgt := 357) hE dX8_next_332 (by decide) (fun c332 => ?_) (fun c332 => ?_)
                    · exact rx_vret hE hQ rfl dX8_next_357 ⟨rfl, _, rfl, ⟨by rw [(tk_3 hpN (fun q => q.2 c90) (fun q => q.2 c175)).2.1, if_neg (show ¬ tsg T N P0 from fun q => c332 q.2.2)]; exact (((ht.o (k := 4) (by decide) _).o (k := 3) (by decide) _).o (k := 5) (by decide) _).at (P0 + 1), by rw [(tk_3 hpN (fun q => q.2 c90) (fun q => q.2 c175)).1]; rfl, rfl, fun _ => by rw [(tk_3 hpN (fun q => q.2 c90) (fun q => q.2 c175)).2.2, if_neg (show ¬ tsg T N P0 from fun q => c332 q.2.2)]; rfl⟩⟩
                    · refine rx_aload_n hE dX8_next_335 (i := 0) rfl rfl ?_
                      refine rx_dup hE dX8_next_336 rfl ?_
                      refine rx_getf hE dX8_next_337 fl_X8_28_8 (xa_1 hM) rfl ?_
                      refine rx_int _ (T P0) rfl ?_
                      refine rx_sipush hE dX8_next_340 (v := 256) (by decide) ?_
                      refine rx_iadd hE dX8_next_343 ?_
                      refine rx_put hE dX8_next_344 fl_X8_28_8 fw_8_5 (xa_1 hM) (fun _ => rfl) (fun _ => rfl) (Nat.le_of_ble_eq_true rfl) ?_
                      refine rx_mem (M' := xm n (x_r X 1 (j_f (j_f (j_f (j_f (j_f V 4 (nI P0)) 3 3) 5 (T P0)) 2 (nI (P0 + 1))) 5 (T P0 + 256))) O Q G S L) (xw_1_f5.trans (by rw [x_rr, x_r_eq])) ?_
                      refine rx_aload_n hE dX8_next_347 (i := 0) rfl rfl ?_
                      refine rx_dup hE dX8_next_348 rfl ?_
                      refine rx_getf hE dX8_next_349 fl_X8_19_8 (xa_1 hM) rfl ?_
                      refine rx_int _ (nI (P0 + 1)) rfl ?_
                      refine rx_iconst hE dX8_next_352 (v := 1) (by decide) ?_
                      refine rx_iadd hE dX8_next_353 ?_
                      refine rx_int _ (nI (P0 + 1 + 1)) (nI_1 (P0 + 1)) ?_
                      refine rx_put hE dX8_next_354 fl_X8_19_8 fw_8_2 (xa_1 hM) (fun _ => rfl) (fun _ => rfl) (Nat.le_of_ble_eq_true rfl) ?_
                      refine rx_mem (M' := xm n (x_r X 1 (j_f (j_f (j_f (j_f (j_f (j_f V 4 (nI P0)) 3 3) 5 (T P0)) 2 (nI (P0 + 1))) 5 (T P0 + 256)) 2 (nI (P0 + 1 + 1)))) O Q G S L) (xw_1_f2.trans (by rw [x_rr, x_r_eq])) ?_
                      exact rx_vret hE hQ rfl dX8_next_357 ⟨rfl, _, rfl, ⟨by rw [(tk_3 hpN (fun q => q.2 c90) (fun q => q.2 c175)).2.1, if_pos (show tsg T N P0 from ⟨Or.inr c307, hp1, c332⟩)]; exact (((((ht.o (k := 4) (by decide) _).o (k := 3) (by decide) _).o (k := 5) (by decide) _).at (P0 + 1)).o (k := 5) (by decide) _).at (P0 + 1 + 1), by rw [(tk_3 hpN (fun q => q.2 c90) (fun q => q.2 c175)).1]; rfl, rfl, fun _ => by rw [(tk_3 hpN (fun q => q.2 c90) (fun q => q.2 c175)).2.2, if_pos (show tsg T N P0 from ⟨Or.inr c307, hp1, c332⟩)]; rfl⟩⟩
            · refine rx_aload_n hE dX8_next_178 (i := 0) rfl rfl ?_
              refine rx_iconst hE dX8_next_179 (v := 2) (by decide) ?_
              refine rx_put hE dX8_next_180 fl_X8_22_8 fw_8_3 (xa_1 hM) (fun _ => rfl) (fun _ => rfl) (Nat.le_of_ble_eq_true rfl) ?_
              refine rx_mem (M' := xm n (x_r X 1 (j_f (j_f V 4 (nI P0)) 3 2)) O Q G S L) (xw_1_f3.trans (by rw [x_rr, x_r_eq])) ?_
              refine rx_aload_n hE dX8_next_183 (i := 0) rfl rfl ?_
              refine rx_iconst hE dX8_next_184 (v := 0) (by decide) ?_
              refine rx_put hE dX8_next_185 fl_X8_28_8 fw_8_5 (xa_1 hM) (fun _ => rfl) (fun _ => rfl) (Nat.le_of_ble_eq_true rfl) ?_
              refine rx_mem (M' := xm n (x_r X 1 (j_f (j_f (j_f V 4 (nI P0)) 3 2) 5 0)) O Q G S L) (xw_1_f5.trans (by rw [x_rr, x_r_eq])) ?_
              have hk2 := tk_2 hpN (fun q => q.2 c90) ⟨c161, c175⟩
              exact l3 (N - P0) P0 _ (by omega) (((ht.o (k := 4) (by decide) _).o (k := 3) (by decide) _).o (k := 5) (by decide) _) (by rw [hk2.1]; rfl) rfl hk2.2.symm (by unfold tv; rw [if_pos hk2.1]; rfl)
        · refine rx_aload_n hE dX8_next_93 (i := 0) rfl rfl ?_
          refine rx_iconst hE dX8_next_94 (v := 1) (by decide) ?_
          refine rx_put hE dX8_next_95 fl_X8_22_8 fw_8_3 (xa_1 hM) (fun _ => rfl) (fun _ => rfl) (Nat.le_of_ble_eq_true rfl) ?_
          refine rx_mem (M' := xm n (x_r X 1 (j_f (j_f V 4 (nI P0)) 3 1)) O Q G S L) (xw_1_f3.trans (by rw [x_rr, x_r_eq])) ?_
          have hk1 := (tk_1 hpN ⟨c76, c90⟩).1
          exact l2 hk1 (N - P0) P0 _ (by omega) ((ht.o (k := 4) (by decide) _).o (k := 3) (by decide) _) (by rw [hk1]; rfl) rfl (tk_1 hpN ⟨c76, c90⟩).2.symm
    · have hpN : ¬ P0 < N := fun q => c54 (nI_lt (a := P0) (b := N) (by omega) (by omega))
      refine rx_aload_n hE dX8_next_57 (i := 0) rfl rfl ?_
      refine rx_iconst hE dX8_next_58 (v := 0) (by decide) ?_
      refine rx_put hE dX8_next_59 fl_X8_22_8 fw_8_3 (xa_1 hM) (fun _ => rfl) (fun _ => rfl) (Nat.le_of_ble_eq_true rfl) ?_
      refine rx_mem (M' := xm n (x_r X 1 (j_f (j_f V 4 (nI P0)) 3 0)) O Q G S L) (xw_1_f3.trans (by rw [x_rr, x_r_eq])) ?_
      refine rx_goto (tgt := 357) hE dX8_next_62 (by decide) ?_
      exact rx_vret hE hQ rfl dX8_next_357 ⟨rfl, _, rfl, ⟨by rw [(tk_0 hpN).2]; exact (ht.o (k := 4) (by decide) _).o (k := 3) (by decide) _, by rw [(tk_0 hpN).1]; rfl, rfl, fun q => absurd q (by rw [(tk_0 hpN).1]; decide)⟩⟩
  have l1 : ∀ (m1 p : Nat) (V : Nat → Nat → Int32), p + m1 = N → tst V T N p f → sk T N p = sk T N p0 → RX E mX8_next.2.2.1 0 0 0 [some (.ref 17)] [] (xm n (x_r X 1 V) O Q G S L) := by
    intro m1
    induction m1 with
    | zero =>
      intro p V hpn ht hE1
      refine rx_aload_n hE dX8_next_0 (i := 0) rfl rfl ?_
      refine rx_getf hE dX8_next_1 fl_X8_19_8 (xa_1 hM) rfl ?_
      refine rx_int _ (nI p) ht.2.2.1 ?_
      refine rx_aload_n hE dX8_next_4 (i := 0) rfl rfl ?_
      refine rx_getf hE dX8_next_5 fl_X8_15_8 (xa_1 hM) rfl ?_
      refine rx_int _ (nI N) ht.1 ?_
      refine rx_icmp_ge (tgt := 38) hE dX8_next_8 (by decide) (fun c8 => ?_) (fun c8 => absurd (nI_le (a := N) (b := p) (by omega) (by omega)) c8)
      exact tail V p (by omega) ht (by rw [← hE1]; exact tru_z (fun q => absurd q.1 (by omega)))
    | succ m1 ihm1 =>
      intro p V hpn ht hE1
      refine rx_aload_n hE dX8_next_0 (i := 0) rfl rfl ?_
      refine rx_getf hE dX8_next_1 fl_X8_19_8 (xa_1 hM) rfl ?_
      refine rx_int _ (nI p) ht.2.2.1 ?_
      refine rx_aload_n hE dX8_next_4 (i := 0) rfl rfl ?_
      refine rx_getf hE dX8_next_5 fl_X8_15_8 (xa_1 hM) rfl ?_
      refine rx_int _ (nI N) ht.1 ?_
      refine rx_icmp_ge (tgt := 38) hE dX8_next_8 (by decide) (fun c8 => absurd c8 (nI_ge (a := p) (b := N) (by omega) (by omega))) (fun c8 => ?_)
      refine rx_aload_n hE dX8_next_11 (i := 0) rfl rfl ?_
      refine rx_getf hE dX8_next_12 fl_X8_9_8 (xa_1 hM) rfl ?_
      refine rx_aload_n hE dX8_next_15 (i := 0) rfl rfl ?_
      refine rx_getf hE dX8_next_16 fl_X8_19_8 (xa_1 hM) rfl ?_
      refine rx_int _ (nI p) ht.2.2.1 ?_
      refine rx_baldN hE dX8_next_19 (xa_1_1 hM) (by omega) (by decide) ?_
      refine rx_int _ (T p) (congrFun ht.2.1 p) ?_
      refine rx_bipush hE dX8_next_20 (v := 32) (by decide) ?_
      refine rx_icmp_ne (tgt := 38) hE dX8_next_22 (by decide) (fun c22 => ?_) (fun c22 => ?_)
      · exact tail V p (by omega) ht (by rw [← hE1]; exact tru_z (fun q => c22 (of_decide_eq_true q.2)))
      · refine rx_aload_n hE dX8_next_25 (i := 0) rfl rfl ?_
        refine rx_dup hE dX8_next_26 rfl ?_
        refine rx_getf hE dX8_next_27 fl_X8_19_8 (xa_1 hM) rfl ?_
        refine rx_int _ (nI p) ht.2.2.1 ?_
        refine rx_iconst hE dX8_next_30 (v := 1) (by decide) ?_
        refine rx_iadd hE dX8_next_31 ?_
        refine rx_int _ (nI (p + 1)) (nI_1 p) ?_
        refine rx_put hE dX8_next_32 fl_X8_19_8 fw_8_2 (xa_1 hM) (fun _ => rfl) (fun _ => rfl) (Nat.le_of_ble_eq_true rfl) ?_
        refine rx_mem (M' := xm n (x_r X 1 (j_f V 2 (nI (p + 1)))) O Q G S L) (xw_1_f2.trans (by rw [x_rr, x_r_eq])) ?_
        refine rx_goto (tgt := 0) hE dX8_next_35 (by decide) ?_
        exact ihm1 (p + 1) _ (by omega) (ht.at (p + 1)) (by rw [← hE1]; exact (tru_s (by omega) (decide_eq_true c22)).symm)
  refine rx_mem (M' := xm n (x_r X 1 (X 1)) O Q G S L) (by rw [x_r_id]) ?_
  exact l1 (N - p0) p0 (X 1) (by omega) ht0 rfl
