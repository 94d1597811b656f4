/-! ===== the class reads a rule: c counted, st the steps put ===== -/
def cq (X : gX) (T : Nat → Int32) (N p c : Nat) (st : List Int32) : Prop := ctk (X 1) T N p 0 ∧ p ≤ N ∧ X 6 0 2 = nI st.length ∧ (∀ j x, st[j]? = some x → X 6 1 j = x) ∧ X 6 0 3 = nI c ∧ c ≤ 60
def ce (X : gX) (T : Nat → Int32) (N : Nat) (g : Int32) : Prop := ¬ g = 0 ∧ (∃ p, p ≤ N ∧ ctk (X 1) T N p g) ∧ ∃ k, k ≤ 400 ∧ X 6 0 2 = nI k
def xf (X X' : gX) : Prop := ∀ r, r ≠ 1 → r ≠ 6 → X' r = X r
theorem xf.refl (X : gX) : xf X X := fun _ _ _ => rfl
theorem xf.trans {X X' X'' : gX} (h : xf X X') (h' : xf X' X'') : xf X X'' := fun r a b => (h' r a b).trans (h r a b)
theorem xf.r1 (X : gX) (V : Nat → Nat → Int32) : xf X (x_r X 1 V) := fun r a _ => x_r_ne X V a
theorem xf.r6 (X : gX) (V : Nat → Nat → Int32) : xf X (x_r X 6 V) := fun r _ a => x_r_ne X V a
theorem cq.cnt {X : gX} {T : Nat → Int32} {N p c : Nat} {st : List Int32} (h : cq X T N p c st) (hc : c < 60) : cq (x_r X 6 (j_f (X 6) 3 (nI (c + 1)))) T N p (c + 1) st := ⟨h.1, h.2.1, h.2.2.1, h.2.2.2.1, rfl, hc⟩
theorem cq.at {X : gX} {T : Nat → Int32} {N p p' c : Nat} {st : List Int32} (h : cq X T N p c st) {V : Nat → Nat → Int32} (hV : ctk V T N p' 0) (hp : p' ≤ N) : cq (x_r X 1 V) T N p' c st := ⟨hV, hp, h.2.2.1, h.2.2.2.1, h.2.2.2.2.1, h.2.2.2.2.2⟩
theorem row_app {f : Nat → Int32} {st : List Int32} (h : ∀ j x, st[j]? = some x → f j = x) (s : Int32) : ∀ j x, (st ++ [s])[j]? = some x → upd f st.length s j = x := by
  intro j x hj
  unfold upd
  by_cases e : j = st.length
  · subst e
    rw [if_pos rfl]
    rw [List.getElem?_append_right (Nat.le_refl _), Nat.sub_self] at hj
    exact Option.some.inj hj
  · rw [if_neg e]
    have hl := (List.getElem?_eq_some_iff.mp hj).1
    rw [List.length_append] at hl
    have hl2 : j < st.length := by
      have : [s].length = 1 := rfl
      omega
    rw [List.getElem?_append_left hl2] at hj
    exact h j x hj
section CQ
variable {n : Nat} {X : gX} {O : gO} {Q : gU} {G : gK} {S : gS} {L : gLg} (hM : 408 ≤ n) {T : Nat → Int32} {N p c : Nat} {st : List Int32} {g : Int32} (hN : N ≤ 400)
theorem c_X7_putQ (hM : 408 ≤ n) (hq : cq X T N p c st) (hl : st.length < 400) (s : Int32) : SX 0 0 0 mX7_put [.ref 50, .int s] (xm n X O Q G S L) (fun v M' => v = none ∧ ∃ X', M' = xm n X' O Q G S L ∧ xf X X' ∧ cq X' T N p c (st ++ [s])) := by
  refine SX.weaken (c_X7_put hM (k := st.length) (by omega) hq.2.2.1 s) (fun v M' h => ?_)
  obtain ⟨rfl, rfl⟩ := h
  rw [if_pos ⟨hq.1.1.2.2.2, hl⟩]
  refine ⟨rfl, _, rfl, xf.r6 _ _, hq.1, hq.2.1, ?_, row_app hq.2.2.2.1 s, hq.2.2.2.2.1, hq.2.2.2.2.2⟩
  show nI (st.length + 1) = nI (st ++ [s]).length
  rw [List.length_append]
  rfl
theorem c_X7_putE (hM : 408 ≤ n) (hq : ce X T N g) (s : Int32) : SX 0 0 0 mX7_put [.ref 50, .int s] (xm n X O Q G S L) (fun v M' => v = none ∧ M' = xm n X O Q G S L) := by
  obtain ⟨h0, ⟨p, hp, h1⟩, k, hk, h2⟩ := hq
  refine SX.weaken (c_X7_put hM (k := k) hk h2 s) (fun v M' h => ?_)
  obtain ⟨rfl, rfl⟩ := h
  rw [if_neg (fun z => h0 (h1.1.2.2.2.symm.trans z.1))]
  exact ⟨rfl, rfl⟩
theorem c_X8_nextQ (hM : 408 ≤ n) (hN : N ≤ 400) (hq : cq X T N p c st) : SX 0 0 0 mX8_next [.ref 17] (xm n X O Q G S L) (fun v M' => v = none ∧ ∃ X', M' = xm n X' O Q G S L ∧ xf X X' ∧ cq X' T N (nx T N p) c st) := by
  refine SX.weaken (c_X8_next hM hN (te_le hq.2.1).2.1 hq.1.1) (fun v M' h => ?_)
  obtain ⟨rfl, V, rfl, hV⟩ := h
  exact ⟨rfl, _, rfl, xf.r1 _ _, hq.at hV (nx_le hq.2.1).2⟩
theorem c_X8_failQ (hM : 408 ≤ n) (hN : N ≤ 400) (hq : cq X T N p c st) (hl : st.length ≤ 400) {w : Nat} (hw : w ≤ 4) : SX 0 0 0 mX8_fail [.ref 17, .int (nI w)] (xm n X O Q G S L) (fun v M' => v = none ∧ ∃ X', M' = xm n X' O Q G S L ∧ xf X X' ∧ ce X' T N (fE p (nI w))) := by
  refine SX.weaken (c_X8_fail hM hN hq.2.1 hq.1 (nI w)) (fun v M' h => ?_)
  obtain ⟨rfl, V, rfl, hV⟩ := h
  have hp := hq.2.1
  rw [tfl_0] at hV
  exact ⟨rfl, _, rfl, xf.r1 _ _, fE_ne (by omega) hw, ⟨p, hp, hV⟩, st.length, hl, hq.2.2.1⟩
theorem c_X8_failE (hM : 408 ≤ n) (hN : N ≤ 400) (hq : ce X T N g) (why : Int32) : SX 0 0 0 mX8_fail [.ref 17, .int why] (xm n X O Q G S L) (fun v M' => v = none ∧ ∃ X', M' = xm n X' O Q G S L ∧ xf X X' ∧ ce X' T N g) := by
  obtain ⟨h0, ⟨p, hp, h1⟩, k, hk, h2⟩ := hq
  refine SX.weaken (c_X8_fail hM hN hp h1 why) (fun v M' h => ?_)
  obtain ⟨rfl, V, rfl, hV⟩ := h
  rw [tfl_n h0] at hV
  exact ⟨rfl, _, rfl, xf.r1 _ _, h0, ⟨p, hp, hV⟩, k, hk, h2⟩
end CQ
def aI (t : Nat) : Int32 := if t = 0 then -1 else csig t
theorem qwh_is (T : Nat → Int32) (N p : Nat) : qwh T N p = -1 ∨ ∃ w, w < 12 ∧ qwh T N p = nI w := by
  unfold qwh
  by_cases h0 : qwd T N p 605220 = 0
  rotate_left 1
  · rw [if_neg h0]
    exact Or.inr ⟨0, by decide, rfl⟩
  rw [if_pos h0]
  by_cases h1 : qwd T N p 754996 = 0
  rotate_left 1
  · rw [if_neg h1]
    exact Or.inr ⟨1, by decide, rfl⟩
  rw [if_pos h1]
  by_cases h2 : qwd T N p 5969497 = 0
  rotate_left 1
  · rw [if_neg h2]
    exact Or.inr ⟨2, by decide, rfl⟩
  rw [if_pos h2]
  by_cases h3 : qwd T N p 525908 = 0
  rotate_left 1
  · rw [if_neg h3]
    exact Or.inr ⟨3, by decide, rfl⟩
  rw [if_pos h3]
  by_cases h4 : qwd T N p 641190052 = 0
  rotate_left 1
  · rw [if_neg h4]
    exact Or.inr ⟨4, by decide, rfl⟩
  rw [if_pos h4]
  by_cases h5 : qwd T N p 12468 = 0
  rotate_left 1
  · rw [if_neg h5]
    exact Or.inr ⟨5, by decide, rfl⟩
  rw [if_pos h5]
  by_cases h6 : qwd T N p 20436420 = 0
  rotate_left 1
  · rw [if_neg h6]
    exact Or.inr ⟨6, by decide, rfl⟩
  rw [if_pos h6]
  by_cases h7 : qwd T N p 20232293 = 0
  rotate_left 1
  · rw [if_neg h7]
    exact Or.inr ⟨7, by decide, rfl⟩
  rw [if_pos h7]
  by_cases h8 : qwd T N p 759252 = 0
  rotate_left 1
  · rw [if_neg h8]
    exact Or.inr ⟨8, by decide, rfl⟩
  rw [if_pos h8]
  by_cases h9 : qwd T N p 1420 = 0
  rotate_left 1
  · rw [if_neg h9]
    exact Or.inr ⟨9, by decide, rfl⟩
  rw [if_pos h9]
  by_cases h10 : qwd T N p 70708 = 0
  rotate_left 1
  · rw [if_neg h10]
    exact Or.inr ⟨10, by decide, rfl⟩
  rw [if_pos h10]
  by_cases h11 : qwd T N p 278194 = 0
  rotate_left 1
  · rw [if_neg h11]
    exact Or.inr ⟨11, by decide, rfl⟩
  rw [if_pos h11]
  exact Or.inl rfl
set_option maxRecDepth 100000 in
set_option maxHeartbeats 1000000 in
theorem c_X7_joinT {n : Nat} {X : gX} {O : gO} {Q : gU} {G : gK} {S : gS} {L : gLg} (hM : 408 ≤ n) {T : Nat → Int32} {N p : Nat} (hN : N ≤ 400) (hpN : p ≤ N) (hc : ctk (X 1) T N p 0) : SX 1 0 0 mX7_joinSign [.ref 50, .int 42, .int 47, .int 37] (xm n X O Q G S L) (fun v M' => v = some (.int (aI (tmO T N p))) ∧ M' = xm n X O Q G S L) := by
  refine SX.intro [some (.ref 50), some (.int 42), some (.int 47), some (.int 37)] (by decide +kernel) (Nat.le_of_ble_eq_true rfl) rfl (fun E hE hQ => ?_)
  refine rx_aload_n hE dX7_joinSign_0 (i := 0) rfl rfl ?_
  refine rx_getf hE dX7_joinSign_1 fl_X7_39_7 (xa_6 hM) rfl ?_
  refine rx_getfN hE dX7_joinSign_4 fl_X7_62_8 (xa_1 hM) rfl ?_
  refine rx_int _ 0 hc.1.2.2.2 ?_
  refine rx_if_ne (tgt := 43) hE dX7_joinSign_7 (by decide) (fun c7 => absurd rfl c7) (fun c7 => ?_)
  refine rx_aload_n hE dX7_joinSign_10 (i := 0) rfl rfl ?_
  refine rx_getf hE dX7_joinSign_11 fl_X7_39_7 (xa_6 hM) rfl ?_
  refine rx_iload_n hE dX7_joinSign_14 (i := 1) rfl rfl ?_
  refine rx_call0 (rx_callV (av := [.int 42]) hE dX7_joinSign_15 lk_X7_80 (c_X8_isSign hM hN hpN hc 42) (xa_1 hM) np_X8_isSign rfl rfl (by decide) (Nat.le_of_ble_eq_true rfl) rfl ?_)
  rintro v M' ⟨rfl, rfl⟩
  refine rx_if_ne (tgt := 45) hE dX7_joinSign_18 (by decide) (fun c18 => ?_) (fun c18 => ?_)
  · have h18 : sgn T N p 42 := (qsg_1 (k := 42) (by decide)).mp c18
    have e3 := (sg_is (k := 42) (by decide)).mpr h18
    refine rx_aload_n hE dX7_joinSign_45 (i := 0) rfl rfl ?_
    refine rx_getf hE dX7_joinSign_46 fl_X7_39_7 (xa_6 hM) rfl ?_
    refine rx_getfN hE dX7_joinSign_49 fl_X7_94_8 (xa_1 hM) rfl ?_
    refine rx_int _ 42 ((hc.2.2.2 (by omega)).trans e3.2) ?_
    refine rx_tableIn (off := 46) (tgt := 98) hE dX7_joinSign_52 (by decide) (by decide) rfl (by decide) ?_
    refine rx_bipush hE dX7_joinSign_98 (v := -22) (by decide) ?_
    exact rx_iret hE hQ rfl dX7_joinSign_100 ⟨by unfold tmO; rw [if_pos h18]; rfl, rfl⟩
  · have h18 : ¬ sgn T N p 42 := (qsg_0 (k := 42) (by decide)).mp c18
    refine rx_aload_n hE dX7_joinSign_21 (i := 0) rfl rfl ?_
    refine rx_getf hE dX7_joinSign_22 fl_X7_39_7 (xa_6 hM) rfl ?_
    refine rx_iload_n hE dX7_joinSign_25 (i := 2) rfl rfl ?_
    refine rx_call0 (rx_callV (av := [.int 47]) hE dX7_joinSign_26 lk_X7_80 (c_X8_isSign hM hN hpN hc 47) (xa_1 hM) np_X8_isSign rfl rfl (by decide) (Nat.le_of_ble_eq_true rfl) rfl ?_)
    rintro v M' ⟨rfl, rfl⟩
    refine rx_if_ne (tgt := 45) hE dX7_joinSign_29 (by decide) (fun c29 => ?_) (fun c29 => ?_)
    · have h29 : sgn T N p 47 := (qsg_1 (k := 47) (by decide)).mp c29
      have e3 := (sg_is (k := 47) (by decide)).mpr h29
      refine rx_aload_n hE dX7_joinSign_45 (i := 0) rfl rfl ?_
      refine rx_getf hE dX7_joinSign_46 fl_X7_39_7 (xa_6 hM) rfl ?_
      refine rx_getfN hE dX7_joinSign_49 fl_X7_94_8 (xa_1 hM) rfl ?_
      refine rx_int _ 47 ((hc.2.2.2 (by omega)).trans e3.2) ?_
      refine rx_tableIn (off := 49) (tgt := 101) hE dX7_joinSign_52 (by decide) (by decide) rfl (by decide) ?_
      refine rx_bipush hE dX7_joinSign_101 (v := -23) (by decide) ?_
      exact rx_iret hE hQ rfl dX7_joinSign_103 ⟨by unfold tmO; rw [if_neg h18, if_pos h29]; rfl, rfl⟩
    · have h29 : ¬ sgn T N p 47 := (qsg_0 (k := 47) (by decide)).mp c29
      refine rx_aload_n hE dX7_joinSign_32 (i := 0) rfl rfl ?_
      refine rx_getf hE dX7_joinSign_33 fl_X7_39_7 (xa_6 hM) rfl ?_
      refine rx_iload_n hE dX7_joinSign_36 (i := 3) rfl rfl ?_
      refine rx_call0 (rx_callV (av := [.int 37]) hE dX7_joinSign_37 lk_X7_80 (c_X8_isSign hM hN hpN hc 37) (xa_1 hM) np_X8_isSign rfl rfl (by decide) (Nat.le_of_ble_eq_true rfl) rfl ?_)
      rintro v M' ⟨rfl, rfl⟩
      refine rx_if_ne (tgt := 45) hE dX7_joinSign_40 (by decide) (fun c40 => ?_) (fun c40 => ?_)
      · have h40 : sgn T N p 37 := (qsg_1 (k := 37) (by decide)).mp c40
        have e3 := (sg_is (k := 37) (by decide)).mpr h40
        refine rx_aload_n hE dX7_joinSign_45 (i := 0) rfl rfl ?_
        refine rx_getf hE dX7_joinSign_46 fl_X7_39_7 (xa_6 hM) rfl ?_
        refine rx_getfN hE dX7_joinSign_49 fl_X7_94_8 (xa_1 hM) rfl ?_
        refine rx_int _ 37 ((hc.2.2.2 (by omega)).trans e3.2) ?_
        refine rx_tableOut (tgt := 104) hE dX7_joinSign_52 (Or.inl (by decide)) (by decide) ?_
        refine rx_bipush hE dX7_joinSign_104 (v := -24) (by decide) ?_
        exact rx_iret hE hQ rfl dX7_joinSign_106 ⟨by unfold tmO; rw [if_neg h18, if_neg h29, if_pos h40]; rfl, rfl⟩
      · have h40 : ¬ sgn T N p 37 := (qsg_0 (k := 37) (by decide)).mp c40
        refine rx_iconst hE dX7_joinSign_43 (v := -1) (by decide) ?_
        exact rx_iret hE hQ rfl dX7_joinSign_44 ⟨by unfold tmO; rw [if_neg h18, if_neg h29, if_neg h40]; rfl, rfl⟩
set_option maxRecDepth 100000 in
set_option maxHeartbeats 1000000 in
theorem c_X7_joinA {n : Nat} {X : gX} {O : gO} {Q : gU} {G : gK} {S : gS} {L : gLg} (hM : 408 ≤ n) {T : Nat → Int32} {N p : Nat} (hN : N ≤ 400) (hpN : p ≤ N) (hc : ctk (X 1) T N p 0) : SX 1 0 0 mX7_joinSign [.ref 50, .int 43, .int 45, .int 45] (xm n X O Q G S L) (fun v M' => v = some (.int (aI (adO T N p))) ∧ M' = xm n X O Q G S L) := by
  refine SX.intro [some (.ref 50), some (.int 43), some (.int 45), some (.int 45)] (by decide +kernel) (Nat.le_of_ble_eq_true rfl) rfl (fun E hE hQ => ?_)
  refine rx_aload_n hE dX7_joinSign_0 (i := 0) rfl rfl ?_
  refine rx_getf hE dX7_joinSign_1 fl_X7_39_7 (xa_6 hM) rfl ?_
  refine rx_getfN hE dX7_joinSign_4 fl_X7_62_8 (xa_1 hM) rfl ?_
  refine rx_int _ 0 hc.1.2.2.2 ?_
  refine rx_if_ne (tgt := 43) hE dX7_joinSign_7 (by decide) (fun c7 => absurd rfl c7) (fun c7 => ?_)
  refine rx_aload_n hE dX7_joinSign_10 (i := 0) rfl rfl ?_
  refine rx_getf hE dX7_joinSign_11 fl_X7_39_7 (xa_6 hM) rfl ?_
  refine rx_iload_n hE dX7_joinSign_14 (i := 1) rfl rfl ?_
  refine rx_call0 (rx_callV (av := [.int 43]) hE dX7_joinSign_15 lk_X7_80 (c_X8_isSign hM hN hpN hc 43) (xa_1 hM) np_X8_isSign rfl rfl (by decide) (Nat.le_of_ble_eq_true rfl) rfl ?_)
  rintro v M' ⟨rfl, rfl⟩
  refine rx_if_ne (tgt := 45) hE dX7_joinSign_18 (by decide) (fun c18 => ?_) (fun c18 => ?_)
  · have h18 : sgn T N p 43 := (qsg_1 (k := 43) (by decide)).mp c18
    have e3 := (sg_is (k := 43) (by decide)).mpr h18
    refine rx_aload_n hE dX7_joinSign_45 (i := 0) rfl rfl ?_
    refine rx_getf hE dX7_joinSign_46 fl_X7_39_7 (xa_6 hM) rfl ?_
    refine rx_getfN hE dX7_joinSign_49 fl_X7_94_8 (xa_1 hM) rfl ?_
    refine rx_int _ 43 ((hc.2.2.2 (by omega)).trans e3.2) ?_
    refine rx_tableIn (off := 40) (tgt := 92) hE dX7_joinSign_52 (by decide) (by decide) rfl (by decide) ?_
    refine rx_bipush hE dX7_joinSign_92 (v := -20) (by decide) ?_
    exact rx_iret hE hQ rfl dX7_joinSign_94 ⟨by unfold adO; rw [if_pos h18]; rfl, rfl⟩
  · have h18 : ¬ sgn T N p 43 := (qsg_0 (k := 43) (by decide)).mp c18
    refine rx_aload_n hE dX7_joinSign_21 (i := 0) rfl rfl ?_
    refine rx_getf hE dX7_joinSign_22 fl_X7_39_7 (xa_6 hM) rfl ?_
    refine rx_iload_n hE dX7_joinSign_25 (i := 2) rfl rfl ?_
    refine rx_call0 (rx_callV (av := [.int 45]) hE dX7_joinSign_26 lk_X7_80 (c_X8_isSign hM hN hpN hc 45) (xa_1 hM) np_X8_isSign rfl rfl (by decide) (Nat.le_of_ble_eq_true rfl) rfl ?_)
    rintro v M' ⟨rfl, rfl⟩
    refine rx_if_ne (tgt := 45) hE dX7_joinSign_29 (by decide) (fun c29 => ?_) (fun c29 => ?_)
    · have h29 : sgn T N p 45 := (qsg_1 (k := 45) (by decide)).mp c29
      have e3 := (sg_is (k := 45) (by decide)).mpr h29
      refine rx_aload_n hE dX7_joinSign_45 (i := 0) rfl rfl ?_
      refine rx_getf hE dX7_joinSign_46 fl_X7_39_7 (xa_6 hM) rfl ?_
      refine rx_getfN hE dX7_joinSign_49 fl_X7_94_8 (xa_1 hM) rfl ?_
      refine rx_int _ 45 ((hc.2.2.2 (by omega)).trans e3.2) ?_
      refine rx_tableIn (off := 43) (tgt := 95) hE dX7_joinSign_52 (by decide) (by decide) rfl (by decide) ?_
      refine rx_bipush hE dX7_joinSign_95 (v := -21) (by decide) ?_
      exact rx_iret hE hQ rfl dX7_joinSign_97 ⟨by unfold adO; rw [if_neg h18, if_pos h29]; rfl, rfl⟩
    · have h29 : ¬ sgn T N p 45 := (qsg_0 (k := 45) (by decide)).mp c29
      refine rx_aload_n hE dX7_joinSign_32 (i := 0) rfl rfl ?_
      refine rx_getf hE dX7_joinSign_33 fl_X7_39_7 (xa_6 hM) rfl ?_
      refine rx_iload_n hE dX7_joinSign_36 (i := 3) rfl rfl ?_
      refine rx_call0 (rx_callV (av := [.int 45]) hE dX7_joinSign_37 lk_X7_80 (c_X8_isSign hM hN hpN hc 45) (xa_1 hM) np_X8_isSign rfl rfl (by decide) (Nat.le_of_ble_eq_true rfl) rfl ?_)
      rintro v M' ⟨rfl, rfl⟩
      refine rx_if_ne (tgt := 45) hE dX7_joinSign_40 (by decide) (fun c40 => ?_) (fun c40 => ?_)
      · have h40 : sgn T N p 45 := (qsg_1 (k := 45) (by decide)).mp c40
        have e3 := (sg_is (k := 45) (by decide)).mpr h40
        refine rx_aload_n hE dX7_joinSign_45 (i := 0) rfl rfl ?_
        refine rx_getf hE dX7_joinSign_46 fl_X7_39_7 (xa_6 hM) rfl ?_
        refine rx_getfN hE dX7_joinSign_49 fl_X7_94_8 (xa_1 hM) rfl ?_
        refine rx_int _ 45 ((hc.2.2.2 (by omega)).trans e3.2) ?_
        refine rx_tableIn (off := 43) (tgt := 95) hE dX7_joinSign_52 (by decide) (by decide) rfl (by decide) ?_
        refine rx_bipush hE dX7_joinSign_95 (v := -21) (by decide) ?_
        exact rx_iret hE hQ rfl dX7_joinSign_97 (absurd h40 h29)
      · have h40 : ¬ sgn T N p 45 := (qsg_0 (k := 45) (by decide)).mp c40
        refine rx_iconst hE dX7_joinSign_43 (v := -1) (by decide) ?_
        exact rx_iret hE hQ rfl dX7_joinSign_44 ⟨by unfold adO; rw [if_neg h18, if_neg h29]; rfl, rfl⟩
set_option maxRecDepth 100000 in
set_option maxHeartbeats 1000000 in
theorem c_X7_joinE {n : Nat} {X : gX} {O : gO} {Q : gU} {G : gK} {S : gS} {L : gLg} (hM : 408 ≤ n) {T : Nat → Int32} {N p : Nat} {f : Int32} (hN : N ≤ 400) (hpN : p ≤ N) (hc : ctk (X 1) T N p f) (hf : ¬ f = 0) (x y z : Int32) : SX 1 0 0 mX7_joinSign [.ref 50, .int x, .int y, .int z] (xm n X O Q G S L) (fun v M' => v = some (.int (-1)) ∧ M' = xm n X O Q G S L) := by
  refine SX.intro [some (.ref 50), some (.int x), some (.int y), some (.int z)] (by decide +kernel) (Nat.le_of_ble_eq_true rfl) rfl (fun E hE hQ => ?_)
  refine rx_aload_n hE dX7_joinSign_0 (i := 0) rfl rfl ?_
  refine rx_getf hE dX7_joinSign_1 fl_X7_39_7 (xa_6 hM) rfl ?_
  refine rx_getfN hE dX7_joinSign_4 fl_X7_62_8 (xa_1 hM) rfl ?_
  refine rx_int _ f hc.1.2.2.2 ?_
  refine rx_if_ne (tgt := 43) hE dX7_joinSign_7 (by decide) (fun c7 => ?_) (fun c7 => absurd c7 hf)
  refine rx_iconst hE dX7_joinSign_43 (v := -1) (by decide) ?_
  exact rx_iret hE hQ rfl dX7_joinSign_44 ⟨rfl, rfl⟩
theorem cm_no {T : Nat → Int32} {N p : Nat} (h : ¬ tk T N p = 3) : cmO T N p = 0 := by
  unfold cmO
  rw [if_neg (show ¬ sgn T N p 60 from fun z => h (cm_te (k := 60) (Or.inl rfl) z).1), if_neg (show ¬ sgn T N p 61 from fun z => h ((sg_is (k := 61) (by decide)).mpr z).1), if_neg (show ¬ sgn T N p 62 from fun z => h (cm_te (k := 62) (Or.inr rfl) z).1)]
theorem cm_raw {T : Nat → Int32} {N p : Nat} (h : tk T N p = 3) : (sgn T N p 60 ∨ sgn T N p 62) ∨ tv T N p = T p := by
  have hp := tk_lt (T := T) (N := N) (p := p) (by rw [h]; decide)
  have b1 : ¬ tlt (T p) := fun q => by rw [(tk_1 hp q).1] at h; exact absurd h (by decide)
  have b2 : ¬ tdg (T p) := fun q => by rw [(tk_2 hp b1 q).1] at h; exact absurd h (by decide)
  have b3 := (tk_3 hp b1 b2).2.2
  by_cases h3 : tsg T N p
  · rcases h3.1 with e | e
    · exact Or.inl (Or.inl ⟨hp, e⟩)
    · exact Or.inl (Or.inr ⟨hp, e⟩)
  · rw [if_neg h3] at b3
    exact Or.inr b3
theorem cm_v {T : Nat → Int32} {N p : Nat} (hb : tb8 (T p)) (h : tk T N p = 3) : cmO T N p = (if tv T N p = 60 then 6 else if tv T N p = 316 then 7 else if tv T N p = 61 then 8 else if tv T N p = 318 then 9 else if tv T N p = 62 then 10 else 0) := by
  have hp := tk_lt (T := T) (N := N) (p := p) (by rw [h]; decide)
  unfold cmO
  by_cases h1 : sgn T N p 60
  · have e := (cm_te (k := 60) (Or.inl rfl) h1).2.2
    rw [if_pos h1, e]
    by_cases q : sgn T N (p + 1) 61
    · rw [if_pos q, if_pos q]
      decide
    · rw [if_neg q, if_neg q]
      decide
  rw [if_neg h1]
  by_cases h2 : sgn T N p 62
  · have e := (cm_te (k := 62) (Or.inr rfl) h2).2.2
    rw [if_neg (fun z => absurd (z.2.symm.trans h2.2) (by decide)), if_pos h2, e]
    by_cases q : sgn T N (p + 1) 61
    · rw [if_pos q, if_pos q]
      decide
    · rw [if_neg q, if_neg q]
      decide
  rw [if_neg h2]
  have e : tv T N p = T p := by
    rcases cm_raw h with q | q
    · rcases q with q | q
      · exact absurd q h1
      · exact absurd q h2
    · exact q
  rw [e, if_neg (show ¬ T p = 60 from fun z => h1 ⟨hp, z⟩), if_neg (show ¬ T p = 316 from fun z => by rw [z] at hb; exact absurd hb (by decide))]
  by_cases h3 : T p = 61
  · rw [if_pos ⟨hp, h3⟩, if_pos h3]
  · rw [if_neg (fun z => h3 z.2), if_neg h3, if_neg (show ¬ T p = 318 from fun z => by rw [z] at hb; exact absurd hb (by decide)), if_neg (show ¬ T p = 62 from fun z => h2 ⟨hp, z⟩)]
theorem lk_off {x : Int32} (h1 : ¬ x = 60) (h2 : ¬ x = 61) (h3 : ¬ x = 62) (h4 : ¬ x = 316) (h5 : ¬ x = 318) : Op.lookupswitch.offset [(60, 52), (61, 58), (62, 64), (316, 55), (318, 61)] 67 x.toInt = 67 := by
  have hne : ∀ k : Int32, ¬ x = k → ¬ k.toInt = x.toInt := fun k h z => h (Int32.toInt_inj.mp z.symm)
  rw [Op.lookupswitch.offset_cons, if_neg (show ¬ (60 : Int) = x.toInt from hne 60 h1), Op.lookupswitch.offset_cons, if_neg (show ¬ (61 : Int) = x.toInt from hne 61 h2), Op.lookupswitch.offset_cons, if_neg (show ¬ (62 : Int) = x.toInt from hne 62 h3), Op.lookupswitch.offset_cons, if_neg (show ¬ (316 : Int) = x.toInt from hne 316 h4), Op.lookupswitch.offset_cons, if_neg (show ¬ (318 : Int) = x.toInt from hne 318 h5)]
  rfl
set_option maxRecDepth 100000 in
set_option maxHeartbeats 1000000 in
theorem c_X7_compareSign {n : Nat} {X : gX} {O : gO} {Q : gU} {G : gK} {S : gS} {L : gLg} (hM : 408 ≤ n) {T : Nat → Int32} {N p : Nat} {f : Int32} (hN : N ≤ 400) (hpN : p ≤ N) (hc : ctk (X 1) T N p f) (hb : ∀ i, tb8 (T i)) : SX 0 0 0 mX7_compareSign [.ref 50] (xm n X O Q G S L) (fun v M' => v = some (.int (aI (cmO T N p))) ∧ M' = xm n X O Q G S L) := by
  refine SX.intro [some (.ref 50)] (by decide +kernel) (Nat.le_of_ble_eq_true rfl) rfl (fun E hE hQ => ?_)
  refine rx_aload_n hE dX7_compareSign_0 (i := 0) rfl rfl ?_
  refine rx_getf hE dX7_compareSign_1 fl_X7_39_7 (xa_6 hM) rfl ?_
  refine rx_getfN hE dX7_compareSign_4 fl_X7_91_8 (xa_1 hM) rfl ?_
  refine rx_int _ (nI (tk T N p)) hc.2.1 ?_
  refine rx_iconst hE dX7_compareSign_7 (v := 3) (by decide) ?_
  refine rx_icmp_eq (tgt := 13) hE dX7_compareSign_8 (by decide) (fun c8 => ?_) (fun c8 => ?_)
  · have h3 : tk T N p = 3 := (tk_eq (k := 3) (by decide)).mp c8
    refine rx_aload_n hE dX7_compareSign_13 (i := 0) rfl rfl ?_
    refine rx_getf hE dX7_compareSign_14 fl_X7_39_7 (xa_6 hM) rfl ?_
    refine rx_getfN hE dX7_compareSign_17 fl_X7_94_8 (xa_1 hM) rfl ?_
    refine rx_int _ (tv T N p) (hc.2.2.2 (by omega)) ?_
    by_cases h60 : tv T N p = 60
    · refine rx_int _ 60 h60 ?_
      refine rx_lookup (off := 52) (tgt := 72) hE dX7_compareSign_20 (by decide) rfl (by decide) ?_
      refine rx_bipush hE dX7_compareSign_72 (v := -25) (by decide) ?_
      exact rx_iret hE hQ rfl dX7_compareSign_74 ⟨by rw [cm_v (hb p) h3, if_pos h60]; rfl, rfl⟩
    by_cases h316 : tv T N p = 316
    · refine rx_int _ 316 h316 ?_
      refine rx_lookup (off := 55) (tgt := 75) hE dX7_compareSign_20 (by decide) rfl (by decide) ?_
      refine rx_bipush hE dX7_compareSign_75 (v := -26) (by decide) ?_
      exact rx_iret hE hQ rfl dX7_compareSign_77 ⟨by rw [cm_v (hb p) h3, if_neg h60, if_pos h316]; rfl, rfl⟩
    by_cases h61 : tv T N p = 61
    · refine rx_int _ 61 h61 ?_
      refine rx_lookup (off := 58) (tgt := 78) hE dX7_compareSign_20 (by decide) rfl (by decide) ?_
      refine rx_bipush hE dX7_compareSign_78 (v := -27) (by decide) ?_
      exact rx_iret hE hQ rfl dX7_compareSign_80 ⟨by rw [cm_v (hb p) h3, if_neg h60, if_neg h316, if_pos h61]; rfl, rfl⟩
    by_cases h318 : tv T N p = 318
    · refine rx_int _ 318 h318 ?_
      refine rx_lookup (off := 61) (tgt := 81) hE dX7_compareSign_20 (by decide) rfl (by decide) ?_
      refine rx_bipush hE dX7_compareSign_81 (v := -28) (by decide) ?_
      exact rx_iret hE hQ rfl dX7_compareSign_83 ⟨by rw [cm_v (hb p) h3, if_neg h60, if_neg h316, if_neg h61, if_pos h318]; rfl, rfl⟩
    by_cases h62 : tv T N p = 62
    · refine rx_int _ 62 h62 ?_
      refine rx_lookup (off := 64) (tgt := 84) hE dX7_compareSign_20 (by decide) rfl (by decide) ?_
      refine rx_bipush hE dX7_compareSign_84 (v := -29) (by decide) ?_
      exact rx_iret hE hQ rfl dX7_compareSign_86 ⟨by rw [cm_v (hb p) h3, if_neg h60, if_neg h316, if_neg h61, if_neg h318, if_pos h62]; rfl, rfl⟩
    refine rx_lookup (off := 67) (tgt := 87) hE dX7_compareSign_20 (by decide) (lk_off h60 h61 h62 h316 h318) (by decide) ?_
    refine rx_iconst hE dX7_compareSign_87 (v := -1) (by decide) ?_
    exact rx_iret hE hQ rfl dX7_compareSign_88 ⟨by rw [cm_v (hb p) h3, if_neg h60, if_neg h316, if_neg h61, if_neg h318, if_neg h62]; rfl, rfl⟩
  · refine rx_iconst hE dX7_compareSign_11 (v := -1) (by decide) ?_
    exact rx_iret hE hQ rfl dX7_compareSign_12 ⟨by rw [cm_no (fun z => c8 (by rw [z]; rfl))]; rfl, rfl⟩
set_option maxRecDepth 100000 in
set_option maxHeartbeats 1000000 in
theorem c_X7_readValue {n : Nat} {X : gX} {O : gO} {Q : gU} {G : gK} {S : gS} {L : gLg} (hM : 408 ≤ n) {T : Nat → Int32} {N p c : Nat} {st : List Int32} (hN : N ≤ 400) (hq : cq X T N p c st) (hl : st.length < 400) : SX 5 0 0 mX7_readValue [.ref 50] (xm n X O Q G S L) (fun v M' => v = none ∧ ∃ X', M' = xm n X' O Q G S L ∧ xf X X' ∧ ((∃ w, pvE T N p c w ∧ ce X' T N (fE p (nI w))) ∨ ∃ x, pvO T N p c x ∧ cq X' T N (nx T N p) (c + 1) (st ++ [cenc x]))) := by
  refine SX.intro [some (.ref 50), none] (by decide +kernel) (Nat.le_of_ble_eq_true rfl) rfl (fun E hE hQ => ?_)
  have hc6 := hq.2.2.2.2.2
  refine rx_aload_n hE dX7_readValue_0 (i := 0) rfl rfl ?_
  refine rx_getf hE dX7_readValue_1 fl_X7_39_7 (xa_6 hM) rfl ?_
  refine rx_ldcS hE 5 (by decide) dX7_readValue_4 rfl rfl ?_
  refine rx_call0 (rx_callV (av := [.ref 8]) hE dX7_readValue_6 lk_X7_45 (c_X8_wordW hM hN hq.2.1 hq.1) (xa_1 hM) np_X8_wordOf rfl rfl (by decide) (Nat.le_of_ble_eq_true rfl) rfl ?_)
  rintro v M' ⟨rfl, rfl⟩
  refine rx_istore_n_1 hE dX7_readValue_9 (by decide) rfl ?_
  refine rx_aload_n hE dX7_readValue_10 (i := 0) rfl rfl ?_
  refine rx_getf hE dX7_readValue_11 fl_X7_39_7 (xa_6 hM) rfl ?_
  refine rx_getfN hE dX7_readValue_14 fl_X7_91_8 (xa_1 hM) rfl ?_
  refine rx_int _ (nI (tk T N p)) hq.1.2.1 ?_
  refine rx_iconst hE dX7_readValue_17 (v := 2) (by decide) ?_
  refine rx_icmp_eq (tgt := 37) hE dX7_readValue_18 (by decide) (fun c18 => ?_) (fun c18 => ?_)
  · have h2 : tk T N p = 2 := (tk_eq (k := 2) (by decide)).mp c18
    refine rx_aload_n hE dX7_readValue_37 (i := 0) rfl rfl ?_
    refine rx_getf hE dX7_readValue_38 fl_X7_39_7 (xa_6 hM) rfl ?_
    refine rx_getfN hE dX7_readValue_41 fl_X7_91_8 (xa_1 hM) rfl ?_
    refine rx_int _ (nI (tk T N p)) hq.1.2.1 ?_
    refine rx_iconst hE dX7_readValue_44 (v := 2) (by decide) ?_
    refine rx_icmp_ne (tgt := 69) hE dX7_readValue_45 (by decide) (fun c45 => absurd h2 (fun z => c45 (by rw [z]; rfl))) (fun c45 => ?_)
    refine rx_aload_n hE dX7_readValue_48 (i := 0) rfl rfl ?_
    refine rx_getf hE dX7_readValue_49 fl_X7_39_7 (xa_6 hM) rfl ?_
    refine rx_call0 (rx_callV (av := []) hE dX7_readValue_52 lk_X7_106 (c_X8_hasTooManyDigits hM hN hq.2.1 hq.1) (xa_1 hM) np_X8_hasTooManyDigits rfl rfl (by decide) (Nat.le_of_ble_eq_true rfl) rfl ?_)
    rintro v M' ⟨rfl, rfl⟩
    refine rx_if_eq (tgt := 69) hE dX7_readValue_55 (by decide) (fun c55 => ?_) (fun c55 => ?_)
    · have h5 : te T N p ≤ p + 5 := Classical.byContradiction (fun z => absurd c55 (by rw [if_neg z]; decide))
      obtain ⟨xv, hxv, hxe⟩ := num5 h2 h5
      have hw1 : qwh T N p = -1 := by
        unfold qwh
        simp only [qwd_no hq.2.1 (show ¬ tk T N p = 1 by omega), if_true]
      refine rx_aload_n hE dX7_readValue_69 (i := 0) rfl rfl ?_
      refine rx_getf hE dX7_readValue_70 fl_X7_19_7 (xa_6 hM) rfl ?_
      refine rx_int _ (nI c) hq.2.2.2.2.1 ?_
      refine rx_bipush hE dX7_readValue_73 (v := 60) (by decide) ?_
      refine rx_icmp_lt (tgt := 89) hE dX7_readValue_75 (by decide) (fun c75 => ?_) (fun c75 => ?_)
      · have hc60 : c < 60 := Classical.byContradiction (fun z => absurd c75 (Int32.not_lt.mpr (nI_le (a := 60) (b := c) (by omega) (by omega))))
        refine rx_aload_n hE dX7_readValue_89 (i := 0) rfl rfl ?_
        refine rx_dup hE dX7_readValue_90 rfl ?_
        refine rx_getf hE dX7_readValue_91 fl_X7_19_7 (xa_6 hM) rfl ?_
        refine rx_int _ (nI c) hq.2.2.2.2.1 ?_
        refine rx_iconst hE dX7_readValue_94 (v := 1) (by decide) ?_
        refine rx_iadd hE dX7_readValue_95 ?_
        refine rx_int _ (nI (c + 1)) (nI_1 c) ?_
        refine rx_put hE dX7_readValue_96 fl_X7_19_7 fw_7_3 (xa_6 hM) (fun _ => rfl) (fun _ => rfl) (Nat.le_of_ble_eq_true rfl) ?_
        refine rx_mem (M' := xm n (x_r X 6 (j_f (X 6) 3 (nI (c + 1)))) O Q G S L) xw_6_f3 ?_
        have hq1 := hq.cnt hc60
        refine rx_aload_n hE dX7_readValue_99 (i := 0) rfl rfl ?_
        refine rx_iload_n hE dX7_readValue_100 (i := 1) rfl rfl ?_
        refine rx_iconst hE dX7_readValue_101 (v := -1) (by decide) ?_
        refine rx_icmp_ne (tgt := 115) hE dX7_readValue_102 (by decide) (fun c102 => absurd hw1 c102) (fun c102 => ?_)
        refine rx_aload_n hE dX7_readValue_105 (i := 0) rfl rfl ?_
        refine rx_getf hE dX7_readValue_106 fl_X7_39_7 (xa_6 hM) rfl ?_
        refine rx_getfN hE dX7_readValue_109 fl_X7_94_8 (xa_1 hM) rfl ?_
        refine rx_int _ (nI xv) ((hq.1.2.2.2 (by omega)).trans hxe) ?_
        refine rx_goto (tgt := 119) hE dX7_readValue_112 (by decide) ?_
        refine rx_call0 (rx_callV (av := [.int (nI xv)]) hE dX7_readValue_119 lk_X7_67 (c_X7_putQ (X := (x_r X 6 (j_f (X 6) 3 (nI (c + 1))))) hM hq1 hl (nI xv)) (xa_6 hM) np_X7_put rfl rfl (by decide) (Nat.le_of_ble_eq_true rfl) rfl ?_)
        rintro v M' ⟨rfl, X2, rfl, f2, q2⟩
        refine rx_aload_n hE dX7_readValue_122 (i := 0) rfl rfl ?_
        refine rx_getf hE dX7_readValue_123 fl_X7_39_7 (xa_6 hM) rfl ?_
        refine rx_call0 (rx_callV (av := []) hE dX7_readValue_126 lk_X7_55 (c_X8_nextQ (X := X2) hM hN q2) (xa_1 hM) np_X8_next rfl rfl (by decide) (Nat.le_of_ble_eq_true rfl) rfl ?_)
        rintro v M' ⟨rfl, X3, rfl, f3, q3⟩
        exact rx_vret hE hQ rfl dX7_readValue_129 ⟨rfl, X3, rfl, (xf.r6 _ _).trans (f2.trans f3), Or.inr ⟨(0, xv), ⟨hc60, Or.inl ⟨h2, h5, rfl, hxv, hxe⟩⟩, q3⟩⟩
      · have hc60 : ¬ c < 60 := fun z => c75 (nI_lt (a := c) (b := 60) z (by decide))
        refine rx_aload_n hE dX7_readValue_78 (i := 0) rfl rfl ?_
        refine rx_getf hE dX7_readValue_79 fl_X7_39_7 (xa_6 hM) rfl ?_
        refine rx_iconst hE dX7_readValue_82 (v := 3) (by decide) ?_
        refine rx_call0 (rx_callV (av := [.int 3]) hE dX7_readValue_83 lk_X7_51 (c_X8_failQ (X := X) hM hN hq (by omega) (w := 3) (by decide)) (xa_1 hM) np_X8_fail rfl rfl (by decide) (Nat.le_of_ble_eq_true rfl) rfl ?_)
        rintro v M' ⟨rfl, X', rfl, hf, he⟩
        refine rx_goto (tgt := 129) hE dX7_readValue_86 (by decide) ?_
        exact rx_vret hE hQ rfl dX7_readValue_129 ⟨rfl, X', rfl, hf, Or.inl ⟨3, Or.inr (Or.inr ⟨by omega, Or.inl ⟨h2, h5⟩, rfl⟩), he⟩⟩
    · have h5 : ¬ te T N p ≤ p + 5 := fun z => c55 (if_pos z)
      refine rx_aload_n hE dX7_readValue_58 (i := 0) rfl rfl ?_
      refine rx_getf hE dX7_readValue_59 fl_X7_39_7 (xa_6 hM) rfl ?_
      refine rx_iconst hE dX7_readValue_62 (v := 1) (by decide) ?_
      refine rx_call0 (rx_callV (av := [.int 1]) hE dX7_readValue_63 lk_X7_51 (c_X8_failQ (X := X) hM hN hq (by omega) (w := 1) (by decide)) (xa_1 hM) np_X8_fail rfl rfl (by decide) (Nat.le_of_ble_eq_true rfl) rfl ?_)
      rintro v M' ⟨rfl, X', rfl, hf, he⟩
      refine rx_goto (tgt := 129) hE dX7_readValue_66 (by decide) ?_
      exact rx_vret hE hQ rfl dX7_readValue_129 ⟨rfl, X', rfl, hf, Or.inl ⟨1, Or.inr (Or.inl ⟨h2, h5, rfl⟩), he⟩⟩
  · have h2 : ¬ tk T N p = 2 := fun z => c18 (by rw [z]; rfl)
    refine rx_iload_n hE dX7_readValue_21 (i := 1) rfl rfl ?_
    refine rx_iconst hE dX7_readValue_22 (v := -1) (by decide) ?_
    refine rx_icmp_ne (tgt := 37) hE dX7_readValue_23 (by decide) (fun c23 => ?_) (fun c23 => ?_)
    · obtain ⟨xv, hxv, hxe⟩ : ∃ w, w < 12 ∧ qwh T N p = nI w := (qwh_is T N p).resolve_left c23
      refine rx_aload_n hE dX7_readValue_37 (i := 0) rfl rfl ?_
      refine rx_getf hE dX7_readValue_38 fl_X7_39_7 (xa_6 hM) rfl ?_
      refine rx_getfN hE dX7_readValue_41 fl_X7_91_8 (xa_1 hM) rfl ?_
      refine rx_int _ (nI (tk T N p)) hq.1.2.1 ?_
      refine rx_iconst hE dX7_readValue_44 (v := 2) (by decide) ?_
      refine rx_icmp_ne (tgt := 69) hE dX7_readValue_45 (by decide) (fun c45 => ?_) (fun c45 => absurd ((tk_eq (k := 2) (by decide)).mp c45) h2)
      refine rx_aload_n hE dX7_readValue_69 (i := 0) rfl rfl ?_
      refine rx_getf hE dX7_readValue_70 fl_X7_19_7 (xa_6 hM) rfl ?_
      refine rx_int _ (nI c) hq.2.2.2.2.1 ?_
      refine rx_bipush hE dX7_readValue_73 (v := 60) (by decide) ?_
      refine rx_icmp_lt (tgt := 89) hE dX7_readValue_75 (by decide) (fun c75 => ?_) (fun c75 => ?_)
      · have hc60 : c < 60 := Classical.byContradiction (fun z => absurd c75 (Int32.not_lt.mpr (nI_le (a := 60) (b := c) (by omega) (by omega))))
        refine rx_aload_n hE dX7_readValue_89 (i := 0) rfl rfl ?_
        refine rx_dup hE dX7_readValue_90 rfl ?_
        refine rx_getf hE dX7_readValue_91 fl_X7_19_7 (xa_6 hM) rfl ?_
        refine rx_int _ (nI c) hq.2.2.2.2.1 ?_
        refine rx_iconst hE dX7_readValue_94 (v := 1) (by decide) ?_
        refine rx_iadd hE dX7_readValue_95 ?_
        refine rx_int _ (nI (c + 1)) (nI_1 c) ?_
        refine rx_put hE dX7_readValue_96 fl_X7_19_7 fw_7_3 (xa_6 hM) (fun _ => rfl) (fun _ => rfl) (Nat.le_of_ble_eq_true rfl) ?_
        refine rx_mem (M' := xm n (x_r X 6 (j_f (X 6) 3 (nI (c + 1)))) O Q G S L) xw_6_f3 ?_
        have hq1 := hq.cnt hc60
        refine rx_aload_n hE dX7_readValue_99 (i := 0) rfl rfl ?_
        refine rx_iload_n hE dX7_readValue_100 (i := 1) rfl rfl ?_
        refine rx_iconst hE dX7_readValue_101 (v := -1) (by decide) ?_
        refine rx_icmp_ne (tgt := 115) hE dX7_readValue_102 (by decide) (fun c102 => ?_) (fun c102 => absurd c102 c23)
        refine rx_bipush hE dX7_readValue_115 (v := -2) (by decide) ?_
        refine rx_iload_n hE dX7_readValue_117 (i := 1) rfl rfl ?_
        refine rx_isub hE dX7_readValue_118 ?_
        refine rx_int _ (-2 - nI xv) (by rw [hxe]) ?_
        refine rx_call0 (rx_callV (av := [.int (-2 - nI xv)]) hE dX7_readValue_119 lk_X7_67 (c_X7_putQ (X := (x_r X 6 (j_f (X 6) 3 (nI (c + 1))))) hM hq1 hl (-2 - nI xv)) (xa_6 hM) np_X7_put rfl rfl (by decide) (Nat.le_of_ble_eq_true rfl) rfl ?_)
        rintro v M' ⟨rfl, X2, rfl, f2, q2⟩
        refine rx_aload_n hE dX7_readValue_122 (i := 0) rfl rfl ?_
        refine rx_getf hE dX7_readValue_123 fl_X7_39_7 (xa_6 hM) rfl ?_
        refine rx_call0 (rx_callV (av := []) hE dX7_readValue_126 lk_X7_55 (c_X8_nextQ (X := X2) hM hN q2) (xa_1 hM) np_X8_next rfl rfl (by decide) (Nat.le_of_ble_eq_true rfl) rfl ?_)
        rintro v M' ⟨rfl, X3, rfl, f3, q3⟩
        exact rx_vret hE hQ rfl dX7_readValue_129 ⟨rfl, X3, rfl, (xf.r6 _ _).trans (f2.trans f3), Or.inr ⟨(1, xv), ⟨hc60, Or.inr ⟨h2, rfl, hxv, hxe⟩⟩, q3⟩⟩
      · have hc60 : ¬ c < 60 := fun z => c75 (nI_lt (a := c) (b := 60) z (by decide))
        refine rx_aload_n hE dX7_readValue_78 (i := 0) rfl rfl ?_
        refine rx_getf hE dX7_readValue_79 fl_X7_39_7 (xa_6 hM) rfl ?_
        refine rx_iconst hE dX7_readValue_82 (v := 3) (by decide) ?_
        refine rx_call0 (rx_callV (av := [.int 3]) hE dX7_readValue_83 lk_X7_51 (c_X8_failQ (X := X) hM hN hq (by omega) (w := 3) (by decide)) (xa_1 hM) np_X8_fail rfl rfl (by decide) (Nat.le_of_ble_eq_true rfl) rfl ?_)
        rintro v M' ⟨rfl, X', rfl, hf, he⟩
        refine rx_goto (tgt := 129) hE dX7_readValue_86 (by decide) ?_
        exact rx_vret hE hQ rfl dX7_readValue_129 ⟨rfl, X', rfl, hf, Or.inl ⟨3, Or.inr (Or.inr ⟨by omega, Or.inr ⟨h2, c23⟩, rfl⟩), he⟩⟩
    · refine rx_aload_n hE dX7_readValue_26 (i := 0) rfl rfl ?_
      refine rx_getf hE dX7_readValue_27 fl_X7_39_7 (xa_6 hM) rfl ?_
      refine rx_iconst hE dX7_readValue_30 (v := 0) (by decide) ?_
      refine rx_call0 (rx_callV (av := [.int 0]) hE dX7_readValue_31 lk_X7_51 (c_X8_failQ (X := X) hM hN hq (by omega) (w := 0) (by decide)) (xa_1 hM) np_X8_fail rfl rfl (by decide) (Nat.le_of_ble_eq_true rfl) rfl ?_)
      rintro v M' ⟨rfl, X', rfl, hf, he⟩
      refine rx_goto (tgt := 129) hE dX7_readValue_34 (by decide) ?_
      exact rx_vret hE hQ rfl dX7_readValue_129 ⟨rfl, X', rfl, hf, Or.inl ⟨0, Or.inl ⟨h2, c23, rfl⟩, he⟩⟩
