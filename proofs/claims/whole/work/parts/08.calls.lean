/-! ===== calls ===== -/
theorem g_tb_good : ∀ w ∈ g_tb, (w.onTables && w.keeps) = true ∨ ∃ ty, w = .arrayClass ty := fun w hw => good_of_word (List.mem_filter.mp hw).2
def g_cd (mi : gMi) : Prop := Cond.code mi.1 mi.2.1 mi.2.2.1 mi.2.2.2 ∈ g_tb ∧ Cond.initialized mi.1.cls ∈ g_tb ∧ (mi.1.cls ≠ "java/lang/invoke/MethodHandle" ∧ mi.1.cls ≠ "java/lang/invoke/VarHandle") ∧ mi.2.2.1 ≤ 21
def g_np (mi : gMi) (n : Nat) : Prop := (parseMethodDescriptor mi.1.desc).map (fun d => d.parameters.length) = some n
theorem g_cd.good {mi : gMi} (h : g_cd mi) : GoodIn g_tb (g_wsm mi) := by
  intro w hw
  rcases List.mem_cons.mp hw with q | q
  · subst q
    exact ⟨h.1, g_tb_good _ h.1⟩
  · exact ⟨q, g_tb_good _ q⟩
section RXC
variable {d : Nat} {mi : gMi} {E : gE} {nL a b pc : Nat} {ls : List (Option Value)} {st : List Value} {M : gM}
theorem rx_ofrun {stk rest : List Value} {Post : Option Value → gM → Prop} {a' b' : Nat} {p : Program} {l : Launch} {e : Env} {R : Room} {s : State} {m : MethodId} {args : Array Value} {below : List Frame} {meth : Method} {c : Code} {Q : State → Prop} {g : gG} {H : Heap} {locs : List Loc} {arr : Array Slot} {cells slots : Nat} {av : Array Value}
    (hr : va_Run p l e R s m args below meth c H locs cells slots a' b' (F0 m pc arr stk) (rest.map (g_v g)) (g_Qc g a' Post av) (g_A g))
    (hS : va_S (g_A g) s.heap H locs) (hL : g_L g nL ls arr) (hc : H.size = s.heap.size + cells ∧ cells + (a + a') = R.cells) (hs : slots + (b + b') ≤ R.slots)
    (kk : ∀ (r : Option Value) (M' : gM), Post r M' → RX (p, l, e, R, s, m, args, below, meth, c, Q, g) nL a b (pc + 3) ls (r.toList ++ rest) M') : W p l e R s m args below meth c H locs cells slots Q (F0 m pc arr stk) := by
  intro T hT X
  obtain ⟨v, st₀, t, T', L, h0, X', hL', e1, e2, ⟨⟨r, M', ev, hp, hR', hz'⟩, hF⟩, step⟩ := hr T hT X
  have hv : v = r.map (g_v g) := by simpa using ev
  subst hv
  have hstk : (r.map (g_v g)).toList ++ rest.map (g_v g) = (r.toList ++ rest).map (g_v g) := by cases r <;> simp
  obtain ⟨hz, hk⟩ := hF
  rw [h0] at hz hk hz'
  have hS' : va_S (g_A g) s.heap t.heap (locs ++ L) := ⟨Nat.le_trans hS.1 hz, fun q q1 q2 => (hk q (Nat.lt_of_lt_of_le q1 hS.1) q2).trans (hS.2.1 q q1 q2), fun q hq => by
    rcases List.mem_append.mp hq with h | h
    · exact hS.2.2 q h
    · exact hL' q h⟩
  obtain ⟨t2, a1, b1⟩ := kk r M' hp t.heap (locs ++ L) arr (cells + a') (slots + b') hR' hS' hL ⟨by rw [hz', hc.1]; omega, by have := hc.2; omega⟩ (by omega) T' e1 X'
  refine ⟨t2, step t2 ?_, b1⟩
  rw [hstk]
  exact a1
theorem g_blind (g : gG) (av : List Value) (M : gM) : FrameBlind (g_Pc g av M) := fun _ _ _ _ h => ⟨h.1, h.2.1, h.2.2.same rfl⟩
def g_lkV (own : String) (idx ci : Nat) (mi : gMi) : Prop := ∃ (T : u_T) (N : Nat), vwCl[ci]? = some (mi.1.cls, T, N) ∧ Cond.methodLink own idx mi.1 ∈ g_tb ∧ Cond.instanceMethod mi.1 ∈ g_tb ∧ Cond.selects mi.1.cls mi.1 mi.1 ∈ g_tb ∧ g_cd mi
theorem rx_callV (hE : g_E d mi E) {d' a' b' idx ci x n : Nat} {mi' : gMi} {av : List Value} {fs : List Value} {Post : Option Value → gM → Prop} {stk : List Value} (hd : decode mi.2.1 pc = .ok (.invokevirtual idx, 3)) (hl : g_lkV mi.1.cls idx ci mi') (hX : SX d' a' b' mi' (.ref x :: av) M Post) (hat : g_at M x (.inr (ci, fs))) (hp : g_np mi' n) (hn : av.length = n) (hnl : nL = mi.2.2.1) (hdd : d' + 1 ≤ d) (hst : (st.map fun v => v.category).sum ≤ 8) (hstk : stk = av.reverse ++ .ref x :: st)
    (kk : ∀ (r : Option Value) (M' : gM), Post r M' → RX E nL a b (pc + 3) ls (r.toList ++ st) M') : RX E nL (a + a') (b + b') pc ls stk M := by
  obtain ⟨p, l, e, R, s, m, args, below, meth, c, Q, g⟩ := E
  intro H locs arr cells slots hR hS hL hc hs
  obtain ⟨T, N, h1, h2, h3, h4, h5⟩ := hl
  have hts := hE.2.2.2.2.1
  have hfr : d ≤ R.frames := hE.2.2.2.2.2.2.2.2.2.1
  have hlo : 40 * d ≤ R.locals := hE.2.2.2.2.2.2.2.2.2.2
  have hml : c.maxLocals = mi.2.2.1 := hE.2.2.1
  have hmx := h5.2.2.2
  have hK : g_K g s H := hE.2.2.2.2.2.1.kept hS.1 hS.2.1
  have hcb := callB_of (R := R) (own := mi.1.cls) (index := idx) (y := mi'.1) (bytes := mi'.2.1) (maxL := mi'.2.2.1) (ret := mi'.2.2.2) (rm := g_room d' a' b') n hts h5.good rfl rfl rfl (hts _ h5.2.1) (hts _ h2) ⟨h5.2.2.1.1, h5.2.2.1.2, hp⟩ ⟨by show d' + 1 ≤ R.frames; omega, by show 8 + (mi'.2.2.1 + 11) + 40 * d' ≤ R.locals; omega⟩
  refine rx_ofrun (nL := nL) (ls := ls) (a := a) (b := b) (rest := st) (va_runV (As := av.map (g_v g)) (rest := st.map (g_v g)) (b := g_ad g x) ⟨hE.1, hE.2.1, hml, hE.2.2.2.1, hts⟩ (hX l g) ⟨hcb, hts _ h3, hts _ h4⟩ ⟨g_blind g _ M, ?_, fun U hU hW => ⟨rfl, by rw [hU]; exact hR, by rw [hU]; exact hK.warm hW⟩⟩ rfl (by rw [List.length_map]; exact hn) (hL.1.trans hnl) (by rw [hstk]; simp [g_v]) (lv_room (by rw [g_stcat]; exact hst)) hd ⟨by have := hc.2; omega, by omega⟩) hS hL hc hs kk
  exact va_recv (cl := vwCl) (ws := g_ws g M) hK.1 hR.2.2 h1 (g_ws_at g hat)
def g_lkS (own : String) (idx : Nat) (mi : gMi) : Prop := Cond.methodLink own idx mi.1 ∈ g_tb ∧ Cond.static mi.1 ∈ g_tb ∧ g_cd mi
theorem rx_callS (hE : g_E d mi E) {d' a' b' idx n : Nat} {mi' : gMi} {av : List Value} {Post : Option Value → gM → Prop} {stk : List Value} (hd : decode mi.2.1 pc = .ok (.invokestatic idx, 3)) (hl : g_lkS mi.1.cls idx mi') (hX : SX d' a' b' mi' av M Post) (hp : g_np mi' n) (hn : av.length = n) (hnl : nL = mi.2.2.1) (hdd : d' + 1 ≤ d) (hst : (st.map fun v => v.category).sum ≤ 8) (hstk : stk = av.reverse ++ st)
    (kk : ∀ (r : Option Value) (M' : gM), Post r M' → RX E nL a b (pc + 3) ls (r.toList ++ st) M') : RX E nL (a + a') (b + b') pc ls stk M := by
  obtain ⟨p, l, e, R, s, m, args, below, meth, c, Q, g⟩ := E
  intro H locs arr cells slots hR hS hL hc hs
  obtain ⟨h2, h3, h5⟩ := hl
  have hts := hE.2.2.2.2.1
  have hfr : d ≤ R.frames := hE.2.2.2.2.2.2.2.2.2.1
  have hlo : 40 * d ≤ R.locals := hE.2.2.2.2.2.2.2.2.2.2
  have hml : c.maxLocals = mi.2.2.1 := hE.2.2.1
  have hmx := h5.2.2.2
  have hK : g_K g s H := hE.2.2.2.2.2.1.kept hS.1 hS.2.1
  have hcb := callB_of (R := R) (own := mi.1.cls) (index := idx) (y := mi'.1) (bytes := mi'.2.1) (maxL := mi'.2.2.1) (ret := mi'.2.2.2) (rm := g_room d' a' b') n hts h5.good rfl rfl rfl (hts _ h5.2.1) (hts _ h2) ⟨h5.2.2.1.1, h5.2.2.1.2, hp⟩ ⟨by show d' + 1 ≤ R.frames; omega, by show 8 + (mi'.2.2.1 + 11) + 40 * d' ≤ R.locals; omega⟩
  exact rx_ofrun (nL := nL) (ls := ls) (a := a) (b := b) (rest := st) (va_runS (As := av.map (g_v g)) (rest := st.map (g_v g)) ⟨hE.1, hE.2.1, hml, hE.2.2.2.1, hts⟩ (hX l g) ⟨hcb, hts _ h3⟩ ⟨g_blind g _ M, fun U hU hW => ⟨rfl, by rw [hU]; exact hR, by rw [hU]; exact hK.warm hW⟩⟩ rfl (by rw [List.length_map]; exact hn) (hL.1.trans hnl) (by rw [hstk]; simp) (lv_room (by rw [g_stcat]; exact hst)) hd ⟨by have := hc.2; omega, by omega⟩) hS hL hc hs kk
def g_lkI (own : String) (idx : Nat) (mi : gMi) : Prop := Cond.methodLink own idx mi.1 ∈ g_tb ∧ Cond.instanceMethod mi.1 ∈ g_tb ∧ mi.1.name = "<init>" ∧ mi.2.2.2 = none ∧ g_cd mi
theorem rx_callI (hE : g_E d mi E) {d' a' b' idx x n : Nat} {mi' : gMi} {av : List Value} {Post : Option Value → gM → Prop} {stk : List Value} (hd : decode mi.2.1 pc = .ok (.invokespecial idx, 3)) (hl : g_lkI mi.1.cls idx mi') (hX : SX d' a' b' mi' (.ref x :: av) M Post) (hp : g_np mi' n) (hn : av.length = n) (hnl : nL = mi.2.2.1) (hdd : d' + 1 ≤ d) (hst : (st.map fun v => v.category).sum ≤ 8) (hstk : stk = av.reverse ++ .ref x :: st)
    (kk : ∀ (r : Option Value) (M' : gM), Post r M' → RX E nL a b (pc + 3) ls (r.toList ++ st) M') : RX E nL (a + a') (b + b') pc ls stk M := by
  obtain ⟨p, l, e, R, s, m, args, below, meth, c, Q, g⟩ := E
  intro H locs arr cells slots hR hS hL hc hs
  obtain ⟨h2, h3, h4, h6, h5⟩ := hl
  have hts := hE.2.2.2.2.1
  have hfr : d ≤ R.frames := hE.2.2.2.2.2.2.2.2.2.1
  have hlo : 40 * d ≤ R.locals := hE.2.2.2.2.2.2.2.2.2.2
  have hml : c.maxLocals = mi.2.2.1 := hE.2.2.1
  have hmx := h5.2.2.2
  have hK : g_K g s H := hE.2.2.2.2.2.1.kept hS.1 hS.2.1
  have hcb := callB_of (R := R) (own := mi.1.cls) (index := idx) (y := mi'.1) (bytes := mi'.2.1) (maxL := mi'.2.2.1) (ret := none) (rm := g_room d' a' b') n hts h5.good (by rw [← h6]; rfl) rfl rfl (hts _ h5.2.1) (hts _ h2) ⟨h5.2.2.1.1, h5.2.2.1.2, hp⟩ ⟨by show d' + 1 ≤ R.frames; omega, by show 8 + (mi'.2.2.1 + 11) + 40 * d' ≤ R.locals; omega⟩
  exact rx_ofrun (nL := nL) (ls := ls) (a := a) (b := b) (rest := st) (va_runI (As := av.map (g_v g)) (rest := st.map (g_v g)) (b := g_ad g x) ⟨hE.1, hE.2.1, hml, hE.2.2.2.1, hts⟩ (hX l g) ⟨hcb, h4, hts _ h3⟩ ⟨g_blind g _ M, fun U hU hW => ⟨rfl, by rw [hU]; exact hR, by rw [hU]; exact hK.warm hW⟩⟩ rfl (by rw [List.length_map]; exact hn) (hL.1.trans hnl) (by rw [hstk]; simp [g_v]) (lv_room (by rw [g_stcat]; exact hst)) hd ⟨by have := hc.2; omega, by omega⟩) hS hL hc hs kk
def g_lkIN (own : String) (idx : Nat) (mi : gMi) : Prop := ∃ host : String, Cond.methodLinkNest own idx mi.1 host ∈ lw_tbl ∧ Cond.instanceMethod mi.1 ∈ g_tb ∧ mi.1.name = "<init>" ∧ mi.2.2.2 = none ∧ g_cd mi
theorem rx_callIN (hE : g_E d mi E) {d' a' b' idx x n : Nat} {mi' : gMi} {av : List Value} {Post : Option Value → gM → Prop} {stk : List Value} (hd : decode mi.2.1 pc = .ok (.invokespecial idx, 3)) (hl : g_lkIN mi.1.cls idx mi') (hX : SX d' a' b' mi' (.ref x :: av) M Post) (hp : g_np mi' n) (hn : av.length = n) (hnl : nL = mi.2.2.1) (hdd : d' + 1 ≤ d) (hst : (st.map fun v => v.category).sum ≤ 8) (hstk : stk = av.reverse ++ .ref x :: st)
    (kk : ∀ (r : Option Value) (M' : gM), Post r M' → RX E nL a b (pc + 3) ls (r.toList ++ st) M') : RX E nL (a + a') (b + b') pc ls stk M := by
  obtain ⟨p, l, e, R, s, m, args, below, meth, c, Q, g⟩ := E
  intro H locs arr cells slots hR hS hL hc hs
  obtain ⟨host, h2, h3, h4, h6, h5⟩ := hl
  have hts := hE.2.2.2.2.1
  have hfr : d ≤ R.frames := hE.2.2.2.2.2.2.2.2.2.1
  have hlo : 40 * d ≤ R.locals := hE.2.2.2.2.2.2.2.2.2.2
  have hml : c.maxLocals = mi.2.2.1 := hE.2.2.1
  have hmx := h5.2.2.2
  have hK : g_K g s H := hE.2.2.2.2.2.1.kept hS.1 hS.2.1
  have hcb := va_cnB (R := R) (own := mi.1.cls) (host := host) (index := idx) (y := mi'.1) (bytes := mi'.2.1) (maxL := mi'.2.2.1) (ret := none) (rm := g_room d' a' b') n hts h5.good (by rw [← h6]; rfl) rfl rfl (hE.2.2.2.2.2.1.2.2.2.2.2.2.2.2.2.1 _ _ _ _ h2) (hts _ h5.2.1) ⟨h5.2.2.1.1, h5.2.2.1.2, hp⟩ ⟨by show d' + 1 ≤ R.frames; omega, by show 8 + (mi'.2.2.1 + 11) + 40 * d' ≤ R.locals; omega⟩
  exact rx_ofrun (nL := nL) (ls := ls) (a := a) (b := b) (rest := st) (va_runIN (As := av.map (g_v g)) (rest := st.map (g_v g)) (b := g_ad g x) ⟨hE.1, hE.2.1, hml, hE.2.2.2.1, hts⟩ (hX l g) ⟨hcb, h4, hts _ h3⟩ ⟨g_blind g _ M, fun U hU hW => ⟨rfl, by rw [hU]; exact hR, by rw [hU]; exact hK.warm hW⟩⟩ rfl (by rw [List.length_map]; exact hn) (hL.1.trans hnl) (by rw [hstk]; simp [g_v]) (lv_room (by rw [g_stcat]; exact hst)) hd ⟨by have := hc.2; omega, by omega⟩) hS hL hc hs kk
def g_oi (own : String) (idx : Nat) : Prop := Cond.methodLink own idx Lib.objectInit ∈ g_tb ∧ Cond.instanceMethod Lib.objectInit ∈ g_tb ∧ Cond.code Lib.objectInit ⟨#[0xb1]⟩ 1 none ∈ g_tb
theorem rx_objInit (hE : g_E d mi E) {idx x : Nat} (hd : decode mi.2.1 pc = .ok (.invokespecial idx, 3)) (hl : g_oi mi.1.cls idx) (hnl : nL = mi.2.2.1) (hd1 : 1 ≤ d) (hst : (st.map fun v => v.category).sum ≤ 8) (kk : RX E nL a b (pc + 3) ls st M) : RX E nL a b pc ls (.ref x :: st) M := by
  obtain ⟨p, l, e, R, s, m, args, below, meth, c, Q, g⟩ := E
  intro H locs arr cells slots hR hS hL hc hs
  obtain ⟨h1, h2, h3⟩ := hl
  have hts := hE.2.2.2.2.1
  have hfr : d ≤ R.frames := hE.2.2.2.2.2.2.2.2.2.1
  have hlo : 40 * d ≤ R.locals := hE.2.2.2.2.2.2.2.2.2.2
  have hml : c.maxLocals = mi.2.2.1 := hE.2.2.1
  exact W.objInit hE.1 hE.2.1 hE.2.2.2.1 (hts _ h1) (hts _ h2) (hts _ h3) rfl (by rw [hml, ← hnl]; exact hL.1) rfl hd (by omega) (by
    have h9 := g_stcat g st
    show 2 * 0 + _ + 12 ≤ _
    rw [h9]
    omega) (kk H locs arr cells slots hR hS hL hc hs)
end RXC

