/-! ===== from a frame's end to a contract ===== -/
theorem g_sl_len (g : gG) : ∀ av : List Value, (lg_sl (av.map (g_v g))).length = (g_l0 av).length
  | [] => rfl
  | v :: t => by
    have ih := g_sl_len g t
    by_cases hc : v.category = 2
    · rw [show g_l0 (v :: t) = some v :: none :: g_l0 t from if_pos hc]
      show (lg_sl (g_v g v :: t.map (g_v g))).length = _
      unfold lg_sl at ih ⊢
      rw [List.flatMap_cons, List.length_append, ih, g_v_cat, if_pos hc]
      simp only [List.length_cons, List.length_nil]
      omega
    · rw [show g_l0 (v :: t) = some v :: g_l0 t from if_neg hc]
      show (lg_sl (g_v g v :: t.map (g_v g))).length = _
      unfold lg_sl at ih ⊢
      rw [List.flatMap_cons, List.length_append, ih, g_v_cat, if_neg hc]
      simp only [List.length_cons, List.length_nil]
      omega
theorem g_L.pad {g : gG} {nL r : Nat} {ls : List (Option Value)} {arr : Array Slot} (h : g_L g nL ls arr) : g_L g nL (ls ++ List.replicate r none) arr := by
  refine ⟨h.1, h.2.1, fun q hq => h.2.2 q ?_⟩
  obtain ⟨j, w⟩ := q
  obtain ⟨k, v, h1, h2, h3⟩ := (g_lv_mem g _ 0 j w).mp hq
  refine (g_lv_mem g ls 0 j w).mpr ⟨k, v, h1, ?_, h3⟩
  by_cases hk : k < ls.length
  · rw [List.getElem?_append_left hk] at h2
    exact h2
  · rw [List.getElem?_append_right (by omega), List.getElem?_replicate] at h2
    split at h2 <;> simp at h2
theorem SX.intro {d a b : Nat} {mi : gMi} {av : List Value} {M : gM} {Post : Option Value → gM → Prop} (ls : List (Option Value)) (hy : plainName mi.1.cls = true) (hn : (g_l0 av).length ≤ mi.2.2.1) (hls : g_l0 av ++ List.replicate (mi.2.2.1 - (g_l0 av).length) none = ls)
    (h : ∀ E : gE, g_E d mi E → g_Q a b Post E → RX E mi.2.2.1 a b 0 ls [] M) : SX d a b mi av M Post := by
  intro l g
  refine Met.ofW (cc := mi.2.1) (maxL := mi.2.2.1) (ret := mi.2.2.2) hy rfl ?_
  intro p e s m args below meth c s₁ B hml hv
  obtain ⟨rfl, hR, hK⟩ := hv
  have hts := atoms_spec (ws := g_wsm mi) B.pre
  have hE : g_E d mi (p, l, e, g_room d a b, s, m, (av.map (g_v g)).toArray, below, meth, c, MQ below (g_Qc g a Post) (av.map (g_v g)).toArray s a b (g_A g), g) := ⟨B.exec, B.bytes, hml, findClass_of_methodNamed B.named, fun w hw => hts w (List.mem_cons_of_mem _ hw), hK, B.notSynchronized, B.returns, (name_of_methodNamed B.named B.method).1, Nat.le_refl _, Nat.le_refl _⟩
  have h9 := h _ hE ⟨rfl, rfl, rfl⟩
  have hl := lv_entry (av.map (g_v g)) (n := mi.2.2.1) (by rw [g_sl_len]; exact hn)
  rw [lg_entry_eq]
  rw [← g_l0_args g av 0] at hl
  have hl2 : g_L g mi.2.2.1 (g_l0 av) _ := hl
  have hl3 := hl2.pad (r := mi.2.2.1 - (g_l0 av).length)
  rw [hls] at hl3
  exact h9 s.heap [] _ 0 0 hR va_S.rf hl3 ⟨rfl, Nat.zero_add a⟩ (Nat.le_of_eq (Nat.zero_add b))
theorem SX.weaken {d a b : Nat} {mi : gMi} {av : List Value} {M : gM} {Post Post' : Option Value → gM → Prop} (h : SX d a b mi av M Post) (hp : ∀ r M', Post r M' → Post' r M') : SX d a b mi av M Post' := by
  intro l g
  have h1 := h l g
  intro p e ha hc hk s m args below hf happ hP hT
  obtain ⟨t, o, q1, q2, q3, q4, q5⟩ := h1 p e ha hc hk s m args below hf happ hP hT
  obtain ⟨⟨r, M', e1, e2, e3, e5⟩, e4⟩ := q4
  exact ⟨t, o, q1, q2, q3, ⟨⟨r, M', e1, hp r M' e2, e3, e5⟩, e4⟩, q5⟩
theorem g_L.set1 {g : gG} {nL : Nat} {arr : Array Slot} {pre post : List (Option Value)} {x : Option Value} {v : Value} (hp : ∀ z, pre.getLast? = some z → g_c1 z = true) (h : lv_has arr nL ((pre.length, g_v g v) :: (g_lv g 0 (pre ++ x :: post)).filter (fun q => !(q.1 == pre.length) && !(q.1 + 1 == pre.length && q.2.category == 2)))) : g_L g nL (pre ++ some v :: post) arr := by
  refine ⟨h.1, h.2.1, fun q hq => h.2.2 q ?_⟩
  obtain ⟨j, w⟩ := q
  obtain ⟨k, u, h1, h2, h3⟩ := (g_lv_mem g _ 0 j w).mp hq
  have hjk : j = k := by omega
  subst hjk
  by_cases hk : j = pre.length
  · subst hk
    rw [List.getElem?_append_right (Nat.le_refl _), Nat.sub_self] at h2
    have : v = u := by simpa using h2
    subst this
    rw [h3]
    exact List.mem_cons_self
  · refine List.mem_cons_of_mem _ (List.mem_filter.mpr ⟨(g_lv_mem g _ 0 j w).mpr ⟨j, u, by omega, ?_, h3⟩, ?_⟩)
    · by_cases hl : j < pre.length
      · rw [List.getElem?_append_left hl] at h2 ⊢
        exact h2
      · rw [List.getElem?_append_right (by omega)] at h2 ⊢
        obtain ⟨i, hi⟩ : ∃ i, j - pre.length = i + 1 := ⟨j - pre.length - 1, by omega⟩
        rw [hi] at h2 ⊢
        exact h2
    · have e1 : (j == pre.length) = false := by simpa using hk
      by_cases hl : j + 1 = pre.length
      · have h4 : pre[j]? = some (some u) := by
          rw [List.getElem?_append_left (by omega)] at h2
          exact h2
        have h5 : pre.getLast? = some (some u) := by
          rw [List.getLast?_eq_getElem?, ← hl]
          exact h4
        have h6 := hp _ h5
        have h7 : u.category = 1 := by simpa [g_c1] using h6
        have h8 : w.category = 1 := by rw [h3, g_v_cat]; exact h7
        simp [e1, h8]
      · have e2 : (j + 1 == pre.length) = false := by simpa using hl
        simp [e1, e2]
theorem g_L.set2 {g : gG} {nL : Nat} {arr : Array Slot} {pre post : List (Option Value)} {x y : Option Value} {v : Value} (hp : ∀ z, pre.getLast? = some z → g_c1 z = true) (h : lv_has arr nL ((pre.length, g_v g v) :: (g_lv g 0 (pre ++ x :: y :: post)).filter (fun q => !(q.1 == pre.length) && (!(q.1 == pre.length + 1) && !(q.1 + 1 == pre.length && q.2.category == 2))))) : g_L g nL (pre ++ some v :: none :: post) arr := by
  refine ⟨h.1, h.2.1, fun q hq => h.2.2 q ?_⟩
  obtain ⟨j, w⟩ := q
  obtain ⟨k, u, h1, h2, h3⟩ := (g_lv_mem g _ 0 j w).mp hq
  have hjk : j = k := by omega
  subst hjk
  by_cases hk : j = pre.length
  · subst hk
    rw [List.getElem?_append_right (Nat.le_refl _), Nat.sub_self] at h2
    have : v = u := by simpa using h2
    subst this
    rw [h3]
    exact List.mem_cons_self
  · have hk1 : ¬ j = pre.length + 1 := by
      intro q
      rw [List.getElem?_append_right (by omega), q, show pre.length + 1 - pre.length = 1 by omega] at h2
      simp at h2
    refine List.mem_cons_of_mem _ (List.mem_filter.mpr ⟨(g_lv_mem g _ 0 j w).mpr ⟨j, u, by omega, ?_, h3⟩, ?_⟩)
    · by_cases hl : j < pre.length
      · rw [List.getElem?_append_left hl] at h2 ⊢
        exact h2
      · rw [List.getElem?_append_right (by omega)] at h2 ⊢
        obtain ⟨i, hi⟩ : ∃ i, j - pre.length = i + 1 + 1 := ⟨j - pre.length - 2, by omega⟩
        rw [hi] at h2 ⊢
        exact h2
    · have e1 : (j == pre.length) = false := by simpa using hk
      have e3 : (j == pre.length + 1) = false := by simpa using hk1
      by_cases hl : j + 1 = pre.length
      · have h4 : pre[j]? = some (some u) := by
          rw [List.getElem?_append_left (by omega)] at h2
          exact h2
        have h5 : pre.getLast? = some (some u) := by
          rw [List.getLast?_eq_getElem?, ← hl]
          exact h4
        have h6 := hp _ h5
        have h7 : u.category = 1 := by simpa [g_c1] using h6
        have h8 : w.category = 1 := by rw [h3, g_v_cat]; exact h7
        simp [e1, e3, h8]
      · have e2 : (j + 1 == pre.length) = false := by simpa using hl
        simp [e1, e2, e3]
section RXR
variable {d : Nat} {mi : gMi} {E : gE} {nL a b pc : Nat} {ls : List (Option Value)} {st : List Value} {M : gM}

theorem rx_iconst (hE : g_E d mi E) {n : Int} {v : Int32} (hd : decode mi.2.1 pc = .ok (.iconst n, 1)) (hv : Int32.ofInt n = v) (k : RX E nL a b (pc + 1) ls (.int v :: st) M) : RX E nL a b pc ls (st) M := by
  obtain ⟨p, l, e, R, s, m, args, below, meth, c, Q, g⟩ := E
  intro H locs arr cells slots hR hS hL hc hs
  exact lv_iconst hE.1 hE.2.1 hd hv (k H locs arr cells slots hR hS hL hc hs)
theorem rx_bipush (hE : g_E d mi E) {n : Int} {v : Int32} (hd : decode mi.2.1 pc = .ok (.bipush n, 2)) (hv : (Int8.ofInt n).toInt32 = v) (k : RX E nL a b (pc + 2) ls (.int v :: st) M) : RX E nL a b pc ls (st) M := by
  obtain ⟨p, l, e, R, s, m, args, below, meth, c, Q, g⟩ := E
  intro H locs arr cells slots hR hS hL hc hs
  exact lv_bipush hE.1 hE.2.1 hd hv (k H locs arr cells slots hR hS hL hc hs)
theorem rx_sipush (hE : g_E d mi E) {n : Int} {v : Int32} (hd : decode mi.2.1 pc = .ok (.sipush n, 3)) (hv : (Int16.ofInt n).toInt32 = v) (k : RX E nL a b (pc + 3) ls (.int v :: st) M) : RX E nL a b pc ls (st) M := by
  obtain ⟨p, l, e, R, s, m, args, below, meth, c, Q, g⟩ := E
  intro H locs arr cells slots hR hS hL hc hs
  exact lv_sipush hE.1 hE.2.1 hd hv (k H locs arr cells slots hR hS hL hc hs)
theorem rx_lconst (hE : g_E d mi E) {n : Fin 2} {v : Int64} (hd : decode mi.2.1 pc = .ok (.lconst n, 1)) (hv : Int64.ofNat (n : Nat) = v) (k : RX E nL a b (pc + 1) ls (.long v :: st) M) : RX E nL a b pc ls (st) M := by
  obtain ⟨p, l, e, R, s, m, args, below, meth, c, Q, g⟩ := E
  intro H locs arr cells slots hR hS hL hc hs
  exact lv_lconst hE.1 hE.2.1 hd hv (k H locs arr cells slots hR hS hL hc hs)
theorem rx_null (hE : g_E d mi E) (hd : decode mi.2.1 pc = .ok (.aconst_null, 1)) (k : RX E nL a b (pc + 1) ls (.null :: st) M) : RX E nL a b pc ls (st) M := by
  obtain ⟨p, l, e, R, s, m, args, below, meth, c, Q, g⟩ := E
  intro H locs arr cells slots hR hS hL hc hs
  exact lv_null hE.1 hE.2.1 hd (k H locs arr cells slots hR hS hL hc hs)
theorem rx_iload_n (hE : g_E d mi E) {kk : Fin 4} {i : Nat} {x : Int32} (hd : decode mi.2.1 pc = .ok (.iload_n kk, 1)) (hi : (kk : Nat) = i) (hl : ls[i]? = some (some (.int x))) (k : RX E nL a b (pc + 1) ls (.int x :: st) M) : RX E nL a b pc ls (st) M := by
  obtain ⟨p, l, e, R, s, m, args, below, meth, c, Q, g⟩ := E
  intro H locs arr cells slots hR hS hL hc hs
  exact lv_iload_n hE.1 hE.2.1 hd hi (hL.get hl) (k H locs arr cells slots hR hS hL hc hs)
theorem rx_iload (hE : g_E d mi E) {i : Nat} {x : Int32} (hd : decode mi.2.1 pc = .ok (.iload i, 2)) (hl : ls[i]? = some (some (.int x))) (k : RX E nL a b (pc + 2) ls (.int x :: st) M) : RX E nL a b pc ls (st) M := by
  obtain ⟨p, l, e, R, s, m, args, below, meth, c, Q, g⟩ := E
  intro H locs arr cells slots hR hS hL hc hs
  exact lv_iload hE.1 hE.2.1 hd (hL.get hl) (k H locs arr cells slots hR hS hL hc hs)
theorem rx_lload_n (hE : g_E d mi E) {kk : Fin 4} {i : Nat} {x : Int64} (hd : decode mi.2.1 pc = .ok (.lload_n kk, 1)) (hi : (kk : Nat) = i) (hl : ls[i]? = some (some (.long x))) (k : RX E nL a b (pc + 1) ls (.long x :: st) M) : RX E nL a b pc ls (st) M := by
  obtain ⟨p, l, e, R, s, m, args, below, meth, c, Q, g⟩ := E
  intro H locs arr cells slots hR hS hL hc hs
  exact lv_lload_n hE.1 hE.2.1 hd hi (hL.get hl) (k H locs arr cells slots hR hS hL hc hs)
theorem rx_lload (hE : g_E d mi E) {i : Nat} {x : Int64} (hd : decode mi.2.1 pc = .ok (.lload i, 2)) (hl : ls[i]? = some (some (.long x))) (k : RX E nL a b (pc + 2) ls (.long x :: st) M) : RX E nL a b pc ls (st) M := by
  obtain ⟨p, l, e, R, s, m, args, below, meth, c, Q, g⟩ := E
  intro H locs arr cells slots hR hS hL hc hs
  exact lv_lload hE.1 hE.2.1 hd (hL.get hl) (k H locs arr cells slots hR hS hL hc hs)
theorem rx_aload_n (hE : g_E d mi E) {kk : Fin 4} {i : Nat} {x : Nat} (hd : decode mi.2.1 pc = .ok (.aload_n kk, 1)) (hi : (kk : Nat) = i) (hl : ls[i]? = some (some (.ref x))) (k : RX E nL a b (pc + 1) ls (.ref x :: st) M) : RX E nL a b pc ls (st) M := by
  obtain ⟨p, l, e, R, s, m, args, below, meth, c, Q, g⟩ := E
  intro H locs arr cells slots hR hS hL hc hs
  exact lv_aload_n hE.1 hE.2.1 hd hi (hL.get hl) (k H locs arr cells slots hR hS hL hc hs)
theorem rx_aload (hE : g_E d mi E) {i : Nat} {x : Nat} (hd : decode mi.2.1 pc = .ok (.aload i, 2)) (hl : ls[i]? = some (some (.ref x))) (k : RX E nL a b (pc + 2) ls (.ref x :: st) M) : RX E nL a b pc ls (st) M := by
  obtain ⟨p, l, e, R, s, m, args, below, meth, c, Q, g⟩ := E
  intro H locs arr cells slots hR hS hL hc hs
  exact lv_aload hE.1 hE.2.1 hd (hL.get hl) (k H locs arr cells slots hR hS hL hc hs)
theorem rx_aload_nN (hE : g_E d mi E) {kk : Fin 4} {i : Nat} (hd : decode mi.2.1 pc = .ok (.aload_n kk, 1)) (hi : (kk : Nat) = i) (hl : ls[i]? = some (some .null)) (k : RX E nL a b (pc + 1) ls (.null :: st) M) : RX E nL a b pc ls (st) M := by
  obtain ⟨p, l, e, R, s, m, args, below, meth, c, Q, g⟩ := E
  intro H locs arr cells slots hR hS hL hc hs
  exact lv_aload_nN hE.1 hE.2.1 hd hi (hL.get hl) (k H locs arr cells slots hR hS hL hc hs)
theorem rx_aloadN (hE : g_E d mi E) {i : Nat} (hd : decode mi.2.1 pc = .ok (.aload i, 2)) (hl : ls[i]? = some (some .null)) (k : RX E nL a b (pc + 2) ls (.null :: st) M) : RX E nL a b pc ls (st) M := by
  obtain ⟨p, l, e, R, s, m, args, below, meth, c, Q, g⟩ := E
  intro H locs arr cells slots hR hS hL hc hs
  exact lv_aloadN hE.1 hE.2.1 hd (hL.get hl) (k H locs arr cells slots hR hS hL hc hs)
theorem rx_iadd (hE : g_E d mi E) {x y : Int32} (hd : decode mi.2.1 pc = .ok (.iadd, 1)) (k : RX E nL a b (pc + 1) ls (.int (x + y) :: st) M) : RX E nL a b pc ls (.int y :: .int x :: st) M := by
  obtain ⟨p, l, e, R, s, m, args, below, meth, c, Q, g⟩ := E
  intro H locs arr cells slots hR hS hL hc hs
  exact lv_iadd hE.1 hE.2.1 hd (k H locs arr cells slots hR hS hL hc hs)
theorem rx_isub (hE : g_E d mi E) {x y : Int32} (hd : decode mi.2.1 pc = .ok (.isub, 1)) (k : RX E nL a b (pc + 1) ls (.int (x - y) :: st) M) : RX E nL a b pc ls (.int y :: .int x :: st) M := by
  obtain ⟨p, l, e, R, s, m, args, below, meth, c, Q, g⟩ := E
  intro H locs arr cells slots hR hS hL hc hs
  exact lv_isub hE.1 hE.2.1 hd (k H locs arr cells slots hR hS hL hc hs)
theorem rx_imul (hE : g_E d mi E) {x y : Int32} (hd : decode mi.2.1 pc = .ok (.imul, 1)) (k : RX E nL a b (pc + 1) ls (.int (x * y) :: st) M) : RX E nL a b pc ls (.int y :: .int x :: st) M := by
  obtain ⟨p, l, e, R, s, m, args, below, meth, c, Q, g⟩ := E
  intro H locs arr cells slots hR hS hL hc hs
  exact lv_imul hE.1 hE.2.1 hd (k H locs arr cells slots hR hS hL hc hs)
theorem rx_iand (hE : g_E d mi E) {x y : Int32} (hd : decode mi.2.1 pc = .ok (.iand, 1)) (k : RX E nL a b (pc + 1) ls (.int (x &&& y) :: st) M) : RX E nL a b pc ls (.int y :: .int x :: st) M := by
  obtain ⟨p, l, e, R, s, m, args, below, meth, c, Q, g⟩ := E
  intro H locs arr cells slots hR hS hL hc hs
  exact lv_iand hE.1 hE.2.1 hd (k H locs arr cells slots hR hS hL hc hs)
theorem rx_ior (hE : g_E d mi E) {x y : Int32} (hd : decode mi.2.1 pc = .ok (.ior, 1)) (k : RX E nL a b (pc + 1) ls (.int (x ||| y) :: st) M) : RX E nL a b pc ls (.int y :: .int x :: st) M := by
  obtain ⟨p, l, e, R, s, m, args, below, meth, c, Q, g⟩ := E
  intro H locs arr cells slots hR hS hL hc hs
  exact lv_ior hE.1 hE.2.1 hd (k H locs arr cells slots hR hS hL hc hs)
theorem rx_ixor (hE : g_E d mi E) {x y : Int32} (hd : decode mi.2.1 pc = .ok (.ixor, 1)) (k : RX E nL a b (pc + 1) ls (.int (x ^^^ y) :: st) M) : RX E nL a b pc ls (.int y :: .int x :: st) M := by
  obtain ⟨p, l, e, R, s, m, args, below, meth, c, Q, g⟩ := E
  intro H locs arr cells slots hR hS hL hc hs
  exact lv_ixor hE.1 hE.2.1 hd (k H locs arr cells slots hR hS hL hc hs)
theorem rx_ishl (hE : g_E d mi E) {x y : Int32} (hd : decode mi.2.1 pc = .ok (.ishl, 1)) (k : RX E nL a b (pc + 1) ls (.int (x <<< (y &&& 31)) :: st) M) : RX E nL a b pc ls (.int y :: .int x :: st) M := by
  obtain ⟨p, l, e, R, s, m, args, below, meth, c, Q, g⟩ := E
  intro H locs arr cells slots hR hS hL hc hs
  exact lv_ishl hE.1 hE.2.1 hd (k H locs arr cells slots hR hS hL hc hs)
theorem rx_ishr (hE : g_E d mi E) {x y : Int32} (hd : decode mi.2.1 pc = .ok (.ishr, 1)) (k : RX E nL a b (pc + 1) ls (.int (x >>> (y &&& 31)) :: st) M) : RX E nL a b pc ls (.int y :: .int x :: st) M := by
  obtain ⟨p, l, e, R, s, m, args, below, meth, c, Q, g⟩ := E
  intro H locs arr cells slots hR hS hL hc hs
  exact lv_ishr hE.1 hE.2.1 hd (k H locs arr cells slots hR hS hL hc hs)
theorem rx_idiv (hE : g_E d mi E) {x y : Int32} (hd : decode mi.2.1 pc = .ok (.idiv, 1)) (hne : ¬ y = 0) (k : RX E nL a b (pc + 1) ls (.int (x / y) :: st) M) : RX E nL a b pc ls (.int y :: .int x :: st) M := by
  obtain ⟨p, l, e, R, s, m, args, below, meth, c, Q, g⟩ := E
  intro H locs arr cells slots hR hS hL hc hs
  exact lv_idiv hE.1 hE.2.1 hd hne (k H locs arr cells slots hR hS hL hc hs)
theorem rx_irem (hE : g_E d mi E) {x y : Int32} (hd : decode mi.2.1 pc = .ok (.irem, 1)) (hne : ¬ y = 0) (k : RX E nL a b (pc + 1) ls (.int (x - x / y * y) :: st) M) : RX E nL a b pc ls (.int y :: .int x :: st) M := by
  obtain ⟨p, l, e, R, s, m, args, below, meth, c, Q, g⟩ := E
  intro H locs arr cells slots hR hS hL hc hs
  exact lv_irem hE.1 hE.2.1 hd hne (k H locs arr cells slots hR hS hL hc hs)
theorem rx_ineg (hE : g_E d mi E) {x : Int32} (hd : decode mi.2.1 pc = .ok (.ineg, 1)) (k : RX E nL a b (pc + 1) ls (.int (-x) :: st) M) : RX E nL a b pc ls (.int x :: st) M := by
  obtain ⟨p, l, e, R, s, m, args, below, meth, c, Q, g⟩ := E
  intro H locs arr cells slots hR hS hL hc hs
  exact lv_ineg hE.1 hE.2.1 hd (k H locs arr cells slots hR hS hL hc hs)
theorem rx_iushr (hE : g_E d mi E) {x y v : Int32} (hd : decode mi.2.1 pc = .ok (.iushr, 1)) (hv : (x.toUInt32 >>> (y.toUInt32 &&& Int32.toUInt32 31)).toInt32 = v) (k : RX E nL a b (pc + 1) ls (.int v :: st) M) : RX E nL a b pc ls (.int y :: .int x :: st) M := by
  obtain ⟨p, l, e, R, s, m, args, below, meth, c, Q, g⟩ := E
  intro H locs arr cells slots hR hS hL hc hs
  exact lv_iushr hE.1 hE.2.1 hd hv (k H locs arr cells slots hR hS hL hc hs)
theorem rx_ladd (hE : g_E d mi E) {x y : Int64} (hd : decode mi.2.1 pc = .ok (.ladd, 1)) (k : RX E nL a b (pc + 1) ls (.long (x + y) :: st) M) : RX E nL a b pc ls (.long y :: .long x :: st) M := by
  obtain ⟨p, l, e, R, s, m, args, below, meth, c, Q, g⟩ := E
  intro H locs arr cells slots hR hS hL hc hs
  exact lv_ladd hE.1 hE.2.1 hd (k H locs arr cells slots hR hS hL hc hs)
theorem rx_lsub (hE : g_E d mi E) {x y : Int64} (hd : decode mi.2.1 pc = .ok (.lsub, 1)) (k : RX E nL a b (pc + 1) ls (.long (x - y) :: st) M) : RX E nL a b pc ls (.long y :: .long x :: st) M := by
  obtain ⟨p, l, e, R, s, m, args, below, meth, c, Q, g⟩ := E
  intro H locs arr cells slots hR hS hL hc hs
  exact lv_lsub hE.1 hE.2.1 hd (k H locs arr cells slots hR hS hL hc hs)
theorem rx_lmul (hE : g_E d mi E) {x y : Int64} (hd : decode mi.2.1 pc = .ok (.lmul, 1)) (k : RX E nL a b (pc + 1) ls (.long (x * y) :: st) M) : RX E nL a b pc ls (.long y :: .long x :: st) M := by
  obtain ⟨p, l, e, R, s, m, args, below, meth, c, Q, g⟩ := E
  intro H locs arr cells slots hR hS hL hc hs
  exact lv_lmul hE.1 hE.2.1 hd (k H locs arr cells slots hR hS hL hc hs)
theorem rx_land (hE : g_E d mi E) {x y : Int64} (hd : decode mi.2.1 pc = .ok (.land, 1)) (k : RX E nL a b (pc + 1) ls (.long (x &&& y) :: st) M) : RX E nL a b pc ls (.long y :: .long x :: st) M := by
  obtain ⟨p, l, e, R, s, m, args, below, meth, c, Q, g⟩ := E
  intro H locs arr cells slots hR hS hL hc hs
  exact lv_land hE.1 hE.2.1 hd (k H locs arr cells slots hR hS hL hc hs)
theorem rx_lor (hE : g_E d mi E) {x y : Int64} (hd : decode mi.2.1 pc = .ok (.lor, 1)) (k : RX E nL a b (pc + 1) ls (.long (x ||| y) :: st) M) : RX E nL a b pc ls (.long y :: .long x :: st) M := by
  obtain ⟨p, l, e, R, s, m, args, below, meth, c, Q, g⟩ := E
  intro H locs arr cells slots hR hS hL hc hs
  exact lv_lor hE.1 hE.2.1 hd (k H locs arr cells slots hR hS hL hc hs)
theorem rx_lxor (hE : g_E d mi E) {x y : Int64} (hd : decode mi.2.1 pc = .ok (.lxor, 1)) (k : RX E nL a b (pc + 1) ls (.long (x ^^^ y) :: st) M) : RX E nL a b pc ls (.long y :: .long x :: st) M := by
  obtain ⟨p, l, e, R, s, m, args, below, meth, c, Q, g⟩ := E
  intro H locs arr cells slots hR hS hL hc hs
  exact lv_lxor hE.1 hE.2.1 hd (k H locs arr cells slots hR hS hL hc hs)
theorem rx_ldiv (hE : g_E d mi E) {x y : Int64} (hd : decode mi.2.1 pc = .ok (.ldiv, 1)) (hne : ¬ y = 0) (k : RX E nL a b (pc + 1) ls (.long (x / y) :: st) M) : RX E nL a b pc ls (.long y :: .long x :: st) M := by
  obtain ⟨p, l, e, R, s, m, args, below, meth, c, Q, g⟩ := E
  intro H locs arr cells slots hR hS hL hc hs
  exact lv_ldiv hE.1 hE.2.1 hd hne (k H locs arr cells slots hR hS hL hc hs)
theorem rx_lrem (hE : g_E d mi E) {x y : Int64} (hd : decode mi.2.1 pc = .ok (.lrem, 1)) (hne : ¬ y = 0) (k : RX E nL a b (pc + 1) ls (.long (x - x / y * y) :: st) M) : RX E nL a b pc ls (.long y :: .long x :: st) M := by
  obtain ⟨p, l, e, R, s, m, args, below, meth, c, Q, g⟩ := E
  intro H locs arr cells slots hR hS hL hc hs
  exact lv_lrem hE.1 hE.2.1 hd hne (k H locs arr cells slots hR hS hL hc hs)
theorem rx_lshl (hE : g_E d mi E) {x : Int64} {y : Int32} (hd : decode mi.2.1 pc = .ok (.lshl, 1)) (k : RX E nL a b (pc + 1) ls (.long (x <<< (y.toInt64 &&& 63)) :: st) M) : RX E nL a b pc ls (.int y :: .long x :: st) M := by
  obtain ⟨p, l, e, R, s, m, args, below, meth, c, Q, g⟩ := E
  intro H locs arr cells slots hR hS hL hc hs
  exact lv_lshl hE.1 hE.2.1 hd rfl (k H locs arr cells slots hR hS hL hc hs)
theorem rx_lcmp (hE : g_E d mi E) {x y : Int64} (hd : decode mi.2.1 pc = .ok (.lcmp, 1)) (k : RX E nL a b (pc + 1) ls (.int (lg_cmp x y) :: st) M) : RX E nL a b pc ls (.long y :: .long x :: st) M := by
  obtain ⟨p, l, e, R, s, m, args, below, meth, c, Q, g⟩ := E
  intro H locs arr cells slots hR hS hL hc hs
  exact W.lcmp hE.1 hE.2.1 hd (k H locs arr cells slots hR hS hL hc hs)
theorem rx_i2l (hE : g_E d mi E) {x : Int32} (hd : decode mi.2.1 pc = .ok (.i2l, 1)) (k : RX E nL a b (pc + 1) ls (.long x.toInt64 :: st) M) : RX E nL a b pc ls (.int x :: st) M := by
  obtain ⟨p, l, e, R, s, m, args, below, meth, c, Q, g⟩ := E
  intro H locs arr cells slots hR hS hL hc hs
  exact lv_i2l hE.1 hE.2.1 hd rfl (k H locs arr cells slots hR hS hL hc hs)
theorem rx_l2i (hE : g_E d mi E) {x : Int64} (hd : decode mi.2.1 pc = .ok (.l2i, 1)) (k : RX E nL a b (pc + 1) ls (.int x.toInt32 :: st) M) : RX E nL a b pc ls (.long x :: st) M := by
  obtain ⟨p, l, e, R, s, m, args, below, meth, c, Q, g⟩ := E
  intro H locs arr cells slots hR hS hL hc hs
  exact lv_l2i hE.1 hE.2.1 hd rfl (k H locs arr cells slots hR hS hL hc hs)
theorem rx_i2b (hE : g_E d mi E) {x : Int32} (hd : decode mi.2.1 pc = .ok (.i2b, 1)) (k : RX E nL a b (pc + 1) ls (.int x.toInt8.toInt32 :: st) M) : RX E nL a b pc ls (.int x :: st) M := by
  obtain ⟨p, l, e, R, s, m, args, below, meth, c, Q, g⟩ := E
  intro H locs arr cells slots hR hS hL hc hs
  exact lv_i2b hE.1 hE.2.1 hd rfl (k H locs arr cells slots hR hS hL hc hs)
theorem rx_i2c (hE : g_E d mi E) {x : Int32} (hd : decode mi.2.1 pc = .ok (.i2c, 1)) (k : RX E nL a b (pc + 1) ls (.int (x.toUInt32 % 65536).toInt32 :: st) M) : RX E nL a b pc ls (.int x :: st) M := by
  obtain ⟨p, l, e, R, s, m, args, below, meth, c, Q, g⟩ := E
  intro H locs arr cells slots hR hS hL hc hs
  exact lv_i2c hE.1 hE.2.1 hd rfl (k H locs arr cells slots hR hS hL hc hs)
theorem rx_dup (hE : g_E d mi E) {va : Value} (hd : decode mi.2.1 pc = .ok (.dup, 1)) (h1 : va.category = 1) (k : RX E nL a b (pc + 1) ls (va :: va :: st) M) : RX E nL a b pc ls (va :: st) M := by
  obtain ⟨p, l, e, R, s, m, args, below, meth, c, Q, g⟩ := E
  intro H locs arr cells slots hR hS hL hc hs
  exact lv_dup hE.1 hE.2.1 hd (by rw [g_v_cat]; exact h1) (k H locs arr cells slots hR hS hL hc hs)
theorem rx_pop (hE : g_E d mi E) {va : Value} (hd : decode mi.2.1 pc = .ok (.pop, 1)) (h1 : va.category = 1) (k : RX E nL a b (pc + 1) ls (st) M) : RX E nL a b pc ls (va :: st) M := by
  obtain ⟨p, l, e, R, s, m, args, below, meth, c, Q, g⟩ := E
  intro H locs arr cells slots hR hS hL hc hs
  exact lv_pop hE.1 hE.2.1 hd (by rw [g_v_cat]; exact h1) (k H locs arr cells slots hR hS hL hc hs)
theorem rx_dup_x1 (hE : g_E d mi E) {va vb : Value} (hd : decode mi.2.1 pc = .ok (.dup_x1, 1)) (h1 : va.category = 1) (h2 : vb.category = 1) (k : RX E nL a b (pc + 1) ls (va :: vb :: va :: st) M) : RX E nL a b pc ls (va :: vb :: st) M := by
  obtain ⟨p, l, e, R, s, m, args, below, meth, c, Q, g⟩ := E
  intro H locs arr cells slots hR hS hL hc hs
  exact lv_dup_x1 hE.1 hE.2.1 hd (by rw [g_v_cat]; exact h1) (by rw [g_v_cat]; exact h2) (k H locs arr cells slots hR hS hL hc hs)
theorem rx_dup_x2 (hE : g_E d mi E) {va vb vd : Value} (hd : decode mi.2.1 pc = .ok (.dup_x2, 1)) (h1 : va.category = 1) (h2 : vb.category = 1) (h3 : vd.category = 1) (k : RX E nL a b (pc + 1) ls (va :: vb :: vd :: va :: st) M) : RX E nL a b pc ls (va :: vb :: vd :: st) M := by
  obtain ⟨p, l, e, R, s, m, args, below, meth, c, Q, g⟩ := E
  intro H locs arr cells slots hR hS hL hc hs
  exact lv_dup_x2 hE.1 hE.2.1 hd (by rw [g_v_cat]; exact h1) (by rw [g_v_cat]; exact h2) (by rw [g_v_cat]; exact h3) (k H locs arr cells slots hR hS hL hc hs)
theorem rx_dup2 (hE : g_E d mi E) {va vb : Value} (hd : decode mi.2.1 pc = .ok (.dup2, 1)) (h1 : va.category = 1) (h2 : vb.category = 1) (k : RX E nL a b (pc + 1) ls (va :: vb :: va :: vb :: st) M) : RX E nL a b pc ls (va :: vb :: st) M := by
  obtain ⟨p, l, e, R, s, m, args, below, meth, c, Q, g⟩ := E
  intro H locs arr cells slots hR hS hL hc hs
  exact lv_dup2_11 hE.1 hE.2.1 hd (by rw [g_v_cat]; exact h1) (by rw [g_v_cat]; exact h2) (k H locs arr cells slots hR hS hL hc hs)
theorem rx_store1 {pre post : List (Option Value)} {x : Option Value} {v : Value} {pc' : Nat} (hp : ∀ z, pre.getLast? = some z → g_c1 z = true)
    (hrow : ∀ (p : Program) (l : Launch) (e : Env) (R : Room) (s : State) (m : MethodId) (args : Array Value) (below : List Frame) (meth : Method) (c : Code) (Q : State → Prop) (g : gG) (H : Heap) (locs : List Loc) (arr : Array Slot) (cells slots : Nat) (rest : List Value), g_E d mi (p, l, e, R, s, m, args, below, meth, c, Q, g) → lv_has arr nL (g_lv g 0 (pre ++ x :: post)) → (∀ ls' : Array Slot, lv_has ls' nL ((pre.length, g_v g v) :: (g_lv g 0 (pre ++ x :: post)).filter (fun q => !(q.1 == pre.length) && !(q.1 + 1 == pre.length && q.2.category == 2))) → W p l e R s m args below meth c H locs cells slots Q (F0 m pc' ls' rest)) → W p l e R s m args below meth c H locs cells slots Q (F0 m pc arr (g_v g v :: rest)))
    (hE : g_E d mi E) (k : RX E nL a b pc' (pre ++ some v :: post) st M) : RX E nL a b pc (pre ++ x :: post) (v :: st) M := by
  obtain ⟨p, l, e, R, s, m, args, below, meth, c, Q, g⟩ := E
  intro H locs arr cells slots hR hS hL hc hs
  exact hrow p l e R s m args below meth c Q g H locs arr cells slots _ hE hL (fun ls' hl' => k H locs ls' cells slots hR hS (g_L.set1 hp hl') hc hs)
theorem rx_store2 {pre post : List (Option Value)} {x y : Option Value} {v : Value} {pc' : Nat} (hp : ∀ z, pre.getLast? = some z → g_c1 z = true)
    (hrow : ∀ (p : Program) (l : Launch) (e : Env) (R : Room) (s : State) (m : MethodId) (args : Array Value) (below : List Frame) (meth : Method) (c : Code) (Q : State → Prop) (g : gG) (H : Heap) (locs : List Loc) (arr : Array Slot) (cells slots : Nat) (rest : List Value), g_E d mi (p, l, e, R, s, m, args, below, meth, c, Q, g) → lv_has arr nL (g_lv g 0 (pre ++ x :: y :: post)) → (∀ ls' : Array Slot, lv_has ls' nL ((pre.length, g_v g v) :: (g_lv g 0 (pre ++ x :: y :: post)).filter (fun q => !(q.1 == pre.length) && (!(q.1 == pre.length + 1) && !(q.1 + 1 == pre.length && q.2.category == 2)))) → W p l e R s m args below meth c H locs cells slots Q (F0 m pc' ls' rest)) → W p l e R s m args below meth c H locs cells slots Q (F0 m pc arr (g_v g v :: rest)))
    (hE : g_E d mi E) (k : RX E nL a b pc' (pre ++ some v :: none :: post) st M) : RX E nL a b pc (pre ++ x :: y :: post) (v :: st) M := by
  obtain ⟨p, l, e, R, s, m, args, below, meth, c, Q, g⟩ := E
  intro H locs arr cells slots hR hS hL hc hs
  exact hrow p l e R s m args below meth c Q g H locs arr cells slots _ hE hL (fun ls' hl' => k H locs ls' cells slots hR hS (g_L.set2 hp hl') hc hs)

theorem rx_istore_0 (hE : g_E d mi E) {x : Option Value} {t : List (Option Value)} {v : Int32} (hd : decode mi.2.1 pc = .ok (.istore 0, 2)) (hn : 0 < nL) (k : RX E nL a b (pc + 2) (some (.int v) :: t) st M) : RX E nL a b pc (x :: t) ((.int v) :: st) M :=
  rx_store1 (pre := []) (pc' := pc + 2) (fun z hz => by cases hz) (fun _ _ _ _ _ _ _ _ _ _ _ _ _ _ _ _ _ _ hE' hl kk => lv_istore hE'.1 hE'.2.1 hd hl hn rfl kk) hE k
theorem rx_istore_n_0 (hE : g_E d mi E) {x : Option Value} {t : List (Option Value)} {v : Int32} (hd : decode mi.2.1 pc = .ok (.istore_n 0, 1)) (hn : 0 < nL) (k : RX E nL a b (pc + 1) (some (.int v) :: t) st M) : RX E nL a b pc (x :: t) ((.int v) :: st) M :=
  rx_store1 (pre := []) (pc' := pc + 1) (fun z hz => by cases hz) (fun _ _ _ _ _ _ _ _ _ _ _ _ _ _ _ _ _ _ hE' hl kk => lv_istore_n hE'.1 hE'.2.1 hd rfl hl hn rfl kk) hE k
theorem rx_astore_0 (hE : g_E d mi E) {x : Option Value} {t : List (Option Value)} {v : Nat} (hd : decode mi.2.1 pc = .ok (.astore 0, 2)) (hn : 0 < nL) (k : RX E nL a b (pc + 2) (some (.ref v) :: t) st M) : RX E nL a b pc (x :: t) ((.ref v) :: st) M :=
  rx_store1 (pre := []) (pc' := pc + 2) (fun z hz => by cases hz) (fun _ _ _ _ _ _ _ _ _ _ _ _ _ _ _ _ _ _ hE' hl kk => lv_astore hE'.1 hE'.2.1 hd hl hn rfl kk) hE k
theorem rx_astore_n_0 (hE : g_E d mi E) {x : Option Value} {t : List (Option Value)} {v : Nat} (hd : decode mi.2.1 pc = .ok (.astore_n 0, 1)) (hn : 0 < nL) (k : RX E nL a b (pc + 1) (some (.ref v) :: t) st M) : RX E nL a b pc (x :: t) ((.ref v) :: st) M :=
  rx_store1 (pre := []) (pc' := pc + 1) (fun z hz => by cases hz) (fun _ _ _ _ _ _ _ _ _ _ _ _ _ _ _ _ _ _ hE' hl kk => lv_astore_n hE'.1 hE'.2.1 hd rfl hl hn rfl kk) hE k
theorem rx_astoreN_0 (hE : g_E d mi E) {x : Option Value} {t : List (Option Value)} (hd : decode mi.2.1 pc = .ok (.astore 0, 2)) (hn : 0 < nL) (k : RX E nL a b (pc + 2) (some .null :: t) st M) : RX E nL a b pc (x :: t) (.null :: st) M :=
  rx_store1 (pre := []) (pc' := pc + 2) (fun z hz => by cases hz) (fun _ _ _ _ _ _ _ _ _ _ _ _ _ _ _ _ _ _ hE' hl kk => lv_astoreN hE'.1 hE'.2.1 hd hl hn rfl kk) hE k
theorem rx_astore_nN_0 (hE : g_E d mi E) {x : Option Value} {t : List (Option Value)} (hd : decode mi.2.1 pc = .ok (.astore_n 0, 1)) (hn : 0 < nL) (k : RX E nL a b (pc + 1) (some .null :: t) st M) : RX E nL a b pc (x :: t) (.null :: st) M :=
  rx_store1 (pre := []) (pc' := pc + 1) (fun z hz => by cases hz) (fun _ _ _ _ _ _ _ _ _ _ _ _ _ _ _ _ _ _ hE' hl kk => lv_astore_nN hE'.1 hE'.2.1 hd rfl hl hn rfl kk) hE k
theorem rx_lstore_0 (hE : g_E d mi E) {x y : Option Value} {t : List (Option Value)} {v : Int64} (hd : decode mi.2.1 pc = .ok (.lstore 0, 2)) (hn : 0 + 1 < nL) (k : RX E nL a b (pc + 2) (some (.long v) :: none :: t) st M) : RX E nL a b pc (x :: y :: t) ((.long v) :: st) M :=
  rx_store2 (pre := []) (pc' := pc + 2) (fun z hz => by cases hz) (fun _ _ _ _ _ _ _ _ _ _ _ _ _ _ _ _ _ _ hE' hl kk => lv_lstore hE'.1 hE'.2.1 hd hl hn rfl kk) hE k
theorem rx_lstore_n_0 (hE : g_E d mi E) {x y : Option Value} {t : List (Option Value)} {v : Int64} (hd : decode mi.2.1 pc = .ok (.lstore_n 0, 1)) (hn : 0 + 1 < nL) (k : RX E nL a b (pc + 1) (some (.long v) :: none :: t) st M) : RX E nL a b pc (x :: y :: t) ((.long v) :: st) M :=
  rx_store2 (pre := []) (pc' := pc + 1) (fun z hz => by cases hz) (fun _ _ _ _ _ _ _ _ _ _ _ _ _ _ _ _ _ _ hE' hl kk => lv_lstore_n hE'.1 hE'.2.1 hd rfl hl hn rfl kk) hE k
theorem rx_iinc_0 (hE : g_E d mi E) {t : List (Option Value)} {n : Int} {x v : Int32} (hd : decode mi.2.1 pc = .ok (.iinc 0 n, 3)) (hv : Int32.ofInt n = v) (hn : 0 < nL) (k : RX E nL a b (pc + 3) (some (.int (x + v)) :: t) st M) : RX E nL a b pc (some (.int x) :: t) st M := by
  obtain ⟨p, l, e, R, s, m, args, below, meth, c, Q, g⟩ := E
  intro H locs arr cells slots hR hS hL hc hs
  obtain ⟨j, hj⟩ := List.getElem?_of_mem ((g_lv_mem g (some (.int x) :: t) 0 0 (.int x)).mpr ⟨0, .int x, rfl, rfl, rfl⟩)
  exact lv_iinc (v := x + v) hE.1 hE.2.1 hd hL hj (by rw [hv]) hn rfl (fun ls' hl' => k H locs ls' cells slots hR hS (g_L.set1 (pre := []) (v := .int (x + v)) (fun z hz => by cases hz) hl') hc hs)
theorem rx_istore_1 (hE : g_E d mi E) {l0 x : Option Value} {t : List (Option Value)} {v : Int32} (hd : decode mi.2.1 pc = .ok (.istore 1, 2)) (hn : 1 < nL) (hc1 : g_c1 l0 = true) (k : RX E nL a b (pc + 2) (l0 :: some (.int v) :: t) st M) : RX E nL a b pc (l0 :: x :: t) ((.int v) :: st) M :=
  rx_store1 (pre := [l0]) (pc' := pc + 2) (fun z hz => by cases hz; exact hc1) (fun _ _ _ _ _ _ _ _ _ _ _ _ _ _ _ _ _ _ hE' hl kk => lv_istore hE'.1 hE'.2.1 hd hl hn rfl kk) hE k
theorem rx_istore_n_1 (hE : g_E d mi E) {l0 x : Option Value} {t : List (Option Value)} {v : Int32} (hd : decode mi.2.1 pc = .ok (.istore_n 1, 1)) (hn : 1 < nL) (hc1 : g_c1 l0 = true) (k : RX E nL a b (pc + 1) (l0 :: some (.int v) :: t) st M) : RX E nL a b pc (l0 :: x :: t) ((.int v) :: st) M :=
  rx_store1 (pre := [l0]) (pc' := pc + 1) (fun z hz => by cases hz; exact hc1) (fun _ _ _ _ _ _ _ _ _ _ _ _ _ _ _ _ _ _ hE' hl kk => lv_istore_n hE'.1 hE'.2.1 hd rfl hl hn rfl kk) hE k
theorem rx_astore_1 (hE : g_E d mi E) {l0 x : Option Value} {t : List (Option Value)} {v : Nat} (hd : decode mi.2.1 pc = .ok (.astore 1, 2)) (hn : 1 < nL) (hc1 : g_c1 l0 = true) (k : RX E nL a b (pc + 2) (l0 :: some (.ref v) :: t) st M) : RX E nL a b pc (l0 :: x :: t) ((.ref v) :: st) M :=
  rx_store1 (pre := [l0]) (pc' := pc + 2) (fun z hz => by cases hz; exact hc1) (fun _ _ _ _ _ _ _ _ _ _ _ _ _ _ _ _ _ _ hE' hl kk => lv_astore hE'.1 hE'.2.1 hd hl hn rfl kk) hE k
theorem rx_astore_n_1 (hE : g_E d mi E) {l0 x : Option Value} {t : List (Option Value)} {v : Nat} (hd : decode mi.2.1 pc = .ok (.astore_n 1, 1)) (hn : 1 < nL) (hc1 : g_c1 l0 = true) (k : RX E nL a b (pc + 1) (l0 :: some (.ref v) :: t) st M) : RX E nL a b pc (l0 :: x :: t) ((.ref v) :: st) M :=
  rx_store1 (pre := [l0]) (pc' := pc + 1) (fun z hz => by cases hz; exact hc1) (fun _ _ _ _ _ _ _ _ _ _ _ _ _ _ _ _ _ _ hE' hl kk => lv_astore_n hE'.1 hE'.2.1 hd rfl hl hn rfl kk) hE k
theorem rx_astoreN_1 (hE : g_E d mi E) {l0 x : Option Value} {t : List (Option Value)} (hd : decode mi.2.1 pc = .ok (.astore 1, 2)) (hn : 1 < nL) (hc1 : g_c1 l0 = true) (k : RX E nL a b (pc + 2) (l0 :: some .null :: t) st M) : RX E nL a b pc (l0 :: x :: t) (.null :: st) M :=
  rx_store1 (pre := [l0]) (pc' := pc + 2) (fun z hz => by cases hz; exact hc1) (fun _ _ _ _ _ _ _ _ _ _ _ _ _ _ _ _ _ _ hE' hl kk => lv_astoreN hE'.1 hE'.2.1 hd hl hn rfl kk) hE k
theorem rx_astore_nN_1 (hE : g_E d mi E) {l0 x : Option Value} {t : List (Option Value)} (hd : decode mi.2.1 pc = .ok (.astore_n 1, 1)) (hn : 1 < nL) (hc1 : g_c1 l0 = true) (k : RX E nL a b (pc + 1) (l0 :: some .null :: t) st M) : RX E nL a b pc (l0 :: x :: t) (.null :: st) M :=
  rx_store1 (pre := [l0]) (pc' := pc + 1) (fun z hz => by cases hz; exact hc1) (fun _ _ _ _ _ _ _ _ _ _ _ _ _ _ _ _ _ _ hE' hl kk => lv_astore_nN hE'.1 hE'.2.1 hd rfl hl hn rfl kk) hE k
theorem rx_lstore_1 (hE : g_E d mi E) {l0 x y : Option Value} {t : List (Option Value)} {v : Int64} (hd : decode mi.2.1 pc = .ok (.lstore 1, 2)) (hn : 1 + 1 < nL) (hc1 : g_c1 l0 = true) (k : RX E nL a b (pc + 2) (l0 :: some (.long v) :: none :: t) st M) : RX E nL a b pc (l0 :: x :: y :: t) ((.long v) :: st) M :=
  rx_store2 (pre := [l0]) (pc' := pc + 2) (fun z hz => by cases hz; exact hc1) (fun _ _ _ _ _ _ _ _ _ _ _ _ _ _ _ _ _ _ hE' hl kk => lv_lstore hE'.1 hE'.2.1 hd hl hn rfl kk) hE k
theorem rx_lstore_n_1 (hE : g_E d mi E) {l0 x y : Option Value} {t : List (Option Value)} {v : Int64} (hd : decode mi.2.1 pc = .ok (.lstore_n 1, 1)) (hn : 1 + 1 < nL) (hc1 : g_c1 l0 = true) (k : RX E nL a b (pc + 1) (l0 :: some (.long v) :: none :: t) st M) : RX E nL a b pc (l0 :: x :: y :: t) ((.long v) :: st) M :=
  rx_store2 (pre := [l0]) (pc' := pc + 1) (fun z hz => by cases hz; exact hc1) (fun _ _ _ _ _ _ _ _ _ _ _ _ _ _ _ _ _ _ hE' hl kk => lv_lstore_n hE'.1 hE'.2.1 hd rfl hl hn rfl kk) hE k
theorem rx_iinc_1 (hE : g_E d mi E) {l0 : Option Value} {t : List (Option Value)} {n : Int} {x v : Int32} (hd : decode mi.2.1 pc = .ok (.iinc 1 n, 3)) (hv : Int32.ofInt n = v) (hn : 1 < nL) (hc1 : g_c1 l0 = true) (k : RX E nL a b (pc + 3) (l0 :: some (.int (x + v)) :: t) st M) : RX E nL a b pc (l0 :: some (.int x) :: t) st M := by
  obtain ⟨p, l, e, R, s, m, args, below, meth, c, Q, g⟩ := E
  intro H locs arr cells slots hR hS hL hc hs
  obtain ⟨j, hj⟩ := List.getElem?_of_mem ((g_lv_mem g (l0 :: some (.int x) :: t) 0 1 (.int x)).mpr ⟨1, .int x, rfl, rfl, rfl⟩)
  exact lv_iinc (v := x + v) hE.1 hE.2.1 hd hL hj (by rw [hv]) hn rfl (fun ls' hl' => k H locs ls' cells slots hR hS (g_L.set1 (pre := [l0]) (v := .int (x + v)) (fun z hz => by cases hz; exact hc1) hl') hc hs)
theorem rx_istore_2 (hE : g_E d mi E) {l0 l1 x : Option Value} {t : List (Option Value)} {v : Int32} (hd : decode mi.2.1 pc = .ok (.istore 2, 2)) (hn : 2 < nL) (hc1 : g_c1 l1 = true) (k : RX E nL a b (pc + 2) (l0 :: l1 :: some (.int v) :: t) st M) : RX E nL a b pc (l0 :: l1 :: x :: t) ((.int v) :: st) M :=
  rx_store1 (pre := [l0, l1]) (pc' := pc + 2) (fun z hz => by cases hz; exact hc1) (fun _ _ _ _ _ _ _ _ _ _ _ _ _ _ _ _ _ _ hE' hl kk => lv_istore hE'.1 hE'.2.1 hd hl hn rfl kk) hE k
theorem rx_istore_n_2 (hE : g_E d mi E) {l0 l1 x : Option Value} {t : List (Option Value)} {v : Int32} (hd : decode mi.2.1 pc = .ok (.istore_n 2, 1)) (hn : 2 < nL) (hc1 : g_c1 l1 = true) (k : RX E nL a b (pc + 1) (l0 :: l1 :: some (.int v) :: t) st M) : RX E nL a b pc (l0 :: l1 :: x :: t) ((.int v) :: st) M :=
  rx_store1 (pre := [l0, l1]) (pc' := pc + 1) (fun z hz => by cases hz; exact hc1) (fun _ _ _ _ _ _ _ _ _ _ _ _ _ _ _ _ _ _ hE' hl kk => lv_istore_n hE'.1 hE'.2.1 hd rfl hl hn rfl kk) hE k
theorem rx_astore_2 (hE : g_E d mi E) {l0 l1 x : Option Value} {t : List (Option Value)} {v : Nat} (hd : decode mi.2.1 pc = .ok (.astore 2, 2)) (hn : 2 < nL) (hc1 : g_c1 l1 = true) (k : RX E nL a b (pc + 2) (l0 :: l1 :: some (.ref v) :: t) st M) : RX E nL a b pc (l0 :: l1 :: x :: t) ((.ref v) :: st) M :=
  rx_store1 (pre := [l0, l1]) (pc' := pc + 2) (fun z hz => by cases hz; exact hc1) (fun _ _ _ _ _ _ _ _ _ _ _ _ _ _ _ _ _ _ hE' hl kk => lv_astore hE'.1 hE'.2.1 hd hl hn rfl kk) hE k
theorem rx_astore_n_2 (hE : g_E d mi E) {l0 l1 x : Option Value} {t : List (Option Value)} {v : Nat} (hd : decode mi.2.1 pc = .ok (.astore_n 2, 1)) (hn : 2 < nL) (hc1 : g_c1 l1 = true) (k : RX E nL a b (pc + 1) (l0 :: l1 :: some (.ref v) :: t) st M) : RX E nL a b pc (l0 :: l1 :: x :: t) ((.ref v) :: st) M :=
  rx_store1 (pre := [l0, l1]) (pc' := pc + 1) (fun z hz => by cases hz; exact hc1) (fun _ _ _ _ _ _ _ _ _ _ _ _ _ _ _ _ _ _ hE' hl kk => lv_astore_n hE'.1 hE'.2.1 hd rfl hl hn rfl kk) hE k
theorem rx_astoreN_2 (hE : g_E d mi E) {l0 l1 x : Option Value} {t : List (Option Value)} (hd : decode mi.2.1 pc = .ok (.astore 2, 2)) (hn : 2 < nL) (hc1 : g_c1 l1 = true) (k : RX E nL a b (pc + 2) (l0 :: l1 :: some .null :: t) st M) : RX E nL a b pc (l0 :: l1 :: x :: t) (.null :: st) M :=
  rx_store1 (pre := [l0, l1]) (pc' := pc + 2) (fun z hz => by cases hz; exact hc1) (fun _ _ _ _ _ _ _ _ _ _ _ _ _ _ _ _ _ _ hE' hl kk => lv_astoreN hE'.1 hE'.2.1 hd hl hn rfl kk) hE k
theorem rx_astore_nN_2 (hE : g_E d mi E) {l0 l1 x : Option Value} {t : List (Option Value)} (hd : decode mi.2.1 pc = .ok (.astore_n 2, 1)) (hn : 2 < nL) (hc1 : g_c1 l1 = true) (k : RX E nL a b (pc + 1) (l0 :: l1 :: some .null :: t) st M) : RX E nL a b pc (l0 :: l1 :: x :: t) (.null :: st) M :=
  rx_store1 (pre := [l0, l1]) (pc' := pc + 1) (fun z hz => by cases hz; exact hc1) (fun _ _ _ _ _ _ _ _ _ _ _ _ _ _ _ _ _ _ hE' hl kk => lv_astore_nN hE'.1 hE'.2.1 hd rfl hl hn rfl kk) hE k
theorem rx_lstore_2 (hE : g_E d mi E) {l0 l1 x y : Option Value} {t : List (Option Value)} {v : Int64} (hd : decode mi.2.1 pc = .ok (.lstore 2, 2)) (hn : 2 + 1 < nL) (hc1 : g_c1 l1 = true) (k : RX E nL a b (pc + 2) (l0 :: l1 :: some (.long v) :: none :: t) st M) : RX E nL a b pc (l0 :: l1 :: x :: y :: t) ((.long v) :: st) M :=
  rx_store2 (pre := [l0, l1]) (pc' := pc + 2) (fun z hz => by cases hz; exact hc1) (fun _ _ _ _ _ _ _ _ _ _ _ _ _ _ _ _ _ _ hE' hl kk => lv_lstore hE'.1 hE'.2.1 hd hl hn rfl kk) hE k
theorem rx_lstore_n_2 (hE : g_E d mi E) {l0 l1 x y : Option Value} {t : List (Option Value)} {v : Int64} (hd : decode mi.2.1 pc = .ok (.lstore_n 2, 1)) (hn : 2 + 1 < nL) (hc1 : g_c1 l1 = true) (k : RX E nL a b (pc + 1) (l0 :: l1 :: some (.long v) :: none :: t) st M) : RX E nL a b pc (l0 :: l1 :: x :: y :: t) ((.long v) :: st) M :=
  rx_store2 (pre := [l0, l1]) (pc' := pc + 1) (fun z hz => by cases hz; exact hc1) (fun _ _ _ _ _ _ _ _ _ _ _ _ _ _ _ _ _ _ hE' hl kk => lv_lstore_n hE'.1 hE'.2.1 hd rfl hl hn rfl kk) hE k
theorem rx_iinc_2 (hE : g_E d mi E) {l0 l1 : Option Value} {t : List (Option Value)} {n : Int} {x v : Int32} (hd : decode mi.2.1 pc = .ok (.iinc 2 n, 3)) (hv : Int32.ofInt n = v) (hn : 2 < nL) (hc1 : g_c1 l1 = true) (k : RX E nL a b (pc + 3) (l0 :: l1 :: some (.int (x + v)) :: t) st M) : RX E nL a b pc (l0 :: l1 :: some (.int x) :: t) st M := by
  obtain ⟨p, l, e, R, s, m, args, below, meth, c, Q, g⟩ := E
  intro H locs arr cells slots hR hS hL hc hs
  obtain ⟨j, hj⟩ := List.getElem?_of_mem ((g_lv_mem g (l0 :: l1 :: some (.int x) :: t) 0 2 (.int x)).mpr ⟨2, .int x, rfl, rfl, rfl⟩)
  exact lv_iinc (v := x + v) hE.1 hE.2.1 hd hL hj (by rw [hv]) hn rfl (fun ls' hl' => k H locs ls' cells slots hR hS (g_L.set1 (pre := [l0, l1]) (v := .int (x + v)) (fun z hz => by cases hz; exact hc1) hl') hc hs)
theorem rx_istore_3 (hE : g_E d mi E) {l0 l1 l2 x : Option Value} {t : List (Option Value)} {v : Int32} (hd : decode mi.2.1 pc = .ok (.istore 3, 2)) (hn : 3 < nL) (hc1 : g_c1 l2 = true) (k : RX E nL a b (pc + 2) (l0 :: l1 :: l2 :: some (.int v) :: t) st M) : RX E nL a b pc (l0 :: l1 :: l2 :: x :: t) ((.int v) :: st) M :=
  rx_store1 (pre := [l0, l1, l2]) (pc' := pc + 2) (fun z hz => by cases hz; exact hc1) (fun _ _ _ _ _ _ _ _ _ _ _ _ _ _ _ _ _ _ hE' hl kk => lv_istore hE'.1 hE'.2.1 hd hl hn rfl kk) hE k
theorem rx_istore_n_3 (hE : g_E d mi E) {l0 l1 l2 x : Option Value} {t : List (Option Value)} {v : Int32} (hd : decode mi.2.1 pc = .ok (.istore_n 3, 1)) (hn : 3 < nL) (hc1 : g_c1 l2 = true) (k : RX E nL a b (pc + 1) (l0 :: l1 :: l2 :: some (.int v) :: t) st M) : RX E nL a b pc (l0 :: l1 :: l2 :: x :: t) ((.int v) :: st) M :=
  rx_store1 (pre := [l0, l1, l2]) (pc' := pc + 1) (fun z hz => by cases hz; exact hc1) (fun _ _ _ _ _ _ _ _ _ _ _ _ _ _ _ _ _ _ hE' hl kk => lv_istore_n hE'.1 hE'.2.1 hd rfl hl hn rfl kk) hE k
theorem rx_astore_3 (hE : g_E d mi E) {l0 l1 l2 x : Option Value} {t : List (Option Value)} {v : Nat} (hd : decode mi.2.1 pc = .ok (.astore 3, 2)) (hn : 3 < nL) (hc1 : g_c1 l2 = true) (k : RX E nL a b (pc + 2) (l0 :: l1 :: l2 :: some (.ref v) :: t) st M) : RX E nL a b pc (l0 :: l1 :: l2 :: x :: t) ((.ref v) :: st) M :=
  rx_store1 (pre := [l0, l1, l2]) (pc' := pc + 2) (fun z hz => by cases hz; exact hc1) (fun _ _ _ _ _ _ _ _ _ _ _ _ _ _ _ _ _ _ hE' hl kk => lv_astore hE'.1 hE'.2.1 hd hl hn rfl kk) hE k
theorem rx_astore_n_3 (hE : g_E d mi E) {l0 l1 l2 x : Option Value} {t : List (Option Value)} {v : Nat} (hd : decode mi.2.1 pc = .ok (.astore_n 3, 1)) (hn : 3 < nL) (hc1 : g_c1 l2 = true) (k : RX E nL a b (pc + 1) (l0 :: l1 :: l2 :: some (.ref v) :: t) st M) : RX E nL a b pc (l0 :: l1 :: l2 :: x :: t) ((.ref v) :: st) M :=
  rx_store1 (pre := [l0, l1, l2]) (pc' := pc + 1) (fun z hz => by cases hz; exact hc1) (fun _ _ _ _ _ _ _ _ _ _ _ _ _ _ _ _ _ _ hE' hl kk => lv_astore_n hE'.1 hE'.2.1 hd rfl hl hn rfl kk) hE k
theorem rx_astoreN_3 (hE : g_E d mi E) {l0 l1 l2 x : Option Value} {t : List (Option Value)} (hd : decode mi.2.1 pc = .ok (.astore 3, 2)) (hn : 3 < nL) (hc1 : g_c1 l2 = true) (k : RX E nL a b (pc + 2) (l0 :: l1 :: l2 :: some .null :: t) st M) : RX E nL a b pc (l0 :: l1 :: l2 :: x :: t) (.null :: st) M :=
  rx_store1 (pre := [l0, l1, l2]) (pc' := pc + 2) (fun z hz => by cases hz; exact hc1) (fun _ _ _ _ _ _ _ _ _ _ _ _ _ _ _ _ _ _ hE' hl kk => lv_astoreN hE'.1 hE'.2.1 hd hl hn rfl kk) hE k
theorem rx_astore_nN_3 (hE : g_E d mi E) {l0 l1 l2 x : Option Value} {t : List (Option Value)} (hd : decode mi.2.1 pc = .ok (.astore_n 3, 1)) (hn : 3 < nL) (hc1 : g_c1 l2 = true) (k : RX E nL a b (pc + 1) (l0 :: l1 :: l2 :: some .null :: t) st M) : RX E nL a b pc (l0 :: l1 :: l2 :: x :: t) (.null :: st) M :=
  rx_store1 (pre := [l0, l1, l2]) (pc' := pc + 1) (fun z hz => by cases hz; exact hc1) (fun _ _ _ _ _ _ _ _ _ _ _ _ _ _ _ _ _ _ hE' hl kk => lv_astore_nN hE'.1 hE'.2.1 hd rfl hl hn rfl kk) hE k
theorem rx_lstore_3 (hE : g_E d mi E) {l0 l1 l2 x y : Option Value} {t : List (Option Value)} {v : Int64} (hd : decode mi.2.1 pc = .ok (.lstore 3, 2)) (hn : 3 + 1 < nL) (hc1 : g_c1 l2 = true) (k : RX E nL a b (pc + 2) (l0 :: l1 :: l2 :: some (.long v) :: none :: t) st M) : RX E nL a b pc (l0 :: l1 :: l2 :: x :: y :: t) ((.long v) :: st) M :=
  rx_store2 (pre := [l0, l1, l2]) (pc' := pc + 2) (fun z hz => by cases hz; exact hc1) (fun _ _ _ _ _ _ _ _ _ _ _ _ _ _ _ _ _ _ hE' hl kk => lv_lstore hE'.1 hE'.2.1 hd hl hn rfl kk) hE k
theorem rx_lstore_n_3 (hE : g_E d mi E) {l0 l1 l2 x y : Option Value} {t : List (Option Value)} {v : Int64} (hd : decode mi.2.1 pc = .ok (.lstore_n 3, 1)) (hn : 3 + 1 < nL) (hc1 : g_c1 l2 = true) (k : RX E nL a b (pc + 1) (l0 :: l1 :: l2 :: some (.long v) :: none :: t) st M) : RX E nL a b pc (l0 :: l1 :: l2 :: x :: y :: t) ((.long v) :: st) M :=
  rx_store2 (pre := [l0, l1, l2]) (pc' := pc + 1) (fun z hz => by cases hz; exact hc1) (fun _ _ _ _ _ _ _ _ _ _ _ _ _ _ _ _ _ _ hE' hl kk => lv_lstore_n hE'.1 hE'.2.1 hd rfl hl hn rfl kk) hE k
theorem rx_iinc_3 (hE : g_E d mi E) {l0 l1 l2 : Option Value} {t : List (Option Value)} {n : Int} {x v : Int32} (hd : decode mi.2.1 pc = .ok (.iinc 3 n, 3)) (hv : Int32.ofInt n = v) (hn : 3 < nL) (hc1 : g_c1 l2 = true) (k : RX E nL a b (pc + 3) (l0 :: l1 :: l2 :: some (.int (x + v)) :: t) st M) : RX E nL a b pc (l0 :: l1 :: l2 :: some (.int x) :: t) st M := by
  obtain ⟨p, l, e, R, s, m, args, below, meth, c, Q, g⟩ := E
  intro H locs arr cells slots hR hS hL hc hs
  obtain ⟨j, hj⟩ := List.getElem?_of_mem ((g_lv_mem g (l0 :: l1 :: l2 :: some (.int x) :: t) 0 3 (.int x)).mpr ⟨3, .int x, rfl, rfl, rfl⟩)
  exact lv_iinc (v := x + v) hE.1 hE.2.1 hd hL hj (by rw [hv]) hn rfl (fun ls' hl' => k H locs ls' cells slots hR hS (g_L.set1 (pre := [l0, l1, l2]) (v := .int (x + v)) (fun z hz => by cases hz; exact hc1) hl') hc hs)
theorem rx_istore_4 (hE : g_E d mi E) {l0 l1 l2 l3 x : Option Value} {t : List (Option Value)} {v : Int32} (hd : decode mi.2.1 pc = .ok (.istore 4, 2)) (hn : 4 < nL) (hc1 : g_c1 l3 = true) (k : RX E nL a b (pc + 2) (l0 :: l1 :: l2 :: l3 :: some (.int v) :: t) st M) : RX E nL a b pc (l0 :: l1 :: l2 :: l3 :: x :: t) ((.int v) :: st) M :=
  rx_store1 (pre := [l0, l1, l2, l3]) (pc' := pc + 2) (fun z hz => by cases hz; exact hc1) (fun _ _ _ _ _ _ _ _ _ _ _ _ _ _ _ _ _ _ hE' hl kk => lv_istore hE'.1 hE'.2.1 hd hl hn rfl kk) hE k
theorem rx_astore_4 (hE : g_E d mi E) {l0 l1 l2 l3 x : Option Value} {t : List (Option Value)} {v : Nat} (hd : decode mi.2.1 pc = .ok (.astore 4, 2)) (hn : 4 < nL) (hc1 : g_c1 l3 = true) (k : RX E nL a b (pc + 2) (l0 :: l1 :: l2 :: l3 :: some (.ref v) :: t) st M) : RX E nL a b pc (l0 :: l1 :: l2 :: l3 :: x :: t) ((.ref v) :: st) M :=
  rx_store1 (pre := [l0, l1, l2, l3]) (pc' := pc + 2) (fun z hz => by cases hz; exact hc1) (fun _ _ _ _ _ _ _ _ _ _ _ _ _ _ _ _ _ _ hE' hl kk => lv_astore hE'.1 hE'.2.1 hd hl hn rfl kk) hE k
theorem rx_astoreN_4 (hE : g_E d mi E) {l0 l1 l2 l3 x : Option Value} {t : List (Option Value)} (hd : decode mi.2.1 pc = .ok (.astore 4, 2)) (hn : 4 < nL) (hc1 : g_c1 l3 = true) (k : RX E nL a b (pc + 2) (l0 :: l1 :: l2 :: l3 :: some .null :: t) st M) : RX E nL a b pc (l0 :: l1 :: l2 :: l3 :: x :: t) (.null :: st) M :=
  rx_store1 (pre := [l0, l1, l2, l3]) (pc' := pc + 2) (fun z hz => by cases hz; exact hc1) (fun _ _ _ _ _ _ _ _ _ _ _ _ _ _ _ _ _ _ hE' hl kk => lv_astoreN hE'.1 hE'.2.1 hd hl hn rfl kk) hE k
theorem rx_lstore_4 (hE : g_E d mi E) {l0 l1 l2 l3 x y : Option Value} {t : List (Option Value)} {v : Int64} (hd : decode mi.2.1 pc = .ok (.lstore 4, 2)) (hn : 4 + 1 < nL) (hc1 : g_c1 l3 = true) (k : RX E nL a b (pc + 2) (l0 :: l1 :: l2 :: l3 :: some (.long v) :: none :: t) st M) : RX E nL a b pc (l0 :: l1 :: l2 :: l3 :: x :: y :: t) ((.long v) :: st) M :=
  rx_store2 (pre := [l0, l1, l2, l3]) (pc' := pc + 2) (fun z hz => by cases hz; exact hc1) (fun _ _ _ _ _ _ _ _ _ _ _ _ _ _ _ _ _ _ hE' hl kk => lv_lstore hE'.1 hE'.2.1 hd hl hn rfl kk) hE k
theorem rx_iinc_4 (hE : g_E d mi E) {l0 l1 l2 l3 : Option Value} {t : List (Option Value)} {n : Int} {x v : Int32} (hd : decode mi.2.1 pc = .ok (.iinc 4 n, 3)) (hv : Int32.ofInt n = v) (hn : 4 < nL) (hc1 : g_c1 l3 = true) (k : RX E nL a b (pc + 3) (l0 :: l1 :: l2 :: l3 :: some (.int (x + v)) :: t) st M) : RX E nL a b pc (l0 :: l1 :: l2 :: l3 :: some (.int x) :: t) st M := by
  obtain ⟨p, l, e, R, s, m, args, below, meth, c, Q, g⟩ := E
  intro H locs arr cells slots hR hS hL hc hs
  obtain ⟨j, hj⟩ := List.getElem?_of_mem ((g_lv_mem g (l0 :: l1 :: l2 :: l3 :: some (.int x) :: t) 0 4 (.int x)).mpr ⟨4, .int x, rfl, rfl, rfl⟩)
  exact lv_iinc (v := x + v) hE.1 hE.2.1 hd hL hj (by rw [hv]) hn rfl (fun ls' hl' => k H locs ls' cells slots hR hS (g_L.set1 (pre := [l0, l1, l2, l3]) (v := .int (x + v)) (fun z hz => by cases hz; exact hc1) hl') hc hs)
theorem rx_istore_5 (hE : g_E d mi E) {l0 l1 l2 l3 l4 x : Option Value} {t : List (Option Value)} {v : Int32} (hd : decode mi.2.1 pc = .ok (.istore 5, 2)) (hn : 5 < nL) (hc1 : g_c1 l4 = true) (k : RX E nL a b (pc + 2) (l0 :: l1 :: l2 :: l3 :: l4 :: some (.int v) :: t) st M) : RX E nL a b pc (l0 :: l1 :: l2 :: l3 :: l4 :: x :: t) ((.int v) :: st) M :=
  rx_store1 (pre := [l0, l1, l2, l3, l4]) (pc' := pc + 2) (fun z hz => by cases hz; exact hc1) (fun _ _ _ _ _ _ _ _ _ _ _ _ _ _ _ _ _ _ hE' hl kk => lv_istore hE'.1 hE'.2.1 hd hl hn rfl kk) hE k
theorem rx_astore_5 (hE : g_E d mi E) {l0 l1 l2 l3 l4 x : Option Value} {t : List (Option Value)} {v : Nat} (hd : decode mi.2.1 pc = .ok (.astore 5, 2)) (hn : 5 < nL) (hc1 : g_c1 l4 = true) (k : RX E nL a b (pc + 2) (l0 :: l1 :: l2 :: l3 :: l4 :: some (.ref v) :: t) st M) : RX E nL a b pc (l0 :: l1 :: l2 :: l3 :: l4 :: x :: t) ((.ref v) :: st) M :=
  rx_store1 (pre := [l0, l1, l2, l3, l4]) (pc' := pc + 2) (fun z hz => by cases hz; exact hc1) (fun _ _ _ _ _ _ _ _ _ _ _ _ _ _ _ _ _ _ hE' hl kk => lv_astore hE'.1 hE'.2.1 hd hl hn rfl kk) hE k
theorem rx_astoreN_5 (hE : g_E d mi E) {l0 l1 l2 l3 l4 x : Option Value} {t : List (Option Value)} (hd : decode mi.2.1 pc = .ok (.astore 5, 2)) (hn : 5 < nL) (hc1 : g_c1 l4 = true) (k : RX E nL a b (pc + 2) (l0 :: l1 :: l2 :: l3 :: l4 :: some .null :: t) st M) : RX E nL a b pc (l0 :: l1 :: l2 :: l3 :: l4 :: x :: t) (.null :: st) M :=
  rx_store1 (pre := [l0, l1, l2, l3, l4]) (pc' := pc + 2) (fun z hz => by cases hz; exact hc1) (fun _ _ _ _ _ _ _ _ _ _ _ _ _ _ _ _ _ _ hE' hl kk => lv_astoreN hE'.1 hE'.2.1 hd hl hn rfl kk) hE k
theorem rx_lstore_5 (hE : g_E d mi E) {l0 l1 l2 l3 l4 x y : Option Value} {t : List (Option Value)} {v : Int64} (hd : decode mi.2.1 pc = .ok (.lstore 5, 2)) (hn : 5 + 1 < nL) (hc1 : g_c1 l4 = true) (k : RX E nL a b (pc + 2) (l0 :: l1 :: l2 :: l3 :: l4 :: some (.long v) :: none :: t) st M) : RX E nL a b pc (l0 :: l1 :: l2 :: l3 :: l4 :: x :: y :: t) ((.long v) :: st) M :=
  rx_store2 (pre := [l0, l1, l2, l3, l4]) (pc' := pc + 2) (fun z hz => by cases hz; exact hc1) (fun _ _ _ _ _ _ _ _ _ _ _ _ _ _ _ _ _ _ hE' hl kk => lv_lstore hE'.1 hE'.2.1 hd hl hn rfl kk) hE k
theorem rx_iinc_5 (hE : g_E d mi E) {l0 l1 l2 l3 l4 : Option Value} {t : List (Option Value)} {n : Int} {x v : Int32} (hd : decode mi.2.1 pc = .ok (.iinc 5 n, 3)) (hv : Int32.ofInt n = v) (hn : 5 < nL) (hc1 : g_c1 l4 = true) (k : RX E nL a b (pc + 3) (l0 :: l1 :: l2 :: l3 :: l4 :: some (.int (x + v)) :: t) st M) : RX E nL a b pc (l0 :: l1 :: l2 :: l3 :: l4 :: some (.int x) :: t) st M := by
  obtain ⟨p, l, e, R, s, m, args, below, meth, c, Q, g⟩ := E
  intro H locs arr cells slots hR hS hL hc hs
  obtain ⟨j, hj⟩ := List.getElem?_of_mem ((g_lv_mem g (l0 :: l1 :: l2 :: l3 :: l4 :: some (.int x) :: t) 0 5 (.int x)).mpr ⟨5, .int x, rfl, rfl, rfl⟩)
  exact lv_iinc (v := x + v) hE.1 hE.2.1 hd hL hj (by rw [hv]) hn rfl (fun ls' hl' => k H locs ls' cells slots hR hS (g_L.set1 (pre := [l0, l1, l2, l3, l4]) (v := .int (x + v)) (fun z hz => by cases hz; exact hc1) hl') hc hs)
theorem rx_istore_6 (hE : g_E d mi E) {l0 l1 l2 l3 l4 l5 x : Option Value} {t : List (Option Value)} {v : Int32} (hd : decode mi.2.1 pc = .ok (.istore 6, 2)) (hn : 6 < nL) (hc1 : g_c1 l5 = true) (k : RX E nL a b (pc + 2) (l0 :: l1 :: l2 :: l3 :: l4 :: l5 :: some (.int v) :: t) st M) : RX E nL a b pc (l0 :: l1 :: l2 :: l3 :: l4 :: l5 :: x :: t) ((.int v) :: st) M :=
  rx_store1 (pre := [l0, l1, l2, l3, l4, l5]) (pc' := pc + 2) (fun z hz => by cases hz; exact hc1) (fun _ _ _ _ _ _ _ _ _ _ _ _ _ _ _ _ _ _ hE' hl kk => lv_istore hE'.1 hE'.2.1 hd hl hn rfl kk) hE k
theorem rx_astore_6 (hE : g_E d mi E) {l0 l1 l2 l3 l4 l5 x : Option Value} {t : List (Option Value)} {v : Nat} (hd : decode mi.2.1 pc = .ok (.astore 6, 2)) (hn : 6 < nL) (hc1 : g_c1 l5 = true) (k : RX E nL a b (pc + 2) (l0 :: l1 :: l2 :: l3 :: l4 :: l5 :: some (.ref v) :: t) st M) : RX E nL a b pc (l0 :: l1 :: l2 :: l3 :: l4 :: l5 :: x :: t) ((.ref v) :: st) M :=
  rx_store1 (pre := [l0, l1, l2, l3, l4, l5]) (pc' := pc + 2) (fun z hz => by cases hz; exact hc1) (fun _ _ _ _ _ _ _ _ _ _ _ _ _ _ _ _ _ _ hE' hl kk => lv_astore hE'.1 hE'.2.1 hd hl hn rfl kk) hE k
theorem rx_astoreN_6 (hE : g_E d mi E) {l0 l1 l2 l3 l4 l5 x : Option Value} {t : List (Option Value)} (hd : decode mi.2.1 pc = .ok (.astore 6, 2)) (hn : 6 < nL) (hc1 : g_c1 l5 = true) (k : RX E nL a b (pc + 2) (l0 :: l1 :: l2 :: l3 :: l4 :: l5 :: some .null :: t) st M) : RX E nL a b pc (l0 :: l1 :: l2 :: l3 :: l4 :: l5 :: x :: t) (.null :: st) M :=
  rx_store1 (pre := [l0, l1, l2, l3, l4, l5]) (pc' := pc + 2) (fun z hz => by cases hz; exact hc1) (fun _ _ _ _ _ _ _ _ _ _ _ _ _ _ _ _ _ _ hE' hl kk => lv_astoreN hE'.1 hE'.2.1 hd hl hn rfl kk) hE k
theorem rx_lstore_6 (hE : g_E d mi E) {l0 l1 l2 l3 l4 l5 x y : Option Value} {t : List (Option Value)} {v : Int64} (hd : decode mi.2.1 pc = .ok (.lstore 6, 2)) (hn : 6 + 1 < nL) (hc1 : g_c1 l5 = true) (k : RX E nL a b (pc + 2) (l0 :: l1 :: l2 :: l3 :: l4 :: l5 :: some (.long v) :: none :: t) st M) : RX E nL a b pc (l0 :: l1 :: l2 :: l3 :: l4 :: l5 :: x :: y :: t) ((.long v) :: st) M :=
  rx_store2 (pre := [l0, l1, l2, l3, l4, l5]) (pc' := pc + 2) (fun z hz => by cases hz; exact hc1) (fun _ _ _ _ _ _ _ _ _ _ _ _ _ _ _ _ _ _ hE' hl kk => lv_lstore hE'.1 hE'.2.1 hd hl hn rfl kk) hE k
theorem rx_iinc_6 (hE : g_E d mi E) {l0 l1 l2 l3 l4 l5 : Option Value} {t : List (Option Value)} {n : Int} {x v : Int32} (hd : decode mi.2.1 pc = .ok (.iinc 6 n, 3)) (hv : Int32.ofInt n = v) (hn : 6 < nL) (hc1 : g_c1 l5 = true) (k : RX E nL a b (pc + 3) (l0 :: l1 :: l2 :: l3 :: l4 :: l5 :: some (.int (x + v)) :: t) st M) : RX E nL a b pc (l0 :: l1 :: l2 :: l3 :: l4 :: l5 :: some (.int x) :: t) st M := by
  obtain ⟨p, l, e, R, s, m, args, below, meth, c, Q, g⟩ := E
  intro H locs arr cells slots hR hS hL hc hs
  obtain ⟨j, hj⟩ := List.getElem?_of_mem ((g_lv_mem g (l0 :: l1 :: l2 :: l3 :: l4 :: l5 :: some (.int x) :: t) 0 6 (.int x)).mpr ⟨6, .int x, rfl, rfl, rfl⟩)
  exact lv_iinc (v := x + v) hE.1 hE.2.1 hd hL hj (by rw [hv]) hn rfl (fun ls' hl' => k H locs ls' cells slots hR hS (g_L.set1 (pre := [l0, l1, l2, l3, l4, l5]) (v := .int (x + v)) (fun z hz => by cases hz; exact hc1) hl') hc hs)
theorem rx_istore_7 (hE : g_E d mi E) {l0 l1 l2 l3 l4 l5 l6 x : Option Value} {t : List (Option Value)} {v : Int32} (hd : decode mi.2.1 pc = .ok (.istore 7, 2)) (hn : 7 < nL) (hc1 : g_c1 l6 = true) (k : RX E nL a b (pc + 2) (l0 :: l1 :: l2 :: l3 :: l4 :: l5 :: l6 :: some (.int v) :: t) st M) : RX E nL a b pc (l0 :: l1 :: l2 :: l3 :: l4 :: l5 :: l6 :: x :: t) ((.int v) :: st) M :=
  rx_store1 (pre := [l0, l1, l2, l3, l4, l5, l6]) (pc' := pc + 2) (fun z hz => by cases hz; exact hc1) (fun _ _ _ _ _ _ _ _ _ _ _ _ _ _ _ _ _ _ hE' hl kk => lv_istore hE'.1 hE'.2.1 hd hl hn rfl kk) hE k
theorem rx_astore_7 (hE : g_E d mi E) {l0 l1 l2 l3 l4 l5 l6 x : Option Value} {t : List (Option Value)} {v : Nat} (hd : decode mi.2.1 pc = .ok (.astore 7, 2)) (hn : 7 < nL) (hc1 : g_c1 l6 = true) (k : RX E nL a b (pc + 2) (l0 :: l1 :: l2 :: l3 :: l4 :: l5 :: l6 :: some (.ref v) :: t) st M) : RX E nL a b pc (l0 :: l1 :: l2 :: l3 :: l4 :: l5 :: l6 :: x :: t) ((.ref v) :: st) M :=
  rx_store1 (pre := [l0, l1, l2, l3, l4, l5, l6]) (pc' := pc + 2) (fun z hz => by cases hz; exact hc1) (fun _ _ _ _ _ _ _ _ _ _ _ _ _ _ _ _ _ _ hE' hl kk => lv_astore hE'.1 hE'.2.1 hd hl hn rfl kk) hE k
theorem rx_astoreN_7 (hE : g_E d mi E) {l0 l1 l2 l3 l4 l5 l6 x : Option Value} {t : List (Option Value)} (hd : decode mi.2.1 pc = .ok (.astore 7, 2)) (hn : 7 < nL) (hc1 : g_c1 l6 = true) (k : RX E nL a b (pc + 2) (l0 :: l1 :: l2 :: l3 :: l4 :: l5 :: l6 :: some .null :: t) st M) : RX E nL a b pc (l0 :: l1 :: l2 :: l3 :: l4 :: l5 :: l6 :: x :: t) (.null :: st) M :=
  rx_store1 (pre := [l0, l1, l2, l3, l4, l5, l6]) (pc' := pc + 2) (fun z hz => by cases hz; exact hc1) (fun _ _ _ _ _ _ _ _ _ _ _ _ _ _ _ _ _ _ hE' hl kk => lv_astoreN hE'.1 hE'.2.1 hd hl hn rfl kk) hE k
theorem rx_lstore_7 (hE : g_E d mi E) {l0 l1 l2 l3 l4 l5 l6 x y : Option Value} {t : List (Option Value)} {v : Int64} (hd : decode mi.2.1 pc = .ok (.lstore 7, 2)) (hn : 7 + 1 < nL) (hc1 : g_c1 l6 = true) (k : RX E nL a b (pc + 2) (l0 :: l1 :: l2 :: l3 :: l4 :: l5 :: l6 :: some (.long v) :: none :: t) st M) : RX E nL a b pc (l0 :: l1 :: l2 :: l3 :: l4 :: l5 :: l6 :: x :: y :: t) ((.long v) :: st) M :=
  rx_store2 (pre := [l0, l1, l2, l3, l4, l5, l6]) (pc' := pc + 2) (fun z hz => by cases hz; exact hc1) (fun _ _ _ _ _ _ _ _ _ _ _ _ _ _ _ _ _ _ hE' hl kk => lv_lstore hE'.1 hE'.2.1 hd hl hn rfl kk) hE k
theorem rx_iinc_7 (hE : g_E d mi E) {l0 l1 l2 l3 l4 l5 l6 : Option Value} {t : List (Option Value)} {n : Int} {x v : Int32} (hd : decode mi.2.1 pc = .ok (.iinc 7 n, 3)) (hv : Int32.ofInt n = v) (hn : 7 < nL) (hc1 : g_c1 l6 = true) (k : RX E nL a b (pc + 3) (l0 :: l1 :: l2 :: l3 :: l4 :: l5 :: l6 :: some (.int (x + v)) :: t) st M) : RX E nL a b pc (l0 :: l1 :: l2 :: l3 :: l4 :: l5 :: l6 :: some (.int x) :: t) st M := by
  obtain ⟨p, l, e, R, s, m, args, below, meth, c, Q, g⟩ := E
  intro H locs arr cells slots hR hS hL hc hs
  obtain ⟨j, hj⟩ := List.getElem?_of_mem ((g_lv_mem g (l0 :: l1 :: l2 :: l3 :: l4 :: l5 :: l6 :: some (.int x) :: t) 0 7 (.int x)).mpr ⟨7, .int x, rfl, rfl, rfl⟩)
  exact lv_iinc (v := x + v) hE.1 hE.2.1 hd hL hj (by rw [hv]) hn rfl (fun ls' hl' => k H locs ls' cells slots hR hS (g_L.set1 (pre := [l0, l1, l2, l3, l4, l5, l6]) (v := .int (x + v)) (fun z hz => by cases hz; exact hc1) hl') hc hs)
theorem rx_istore_8 (hE : g_E d mi E) {l0 l1 l2 l3 l4 l5 l6 l7 x : Option Value} {t : List (Option Value)} {v : Int32} (hd : decode mi.2.1 pc = .ok (.istore 8, 2)) (hn : 8 < nL) (hc1 : g_c1 l7 = true) (k : RX E nL a b (pc + 2) (l0 :: l1 :: l2 :: l3 :: l4 :: l5 :: l6 :: l7 :: some (.int v) :: t) st M) : RX E nL a b pc (l0 :: l1 :: l2 :: l3 :: l4 :: l5 :: l6 :: l7 :: x :: t) ((.int v) :: st) M :=
  rx_store1 (pre := [l0, l1, l2, l3, l4, l5, l6, l7]) (pc' := pc + 2) (fun z hz => by cases hz; exact hc1) (fun _ _ _ _ _ _ _ _ _ _ _ _ _ _ _ _ _ _ hE' hl kk => lv_istore hE'.1 hE'.2.1 hd hl hn rfl kk) hE k
theorem rx_astore_8 (hE : g_E d mi E) {l0 l1 l2 l3 l4 l5 l6 l7 x : Option Value} {t : List (Option Value)} {v : Nat} (hd : decode mi.2.1 pc = .ok (.astore 8, 2)) (hn : 8 < nL) (hc1 : g_c1 l7 = true) (k : RX E nL a b (pc + 2) (l0 :: l1 :: l2 :: l3 :: l4 :: l5 :: l6 :: l7 :: some (.ref v) :: t) st M) : RX E nL a b pc (l0 :: l1 :: l2 :: l3 :: l4 :: l5 :: l6 :: l7 :: x :: t) ((.ref v) :: st) M :=
  rx_store1 (pre := [l0, l1, l2, l3, l4, l5, l6, l7]) (pc' := pc + 2) (fun z hz => by cases hz; exact hc1) (fun _ _ _ _ _ _ _ _ _ _ _ _ _ _ _ _ _ _ hE' hl kk => lv_astore hE'.1 hE'.2.1 hd hl hn rfl kk) hE k
theorem rx_astoreN_8 (hE : g_E d mi E) {l0 l1 l2 l3 l4 l5 l6 l7 x : Option Value} {t : List (Option Value)} (hd : decode mi.2.1 pc = .ok (.astore 8, 2)) (hn : 8 < nL) (hc1 : g_c1 l7 = true) (k : RX E nL a b (pc + 2) (l0 :: l1 :: l2 :: l3 :: l4 :: l5 :: l6 :: l7 :: some .null :: t) st M) : RX E nL a b pc (l0 :: l1 :: l2 :: l3 :: l4 :: l5 :: l6 :: l7 :: x :: t) (.null :: st) M :=
  rx_store1 (pre := [l0, l1, l2, l3, l4, l5, l6, l7]) (pc' := pc + 2) (fun z hz => by cases hz; exact hc1) (fun _ _ _ _ _ _ _ _ _ _ _ _ _ _ _ _ _ _ hE' hl kk => lv_astoreN hE'.1 hE'.2.1 hd hl hn rfl kk) hE k
theorem rx_lstore_8 (hE : g_E d mi E) {l0 l1 l2 l3 l4 l5 l6 l7 x y : Option Value} {t : List (Option Value)} {v : Int64} (hd : decode mi.2.1 pc = .ok (.lstore 8, 2)) (hn : 8 + 1 < nL) (hc1 : g_c1 l7 = true) (k : RX E nL a b (pc + 2) (l0 :: l1 :: l2 :: l3 :: l4 :: l5 :: l6 :: l7 :: some (.long v) :: none :: t) st M) : RX E nL a b pc (l0 :: l1 :: l2 :: l3 :: l4 :: l5 :: l6 :: l7 :: x :: y :: t) ((.long v) :: st) M :=
  rx_store2 (pre := [l0, l1, l2, l3, l4, l5, l6, l7]) (pc' := pc + 2) (fun z hz => by cases hz; exact hc1) (fun _ _ _ _ _ _ _ _ _ _ _ _ _ _ _ _ _ _ hE' hl kk => lv_lstore hE'.1 hE'.2.1 hd hl hn rfl kk) hE k
theorem rx_iinc_8 (hE : g_E d mi E) {l0 l1 l2 l3 l4 l5 l6 l7 : Option Value} {t : List (Option Value)} {n : Int} {x v : Int32} (hd : decode mi.2.1 pc = .ok (.iinc 8 n, 3)) (hv : Int32.ofInt n = v) (hn : 8 < nL) (hc1 : g_c1 l7 = true) (k : RX E nL a b (pc + 3) (l0 :: l1 :: l2 :: l3 :: l4 :: l5 :: l6 :: l7 :: some (.int (x + v)) :: t) st M) : RX E nL a b pc (l0 :: l1 :: l2 :: l3 :: l4 :: l5 :: l6 :: l7 :: some (.int x) :: t) st M := by
  obtain ⟨p, l, e, R, s, m, args, below, meth, c, Q, g⟩ := E
  intro H locs arr cells slots hR hS hL hc hs
  obtain ⟨j, hj⟩ := List.getElem?_of_mem ((g_lv_mem g (l0 :: l1 :: l2 :: l3 :: l4 :: l5 :: l6 :: l7 :: some (.int x) :: t) 0 8 (.int x)).mpr ⟨8, .int x, rfl, rfl, rfl⟩)
  exact lv_iinc (v := x + v) hE.1 hE.2.1 hd hL hj (by rw [hv]) hn rfl (fun ls' hl' => k H locs ls' cells slots hR hS (g_L.set1 (pre := [l0, l1, l2, l3, l4, l5, l6, l7]) (v := .int (x + v)) (fun z hz => by cases hz; exact hc1) hl') hc hs)
theorem rx_istore_9 (hE : g_E d mi E) {l0 l1 l2 l3 l4 l5 l6 l7 l8 x : Option Value} {t : List (Option Value)} {v : Int32} (hd : decode mi.2.1 pc = .ok (.istore 9, 2)) (hn : 9 < nL) (hc1 : g_c1 l8 = true) (k : RX E nL a b (pc + 2) (l0 :: l1 :: l2 :: l3 :: l4 :: l5 :: l6 :: l7 :: l8 :: some (.int v) :: t) st M) : RX E nL a b pc (l0 :: l1 :: l2 :: l3 :: l4 :: l5 :: l6 :: l7 :: l8 :: x :: t) ((.int v) :: st) M :=
  rx_store1 (pre := [l0, l1, l2, l3, l4, l5, l6, l7, l8]) (pc' := pc + 2) (fun z hz => by cases hz; exact hc1) (fun _ _ _ _ _ _ _ _ _ _ _ _ _ _ _ _ _ _ hE' hl kk => lv_istore hE'.1 hE'.2.1 hd hl hn rfl kk) hE k
theorem rx_astore_9 (hE : g_E d mi E) {l0 l1 l2 l3 l4 l5 l6 l7 l8 x : Option Value} {t : List (Option Value)} {v : Nat} (hd : decode mi.2.1 pc = .ok (.astore 9, 2)) (hn : 9 < nL) (hc1 : g_c1 l8 = true) (k : RX E nL a b (pc + 2) (l0 :: l1 :: l2 :: l3 :: l4 :: l5 :: l6 :: l7 :: l8 :: some (.ref v) :: t) st M) : RX E nL a b pc (l0 :: l1 :: l2 :: l3 :: l4 :: l5 :: l6 :: l7 :: l8 :: x :: t) ((.ref v) :: st) M :=
  rx_store1 (pre := [l0, l1, l2, l3, l4, l5, l6, l7, l8]) (pc' := pc + 2) (fun z hz => by cases hz; exact hc1) (fun _ _ _ _ _ _ _ _ _ _ _ _ _ _ _ _ _ _ hE' hl kk => lv_astore hE'.1 hE'.2.1 hd hl hn rfl kk) hE k
theorem rx_astoreN_9 (hE : g_E d mi E) {l0 l1 l2 l3 l4 l5 l6 l7 l8 x : Option Value} {t : List (Option Value)} (hd : decode mi.2.1 pc = .ok (.astore 9, 2)) (hn : 9 < nL) (hc1 : g_c1 l8 = true) (k : RX E nL a b (pc + 2) (l0 :: l1 :: l2 :: l3 :: l4 :: l5 :: l6 :: l7 :: l8 :: some .null :: t) st M) : RX E nL a b pc (l0 :: l1 :: l2 :: l3 :: l4 :: l5 :: l6 :: l7 :: l8 :: x :: t) (.null :: st) M :=
  rx_store1 (pre := [l0, l1, l2, l3, l4, l5, l6, l7, l8]) (pc' := pc + 2) (fun z hz => by cases hz; exact hc1) (fun _ _ _ _ _ _ _ _ _ _ _ _ _ _ _ _ _ _ hE' hl kk => lv_astoreN hE'.1 hE'.2.1 hd hl hn rfl kk) hE k
theorem rx_lstore_9 (hE : g_E d mi E) {l0 l1 l2 l3 l4 l5 l6 l7 l8 x y : Option Value} {t : List (Option Value)} {v : Int64} (hd : decode mi.2.1 pc = .ok (.lstore 9, 2)) (hn : 9 + 1 < nL) (hc1 : g_c1 l8 = true) (k : RX E nL a b (pc + 2) (l0 :: l1 :: l2 :: l3 :: l4 :: l5 :: l6 :: l7 :: l8 :: some (.long v) :: none :: t) st M) : RX E nL a b pc (l0 :: l1 :: l2 :: l3 :: l4 :: l5 :: l6 :: l7 :: l8 :: x :: y :: t) ((.long v) :: st) M :=
  rx_store2 (pre := [l0, l1, l2, l3, l4, l5, l6, l7, l8]) (pc' := pc + 2) (fun z hz => by cases hz; exact hc1) (fun _ _ _ _ _ _ _ _ _ _ _ _ _ _ _ _ _ _ hE' hl kk => lv_lstore hE'.1 hE'.2.1 hd hl hn rfl kk) hE k
theorem rx_iinc_9 (hE : g_E d mi E) {l0 l1 l2 l3 l4 l5 l6 l7 l8 : Option Value} {t : List (Option Value)} {n : Int} {x v : Int32} (hd : decode mi.2.1 pc = .ok (.iinc 9 n, 3)) (hv : Int32.ofInt n = v) (hn : 9 < nL) (hc1 : g_c1 l8 = true) (k : RX E nL a b (pc + 3) (l0 :: l1 :: l2 :: l3 :: l4 :: l5 :: l6 :: l7 :: l8 :: some (.int (x + v)) :: t) st M) : RX E nL a b pc (l0 :: l1 :: l2 :: l3 :: l4 :: l5 :: l6 :: l7 :: l8 :: some (.int x) :: t) st M := by
  obtain ⟨p, l, e, R, s, m, args, below, meth, c, Q, g⟩ := E
  intro H locs arr cells slots hR hS hL hc hs
  obtain ⟨j, hj⟩ := List.getElem?_of_mem ((g_lv_mem g (l0 :: l1 :: l2 :: l3 :: l4 :: l5 :: l6 :: l7 :: l8 :: some (.int x) :: t) 0 9 (.int x)).mpr ⟨9, .int x, rfl, rfl, rfl⟩)
  exact lv_iinc (v := x + v) hE.1 hE.2.1 hd hL hj (by rw [hv]) hn rfl (fun ls' hl' => k H locs ls' cells slots hR hS (g_L.set1 (pre := [l0, l1, l2, l3, l4, l5, l6, l7, l8]) (v := .int (x + v)) (fun z hz => by cases hz; exact hc1) hl') hc hs)
theorem rx_istore_10 (hE : g_E d mi E) {l0 l1 l2 l3 l4 l5 l6 l7 l8 l9 x : Option Value} {t : List (Option Value)} {v : Int32} (hd : decode mi.2.1 pc = .ok (.istore 10, 2)) (hn : 10 < nL) (hc1 : g_c1 l9 = true) (k : RX E nL a b (pc + 2) (l0 :: l1 :: l2 :: l3 :: l4 :: l5 :: l6 :: l7 :: l8 :: l9 :: some (.int v) :: t) st M) : RX E nL a b pc (l0 :: l1 :: l2 :: l3 :: l4 :: l5 :: l6 :: l7 :: l8 :: l9 :: x :: t) ((.int v) :: st) M :=
  rx_store1 (pre := [l0, l1, l2, l3, l4, l5, l6, l7, l8, l9]) (pc' := pc + 2) (fun z hz => by cases hz; exact hc1) (fun _ _ _ _ _ _ _ _ _ _ _ _ _ _ _ _ _ _ hE' hl kk => lv_istore hE'.1 hE'.2.1 hd hl hn rfl kk) hE k
theorem rx_astore_10 (hE : g_E d mi E) {l0 l1 l2 l3 l4 l5 l6 l7 l8 l9 x : Option Value} {t : List (Option Value)} {v : Nat} (hd : decode mi.2.1 pc = .ok (.astore 10, 2)) (hn : 10 < nL) (hc1 : g_c1 l9 = true) (k : RX E nL a b (pc + 2) (l0 :: l1 :: l2 :: l3 :: l4 :: l5 :: l6 :: l7 :: l8 :: l9 :: some (.ref v) :: t) st M) : RX E nL a b pc (l0 :: l1 :: l2 :: l3 :: l4 :: l5 :: l6 :: l7 :: l8 :: l9 :: x :: t) ((.ref v) :: st) M :=
  rx_store1 (pre := [l0, l1, l2, l3, l4, l5, l6, l7, l8, l9]) (pc' := pc + 2) (fun z hz => by cases hz; exact hc1) (fun _ _ _ _ _ _ _ _ _ _ _ _ _ _ _ _ _ _ hE' hl kk => lv_astore hE'.1 hE'.2.1 hd hl hn rfl kk) hE k
theorem rx_astoreN_10 (hE : g_E d mi E) {l0 l1 l2 l3 l4 l5 l6 l7 l8 l9 x : Option Value} {t : List (Option Value)} (hd : decode mi.2.1 pc = .ok (.astore 10, 2)) (hn : 10 < nL) (hc1 : g_c1 l9 = true) (k : RX E nL a b (pc + 2) (l0 :: l1 :: l2 :: l3 :: l4 :: l5 :: l6 :: l7 :: l8 :: l9 :: some .null :: t) st M) : RX E nL a b pc (l0 :: l1 :: l2 :: l3 :: l4 :: l5 :: l6 :: l7 :: l8 :: l9 :: x :: t) (.null :: st) M :=
  rx_store1 (pre := [l0, l1, l2, l3, l4, l5, l6, l7, l8, l9]) (pc' := pc + 2) (fun z hz => by cases hz; exact hc1) (fun _ _ _ _ _ _ _ _ _ _ _ _ _ _ _ _ _ _ hE' hl kk => lv_astoreN hE'.1 hE'.2.1 hd hl hn rfl kk) hE k
theorem rx_lstore_10 (hE : g_E d mi E) {l0 l1 l2 l3 l4 l5 l6 l7 l8 l9 x y : Option Value} {t : List (Option Value)} {v : Int64} (hd : decode mi.2.1 pc = .ok (.lstore 10, 2)) (hn : 10 + 1 < nL) (hc1 : g_c1 l9 = true) (k : RX E nL a b (pc + 2) (l0 :: l1 :: l2 :: l3 :: l4 :: l5 :: l6 :: l7 :: l8 :: l9 :: some (.long v) :: none :: t) st M) : RX E nL a b pc (l0 :: l1 :: l2 :: l3 :: l4 :: l5 :: l6 :: l7 :: l8 :: l9 :: x :: y :: t) ((.long v) :: st) M :=
  rx_store2 (pre := [l0, l1, l2, l3, l4, l5, l6, l7, l8, l9]) (pc' := pc + 2) (fun z hz => by cases hz; exact hc1) (fun _ _ _ _ _ _ _ _ _ _ _ _ _ _ _ _ _ _ hE' hl kk => lv_lstore hE'.1 hE'.2.1 hd hl hn rfl kk) hE k
theorem rx_iinc_10 (hE : g_E d mi E) {l0 l1 l2 l3 l4 l5 l6 l7 l8 l9 : Option Value} {t : List (Option Value)} {n : Int} {x v : Int32} (hd : decode mi.2.1 pc = .ok (.iinc 10 n, 3)) (hv : Int32.ofInt n = v) (hn : 10 < nL) (hc1 : g_c1 l9 = true) (k : RX E nL a b (pc + 3) (l0 :: l1 :: l2 :: l3 :: l4 :: l5 :: l6 :: l7 :: l8 :: l9 :: some (.int (x + v)) :: t) st M) : RX E nL a b pc (l0 :: l1 :: l2 :: l3 :: l4 :: l5 :: l6 :: l7 :: l8 :: l9 :: some (.int x) :: t) st M := by
  obtain ⟨p, l, e, R, s, m, args, below, meth, c, Q, g⟩ := E
  intro H locs arr cells slots hR hS hL hc hs
  obtain ⟨j, hj⟩ := List.getElem?_of_mem ((g_lv_mem g (l0 :: l1 :: l2 :: l3 :: l4 :: l5 :: l6 :: l7 :: l8 :: l9 :: some (.int x) :: t) 0 10 (.int x)).mpr ⟨10, .int x, rfl, rfl, rfl⟩)
  exact lv_iinc (v := x + v) hE.1 hE.2.1 hd hL hj (by rw [hv]) hn rfl (fun ls' hl' => k H locs ls' cells slots hR hS (g_L.set1 (pre := [l0, l1, l2, l3, l4, l5, l6, l7, l8, l9]) (v := .int (x + v)) (fun z hz => by cases hz; exact hc1) hl') hc hs)
theorem rx_istore_11 (hE : g_E d mi E) {l0 l1 l2 l3 l4 l5 l6 l7 l8 l9 l10 x : Option Value} {t : List (Option Value)} {v : Int32} (hd : decode mi.2.1 pc = .ok (.istore 11, 2)) (hn : 11 < nL) (hc1 : g_c1 l10 = true) (k : RX E nL a b (pc + 2) (l0 :: l1 :: l2 :: l3 :: l4 :: l5 :: l6 :: l7 :: l8 :: l9 :: l10 :: some (.int v) :: t) st M) : RX E nL a b pc (l0 :: l1 :: l2 :: l3 :: l4 :: l5 :: l6 :: l7 :: l8 :: l9 :: l10 :: x :: t) ((.int v) :: st) M :=
  rx_store1 (pre := [l0, l1, l2, l3, l4, l5, l6, l7, l8, l9, l10]) (pc' := pc + 2) (fun z hz => by cases hz; exact hc1) (fun _ _ _ _ _ _ _ _ _ _ _ _ _ _ _ _ _ _ hE' hl kk => lv_istore hE'.1 hE'.2.1 hd hl hn rfl kk) hE k
theorem rx_astore_11 (hE : g_E d mi E) {l0 l1 l2 l3 l4 l5 l6 l7 l8 l9 l10 x : Option Value} {t : List (Option Value)} {v : Nat} (hd : decode mi.2.1 pc = .ok (.astore 11, 2)) (hn : 11 < nL) (hc1 : g_c1 l10 = true) (k : RX E nL a b (pc + 2) (l0 :: l1 :: l2 :: l3 :: l4 :: l5 :: l6 :: l7 :: l8 :: l9 :: l10 :: some (.ref v) :: t) st M) : RX E nL a b pc (l0 :: l1 :: l2 :: l3 :: l4 :: l5 :: l6 :: l7 :: l8 :: l9 :: l10 :: x :: t) ((.ref v) :: st) M :=
  rx_store1 (pre := [l0, l1, l2, l3, l4, l5, l6, l7, l8, l9, l10]) (pc' := pc + 2) (fun z hz => by cases hz; exact hc1) (fun _ _ _ _ _ _ _ _ _ _ _ _ _ _ _ _ _ _ hE' hl kk => lv_astore hE'.1 hE'.2.1 hd hl hn rfl kk) hE k
theorem rx_astoreN_11 (hE : g_E d mi E) {l0 l1 l2 l3 l4 l5 l6 l7 l8 l9 l10 x : Option Value} {t : List (Option Value)} (hd : decode mi.2.1 pc = .ok (.astore 11, 2)) (hn : 11 < nL) (hc1 : g_c1 l10 = true) (k : RX E nL a b (pc + 2) (l0 :: l1 :: l2 :: l3 :: l4 :: l5 :: l6 :: l7 :: l8 :: l9 :: l10 :: some .null :: t) st M) : RX E nL a b pc (l0 :: l1 :: l2 :: l3 :: l4 :: l5 :: l6 :: l7 :: l8 :: l9 :: l10 :: x :: t) (.null :: st) M :=
  rx_store1 (pre := [l0, l1, l2, l3, l4, l5, l6, l7, l8, l9, l10]) (pc' := pc + 2) (fun z hz => by cases hz; exact hc1) (fun _ _ _ _ _ _ _ _ _ _ _ _ _ _ _ _ _ _ hE' hl kk => lv_astoreN hE'.1 hE'.2.1 hd hl hn rfl kk) hE k
theorem rx_lstore_11 (hE : g_E d mi E) {l0 l1 l2 l3 l4 l5 l6 l7 l8 l9 l10 x y : Option Value} {t : List (Option Value)} {v : Int64} (hd : decode mi.2.1 pc = .ok (.lstore 11, 2)) (hn : 11 + 1 < nL) (hc1 : g_c1 l10 = true) (k : RX E nL a b (pc + 2) (l0 :: l1 :: l2 :: l3 :: l4 :: l5 :: l6 :: l7 :: l8 :: l9 :: l10 :: some (.long v) :: none :: t) st M) : RX E nL a b pc (l0 :: l1 :: l2 :: l3 :: l4 :: l5 :: l6 :: l7 :: l8 :: l9 :: l10 :: x :: y :: t) ((.long v) :: st) M :=
  rx_store2 (pre := [l0, l1, l2, l3, l4, l5, l6, l7, l8, l9, l10]) (pc' := pc + 2) (fun z hz => by cases hz; exact hc1) (fun _ _ _ _ _ _ _ _ _ _ _ _ _ _ _ _ _ _ hE' hl kk => lv_lstore hE'.1 hE'.2.1 hd hl hn rfl kk) hE k
theorem rx_iinc_11 (hE : g_E d mi E) {l0 l1 l2 l3 l4 l5 l6 l7 l8 l9 l10 : Option Value} {t : List (Option Value)} {n : Int} {x v : Int32} (hd : decode mi.2.1 pc = .ok (.iinc 11 n, 3)) (hv : Int32.ofInt n = v) (hn : 11 < nL) (hc1 : g_c1 l10 = true) (k : RX E nL a b (pc + 3) (l0 :: l1 :: l2 :: l3 :: l4 :: l5 :: l6 :: l7 :: l8 :: l9 :: l10 :: some (.int (x + v)) :: t) st M) : RX E nL a b pc (l0 :: l1 :: l2 :: l3 :: l4 :: l5 :: l6 :: l7 :: l8 :: l9 :: l10 :: some (.int x) :: t) st M := by
  obtain ⟨p, l, e, R, s, m, args, below, meth, c, Q, g⟩ := E
  intro H locs arr cells slots hR hS hL hc hs
  obtain ⟨j, hj⟩ := List.getElem?_of_mem ((g_lv_mem g (l0 :: l1 :: l2 :: l3 :: l4 :: l5 :: l6 :: l7 :: l8 :: l9 :: l10 :: some (.int x) :: t) 0 11 (.int x)).mpr ⟨11, .int x, rfl, rfl, rfl⟩)
  exact lv_iinc (v := x + v) hE.1 hE.2.1 hd hL hj (by rw [hv]) hn rfl (fun ls' hl' => k H locs ls' cells slots hR hS (g_L.set1 (pre := [l0, l1, l2, l3, l4, l5, l6, l7, l8, l9, l10]) (v := .int (x + v)) (fun z hz => by cases hz; exact hc1) hl') hc hs)
theorem rx_istore_12 (hE : g_E d mi E) {l0 l1 l2 l3 l4 l5 l6 l7 l8 l9 l10 l11 x : Option Value} {t : List (Option Value)} {v : Int32} (hd : decode mi.2.1 pc = .ok (.istore 12, 2)) (hn : 12 < nL) (hc1 : g_c1 l11 = true) (k : RX E nL a b (pc + 2) (l0 :: l1 :: l2 :: l3 :: l4 :: l5 :: l6 :: l7 :: l8 :: l9 :: l10 :: l11 :: some (.int v) :: t) st M) : RX E nL a b pc (l0 :: l1 :: l2 :: l3 :: l4 :: l5 :: l6 :: l7 :: l8 :: l9 :: l10 :: l11 :: x :: t) ((.int v) :: st) M :=
  rx_store1 (pre := [l0, l1, l2, l3, l4, l5, l6, l7, l8, l9, l10, l11]) (pc' := pc + 2) (fun z hz => by cases hz; exact hc1) (fun _ _ _ _ _ _ _ _ _ _ _ _ _ _ _ _ _ _ hE' hl kk => lv_istore hE'.1 hE'.2.1 hd hl hn rfl kk) hE k
theorem rx_astore_12 (hE : g_E d mi E) {l0 l1 l2 l3 l4 l5 l6 l7 l8 l9 l10 l11 x : Option Value} {t : List (Option Value)} {v : Nat} (hd : decode mi.2.1 pc = .ok (.astore 12, 2)) (hn : 12 < nL) (hc1 : g_c1 l11 = true) (k : RX E nL a b (pc + 2) (l0 :: l1 :: l2 :: l3 :: l4 :: l5 :: l6 :: l7 :: l8 :: l9 :: l10 :: l11 :: some (.ref v) :: t) st M) : RX E nL a b pc (l0 :: l1 :: l2 :: l3 :: l4 :: l5 :: l6 :: l7 :: l8 :: l9 :: l10 :: l11 :: x :: t) ((.ref v) :: st) M :=
  rx_store1 (pre := [l0, l1, l2, l3, l4, l5, l6, l7, l8, l9, l10, l11]) (pc' := pc + 2) (fun z hz => by cases hz; exact hc1) (fun _ _ _ _ _ _ _ _ _ _ _ _ _ _ _ _ _ _ hE' hl kk => lv_astore hE'.1 hE'.2.1 hd hl hn rfl kk) hE k
theorem rx_astoreN_12 (hE : g_E d mi E) {l0 l1 l2 l3 l4 l5 l6 l7 l8 l9 l10 l11 x : Option Value} {t : List (Option Value)} (hd : decode mi.2.1 pc = .ok (.astore 12, 2)) (hn : 12 < nL) (hc1 : g_c1 l11 = true) (k : RX E nL a b (pc + 2) (l0 :: l1 :: l2 :: l3 :: l4 :: l5 :: l6 :: l7 :: l8 :: l9 :: l10 :: l11 :: some .null :: t) st M) : RX E nL a b pc (l0 :: l1 :: l2 :: l3 :: l4 :: l5 :: l6 :: l7 :: l8 :: l9 :: l10 :: l11 :: x :: t) (.null :: st) M :=
  rx_store1 (pre := [l0, l1, l2, l3, l4, l5, l6, l7, l8, l9, l10, l11]) (pc' := pc + 2) (fun z hz => by cases hz; exact hc1) (fun _ _ _ _ _ _ _ _ _ _ _ _ _ _ _ _ _ _ hE' hl kk => lv_astoreN hE'.1 hE'.2.1 hd hl hn rfl kk) hE k
theorem rx_lstore_12 (hE : g_E d mi E) {l0 l1 l2 l3 l4 l5 l6 l7 l8 l9 l10 l11 x y : Option Value} {t : List (Option Value)} {v : Int64} (hd : decode mi.2.1 pc = .ok (.lstore 12, 2)) (hn : 12 + 1 < nL) (hc1 : g_c1 l11 = true) (k : RX E nL a b (pc + 2) (l0 :: l1 :: l2 :: l3 :: l4 :: l5 :: l6 :: l7 :: l8 :: l9 :: l10 :: l11 :: some (.long v) :: none :: t) st M) : RX E nL a b pc (l0 :: l1 :: l2 :: l3 :: l4 :: l5 :: l6 :: l7 :: l8 :: l9 :: l10 :: l11 :: x :: y :: t) ((.long v) :: st) M :=
  rx_store2 (pre := [l0, l1, l2, l3, l4, l5, l6, l7, l8, l9, l10, l11]) (pc' := pc + 2) (fun z hz => by cases hz; exact hc1) (fun _ _ _ _ _ _ _ _ _ _ _ _ _ _ _ _ _ _ hE' hl kk => lv_lstore hE'.1 hE'.2.1 hd hl hn rfl kk) hE k
theorem rx_iinc_12 (hE : g_E d mi E) {l0 l1 l2 l3 l4 l5 l6 l7 l8 l9 l10 l11 : Option Value} {t : List (Option Value)} {n : Int} {x v : Int32} (hd : decode mi.2.1 pc = .ok (.iinc 12 n, 3)) (hv : Int32.ofInt n = v) (hn : 12 < nL) (hc1 : g_c1 l11 = true) (k : RX E nL a b (pc + 3) (l0 :: l1 :: l2 :: l3 :: l4 :: l5 :: l6 :: l7 :: l8 :: l9 :: l10 :: l11 :: some (.int (x + v)) :: t) st M) : RX E nL a b pc (l0 :: l1 :: l2 :: l3 :: l4 :: l5 :: l6 :: l7 :: l8 :: l9 :: l10 :: l11 :: some (.int x) :: t) st M := by
  obtain ⟨p, l, e, R, s, m, args, below, meth, c, Q, g⟩ := E
  intro H locs arr cells slots hR hS hL hc hs
  obtain ⟨j, hj⟩ := List.getElem?_of_mem ((g_lv_mem g (l0 :: l1 :: l2 :: l3 :: l4 :: l5 :: l6 :: l7 :: l8 :: l9 :: l10 :: l11 :: some (.int x) :: t) 0 12 (.int x)).mpr ⟨12, .int x, rfl, rfl, rfl⟩)
  exact lv_iinc (v := x + v) hE.1 hE.2.1 hd hL hj (by rw [hv]) hn rfl (fun ls' hl' => k H locs ls' cells slots hR hS (g_L.set1 (pre := [l0, l1, l2, l3, l4, l5, l6, l7, l8, l9, l10, l11]) (v := .int (x + v)) (fun z hz => by cases hz; exact hc1) hl') hc hs)
theorem rx_istore_13 (hE : g_E d mi E) {l0 l1 l2 l3 l4 l5 l6 l7 l8 l9 l10 l11 l12 x : Option Value} {t : List (Option Value)} {v : Int32} (hd : decode mi.2.1 pc = .ok (.istore 13, 2)) (hn : 13 < nL) (hc1 : g_c1 l12 = true) (k : RX E nL a b (pc + 2) (l0 :: l1 :: l2 :: l3 :: l4 :: l5 :: l6 :: l7 :: l8 :: l9 :: l10 :: l11 :: l12 :: some (.int v) :: t) st M) : RX E nL a b pc (l0 :: l1 :: l2 :: l3 :: l4 :: l5 :: l6 :: l7 :: l8 :: l9 :: l10 :: l11 :: l12 :: x :: t) ((.int v) :: st) M :=
  rx_store1 (pre := [l0, l1, l2, l3, l4, l5, l6, l7, l8, l9, l10, l11, l12]) (pc' := pc + 2) (fun z hz => by cases hz; exact hc1) (fun _ _ _ _ _ _ _ _ _ _ _ _ _ _ _ _ _ _ hE' hl kk => lv_istore hE'.1 hE'.2.1 hd hl hn rfl kk) hE k
theorem rx_astore_13 (hE : g_E d mi E) {l0 l1 l2 l3 l4 l5 l6 l7 l8 l9 l10 l11 l12 x : Option Value} {t : List (Option Value)} {v : Nat} (hd : decode mi.2.1 pc = .ok (.astore 13, 2)) (hn : 13 < nL) (hc1 : g_c1 l12 = true) (k : RX E nL a b (pc + 2) (l0 :: l1 :: l2 :: l3 :: l4 :: l5 :: l6 :: l7 :: l8 :: l9 :: l10 :: l11 :: l12 :: some (.ref v) :: t) st M) : RX E nL a b pc (l0 :: l1 :: l2 :: l3 :: l4 :: l5 :: l6 :: l7 :: l8 :: l9 :: l10 :: l11 :: l12 :: x :: t) ((.ref v) :: st) M :=
  rx_store1 (pre := [l0, l1, l2, l3, l4, l5, l6, l7, l8, l9, l10, l11, l12]) (pc' := pc + 2) (fun z hz => by cases hz; exact hc1) (fun _ _ _ _ _ _ _ _ _ _ _ _ _ _ _ _ _ _ hE' hl kk => lv_astore hE'.1 hE'.2.1 hd hl hn rfl kk) hE k
theorem rx_astoreN_13 (hE : g_E d mi E) {l0 l1 l2 l3 l4 l5 l6 l7 l8 l9 l10 l11 l12 x : Option Value} {t : List (Option Value)} (hd : decode mi.2.1 pc = .ok (.astore 13, 2)) (hn : 13 < nL) (hc1 : g_c1 l12 = true) (k : RX E nL a b (pc + 2) (l0 :: l1 :: l2 :: l3 :: l4 :: l5 :: l6 :: l7 :: l8 :: l9 :: l10 :: l11 :: l12 :: some .null :: t) st M) : RX E nL a b pc (l0 :: l1 :: l2 :: l3 :: l4 :: l5 :: l6 :: l7 :: l8 :: l9 :: l10 :: l11 :: l12 :: x :: t) (.null :: st) M :=
  rx_store1 (pre := [l0, l1, l2, l3, l4, l5, l6, l7, l8, l9, l10, l11, l12]) (pc' := pc + 2) (fun z hz => by cases hz; exact hc1) (fun _ _ _ _ _ _ _ _ _ _ _ _ _ _ _ _ _ _ hE' hl kk => lv_astoreN hE'.1 hE'.2.1 hd hl hn rfl kk) hE k
theorem rx_lstore_13 (hE : g_E d mi E) {l0 l1 l2 l3 l4 l5 l6 l7 l8 l9 l10 l11 l12 x y : Option Value} {t : List (Option Value)} {v : Int64} (hd : decode mi.2.1 pc = .ok (.lstore 13, 2)) (hn : 13 + 1 < nL) (hc1 : g_c1 l12 = true) (k : RX E nL a b (pc + 2) (l0 :: l1 :: l2 :: l3 :: l4 :: l5 :: l6 :: l7 :: l8 :: l9 :: l10 :: l11 :: l12 :: some (.long v) :: none :: t) st M) : RX E nL a b pc (l0 :: l1 :: l2 :: l3 :: l4 :: l5 :: l6 :: l7 :: l8 :: l9 :: l10 :: l11 :: l12 :: x :: y :: t) ((.long v) :: st) M :=
  rx_store2 (pre := [l0, l1, l2, l3, l4, l5, l6, l7, l8, l9, l10, l11, l12]) (pc' := pc + 2) (fun z hz => by cases hz; exact hc1) (fun _ _ _ _ _ _ _ _ _ _ _ _ _ _ _ _ _ _ hE' hl kk => lv_lstore hE'.1 hE'.2.1 hd hl hn rfl kk) hE k
theorem rx_iinc_13 (hE : g_E d mi E) {l0 l1 l2 l3 l4 l5 l6 l7 l8 l9 l10 l11 l12 : Option Value} {t : List (Option Value)} {n : Int} {x v : Int32} (hd : decode mi.2.1 pc = .ok (.iinc 13 n, 3)) (hv : Int32.ofInt n = v) (hn : 13 < nL) (hc1 : g_c1 l12 = true) (k : RX E nL a b (pc + 3) (l0 :: l1 :: l2 :: l3 :: l4 :: l5 :: l6 :: l7 :: l8 :: l9 :: l10 :: l11 :: l12 :: some (.int (x + v)) :: t) st M) : RX E nL a b pc (l0 :: l1 :: l2 :: l3 :: l4 :: l5 :: l6 :: l7 :: l8 :: l9 :: l10 :: l11 :: l12 :: some (.int x) :: t) st M := by
  obtain ⟨p, l, e, R, s, m, args, below, meth, c, Q, g⟩ := E
  intro H locs arr cells slots hR hS hL hc hs
  obtain ⟨j, hj⟩ := List.getElem?_of_mem ((g_lv_mem g (l0 :: l1 :: l2 :: l3 :: l4 :: l5 :: l6 :: l7 :: l8 :: l9 :: l10 :: l11 :: l12 :: some (.int x) :: t) 0 13 (.int x)).mpr ⟨13, .int x, rfl, rfl, rfl⟩)
  exact lv_iinc (v := x + v) hE.1 hE.2.1 hd hL hj (by rw [hv]) hn rfl (fun ls' hl' => k H locs ls' cells slots hR hS (g_L.set1 (pre := [l0, l1, l2, l3, l4, l5, l6, l7, l8, l9, l10, l11, l12]) (v := .int (x + v)) (fun z hz => by cases hz; exact hc1) hl') hc hs)
theorem rx_istore_14 (hE : g_E d mi E) {l0 l1 l2 l3 l4 l5 l6 l7 l8 l9 l10 l11 l12 l13 x : Option Value} {t : List (Option Value)} {v : Int32} (hd : decode mi.2.1 pc = .ok (.istore 14, 2)) (hn : 14 < nL) (hc1 : g_c1 l13 = true) (k : RX E nL a b (pc + 2) (l0 :: l1 :: l2 :: l3 :: l4 :: l5 :: l6 :: l7 :: l8 :: l9 :: l10 :: l11 :: l12 :: l13 :: some (.int v) :: t) st M) : RX E nL a b pc (l0 :: l1 :: l2 :: l3 :: l4 :: l5 :: l6 :: l7 :: l8 :: l9 :: l10 :: l11 :: l12 :: l13 :: x :: t) ((.int v) :: st) M :=
  rx_store1 (pre := [l0, l1, l2, l3, l4, l5, l6, l7, l8, l9, l10, l11, l12, l13]) (pc' := pc + 2) (fun z hz => by cases hz; exact hc1) (fun _ _ _ _ _ _ _ _ _ _ _ _ _ _ _ _ _ _ hE' hl kk => lv_istore hE'.1 hE'.2.1 hd hl hn rfl kk) hE k
theorem rx_astore_14 (hE : g_E d mi E) {l0 l1 l2 l3 l4 l5 l6 l7 l8 l9 l10 l11 l12 l13 x : Option Value} {t : List (Option Value)} {v : Nat} (hd : decode mi.2.1 pc = .ok (.astore 14, 2)) (hn : 14 < nL) (hc1 : g_c1 l13 = true) (k : RX E nL a b (pc + 2) (l0 :: l1 :: l2 :: l3 :: l4 :: l5 :: l6 :: l7 :: l8 :: l9 :: l10 :: l11 :: l12 :: l13 :: some (.ref v) :: t) st M) : RX E nL a b pc (l0 :: l1 :: l2 :: l3 :: l4 :: l5 :: l6 :: l7 :: l8 :: l9 :: l10 :: l11 :: l12 :: l13 :: x :: t) ((.ref v) :: st) M :=
  rx_store1 (pre := [l0, l1, l2, l3, l4, l5, l6, l7, l8, l9, l10, l11, l12, l13]) (pc' := pc + 2) (fun z hz => by cases hz; exact hc1) (fun _ _ _ _ _ _ _ _ _ _ _ _ _ _ _ _ _ _ hE' hl kk => lv_astore hE'.1 hE'.2.1 hd hl hn rfl kk) hE k
theorem rx_astoreN_14 (hE : g_E d mi E) {l0 l1 l2 l3 l4 l5 l6 l7 l8 l9 l10 l11 l12 l13 x : Option Value} {t : List (Option Value)} (hd : decode mi.2.1 pc = .ok (.astore 14, 2)) (hn : 14 < nL) (hc1 : g_c1 l13 = true) (k : RX E nL a b (pc + 2) (l0 :: l1 :: l2 :: l3 :: l4 :: l5 :: l6 :: l7 :: l8 :: l9 :: l10 :: l11 :: l12 :: l13 :: some .null :: t) st M) : RX E nL a b pc (l0 :: l1 :: l2 :: l3 :: l4 :: l5 :: l6 :: l7 :: l8 :: l9 :: l10 :: l11 :: l12 :: l13 :: x :: t) (.null :: st) M :=
  rx_store1 (pre := [l0, l1, l2, l3, l4, l5, l6, l7, l8, l9, l10, l11, l12, l13]) (pc' := pc + 2) (fun z hz => by cases hz; exact hc1) (fun _ _ _ _ _ _ _ _ _ _ _ _ _ _ _ _ _ _ hE' hl kk => lv_astoreN hE'.1 hE'.2.1 hd hl hn rfl kk) hE k
theorem rx_lstore_14 (hE : g_E d mi E) {l0 l1 l2 l3 l4 l5 l6 l7 l8 l9 l10 l11 l12 l13 x y : Option Value} {t : List (Option Value)} {v : Int64} (hd : decode mi.2.1 pc = .ok (.lstore 14, 2)) (hn : 14 + 1 < nL) (hc1 : g_c1 l13 = true) (k : RX E nL a b (pc + 2) (l0 :: l1 :: l2 :: l3 :: l4 :: l5 :: l6 :: l7 :: l8 :: l9 :: l10 :: l11 :: l12 :: l13 :: some (.long v) :: none :: t) st M) : RX E nL a b pc (l0 :: l1 :: l2 :: l3 :: l4 :: l5 :: l6 :: l7 :: l8 :: l9 :: l10 :: l11 :: l12 :: l13 :: x :: y :: t) ((.long v) :: st) M :=
  rx_store2 (pre := [l0, l1, l2, l3, l4, l5, l6, l7, l8, l9, l10, l11, l12, l13]) (pc' := pc + 2) (fun z hz => by cases hz; exact hc1) (fun _ _ _ _ _ _ _ _ _ _ _ _ _ _ _ _ _ _ hE' hl kk => lv_lstore hE'.1 hE'.2.1 hd hl hn rfl kk) hE k
theorem rx_iinc_14 (hE : g_E d mi E) {l0 l1 l2 l3 l4 l5 l6 l7 l8 l9 l10 l11 l12 l13 : Option Value} {t : List (Option Value)} {n : Int} {x v : Int32} (hd : decode mi.2.1 pc = .ok (.iinc 14 n, 3)) (hv : Int32.ofInt n = v) (hn : 14 < nL) (hc1 : g_c1 l13 = true) (k : RX E nL a b (pc + 3) (l0 :: l1 :: l2 :: l3 :: l4 :: l5 :: l6 :: l7 :: l8 :: l9 :: l10 :: l11 :: l12 :: l13 :: some (.int (x + v)) :: t) st M) : RX E nL a b pc (l0 :: l1 :: l2 :: l3 :: l4 :: l5 :: l6 :: l7 :: l8 :: l9 :: l10 :: l11 :: l12 :: l13 :: some (.int x) :: t) st M := by
  obtain ⟨p, l, e, R, s, m, args, below, meth, c, Q, g⟩ := E
  intro H locs arr cells slots hR hS hL hc hs
  obtain ⟨j, hj⟩ := List.getElem?_of_mem ((g_lv_mem g (l0 :: l1 :: l2 :: l3 :: l4 :: l5 :: l6 :: l7 :: l8 :: l9 :: l10 :: l11 :: l12 :: l13 :: some (.int x) :: t) 0 14 (.int x)).mpr ⟨14, .int x, rfl, rfl, rfl⟩)
  exact lv_iinc (v := x + v) hE.1 hE.2.1 hd hL hj (by rw [hv]) hn rfl (fun ls' hl' => k H locs ls' cells slots hR hS (g_L.set1 (pre := [l0, l1, l2, l3, l4, l5, l6, l7, l8, l9, l10, l11, l12, l13]) (v := .int (x + v)) (fun z hz => by cases hz; exact hc1) hl') hc hs)
theorem rx_istore_15 (hE : g_E d mi E) {l0 l1 l2 l3 l4 l5 l6 l7 l8 l9 l10 l11 l12 l13 l14 x : Option Value} {t : List (Option Value)} {v : Int32} (hd : decode mi.2.1 pc = .ok (.istore 15, 2)) (hn : 15 < nL) (hc1 : g_c1 l14 = true) (k : RX E nL a b (pc + 2) (l0 :: l1 :: l2 :: l3 :: l4 :: l5 :: l6 :: l7 :: l8 :: l9 :: l10 :: l11 :: l12 :: l13 :: l14 :: some (.int v) :: t) st M) : RX E nL a b pc (l0 :: l1 :: l2 :: l3 :: l4 :: l5 :: l6 :: l7 :: l8 :: l9 :: l10 :: l11 :: l12 :: l13 :: l14 :: x :: t) ((.int v) :: st) M :=
  rx_store1 (pre := [l0, l1, l2, l3, l4, l5, l6, l7, l8, l9, l10, l11, l12, l13, l14]) (pc' := pc + 2) (fun z hz => by cases hz; exact hc1) (fun _ _ _ _ _ _ _ _ _ _ _ _ _ _ _ _ _ _ hE' hl kk => lv_istore hE'.1 hE'.2.1 hd hl hn rfl kk) hE k
theorem rx_astore_15 (hE : g_E d mi E) {l0 l1 l2 l3 l4 l5 l6 l7 l8 l9 l10 l11 l12 l13 l14 x : Option Value} {t : List (Option Value)} {v : Nat} (hd : decode mi.2.1 pc = .ok (.astore 15, 2)) (hn : 15 < nL) (hc1 : g_c1 l14 = true) (k : RX E nL a b (pc + 2) (l0 :: l1 :: l2 :: l3 :: l4 :: l5 :: l6 :: l7 :: l8 :: l9 :: l10 :: l11 :: l12 :: l13 :: l14 :: some (.ref v) :: t) st M) : RX E nL a b pc (l0 :: l1 :: l2 :: l3 :: l4 :: l5 :: l6 :: l7 :: l8 :: l9 :: l10 :: l11 :: l12 :: l13 :: l14 :: x :: t) ((.ref v) :: st) M :=
  rx_store1 (pre := [l0, l1, l2, l3, l4, l5, l6, l7, l8, l9, l10, l11, l12, l13, l14]) (pc' := pc + 2) (fun z hz => by cases hz; exact hc1) (fun _ _ _ _ _ _ _ _ _ _ _ _ _ _ _ _ _ _ hE' hl kk => lv_astore hE'.1 hE'.2.1 hd hl hn rfl kk) hE k
theorem rx_astoreN_15 (hE : g_E d mi E) {l0 l1 l2 l3 l4 l5 l6 l7 l8 l9 l10 l11 l12 l13 l14 x : Option Value} {t : List (Option Value)} (hd : decode mi.2.1 pc = .ok (.astore 15, 2)) (hn : 15 < nL) (hc1 : g_c1 l14 = true) (k : RX E nL a b (pc + 2) (l0 :: l1 :: l2 :: l3 :: l4 :: l5 :: l6 :: l7 :: l8 :: l9 :: l10 :: l11 :: l12 :: l13 :: l14 :: some .null :: t) st M) : RX E nL a b pc (l0 :: l1 :: l2 :: l3 :: l4 :: l5 :: l6 :: l7 :: l8 :: l9 :: l10 :: l11 :: l12 :: l13 :: l14 :: x :: t) (.null :: st) M :=
  rx_store1 (pre := [l0, l1, l2, l3, l4, l5, l6, l7, l8, l9, l10, l11, l12, l13, l14]) (pc' := pc + 2) (fun z hz => by cases hz; exact hc1) (fun _ _ _ _ _ _ _ _ _ _ _ _ _ _ _ _ _ _ hE' hl kk => lv_astoreN hE'.1 hE'.2.1 hd hl hn rfl kk) hE k
theorem rx_lstore_15 (hE : g_E d mi E) {l0 l1 l2 l3 l4 l5 l6 l7 l8 l9 l10 l11 l12 l13 l14 x y : Option Value} {t : List (Option Value)} {v : Int64} (hd : decode mi.2.1 pc = .ok (.lstore 15, 2)) (hn : 15 + 1 < nL) (hc1 : g_c1 l14 = true) (k : RX E nL a b (pc + 2) (l0 :: l1 :: l2 :: l3 :: l4 :: l5 :: l6 :: l7 :: l8 :: l9 :: l10 :: l11 :: l12 :: l13 :: l14 :: some (.long v) :: none :: t) st M) : RX E nL a b pc (l0 :: l1 :: l2 :: l3 :: l4 :: l5 :: l6 :: l7 :: l8 :: l9 :: l10 :: l11 :: l12 :: l13 :: l14 :: x :: y :: t) ((.long v) :: st) M :=
  rx_store2 (pre := [l0, l1, l2, l3, l4, l5, l6, l7, l8, l9, l10, l11, l12, l13, l14]) (pc' := pc + 2) (fun z hz => by cases hz; exact hc1) (fun _ _ _ _ _ _ _ _ _ _ _ _ _ _ _ _ _ _ hE' hl kk => lv_lstore hE'.1 hE'.2.1 hd hl hn rfl kk) hE k
theorem rx_iinc_15 (hE : g_E d mi E) {l0 l1 l2 l3 l4 l5 l6 l7 l8 l9 l10 l11 l12 l13 l14 : Option Value} {t : List (Option Value)} {n : Int} {x v : Int32} (hd : decode mi.2.1 pc = .ok (.iinc 15 n, 3)) (hv : Int32.ofInt n = v) (hn : 15 < nL) (hc1 : g_c1 l14 = true) (k : RX E nL a b (pc + 3) (l0 :: l1 :: l2 :: l3 :: l4 :: l5 :: l6 :: l7 :: l8 :: l9 :: l10 :: l11 :: l12 :: l13 :: l14 :: some (.int (x + v)) :: t) st M) : RX E nL a b pc (l0 :: l1 :: l2 :: l3 :: l4 :: l5 :: l6 :: l7 :: l8 :: l9 :: l10 :: l11 :: l12 :: l13 :: l14 :: some (.int x) :: t) st M := by
  obtain ⟨p, l, e, R, s, m, args, below, meth, c, Q, g⟩ := E
  intro H locs arr cells slots hR hS hL hc hs
  obtain ⟨j, hj⟩ := List.getElem?_of_mem ((g_lv_mem g (l0 :: l1 :: l2 :: l3 :: l4 :: l5 :: l6 :: l7 :: l8 :: l9 :: l10 :: l11 :: l12 :: l13 :: l14 :: some (.int x) :: t) 0 15 (.int x)).mpr ⟨15, .int x, rfl, rfl, rfl⟩)
  exact lv_iinc (v := x + v) hE.1 hE.2.1 hd hL hj (by rw [hv]) hn rfl (fun ls' hl' => k H locs ls' cells slots hR hS (g_L.set1 (pre := [l0, l1, l2, l3, l4, l5, l6, l7, l8, l9, l10, l11, l12, l13, l14]) (v := .int (x + v)) (fun z hz => by cases hz; exact hc1) hl') hc hs)
end RXR
