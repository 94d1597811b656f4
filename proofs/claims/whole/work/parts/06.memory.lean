/-! ===== rows of the memory ===== -/
def g_same (ref own n d : String) : Prop := ref = own ∨ Cond.sameField ref own n d ∈ g_tb
def g_fl (own : String) (idx ci k : Nat) : Prop := ∃ (C : String) (T : u_T) (N : Nat) (ref : String), vwCl[ci]? = some (C, T, N) ∧ k < N ∧ (∀ w ∈ u_ws C T N, w ∈ g_tb) ∧ Cond.fieldLink own idx ref (T k).2.1 (T k).2.2.1 ∈ g_tb ∧ g_same ref (T k).1 (T k).2.1 (T k).2.2.1
def g_fln (own : String) (idx ci k : Nat) : Prop := ∃ (C : String) (T : u_T) (N : Nat) (ref host : String), vwCl[ci]? = some (C, T, N) ∧ k < N ∧ (∀ w ∈ u_ws C T N, w ∈ g_tb) ∧ Cond.fieldLinkNest own idx ref (T k).2.1 (T k).2.2.1 host ∈ lw_tbl ∧ g_same ref (T k).1 (T k).2.1 (T k).2.2.1
def g_fw (ci k : Nat) (fin : Bool) (ty : FieldType) : Prop := ∃ (C : String) (T : u_T) (N : Nat) (ty0 : Nat → FieldType), vwCl[ci]? = some (C, T, N) ∧ (∀ k, k < N → parseFieldDescriptor (T k).2.2.1 = some (ty0 k)) ∧ (∀ a, a < N → ∀ b, b < N → a ≠ b → (T a).2.1 ≠ (T b).2.1) ∧ (T k).2.2.2 = fin ∧ parseFieldDescriptor (T k).2.2.1 = some ty
def g_own (own : String) (ci k : Nat) : Prop := ∃ (C : String) (T : u_T) (N : Nat), vwCl[ci]? = some (C, T, N) ∧ (T k).1 = own
theorem g_same.use {ref own n d : String} (h : g_same ref own n d) {args : Array Value} {s : State} (hts : ∀ w ∈ g_tb, w.before args s = true) : ∀ x, s.fieldFound? own n d = some x → s.fieldFound? ref n d = some x := by
  rcases h with h | h
  · subst h
    exact fun _ q => q
  · exact u_same (hts _ h)
theorem g_wsz {p : Program} {l : Launch} {e : Env} {R : Room} {s : State} {m : MethodId} {args : Array Value} {below : List Frame} {meth : Method} {c : Code} {H : Heap} {locs : List Loc} {cells slots : Nat} {Q : State → Prop} {f : JFrame} (h : H.size ≤ s.heap.size + cells → W p l e R s m args below meth c H locs cells slots Q f) : W p l e R s m args below meth c H locs cells slots Q f := by
  intro T hT X
  have h1 := X.heapSize
  rw [hT] at h1
  exact h h1 T hT X
theorem g_R.up {g : gG} {M : gM} {H H1 : Heap} {k : Nat} {e : va_E} (h : g_R g M H) (hk : 16 ≤ k) (hz : H1.size = H.size) (hP : va_P g.1 vwCl ((g_ws g M).set (k - 16) (g_ad g k, g_e g e)) H1) : g_R g (g_up M k e) H1 := by
  refine ⟨h.1, hz.trans h.2.1, ?_⟩
  rw [g_ws_up g hk]
  exact hP
/-- a new cell stands behind all others -/
theorem g_born {g : gG} {M : gM} {H H1 : Heap} {q : Nat} {e : va_E} (h : g_R g M H) (hP : va_P g.1 vwCl (g_ws g M ++ [(q, e)]) H1) (hD : va_D (g_A g) (g_ws g M ++ [(q, e)])) (hz : H1.size ≤ H.size + 1) : q = g_ad g M.1 ∧ H1.size = H.size + 1 := by
  have hl : (g_ws g M ++ [(q, e)])[M.1 - 16]? = some (q, e) := by
    rw [List.getElem?_append_right (by rw [g_ws_len]; exact Nat.le_refl _), g_ws_len, Nat.sub_self]
    rfl
  have h1 : q < H1.size := (hP _ _ hl).lt
  have h2 : g.2.2.1 ≤ q := hD.2 _ _ hl
  have h3 : H.size ≤ q := by
    apply Nat.not_lt.mp
    intro hq
    have hk : q - g.2.2.1 < M.1 - 16 := by
      have := h.2.1
      omega
    have hg : (g_ws g M ++ [(q, e)])[q - g.2.2.1]? = some (g.2.2.1 + (q - g.2.2.1), g_e g (M.2 (q - g.2.2.1 + 16))) := by
      rw [List.getElem?_append_left (by rw [g_ws_len]; exact hk)]
      exact g_ws_get g M hk
    have := hD.1 _ _ _ _ hg hl (by show g.2.2.1 + (q - g.2.2.1) = q; omega)
    omega
  have h4 := h.2.1
  refine ⟨?_, by omega⟩
  rw [g_ad_hi g h.1]
  omega
theorem g_R.nw {g : gG} {M : gM} {H H1 : Heap} {q : Nat} {e : va_E} (h : g_R g M H) (hq : q = g_ad g M.1) (hz : H1.size = H.size + 1) (hP : va_P g.1 vwCl (g_ws g M ++ [(q, g_e g e)]) H1) : g_R g (g_nw M e) H1 := by
  have h1 := h.1
  have h2 := h.2.1
  refine ⟨by show 16 ≤ M.1 + 1; omega, by rw [hz, h2]; show _ = g.2.2.1 + (M.1 + 1 - 16); omega, ?_⟩
  rw [g_ws_nw g h.1, ← hq]
  exact hP
abbrev gI (n : Nat) (f : Nat → Int32) : va_E := .inl (0, n, .inl f)
abbrev gB (n : Nat) (f : Nat → Int32) : va_E := .inl (1, n, .inl f)
abbrev gJ (n : Nat) (f : Nat → Int64) : va_E := .inl (2, n, .inr (.inl f))
abbrev gZ (n : Nat) (f : Nat → Int32) : va_E := .inl (3, n, .inl f)
abbrev gQ (t n : Nat) (f : Nat → Option Nat) : va_E := .inl (t, n, .inr (.inr (.inr (.inr f))))
section RXM
variable {d : Nat} {mi : gMi} {E : gE} {nL a b pc : Nat} {ls : List (Option Value)} {st : List Value} {M : gM}

theorem rx_getf (hE : g_E d mi E) {idx ci k x : Nat} {fs : List Value} {v : Value} (hd : decode mi.2.1 pc = .ok (.getfield idx, 3)) (hl : g_fl mi.1.cls idx ci k) (hat : g_at M x (.inr (ci, fs))) (hv : fs[k]? = some v) (kk : RX E nL a b (pc + 3) ls (v :: st) M) : RX E nL a b pc ls (.ref x :: st) M := by
  obtain ⟨p, l, e, R, s, m, args, below, meth, c, Q, g⟩ := E
  intro H locs arr cells slots hR hS hL hc hs
  obtain ⟨C, T, N, ref, h1, h2, h3, h4, h5⟩ := hl
  exact va_get (D := g.1) (cl := vwCl) (tys := g_tys g) (ws := g_ws g M) hE.1 hE.2.1 hE.2.2.2.2.1 h3 hE.2.2.2.1 hE.2.2.2.2.2.1.1 hR.2.2 (x - 16) (g_ws_at g hat) h1 k h2 (hE.2.2.2.2.1 _ h4) (h5.use hE.2.2.2.2.1) (by rw [List.getElem?_map, hv]; rfl) hd (kk H locs arr cells slots hR hS hL hc hs)
theorem rx_getfN (hE : g_E d mi E) {idx ci k x : Nat} {fs : List Value} {v : Value} (hd : decode mi.2.1 pc = .ok (.getfield idx, 3)) (hl : g_fln mi.1.cls idx ci k) (hat : g_at M x (.inr (ci, fs))) (hv : fs[k]? = some v) (kk : RX E nL a b (pc + 3) ls (v :: st) M) : RX E nL a b pc ls (.ref x :: st) M := by
  obtain ⟨p, l, e, R, s, m, args, below, meth, c, Q, g⟩ := E
  intro H locs arr cells slots hR hS hL hc hs
  obtain ⟨C, T, N, ref, host, h1, h2, h3, h4, h5⟩ := hl
  exact va_getN (D := g.1) (cl := vwCl) (tys := g_tys g) (ws := g_ws g M) hE.1 hE.2.1 hE.2.2.2.2.1 h3 hE.2.2.2.1 hE.2.2.2.2.2.1.1 hR.2.2 (x - 16) (g_ws_at g hat) h1 k h2 (va_Nw.use rfl (hE.2.2.2.2.2.1.2.2.2.2.2.2.2.2.1 _ _ _ _ _ _ h4)) (h5.use hE.2.2.2.2.1) (by rw [List.getElem?_map, hv]; rfl) hd (kk H locs arr cells slots hR hS hL hc hs)
theorem rx_put (hE : g_E d mi E) {idx ci k x : Nat} {fs : List Value} {v : Value} {ty : FieldType} (hd : decode mi.2.1 pc = .ok (.putfield idx, 3)) (hl : g_fl mi.1.cls idx ci k) (hw : g_fw ci k false ty) (hat : g_at M x (.inr (ci, fs))) (hn : ∀ g : gG, narrow ty (g_v g v) = g_v g v) (hf : ∀ g : gG, fits ty (g_v g v) = true) (hk : k < fs.length) (kk : RX E nL a b (pc + 3) ls st (g_up M x (.inr (ci, fs.set k v)))) : RX E nL a b pc ls (v :: .ref x :: st) M := by
  obtain ⟨p, l, e, R, s, m, args, below, meth, c, Q, g⟩ := E
  intro H locs arr cells slots hR hS hL hc hs
  obtain ⟨C, T, N, ref, h1, h2, h3, h4, h5⟩ := hl
  obtain ⟨C', T', N', ty0, w1, w2, w3, w4, w5⟩ := hw
  have hx := w1.symm.trans h1
  simp only [Option.some.injEq, Prod.mk.injEq] at hx
  obtain ⟨rfl, rfl, rfl⟩ := hx
  refine va_put (D := g.1) (cl := vwCl) (tys := g_tys g) (ws := g_ws g M) (A := g_A g) (H0 := H) hE.1 hE.2.1 hE.2.2.2.2.1 h3 ty0 w2 w3 hE.2.2.2.1 hE.2.2.2.2.2.1.1 hR.2.2 (g_D g M) ⟨Nat.le_refl _, fun _ _ _ => rfl, hS.2.2⟩ (x - 16) (g_ws_at g hat) h1 k h2 (hE.2.2.2.2.1 _ h4) (h5.use hE.2.2.2.2.1) w4 w5 (hn g) (hf g) (by rw [List.length_map]; exact hk) hd (fun H1 locs1 hP1 hD1 hS1 => g_wsz (fun hz => ?_))
  have hze : H1.size = H.size := by have := hS1.1; have := hc.1; omega
  refine kk H1 locs1 arr cells slots (hR.up hat.1 hze (by rw [show g_e g (.inr (ci, fs.set k v)) = .inr (ci, (fs.map (g_v g)).set k (g_v g v)) from by show _ = _; rw [← List.map_set]; rfl]; exact hP1)) ⟨Nat.le_trans hS.1 hS1.1, fun q q1 q2 => (hS1.2.1 q (Nat.lt_of_lt_of_le q1 hS.1) q2).trans (hS.2.1 q q1 q2), hS1.2.2⟩ hL ⟨by rw [hze]; exact hc.1, hc.2⟩ hs
theorem rx_putN (hE : g_E d mi E) {idx ci k x : Nat} {fs : List Value} {v : Value} {ty : FieldType} (hd : decode mi.2.1 pc = .ok (.putfield idx, 3)) (hl : g_fln mi.1.cls idx ci k) (hw : g_fw ci k false ty) (hat : g_at M x (.inr (ci, fs))) (hn : ∀ g : gG, narrow ty (g_v g v) = g_v g v) (hf : ∀ g : gG, fits ty (g_v g v) = true) (hk : k < fs.length) (kk : RX E nL a b (pc + 3) ls st (g_up M x (.inr (ci, fs.set k v)))) : RX E nL a b pc ls (v :: .ref x :: st) M := by
  obtain ⟨p, l, e, R, s, m, args, below, meth, c, Q, g⟩ := E
  intro H locs arr cells slots hR hS hL hc hs
  obtain ⟨C, T, N, ref, host, h1, h2, h3, h4, h5⟩ := hl
  obtain ⟨C', T', N', ty0, w1, w2, w3, w4, w5⟩ := hw
  have hx := w1.symm.trans h1
  simp only [Option.some.injEq, Prod.mk.injEq] at hx
  obtain ⟨rfl, rfl, rfl⟩ := hx
  refine va_putN (D := g.1) (cl := vwCl) (tys := g_tys g) (ws := g_ws g M) (A := g_A g) (H0 := H) hE.1 hE.2.1 hE.2.2.2.2.1 h3 ty0 w2 w3 hE.2.2.2.1 hE.2.2.2.2.2.1.1 hR.2.2 (g_D g M) ⟨Nat.le_refl _, fun _ _ _ => rfl, hS.2.2⟩ (x - 16) (g_ws_at g hat) h1 k h2 (va_Nw.use rfl (hE.2.2.2.2.2.1.2.2.2.2.2.2.2.2.1 _ _ _ _ _ _ h4)) (h5.use hE.2.2.2.2.1) w4 w5 (hn g) (hf g) (by rw [List.length_map]; exact hk) hd (fun H1 locs1 hP1 hD1 hS1 => g_wsz (fun hz => ?_))
  have hze : H1.size = H.size := by have := hS1.1; have := hc.1; omega
  refine kk H1 locs1 arr cells slots (hR.up hat.1 hze (by rw [show g_e g (.inr (ci, fs.set k v)) = .inr (ci, (fs.map (g_v g)).set k (g_v g v)) from by show _ = _; rw [← List.map_set]; rfl]; exact hP1)) ⟨Nat.le_trans hS.1 hS1.1, fun q q1 q2 => (hS1.2.1 q (Nat.lt_of_lt_of_le q1 hS.1) q2).trans (hS.2.1 q q1 q2), hS1.2.2⟩ hL ⟨by rw [hze]; exact hc.1, hc.2⟩ hs
theorem rx_putF (hE : g_E d mi E) {idx ci k x : Nat} {fs : List Value} {v : Value} {ty : FieldType} (hd : decode mi.2.1 pc = .ok (.putfield idx, 3)) (hl : g_fl mi.1.cls idx ci k) (hw : g_fw ci k true ty) (ho : g_own mi.1.cls ci k) (hi : mi.1.name = "<init>") (hat : g_at M x (.inr (ci, fs))) (hn : ∀ g : gG, narrow ty (g_v g v) = g_v g v) (hf : ∀ g : gG, fits ty (g_v g v) = true) (hk : k < fs.length) (kk : RX E nL a b (pc + 3) ls st (g_up M x (.inr (ci, fs.set k v)))) : RX E nL a b pc ls (v :: .ref x :: st) M := by
  obtain ⟨p, l, e, R, s, m, args, below, meth, c, Q, g⟩ := E
  intro H locs arr cells slots hR hS hL hc hs
  obtain ⟨C, T, N, ref, h1, h2, h3, h4, h5⟩ := hl
  obtain ⟨C', T', N', ty0, w1, w2, w3, w4, w5⟩ := hw
  have hx := w1.symm.trans h1
  simp only [Option.some.injEq, Prod.mk.injEq] at hx
  obtain ⟨rfl, rfl, rfl⟩ := hx
  obtain ⟨C2, T2, N2, o1, o2⟩ := ho
  have hx := o1.symm.trans h1
  simp only [Option.some.injEq, Prod.mk.injEq] at hx
  obtain ⟨rfl, rfl, rfl⟩ := hx
  have hnm : meth.name = "<init>" := hE.2.2.2.2.2.2.2.2.1.trans hi
  refine va_putF (D := g.1) (cl := vwCl) (tys := g_tys g) (ws := g_ws g M) (A := g_A g) (H0 := H) hE.1 hE.2.1 hE.2.2.2.2.1 h3 ty0 w2 w3 hE.2.2.2.1 hE.2.2.2.2.2.1.1 hR.2.2 (g_D g M) ⟨Nat.le_refl _, fun _ _ _ => rfl, hS.2.2⟩ (x - 16) (g_ws_at g hat) h1 k h2 (hE.2.2.2.2.1 _ h4) (h5.use hE.2.2.2.2.1) w4 hnm o2 w5 (hn g) (hf g) (by rw [List.length_map]; exact hk) hd (fun H1 locs1 hP1 hD1 hS1 => g_wsz (fun hz => ?_))
  have hze : H1.size = H.size := by have := hS1.1; have := hc.1; omega
  refine kk H1 locs1 arr cells slots (hR.up hat.1 hze (by rw [show g_e g (.inr (ci, fs.set k v)) = .inr (ci, (fs.map (g_v g)).set k (g_v g v)) from by show _ = _; rw [← List.map_set]; rfl]; exact hP1)) ⟨Nat.le_trans hS.1 hS1.1, fun q q1 q2 => (hS1.2.1 q (Nat.lt_of_lt_of_le q1 hS.1) q2).trans (hS.2.1 q q1 q2), hS1.2.2⟩ hL ⟨by rw [hze]; exact hc.1, hc.2⟩ hs
theorem rx_iald (hE : g_E d mi E) {x n : Nat} {f : Nat → Int32} {i : Int32} (hd : decode mi.2.1 pc = .ok (.iaload, 1)) (hat : g_at M x (gI n f)) (hin : vp_in i n) (kk : RX E nL a b (pc + 1) ls (.int (f i.toNatClampNeg) :: st) M) : RX E nL a b pc ls (.int i :: .ref x :: st) M := by
  obtain ⟨p, l, e, R, s, m, args, below, meth, c, Q, g⟩ := E
  intro H locs arr cells slots hR hS hL hc hs
  exact va_iald (D := g.1) (cl := vwCl) (tys := g_tys g) (ws := g_ws g M) hE.1 hE.2.1 hE.2.2.2.2.2.1.1 hR.2.2 (x - 16) 0 (g_ws_at g hat) (g_tys_at g (t := 0) (by decide)) hin hd (kk H locs arr cells slots hR hS hL hc hs)
theorem rx_bald (hE : g_E d mi E) {x n : Nat} {f : Nat → Int32} {i : Int32} (hd : decode mi.2.1 pc = .ok (.baload, 1)) (hat : g_at M x (gB n f)) (hin : vp_in i n) (kk : RX E nL a b (pc + 1) ls (.int (f i.toNatClampNeg) :: st) M) : RX E nL a b pc ls (.int i :: .ref x :: st) M := by
  obtain ⟨p, l, e, R, s, m, args, below, meth, c, Q, g⟩ := E
  intro H locs arr cells slots hR hS hL hc hs
  exact va_bald (D := g.1) (cl := vwCl) (tys := g_tys g) (ws := g_ws g M) hE.1 hE.2.1 hE.2.2.2.2.2.1.1 hR.2.2 (x - 16) 1 (g_ws_at g hat) (g_tys_at g (t := 1) (by decide)) hin hd (kk H locs arr cells slots hR hS hL hc hs)
theorem rx_lald (hE : g_E d mi E) {x n : Nat} {f : Nat → Int64} {i : Int32} (hd : decode mi.2.1 pc = .ok (.laload, 1)) (hat : g_at M x (gJ n f)) (hin : vp_in i n) (kk : RX E nL a b (pc + 1) ls (.long (f i.toNatClampNeg) :: st) M) : RX E nL a b pc ls (.int i :: .ref x :: st) M := by
  obtain ⟨p, l, e, R, s, m, args, below, meth, c, Q, g⟩ := E
  intro H locs arr cells slots hR hS hL hc hs
  exact va_lald (D := g.1) (cl := vwCl) (tys := g_tys g) (ws := g_ws g M) hE.1 hE.2.1 hE.2.2.2.2.2.1.1 hR.2.2 (x - 16) 2 (g_ws_at g hat) (g_tys_at g (t := 2) (by decide)) hin hd (kk H locs arr cells slots hR hS hL hc hs)
theorem rx_zald (hE : g_E d mi E) {x n : Nat} {f : Nat → Int32} {i : Int32} (hd : decode mi.2.1 pc = .ok (.baload, 1)) (hat : g_at M x (gZ n f)) (hin : vp_in i n) (kk : RX E nL a b (pc + 1) ls (.int (f i.toNatClampNeg) :: st) M) : RX E nL a b pc ls (.int i :: .ref x :: st) M := by
  obtain ⟨p, l, e, R, s, m, args, below, meth, c, Q, g⟩ := E
  intro H locs arr cells slots hR hS hL hc hs
  exact va_zald (D := g.1) (cl := vwCl) (tys := g_tys g) (ws := g_ws g M) hE.1 hE.2.1 hE.2.2.2.2.2.1.1 hR.2.2 (x - 16) 3 (g_ws_at g hat) (g_tys_at g (t := 3) (by decide)) hin hd (kk H locs arr cells slots hR hS hL hc hs)
theorem rx_iast (hE : g_E d mi E) {x n : Nat} {f : Nat → Int32} {i : Int32} {v : Int32} (hd : decode mi.2.1 pc = .ok (.iastore, 1)) (hat : g_at M x (gI n f)) (hin : vp_in i n) (kk : RX E nL a b (pc + 1) ls st (g_up M x (gI n (upd f i.toNatClampNeg v)))) : RX E nL a b pc ls (.int v :: .int i :: .ref x :: st) M := by
  obtain ⟨p, l, e, R, s, m, args, below, meth, c, Q, g⟩ := E
  intro H locs arr cells slots hR hS hL hc hs
  refine va_iast (D := g.1) (cl := vwCl) (tys := g_tys g) (ws := g_ws g M) (A := g_A g) (H0 := H) hE.1 hE.2.1 hE.2.2.2.2.2.1.1 hR.2.2 (g_D g M) ⟨Nat.le_refl _, fun _ _ _ => rfl, hS.2.2⟩ (x - 16) 0 (g_ws_at g hat) (g_tys_at g (t := 0) (by decide)) hin hd (fun H1 locs1 hP1 hD1 hS1 => g_wsz (fun hz => ?_))
  have hze : H1.size = H.size := by have := hS1.1; have := hc.1; omega
  exact kk H1 locs1 arr cells slots (hR.up hat.1 hze hP1) ⟨Nat.le_trans hS.1 hS1.1, fun q q1 q2 => (hS1.2.1 q (Nat.lt_of_lt_of_le q1 hS.1) q2).trans (hS.2.1 q q1 q2), hS1.2.2⟩ hL ⟨by rw [hze]; exact hc.1, hc.2⟩ hs
theorem rx_bast (hE : g_E d mi E) {x n : Nat} {f : Nat → Int32} {i : Int32} {v : Int32} (hd : decode mi.2.1 pc = .ok (.bastore, 1)) (hat : g_at M x (gB n f)) (hin : vp_in i n) (kk : RX E nL a b (pc + 1) ls st (g_up M x (gB n (upd f i.toNatClampNeg (vp_nar .byte v))))) : RX E nL a b pc ls (.int v :: .int i :: .ref x :: st) M := by
  obtain ⟨p, l, e, R, s, m, args, below, meth, c, Q, g⟩ := E
  intro H locs arr cells slots hR hS hL hc hs
  refine va_bast (D := g.1) (cl := vwCl) (tys := g_tys g) (ws := g_ws g M) (A := g_A g) (H0 := H) hE.1 hE.2.1 hE.2.2.2.2.2.1.1 hR.2.2 (g_D g M) ⟨Nat.le_refl _, fun _ _ _ => rfl, hS.2.2⟩ (x - 16) 1 (g_ws_at g hat) (g_tys_at g (t := 1) (by decide)) hin hd (fun H1 locs1 hP1 hD1 hS1 => g_wsz (fun hz => ?_))
  have hze : H1.size = H.size := by have := hS1.1; have := hc.1; omega
  exact kk H1 locs1 arr cells slots (hR.up hat.1 hze hP1) ⟨Nat.le_trans hS.1 hS1.1, fun q q1 q2 => (hS1.2.1 q (Nat.lt_of_lt_of_le q1 hS.1) q2).trans (hS.2.1 q q1 q2), hS1.2.2⟩ hL ⟨by rw [hze]; exact hc.1, hc.2⟩ hs
theorem rx_zast (hE : g_E d mi E) {x n : Nat} {f : Nat → Int32} {i : Int32} {v : Int32} (hd : decode mi.2.1 pc = .ok (.bastore, 1)) (hat : g_at M x (gZ n f)) (hin : vp_in i n) (kk : RX E nL a b (pc + 1) ls st (g_up M x (gZ n (upd f i.toNatClampNeg (vp_nar .boolean v))))) : RX E nL a b pc ls (.int v :: .int i :: .ref x :: st) M := by
  obtain ⟨p, l, e, R, s, m, args, below, meth, c, Q, g⟩ := E
  intro H locs arr cells slots hR hS hL hc hs
  refine va_zast (D := g.1) (cl := vwCl) (tys := g_tys g) (ws := g_ws g M) (A := g_A g) (H0 := H) hE.1 hE.2.1 hE.2.2.2.2.2.1.1 hR.2.2 (g_D g M) ⟨Nat.le_refl _, fun _ _ _ => rfl, hS.2.2⟩ (x - 16) 3 (g_ws_at g hat) (g_tys_at g (t := 3) (by decide)) hin hd (fun H1 locs1 hP1 hD1 hS1 => g_wsz (fun hz => ?_))
  have hze : H1.size = H.size := by have := hS1.1; have := hc.1; omega
  exact kk H1 locs1 arr cells slots (hR.up hat.1 hze hP1) ⟨Nat.le_trans hS.1 hS1.1, fun q q1 q2 => (hS1.2.1 q (Nat.lt_of_lt_of_le q1 hS.1) q2).trans (hS.2.1 q q1 q2), hS1.2.2⟩ hL ⟨by rw [hze]; exact hc.1, hc.2⟩ hs
theorem rx_last (hE : g_E d mi E) {x n : Nat} {f : Nat → Int64} {i : Int32} {v : Int64} (hd : decode mi.2.1 pc = .ok (.lastore, 1)) (hat : g_at M x (gJ n f)) (hin : vp_in i n) (kk : RX E nL a b (pc + 1) ls st (g_up M x (gJ n (vp_updL f i.toNatClampNeg v)))) : RX E nL a b pc ls (.long v :: .int i :: .ref x :: st) M := by
  obtain ⟨p, l, e, R, s, m, args, below, meth, c, Q, g⟩ := E
  intro H locs arr cells slots hR hS hL hc hs
  refine va_last (D := g.1) (cl := vwCl) (tys := g_tys g) (ws := g_ws g M) (A := g_A g) (H0 := H) hE.1 hE.2.1 hE.2.2.2.2.2.1.1 hR.2.2 (g_D g M) ⟨Nat.le_refl _, fun _ _ _ => rfl, hS.2.2⟩ (x - 16) 2 (g_ws_at g hat) (g_tys_at g (t := 2) (by decide)) hin hd (fun H1 locs1 hP1 hD1 hS1 => g_wsz (fun hz => ?_))
  have hze : H1.size = H.size := by have := hS1.1; have := hc.1; omega
  exact kk H1 locs1 arr cells slots (hR.up hat.1 hze hP1) ⟨Nat.le_trans hS.1 hS1.1, fun q q1 q2 => (hS1.2.1 q (Nat.lt_of_lt_of_le q1 hS.1) q2).trans (hS.2.1 q q1 q2), hS1.2.2⟩ hL ⟨by rw [hze]; exact hc.1, hc.2⟩ hs
end RXM
