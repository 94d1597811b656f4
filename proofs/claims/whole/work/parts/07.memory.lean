section RXN
variable {d : Nat} {mi : gMi} {E : gE} {nL a b pc : Nat} {ls : List (Option Value)} {st : List Value} {M : gM}
theorem g_rf (g : gG) (r : Option Nat) : va_rf (r.map (g_ad g)) = g_v g (va_rf r) := by cases r <;> rfl

theorem rx_alenI (hE : g_E d mi E) {x n : Nat} {f : Nat → Int32} (hd : decode mi.2.1 pc = .ok (.arraylength, 1)) (hat : g_at M x (gI n f)) (kk : RX E nL a b (pc + 1) ls (.int (nI n) :: st) M) : RX E nL a b pc ls (.ref x :: st) M := by
  obtain ⟨p, l, e, R, s, m, args, below, meth, c, Q, g⟩ := E
  intro H locs arr cells slots hR hS hL hc hs
  exact va_alen (D := g.1) (cl := vwCl) (tys := g_tys g) (ws := g_ws g M) hE.1 hE.2.1 hE.2.2.2.2.2.1.1 hR.2.2 (x - 16) 0 (g_ws_at g hat) (g_tys_at g (t := 0) (by decide)) rfl hd (kk H locs arr cells slots hR hS hL hc hs)
theorem rx_alenB (hE : g_E d mi E) {x n : Nat} {f : Nat → Int32} (hd : decode mi.2.1 pc = .ok (.arraylength, 1)) (hat : g_at M x (gB n f)) (kk : RX E nL a b (pc + 1) ls (.int (nI n) :: st) M) : RX E nL a b pc ls (.ref x :: st) M := by
  obtain ⟨p, l, e, R, s, m, args, below, meth, c, Q, g⟩ := E
  intro H locs arr cells slots hR hS hL hc hs
  exact va_alen (D := g.1) (cl := vwCl) (tys := g_tys g) (ws := g_ws g M) hE.1 hE.2.1 hE.2.2.2.2.2.1.1 hR.2.2 (x - 16) 1 (g_ws_at g hat) (g_tys_at g (t := 1) (by decide)) rfl hd (kk H locs arr cells slots hR hS hL hc hs)
theorem rx_aald (hE : g_E d mi E) {t x n : Nat} {f : Nat → Option Nat} {i : Int32} (ht : t < 8) (hr : (g_ty t).isReference = true) (hd : decode mi.2.1 pc = .ok (.aaload, 1)) (hat : g_at M x (gQ t n f)) (hin : vp_in i n) (kk : RX E nL a b (pc + 1) ls (va_rf (f i.toNatClampNeg) :: st) M) : RX E nL a b pc ls (.int i :: .ref x :: st) M := by
  obtain ⟨p, l, e, R, s, m, args, below, meth, c, Q, g⟩ := E
  intro H locs arr cells slots hR hS hL hc hs
  have k2 := (kk H locs arr cells slots hR hS hL hc hs)
  have hlt : i.toNatClampNeg < n := Nat.not_le.mp fun q => hin (Or.inr q)
  rw [List.map_cons, ← g_rf] at k2
  exact W.aald (v := va_rf ((f i.toNatClampNeg).map (g_ad g))) (ty := g_ty t) hE.1 hE.2.1 (hR.2.2 _ _ (g_ws_at g hat)) ((hE.2.2.2.2.2.1.1.2 t _ (g_tys_at g ht)).1 n (fun j => va_rf ((f j).map (g_ad g)))) hr (fun q => by cases q) (by show ¬ (i < 0 ∨ (arrV _ _ _).slots.size ≤ _); rw [arrV_size]; exact hin) (by show (arrV _ _ _).slots[_]? = _; rw [arrV_read _ _ hlt]) rfl rfl hd k2
theorem rx_aast (hE : g_E d mi E) {t x n y ci : Nat} {f : Nat → Option Nat} {i : Int32} {r : vw_C} {vs : List Value} (ht : t < 8) (hc0 : vwCl[ci]? = some r) (hr : g_ty t = .object r.1) (hd : decode mi.2.1 pc = .ok (.aastore, 1)) (hat : g_at M x (gQ t n f)) (hav : g_at M y (.inr (ci, vs))) (hin : vp_in i n) (kk : RX E nL a b (pc + 1) ls st (g_up M x (gQ t n (va_up f i.toNatClampNeg (some y))))) : RX E nL a b pc ls (.ref y :: .int i :: .ref x :: st) M := by
  obtain ⟨p, l, e, R, s, m, args, below, meth, c, Q, g⟩ := E
  intro H locs arr cells slots hR hS hL hc hs
  refine va_astq (D := g.1) (cl := vwCl) (tys := g_tys g) (ws := g_ws g M) (A := g_A g) (H0 := H) hE.1 hE.2.1 hE.2.2.2.2.2.1.1 hR.2.2 (g_D g M) ⟨Nat.le_refl _, fun _ _ _ => rfl, hS.2.2⟩ (x - 16) t (y - 16) ci (g_ws_at g hat) (by rw [g_tys_at g ht, hr]) (g_ws_at g hav) hc0 hin hd (fun H1 locs1 hP1 hD1 hS1 => g_wsz (fun hz => ?_))
  have hze : H1.size = H.size := by have := hS1.1; have := hc.1; omega
  have he : g_e g (gQ t n (va_up f i.toNatClampNeg (some y))) = .inl (g.2.1 t, n, .inr (.inr (.inr (.inr (va_up (fun i => (f i).map (g_ad g)) i.toNatClampNeg (some (g_ad g y))))))) := by
    show Sum.inl _ = Sum.inl _
    congr 7
    funext q
    unfold va_up
    split <;> rfl
  exact kk H1 locs1 arr cells slots (hR.up hat.1 hze (by rw [he]; exact hP1)) ⟨Nat.le_trans hS.1 hS1.1, fun q q1 q2 => (hS1.2.1 q (Nat.lt_of_lt_of_le q1 hS.1) q2).trans (hS.2.1 q q1 q2), hS1.2.2⟩ hL ⟨by rw [hze]; exact hc.1, hc.2⟩ hs
def g_nc (own : String) (idx ci : Nat) (N : Nat) (fs : List Value) : Prop := ∃ (C : String) (T : u_T) (ty0 : Nat → FieldType), vwCl[ci]? = some (C, T, N) ∧ (∀ w ∈ u_ws C T N, w ∈ g_tb) ∧ (∀ k, k < N → parseFieldDescriptor (T k).2.2.1 = some (ty0 k)) ∧ Cond.classLink own idx C ∈ g_tb ∧ Cond.instantiable C N ∈ g_tb ∧ Cond.initialized C ∈ g_tb ∧ (∀ j, j < N → defaultValue (ty0 j) = vp_V fs j)
theorem rx_new (hE : g_E d mi E) {idx ci N : Nat} {fs : List Value} (hd : decode mi.2.1 pc = .ok (.new idx, 3)) (hl : g_nc mi.1.cls idx ci N fs) (hfs : ∀ g : gG, fs.map (g_v g) = fs) (kk : RX E nL a b (pc + 3) ls (.ref M.1 :: st) (g_nw M (.inr (ci, fs)))) : RX E nL (a + 1) (b + N) pc ls st M := by
  obtain ⟨p, l, e, R, s, m, args, below, meth, c, Q, g⟩ := E
  intro H locs arr cells slots hR hS hL hc hs
  obtain ⟨C, T, ty0, h1, h2, h3, h4, h5, h6, h7⟩ := hl
  obtain ⟨hc1, hc2⟩ := hc
  refine va_new (D := g.1) (cl := vwCl) (tys := g_tys g) (ws := g_ws g M) (A := g_A g) (H0 := H) (fs := fs) hE.1 hE.2.1 hE.2.2.2.2.1 h2 ty0 h3 hE.2.2.2.1 (hE.2.2.2.2.1 _ h4) (hE.2.2.2.2.1 _ h5) (hE.2.2.2.2.1 _ h6) hE.2.2.2.2.2.1.1 hR.2.2 (g_D g M) ⟨Nat.le_refl _, fun _ _ _ => rfl, hS.2.2⟩ (fun q hq => by show g.2.2.1 ≤ q; have := hR.2.1; omega) h1 h7 (by omega) (by omega) hd (fun q H1 hP1 hD1 hS1 => g_wsz (fun hz => ?_))
  obtain ⟨hq, hze⟩ := g_born hR hP1 hD1 (by omega)
  have k2 := kk H1 locs arr (cells + 1) (slots + N) (hR.nw (e := .inr (ci, fs)) hq hze (by rw [show g_e g (.inr (ci, fs)) = .inr (ci, fs) from by show Sum.inr _ = _; rw [hfs g]]; exact hP1)) ⟨Nat.le_trans hS.1 hS1.1, fun q q1 q2 => (hS1.2.1 q (Nat.lt_of_lt_of_le q1 hS.1) q2).trans (hS.2.1 q q1 q2), hS1.2.2⟩ hL ⟨by omega, by omega⟩ (by omega)
  rw [hq]
  exact k2

theorem rx_newi (hE : g_E d mi E) {n : Int32} {N : Nat} (hd : decode mi.2.1 pc = .ok (.newarray .int, 2)) (hm : Cond.arrayClass .int ∈ g_tb) (hn : ¬ n < 0) (hN : n.toNatClampNeg = N) (hb : N ≤ 10000) (kk : RX E nL a b (pc + 2) ls (.ref M.1 :: st) (g_nw M (gI N (fun _ => 0)))) : RX E nL (a + 1) (b + N) pc ls (.int n :: st) M := by
  obtain ⟨p, l, e, R, s, m, args, below, meth, c, Q, g⟩ := E
  intro H locs arr cells slots hR hS hL hc hs
  obtain ⟨hc1, hc2⟩ := hc
  refine va_newa (D := g.1) (cl := vwCl) (tys := g_tys g) (ws := g_ws g M) (A := g_A g) (H0 := H) (atype := .int) (ty := .int) (a0 := (N, .inl (fun _ => 0))) hE.1 hE.2.1 (hE.2.2.2.2.1 _ hm) rfl hE.2.2.2.2.2.1.1 hR.2.2 (g_D g M) ⟨Nat.le_refl _, fun _ _ _ => rfl, hS.2.2⟩ (fun q hq => by show g.2.2.1 ≤ q; have := hR.2.1; omega) (fun cA => rfl) hn hN (by show N * _ ≤ _; simp only [componentBytes]; omega) (by omega) (by omega) hd (fun q cA H1 hK1 hP1 hD1 hS1 => g_wsz (fun hz => ?_))
  obtain ⟨hq, hze⟩ := g_born hR hP1 hD1 (by omega)
  have hcA : cA = g.2.1 0 := by
    have q1 : va_RA s cA .int := (hK1.2 (g_tys g).length (cA, .int) (by rw [List.getElem?_append_right (Nat.le_refl _), Nat.sub_self]; rfl)).2
    have q2 : va_RA s (g.2.1 0) .int := (hE.2.2.2.2.2.1.1.2 0 _ (g_tys_at g (t := 0) (by decide))).2
    exact Option.some.inj (q1.symm.trans q2)
  subst hcA
  have k2 := kk H1 locs arr (cells + 1) (slots + N) (hR.nw (e := gI N (fun _ => 0)) hq hze hP1) ⟨Nat.le_trans hS.1 hS1.1, fun q q1 q2 => (hS1.2.1 q (Nat.lt_of_lt_of_le q1 hS.1) q2).trans (hS.2.1 q q1 q2), hS1.2.2⟩ hL ⟨by omega, by omega⟩ (by omega)
  rw [hq]
  exact k2
theorem rx_newb (hE : g_E d mi E) {n : Int32} {N : Nat} (hd : decode mi.2.1 pc = .ok (.newarray .byte, 2)) (hm : Cond.arrayClass .byte ∈ g_tb) (hn : ¬ n < 0) (hN : n.toNatClampNeg = N) (hb : N ≤ 10000) (kk : RX E nL a b (pc + 2) ls (.ref M.1 :: st) (g_nw M (gB N (fun _ => 0)))) : RX E nL (a + 1) (b + N) pc ls (.int n :: st) M := by
  obtain ⟨p, l, e, R, s, m, args, below, meth, c, Q, g⟩ := E
  intro H locs arr cells slots hR hS hL hc hs
  obtain ⟨hc1, hc2⟩ := hc
  refine va_newa (D := g.1) (cl := vwCl) (tys := g_tys g) (ws := g_ws g M) (A := g_A g) (H0 := H) (atype := .byte) (ty := .byte) (a0 := (N, .inl (fun _ => 0))) hE.1 hE.2.1 (hE.2.2.2.2.1 _ hm) rfl hE.2.2.2.2.2.1.1 hR.2.2 (g_D g M) ⟨Nat.le_refl _, fun _ _ _ => rfl, hS.2.2⟩ (fun q hq => by show g.2.2.1 ≤ q; have := hR.2.1; omega) (fun cA => rfl) hn hN (by show N * _ ≤ _; simp only [componentBytes]; omega) (by omega) (by omega) hd (fun q cA H1 hK1 hP1 hD1 hS1 => g_wsz (fun hz => ?_))
  obtain ⟨hq, hze⟩ := g_born hR hP1 hD1 (by omega)
  have hcA : cA = g.2.1 1 := by
    have q1 : va_RA s cA .byte := (hK1.2 (g_tys g).length (cA, .byte) (by rw [List.getElem?_append_right (Nat.le_refl _), Nat.sub_self]; rfl)).2
    have q2 : va_RA s (g.2.1 1) .byte := (hE.2.2.2.2.2.1.1.2 1 _ (g_tys_at g (t := 1) (by decide))).2
    exact Option.some.inj (q1.symm.trans q2)
  subst hcA
  have k2 := kk H1 locs arr (cells + 1) (slots + N) (hR.nw (e := gB N (fun _ => 0)) hq hze hP1) ⟨Nat.le_trans hS.1 hS1.1, fun q q1 q2 => (hS1.2.1 q (Nat.lt_of_lt_of_le q1 hS.1) q2).trans (hS.2.1 q q1 q2), hS1.2.2⟩ hL ⟨by omega, by omega⟩ (by omega)
  rw [hq]
  exact k2
theorem rx_newl (hE : g_E d mi E) {n : Int32} {N : Nat} (hd : decode mi.2.1 pc = .ok (.newarray .long, 2)) (hm : Cond.arrayClass .long ∈ g_tb) (hn : ¬ n < 0) (hN : n.toNatClampNeg = N) (hb : N ≤ 10000) (kk : RX E nL a b (pc + 2) ls (.ref M.1 :: st) (g_nw M (gJ N (fun _ => 0)))) : RX E nL (a + 1) (b + N) pc ls (.int n :: st) M := by
  obtain ⟨p, l, e, R, s, m, args, below, meth, c, Q, g⟩ := E
  intro H locs arr cells slots hR hS hL hc hs
  obtain ⟨hc1, hc2⟩ := hc
  refine va_newa (D := g.1) (cl := vwCl) (tys := g_tys g) (ws := g_ws g M) (A := g_A g) (H0 := H) (atype := .long) (ty := .long) (a0 := (N, .inr (.inl (fun _ => 0)))) hE.1 hE.2.1 (hE.2.2.2.2.1 _ hm) rfl hE.2.2.2.2.2.1.1 hR.2.2 (g_D g M) ⟨Nat.le_refl _, fun _ _ _ => rfl, hS.2.2⟩ (fun q hq => by show g.2.2.1 ≤ q; have := hR.2.1; omega) (fun cA => rfl) hn hN (by show N * _ ≤ _; simp only [componentBytes]; omega) (by omega) (by omega) hd (fun q cA H1 hK1 hP1 hD1 hS1 => g_wsz (fun hz => ?_))
  obtain ⟨hq, hze⟩ := g_born hR hP1 hD1 (by omega)
  have hcA : cA = g.2.1 2 := by
    have q1 : va_RA s cA .long := (hK1.2 (g_tys g).length (cA, .long) (by rw [List.getElem?_append_right (Nat.le_refl _), Nat.sub_self]; rfl)).2
    have q2 : va_RA s (g.2.1 2) .long := (hE.2.2.2.2.2.1.1.2 2 _ (g_tys_at g (t := 2) (by decide))).2
    exact Option.some.inj (q1.symm.trans q2)
  subst hcA
  have k2 := kk H1 locs arr (cells + 1) (slots + N) (hR.nw (e := gJ N (fun _ => 0)) hq hze hP1) ⟨Nat.le_trans hS.1 hS1.1, fun q q1 q2 => (hS1.2.1 q (Nat.lt_of_lt_of_le q1 hS.1) q2).trans (hS.2.1 q q1 q2), hS1.2.2⟩ hL ⟨by omega, by omega⟩ (by omega)
  rw [hq]
  exact k2
theorem rx_newz (hE : g_E d mi E) {n : Int32} {N : Nat} (hd : decode mi.2.1 pc = .ok (.newarray .boolean, 2)) (hm : Cond.arrayClass .boolean ∈ g_tb) (hn : ¬ n < 0) (hN : n.toNatClampNeg = N) (hb : N ≤ 10000) (kk : RX E nL a b (pc + 2) ls (.ref M.1 :: st) (g_nw M (gZ N (fun _ => 0)))) : RX E nL (a + 1) (b + N) pc ls (.int n :: st) M := by
  obtain ⟨p, l, e, R, s, m, args, below, meth, c, Q, g⟩ := E
  intro H locs arr cells slots hR hS hL hc hs
  obtain ⟨hc1, hc2⟩ := hc
  refine va_newa (D := g.1) (cl := vwCl) (tys := g_tys g) (ws := g_ws g M) (A := g_A g) (H0 := H) (atype := .boolean) (ty := .boolean) (a0 := (N, .inl (fun _ => 0))) hE.1 hE.2.1 (hE.2.2.2.2.1 _ hm) rfl hE.2.2.2.2.2.1.1 hR.2.2 (g_D g M) ⟨Nat.le_refl _, fun _ _ _ => rfl, hS.2.2⟩ (fun q hq => by show g.2.2.1 ≤ q; have := hR.2.1; omega) (fun cA => rfl) hn hN (by show N * _ ≤ _; simp only [componentBytes]; omega) (by omega) (by omega) hd (fun q cA H1 hK1 hP1 hD1 hS1 => g_wsz (fun hz => ?_))
  obtain ⟨hq, hze⟩ := g_born hR hP1 hD1 (by omega)
  have hcA : cA = g.2.1 3 := by
    have q1 : va_RA s cA .boolean := (hK1.2 (g_tys g).length (cA, .boolean) (by rw [List.getElem?_append_right (Nat.le_refl _), Nat.sub_self]; rfl)).2
    have q2 : va_RA s (g.2.1 3) .boolean := (hE.2.2.2.2.2.1.1.2 3 _ (g_tys_at g (t := 3) (by decide))).2
    exact Option.some.inj (q1.symm.trans q2)
  subst hcA
  have k2 := kk H1 locs arr (cells + 1) (slots + N) (hR.nw (e := gZ N (fun _ => 0)) hq hze hP1) ⟨Nat.le_trans hS.1 hS1.1, fun q q1 q2 => (hS1.2.1 q (Nat.lt_of_lt_of_le q1 hS.1) q2).trans (hS.2.1 q q1 q2), hS1.2.2⟩ hL ⟨by omega, by omega⟩ (by omega)
  rw [hq]
  exact k2
theorem rx_newq (hE : g_E d mi E) {n : Int32} {t N idx : Nat} {C : String} (ht : t < 8) (hty : g_ty t = .object C) (hd : decode mi.2.1 pc = .ok (.anewarray idx, 3)) (hm : Cond.classLink mi.1.cls idx C ∈ g_tb) (ho : Cond.arrayOver (.object C) ∈ lw_tbl) (hn : ¬ n < 0) (hN : n.toNatClampNeg = N) (hb : N ≤ 10000) (kk : RX E nL a b (pc + 3) ls (.ref M.1 :: st) (g_nw M (gQ t N (fun _ => none)))) : RX E nL (a + 1) (b + N) pc ls (.int n :: st) M := by
  obtain ⟨p, l, e, R, s, m, args, below, meth, c, Q, g⟩ := E
  intro H locs arr cells slots hR hS hL hc hs
  obtain ⟨hc1, hc2⟩ := hc
  refine va_newq (D := g.1) (cl := vwCl) (tys := g_tys g) (ws := g_ws g M) (A := g_A g) (H0 := H) hE.1 hE.2.1 hE.2.2.2.1 (hE.2.2.2.2.1 _ hm) (hE.2.2.2.2.2.1.2.2.2.2.2.2.2.2.2.2.2.1 _ ho) hE.2.2.2.2.2.1.1 hR.2.2 (g_D g M) ⟨Nat.le_refl _, fun _ _ _ => rfl, hS.2.2⟩ (fun q hq => by show g.2.2.1 ≤ q; have := hR.2.1; omega) hn hN (by omega) (by omega) (by omega) hd (fun q cA H1 hK1 hP1 hD1 hS1 => g_wsz (fun hz => ?_))
  obtain ⟨hq, hze⟩ := g_born hR hP1 hD1 (by omega)
  have hcA : cA = g.2.1 t := by
    obtain ⟨_, _, _, _, _, q1⟩ := (hK1.2 (g_tys g).length _ (by rw [List.getElem?_append_right (Nat.le_refl _), Nat.sub_self]; rfl)).2
    have q3 := (hE.2.2.2.2.2.1.1.2 t _ (g_tys_at g (t := t) ht)).2
    rw [hty] at q3
    obtain ⟨_, _, _, _, _, q2⟩ := q3
    exact Option.some.inj (q1.symm.trans q2)
  subst hcA
  have k2 := kk H1 locs arr (cells + 1) (slots + N) (hR.nw (e := gQ t N (fun _ => none)) hq hze hP1) ⟨Nat.le_trans hS.1 hS1.1, fun q q1 q2 => (hS1.2.1 q (Nat.lt_of_lt_of_le q1 hS.1) q2).trans (hS.2.1 q q1 q2), hS1.2.2⟩ hL ⟨by omega, by omega⟩ (by omega)
  rw [hq]
  exact k2
theorem rx_gets1 (hE : g_E d mi E) {idx : Nat} (hd : decode mi.2.1 pc = .ok (.getstatic idx, 3)) (hm : Cond.fieldLink mi.1.cls idx "DutyBeats" "RESTS" "[I" ∈ g_tb) (kk : RX E nL a b (pc + 3) ls (.ref 1 :: st) M) : RX E nL a b pc ls st M := by
  obtain ⟨p, l, e, R, s, m, args, below, meth, c, Q, g⟩ := E
  intro H locs arr cells slots hR hS hL hc hs
  have k2 := (kk H locs arr cells slots hR hS hL hc hs)
  rw [List.map_cons, show g_v g (.ref 1) = .ref (g.2.2.2 1) from rfl] at k2
  exact va_gets hE.1 hE.2.1 hE.2.2.2.2.2.1.2.2.2.1 hS hE.2.2.2.1 (hE.2.2.2.2.1 _ hm) (fun _ q => q) hd k2
theorem rx_iald1 (hE : g_E d mi E) {i : Int32} (hd : decode mi.2.1 pc = .ok (.iaload, 1)) (hin : vp_in i 5) (kk : RX E nL a b (pc + 1) ls (.int (g_rests i.toNatClampNeg) :: st) M) : RX E nL a b pc ls (.int i :: .ref 1 :: st) M := by
  obtain ⟨p, l, e, R, s, m, args, below, meth, c, Q, g⟩ := E
  intro H locs arr cells slots hR hS hL hc hs
  have hp := hE.2.2.2.2.2.1.2.1 1 (by decide)
  exact va_sld (b := g.2.2.2 1) hE.1 hE.2.1 hE.2.2.2.2.2.1.2.2.2.2.2.1 (Nat.lt_of_lt_of_le hp hE.2.2.2.2.2.1.2.2.1) (Nat.not_le.mpr hp) hS hin hd (kk H locs arr cells slots hR hS hL hc hs)
theorem rx_alen1 (hE : g_E d mi E) (hd : decode mi.2.1 pc = .ok (.arraylength, 1)) (kk : RX E nL a b (pc + 1) ls (.int 5 :: st) M) : RX E nL a b pc ls (.ref 1 :: st) M := by
  obtain ⟨p, l, e, R, s, m, args, below, meth, c, Q, g⟩ := E
  intro H locs arr cells slots hR hS hL hc hs
  have hp := hE.2.2.2.2.2.1.2.1 1 (by decide)
  exact va_slen (b := g.2.2.2 1) hE.1 hE.2.1 hE.2.2.2.2.2.1.2.2.2.2.2.1 (Nat.lt_of_lt_of_le hp hE.2.2.2.2.2.1.2.2.1) (Nat.not_le.mpr hp) hS hd (kk H locs arr cells slots hR hS hL hc hs)
theorem rx_gets2 (hE : g_E d mi E) {idx : Nat} (hd : decode mi.2.1 pc = .ok (.getstatic idx, 3)) (hm : Cond.fieldLink mi.1.cls idx "DutyBeats$Junction" "SOUNDS" "[I" ∈ g_tb) (kk : RX E nL a b (pc + 3) ls (.ref 2 :: st) M) : RX E nL a b pc ls st M := by
  obtain ⟨p, l, e, R, s, m, args, below, meth, c, Q, g⟩ := E
  intro H locs arr cells slots hR hS hL hc hs
  have k2 := (kk H locs arr cells slots hR hS hL hc hs)
  rw [List.map_cons, show g_v g (.ref 2) = .ref (g.2.2.2 2) from rfl] at k2
  exact va_gets hE.1 hE.2.1 hE.2.2.2.2.2.1.2.2.2.2.1 hS hE.2.2.2.1 (hE.2.2.2.2.1 _ hm) (fun _ q => q) hd k2
theorem rx_iald2 (hE : g_E d mi E) {i : Int32} (hd : decode mi.2.1 pc = .ok (.iaload, 1)) (hin : vp_in i 12) (kk : RX E nL a b (pc + 1) ls (.int (g_sounds i.toNatClampNeg) :: st) M) : RX E nL a b pc ls (.int i :: .ref 2 :: st) M := by
  obtain ⟨p, l, e, R, s, m, args, below, meth, c, Q, g⟩ := E
  intro H locs arr cells slots hR hS hL hc hs
  have hp := hE.2.2.2.2.2.1.2.1 2 (by decide)
  exact va_sld (b := g.2.2.2 2) hE.1 hE.2.1 hE.2.2.2.2.2.1.2.2.2.2.2.2.1 (Nat.lt_of_lt_of_le hp hE.2.2.2.2.2.1.2.2.1) (Nat.not_le.mpr hp) hS hin hd (kk H locs arr cells slots hR hS hL hc hs)
theorem rx_alen2 (hE : g_E d mi E) (hd : decode mi.2.1 pc = .ok (.arraylength, 1)) (kk : RX E nL a b (pc + 1) ls (.int 12 :: st) M) : RX E nL a b pc ls (.ref 2 :: st) M := by
  obtain ⟨p, l, e, R, s, m, args, below, meth, c, Q, g⟩ := E
  intro H locs arr cells slots hR hS hL hc hs
  have hp := hE.2.2.2.2.2.1.2.1 2 (by decide)
  exact va_slen (b := g.2.2.2 2) hE.1 hE.2.1 hE.2.2.2.2.2.1.2.2.2.2.2.2.1 (Nat.lt_of_lt_of_le hp hE.2.2.2.2.2.1.2.2.1) (Nat.not_le.mpr hp) hS hd (kk H locs arr cells slots hR hS hL hc hs)
def g_cw (own : String) (idx : Nat) : Prop := Cond.methodLink own idx arraycopyName ∈ g_tb ∧ Cond.native arraycopyName ∈ g_tb ∧ Cond.static arraycopyName ∈ g_tb ∧ Cond.initialized "java/lang/System" ∈ g_tb
theorem g_stcat (g : gG) : ∀ st : List Value, ((st.map (g_v g)).map fun v => v.category).sum = (st.map fun v => v.category).sum
  | [] => rfl
  | v :: t => by
    have ih := g_stcat g t
    simp only [List.map_cons, List.sum_cons, g_v_cat, ih]
theorem rx_copyi (hE : g_E d mi E) {idx x0 x1 n0 n1 : Nat} {f f1 : Nat → Int32} {sp dp n : Int32} (hd : decode mi.2.1 pc = .ok (.invokestatic idx, 3)) (hl : g_cw mi.1.cls idx) (hnl : nL = mi.2.2.1) (hd1 : 1 ≤ d) (hst : (st.map fun v => v.category).sum ≤ 8) (ha0 : g_at M x0 (gI n0 f)) (ha1 : g_at M x1 (gI n1 f1)) (h1 : ¬ sp < 0) (h2 : ¬ dp < 0) (h3 : ¬ n < 0) (h4 : sp.toNatClampNeg + n.toNatClampNeg ≤ n0) (h5 : dp.toNatClampNeg + n.toNatClampNeg ≤ n1) (kk : RX E nL a b (pc + 3) ls st (g_up M x1 (gI n1 (va_cpy f f1 sp.toNatClampNeg dp.toNatClampNeg n.toNatClampNeg)))) : RX E nL a b pc ls (.int n :: .int dp :: .ref x1 :: .int sp :: .ref x0 :: st) M := by
  obtain ⟨p, l, e, R, s, m, args, below, meth, c, Q, g⟩ := E
  intro H locs arr cells slots hR hS hL hc hs
  obtain ⟨c1, c2, c3, c4⟩ := hl
  have hml : c.maxLocals = arr.size := by rw [hL.1, hnl]; exact hE.2.2.1
  have hfr : d ≤ R.frames := hE.2.2.2.2.2.2.2.2.2.1
  have hlo : 40 * d ≤ R.locals := hE.2.2.2.2.2.2.2.2.2.2
  have hw : nativeFrameWords "java/lang/System" "arraycopy" 5 + 11 ≤ 32 := by decide +kernel
  refine va_copyi (D := g.1) (cl := vwCl) (tys := g_tys g) (ws := g_ws g M) (A := g_A g) (H0 := H) (ty := .int) hE.1 hE.2.1 hml hE.2.2.2.1 (hE.2.2.2.2.1 _ c1) (hE.2.2.2.2.1 _ c2) (hE.2.2.2.2.1 _ c3) (hE.2.2.2.2.1 _ c4) hE.2.2.2.2.2.1.1 hR.2.2 (g_D g M) ⟨Nat.le_refl _, fun _ _ _ => rfl, hS.2.2⟩ (x0 - 16) (x1 - 16) 0 0 (g_ws_at g ha0) (g_ws_at g ha1) (g_tys_at g (t := 0) (by decide)) (g_tys_at g (t := 0) (by decide)) rfl h1 h2 h3 h4 h5 (fun _ _ => rfl) (by omega) (by rw [g_stcat]; omega) hd (fun H1 locs1 hP1 hD1 hS1 => g_wsz (fun hz => ?_))
  have hze : H1.size = H.size := by have := hS1.1; have := hc.1; omega
  exact kk H1 locs1 arr cells slots (hR.up ha1.1 hze hP1) ⟨Nat.le_trans hS.1 hS1.1, fun q q1 q2 => (hS1.2.1 q (Nat.lt_of_lt_of_le q1 hS.1) q2).trans (hS.2.1 q q1 q2), hS1.2.2⟩ hL ⟨by rw [hze]; exact hc.1, hc.2⟩ hs
def g_mmax (own : String) (idx : Nat) : Prop := Cond.methodLink own idx Lib.Math.max.name ∈ g_tb ∧ Cond.static Lib.Math.max.name ∈ g_tb ∧ Cond.initialized "java/lang/Math" ∈ g_tb ∧ Cond.code Lib.Math.max.name Lib.Math.max.code 2 (some .int) ∈ g_tb
theorem rx_mmax (hE : g_E d mi E) {idx : Nat} {x y : Int32} (hd : decode mi.2.1 pc = .ok (.invokestatic idx, 3)) (hl : g_mmax mi.1.cls idx) (hnl : nL = mi.2.2.1) (hd1 : 1 ≤ d) (hst : (st.map fun v => v.category).sum ≤ 8) (kk : RX E nL a b (pc + 3) ls (.int (if x < y then y else x) :: st) M) : RX E nL a b pc ls (.int y :: .int x :: st) M := by
  obtain ⟨p, l, e, R, s, m, args, below, meth, c, Q, g⟩ := E
  intro H locs arr cells slots hR hS hL hc hs
  obtain ⟨c1, c2, c3, c4⟩ := hl
  have hml : c.maxLocals = arr.size := by rw [hL.1, hnl]; exact hE.2.2.1
  have hfr : d ≤ R.frames := hE.2.2.2.2.2.2.2.2.2.1
  have hlo : 40 * d ≤ R.locals := hE.2.2.2.2.2.2.2.2.2.2
  exact va_mmax hE.1 hE.2.1 hml hE.2.2.2.1 (hE.2.2.2.2.1 _ c1) (hE.2.2.2.2.1 _ c2) (hE.2.2.2.2.1 _ c3) (hE.2.2.2.2.1 _ c4) (by omega) (by rw [g_stcat]; omega) (by have := hc.2; omega) (by omega) hd (kk H locs arr cells slots hR hS hL hc hs)
def g_mmin (own : String) (idx : Nat) : Prop := Cond.methodLink own idx Lib.Math.min.name ∈ g_tb ∧ Cond.static Lib.Math.min.name ∈ g_tb ∧ Cond.initialized "java/lang/Math" ∈ g_tb ∧ Cond.code Lib.Math.min.name Lib.Math.min.code 2 (some .int) ∈ g_tb
theorem rx_mmin (hE : g_E d mi E) {idx : Nat} {x y : Int32} (hd : decode mi.2.1 pc = .ok (.invokestatic idx, 3)) (hl : g_mmin mi.1.cls idx) (hnl : nL = mi.2.2.1) (hd1 : 1 ≤ d) (hst : (st.map fun v => v.category).sum ≤ 8) (kk : RX E nL a b (pc + 3) ls (.int (if y < x then y else x) :: st) M) : RX E nL a b pc ls (.int y :: .int x :: st) M := by
  obtain ⟨p, l, e, R, s, m, args, below, meth, c, Q, g⟩ := E
  intro H locs arr cells slots hR hS hL hc hs
  obtain ⟨c1, c2, c3, c4⟩ := hl
  have hml : c.maxLocals = arr.size := by rw [hL.1, hnl]; exact hE.2.2.1
  have hfr : d ≤ R.frames := hE.2.2.2.2.2.2.2.2.2.1
  have hlo : 40 * d ≤ R.locals := hE.2.2.2.2.2.2.2.2.2.2
  exact va_mmin hE.1 hE.2.1 hml hE.2.2.2.1 (hE.2.2.2.2.1 _ c1) (hE.2.2.2.2.1 _ c2) (hE.2.2.2.2.1 _ c3) (hE.2.2.2.2.1 _ c4) (by omega) (by rw [g_stcat]; omega) (by have := hc.2; omega) (by omega) hd (kk H locs arr cells slots hR hS hL hc hs)
def g_mabs (own : String) (idx : Nat) : Prop := Cond.methodLink own idx Lib.Math.abs.name ∈ g_tb ∧ Cond.static Lib.Math.abs.name ∈ g_tb ∧ Cond.initialized "java/lang/Math" ∈ g_tb ∧ Cond.code Lib.Math.abs.name Lib.Math.abs.code 1 (some .int) ∈ g_tb
theorem rx_mabs (hE : g_E d mi E) {idx : Nat} {x : Int32} (hd : decode mi.2.1 pc = .ok (.invokestatic idx, 3)) (hl : g_mabs mi.1.cls idx) (hnl : nL = mi.2.2.1) (hd1 : 1 ≤ d) (hst : (st.map fun v => v.category).sum ≤ 8) (kk : RX E nL a b (pc + 3) ls (.int (if 0 ≤ x then x else 0 - x) :: st) M) : RX E nL a b pc ls (.int x :: st) M := by
  obtain ⟨p, l, e, R, s, m, args, below, meth, c, Q, g⟩ := E
  intro H locs arr cells slots hR hS hL hc hs
  obtain ⟨c1, c2, c3, c4⟩ := hl
  have hml : c.maxLocals = arr.size := by rw [hL.1, hnl]; exact hE.2.2.1
  have hfr : d ≤ R.frames := hE.2.2.2.2.2.2.2.2.2.1
  have hlo : 40 * d ≤ R.locals := hE.2.2.2.2.2.2.2.2.2.2
  exact va_mabs hE.1 hE.2.1 hml hE.2.2.2.1 (hE.2.2.2.2.1 _ c1) (hE.2.2.2.2.1 _ c2) (hE.2.2.2.2.1 _ c3) (hE.2.2.2.2.1 _ c4) (by omega) (by rw [g_stcat]; omega) (by have := hc.2; omega) (by omega) hd (kk H locs arr cells slots hR hS hL hc hs)
end RXN
