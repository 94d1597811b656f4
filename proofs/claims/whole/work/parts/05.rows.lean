section RXB
variable {d : Nat} {mi : gMi} {E : gE} {nL a b pc : Nat} {ls : List (Option Value)} {st : List Value} {M : gM}
theorem rx_goto (hE : g_E d mi E) {off : Int} {tgt : Nat} (hd : decode mi.2.1 pc = .ok (.goto off, 3)) (ht : (pc : Int) + off = (tgt : Int)) (k : RX E nL a b tgt ls st M) : RX E nL a b pc ls st M := by
  obtain ⟨p, l, e, R, s, m, args, below, meth, c, Q, g⟩ := E
  intro H locs arr cells slots hR hS hL hc hs
  exact lv_goto hE.1 hE.2.1 hd ht (k H locs arr cells slots hR hS hL hc hs)
theorem rx_ifnonnullN (hE : g_E d mi E) {off : Int} (hd : decode mi.2.1 pc = .ok (.ifnonnull off, 3)) (k : RX E nL a b (pc + 3) ls st M) : RX E nL a b pc ls (.null :: st) M := by
  obtain ⟨p, l, e, R, s, m, args, below, meth, c, Q, g⟩ := E
  intro H locs arr cells slots hR hS hL hc hs
  exact lv_ifnonnullN hE.1 hE.2.1 hd (k H locs arr cells slots hR hS hL hc hs)
theorem rx_ifnonnull (hE : g_E d mi E) {off : Int} {tgt x : Nat} (hd : decode mi.2.1 pc = .ok (.ifnonnull off, 3)) (ht : (pc : Int) + off = (tgt : Int)) (k : RX E nL a b tgt ls st M) : RX E nL a b pc ls (.ref x :: st) M := by
  obtain ⟨p, l, e, R, s, m, args, below, meth, c, Q, g⟩ := E
  intro H locs arr cells slots hR hS hL hc hs
  exact lv_ifnonnull hE.1 hE.2.1 hd ht (k H locs arr cells slots hR hS hL hc hs)
theorem rx_tableIn (hE : g_E d mi E) {dflt lo hi : Int} {offs : Array Int} {len : Nat} {x : Int32} {off : Int} {tgt : Nat} (hd : decode mi.2.1 pc = .ok (.tableswitch dflt lo hi offs, len)) (h1 : ¬ x.toInt < lo) (h2 : ¬ hi < x.toInt) (ho : offs[(x.toInt - lo).toNat]? = some off) (ht : (pc : Int) + off = (tgt : Int)) (k : RX E nL a b tgt ls st M) : RX E nL a b pc ls (.int x :: st) M := by
  obtain ⟨p, l, e, R, s, m, args, below, meth, c, Q, g⟩ := E
  intro H locs arr cells slots hR hS hL hc hs
  exact lv_tableIn hE.1 hE.2.1 hd h1 h2 ho ht (k H locs arr cells slots hR hS hL hc hs)
theorem rx_tableOut (hE : g_E d mi E) {dflt lo hi : Int} {offs : Array Int} {len : Nat} {x : Int32} {tgt : Nat} (hd : decode mi.2.1 pc = .ok (.tableswitch dflt lo hi offs, len)) (h1 : x.toInt < lo ∨ hi < x.toInt) (ht : (pc : Int) + dflt = (tgt : Int)) (k : RX E nL a b tgt ls st M) : RX E nL a b pc ls (.int x :: st) M := by
  obtain ⟨p, l, e, R, s, m, args, below, meth, c, Q, g⟩ := E
  intro H locs arr cells slots hR hS hL hc hs
  exact lv_tableOut hE.1 hE.2.1 hd h1 ht (k H locs arr cells slots hR hS hL hc hs)
theorem rx_lookup (hE : g_E d mi E) {dflt : Int} {ps : Array (Int × Int)} {len : Nat} {x : Int32} {off : Int} {tgt : Nat} (hd : decode mi.2.1 pc = .ok (.lookupswitch dflt ps, len)) (hp : (ps.toList.zip (ps.toList.drop 1)).all (fun (a, next) => a.1 < next.1) = true) (ho : Op.lookupswitch.offset ps.toList dflt x.toInt = off) (ht : (pc : Int) + off = (tgt : Int)) (k : RX E nL a b tgt ls st M) : RX E nL a b pc ls (.int x :: st) M := by
  obtain ⟨p, l, e, R, s, m, args, below, meth, c, Q, g⟩ := E
  intro H locs arr cells slots hR hS hL hc hs
  exact lv_lookup hE.1 hE.2.1 hd hp ho ht (k H locs arr cells slots hR hS hL hc hs)
theorem rx_ldc (hE : g_E d mi E) {idx : Nat} {v : Int32} (hd : decode mi.2.1 pc = .ok (.ldc idx, 2)) (hm : Cond.constant mi.1.cls idx v ∈ g_tb) (k : RX E nL a b (pc + 2) ls (.int v :: st) M) : RX E nL a b pc ls st M := by
  obtain ⟨p, l, e, R, s, m, args, below, meth, c, Q, g⟩ := E
  intro H locs arr cells slots hR hS hL hc hs
  exact lv_ldc hE.1 hE.2.1 hE.2.2.2.1 (hE.2.2.2.2.1 _ hm) hd (k H locs arr cells slots hR hS hL hc hs)
theorem rx_ldcw (hE : g_E d mi E) {idx : Nat} {v : Int32} (hd : decode mi.2.1 pc = .ok (.ldc_w idx, 3)) (hm : Cond.constant mi.1.cls idx v ∈ g_tb) (k : RX E nL a b (pc + 3) ls (.int v :: st) M) : RX E nL a b pc ls st M := by
  obtain ⟨p, l, e, R, s, m, args, below, meth, c, Q, g⟩ := E
  intro H locs arr cells slots hR hS hL hc hs
  exact lv_ldcw hE.1 hE.2.1 hE.2.2.2.1 (hE.2.2.2.2.1 _ hm) hd (k H locs arr cells slots hR hS hL hc hs)
theorem rx_ldc2 (hE : g_E d mi E) {idx : Nat} {v : Int64} (hd : decode mi.2.1 pc = .ok (.ldc2_w idx, 3)) (hm : Cond.constantLong mi.1.cls idx v ∈ g_tb) (k : RX E nL a b (pc + 3) ls (.long v :: st) M) : RX E nL a b pc ls st M := by
  obtain ⟨p, l, e, R, s, m, args, below, meth, c, Q, g⟩ := E
  intro H locs arr cells slots hR hS hL hc hs
  exact lv_ldc2 hE.1 hE.2.1 hE.2.2.2.1 (hE.2.2.2.2.1 _ hm) hd (k H locs arr cells slots hR hS hL hc hs)
theorem rx_ldcS (hE : g_E d mi E) (i : Nat) (hi : i < 6) {idx : Nat} (hd : decode mi.2.1 pc = .ok (.ldc idx, 2)) (h1 : (g_txt i).1 = mi.1.cls) (h2 : (g_txt i).2.1 = idx) (k : RX E nL a b (pc + 2) ls (.ref (3 + i) :: st) M) : RX E nL a b pc ls st M := by
  obtain ⟨p, l, e, R, s, m, args, below, meth, c, Q, g⟩ := E
  intro H locs arr cells slots hR hS hL hc hs
  have hZ := hE.2.2.2.2.2.1.2.2.2.2.2.2.2.1.2.1 i hi
  have k2 := k H locs arr cells slots hR hS hL hc hs
  rw [List.map_cons, show g_v g (.ref (3 + i)) = .ref (g.2.2.2 (3 + i)) from congrArg Value.ref (g_ad_lo g (by omega))] at k2
  rw [h1, h2] at hZ
  exact va_ldcS hE.1 hE.2.1 hE.2.2.2.1 hZ hd k2

theorem rx_if_eq (hE : g_E d mi E) {x : Int32} {off : Int} {tgt : Nat} (hd : decode mi.2.1 pc = .ok (.ifCond .eq off, 3)) (ht : (pc : Int) + off = (tgt : Int)) (kt : x = 0 → RX E nL a b tgt ls st M) (kf : ¬ x = 0 → RX E nL a b (pc + 3) ls st M) : RX E nL a b pc ls (.int x :: st) M := by
  obtain ⟨p, l, e, R, s, m, args, below, meth, c, Q, g⟩ := E
  intro H locs arr cells slots hR hS hL hc hs
  exact lv_if_eq hE.1 hE.2.1 hd ht (fun q => kt q H locs arr cells slots hR hS hL hc hs) (fun q => kf q H locs arr cells slots hR hS hL hc hs)
theorem rx_icmp_eq (hE : g_E d mi E) {x y : Int32} {off : Int} {tgt : Nat} (hd : decode mi.2.1 pc = .ok (.if_icmp .eq off, 3)) (ht : (pc : Int) + off = (tgt : Int)) (kt : x = y → RX E nL a b tgt ls st M) (kf : ¬ x = y → RX E nL a b (pc + 3) ls st M) : RX E nL a b pc ls (.int y :: .int x :: st) M := by
  obtain ⟨p, l, e, R, s, m, args, below, meth, c, Q, g⟩ := E
  intro H locs arr cells slots hR hS hL hc hs
  exact lv_icmp_eq hE.1 hE.2.1 hd ht (fun q => kt q H locs arr cells slots hR hS hL hc hs) (fun q => kf q H locs arr cells slots hR hS hL hc hs)
theorem rx_if_ne (hE : g_E d mi E) {x : Int32} {off : Int} {tgt : Nat} (hd : decode mi.2.1 pc = .ok (.ifCond .ne off, 3)) (ht : (pc : Int) + off = (tgt : Int)) (kt : ¬ x = 0 → RX E nL a b tgt ls st M) (kf : x = 0 → RX E nL a b (pc + 3) ls st M) : RX E nL a b pc ls (.int x :: st) M := by
  obtain ⟨p, l, e, R, s, m, args, below, meth, c, Q, g⟩ := E
  intro H locs arr cells slots hR hS hL hc hs
  exact lv_if_ne hE.1 hE.2.1 hd ht (fun q => kt q H locs arr cells slots hR hS hL hc hs) (fun q => kf q H locs arr cells slots hR hS hL hc hs)
theorem rx_icmp_ne (hE : g_E d mi E) {x y : Int32} {off : Int} {tgt : Nat} (hd : decode mi.2.1 pc = .ok (.if_icmp .ne off, 3)) (ht : (pc : Int) + off = (tgt : Int)) (kt : ¬ x = y → RX E nL a b tgt ls st M) (kf : x = y → RX E nL a b (pc + 3) ls st M) : RX E nL a b pc ls (.int y :: .int x :: st) M := by
  obtain ⟨p, l, e, R, s, m, args, below, meth, c, Q, g⟩ := E
  intro H locs arr cells slots hR hS hL hc hs
  exact lv_icmp_ne hE.1 hE.2.1 hd ht (fun q => kt q H locs arr cells slots hR hS hL hc hs) (fun q => kf q H locs arr cells slots hR hS hL hc hs)
theorem rx_if_lt (hE : g_E d mi E) {x : Int32} {off : Int} {tgt : Nat} (hd : decode mi.2.1 pc = .ok (.ifCond .lt off, 3)) (ht : (pc : Int) + off = (tgt : Int)) (kt : x < 0 → RX E nL a b tgt ls st M) (kf : ¬ x < 0 → RX E nL a b (pc + 3) ls st M) : RX E nL a b pc ls (.int x :: st) M := by
  obtain ⟨p, l, e, R, s, m, args, below, meth, c, Q, g⟩ := E
  intro H locs arr cells slots hR hS hL hc hs
  exact lv_if_lt hE.1 hE.2.1 hd ht (fun q => kt q H locs arr cells slots hR hS hL hc hs) (fun q => kf q H locs arr cells slots hR hS hL hc hs)
theorem rx_icmp_lt (hE : g_E d mi E) {x y : Int32} {off : Int} {tgt : Nat} (hd : decode mi.2.1 pc = .ok (.if_icmp .lt off, 3)) (ht : (pc : Int) + off = (tgt : Int)) (kt : x < y → RX E nL a b tgt ls st M) (kf : ¬ x < y → RX E nL a b (pc + 3) ls st M) : RX E nL a b pc ls (.int y :: .int x :: st) M := by
  obtain ⟨p, l, e, R, s, m, args, below, meth, c, Q, g⟩ := E
  intro H locs arr cells slots hR hS hL hc hs
  exact lv_icmp_lt hE.1 hE.2.1 hd ht (fun q => kt q H locs arr cells slots hR hS hL hc hs) (fun q => kf q H locs arr cells slots hR hS hL hc hs)
theorem rx_if_ge (hE : g_E d mi E) {x : Int32} {off : Int} {tgt : Nat} (hd : decode mi.2.1 pc = .ok (.ifCond .ge off, 3)) (ht : (pc : Int) + off = (tgt : Int)) (kt : 0 ≤ x → RX E nL a b tgt ls st M) (kf : ¬ 0 ≤ x → RX E nL a b (pc + 3) ls st M) : RX E nL a b pc ls (.int x :: st) M := by
  obtain ⟨p, l, e, R, s, m, args, below, meth, c, Q, g⟩ := E
  intro H locs arr cells slots hR hS hL hc hs
  exact lv_if_ge hE.1 hE.2.1 hd ht (fun q => kt q H locs arr cells slots hR hS hL hc hs) (fun q => kf q H locs arr cells slots hR hS hL hc hs)
theorem rx_icmp_ge (hE : g_E d mi E) {x y : Int32} {off : Int} {tgt : Nat} (hd : decode mi.2.1 pc = .ok (.if_icmp .ge off, 3)) (ht : (pc : Int) + off = (tgt : Int)) (kt : y ≤ x → RX E nL a b tgt ls st M) (kf : ¬ y ≤ x → RX E nL a b (pc + 3) ls st M) : RX E nL a b pc ls (.int y :: .int x :: st) M := by
  obtain ⟨p, l, e, R, s, m, args, below, meth, c, Q, g⟩ := E
  intro H locs arr cells slots hR hS hL hc hs
  exact lv_icmp_ge hE.1 hE.2.1 hd ht (fun q => kt q H locs arr cells slots hR hS hL hc hs) (fun q => kf q H locs arr cells slots hR hS hL hc hs)
theorem rx_if_gt (hE : g_E d mi E) {x : Int32} {off : Int} {tgt : Nat} (hd : decode mi.2.1 pc = .ok (.ifCond .gt off, 3)) (ht : (pc : Int) + off = (tgt : Int)) (kt : 0 < x → RX E nL a b tgt ls st M) (kf : ¬ 0 < x → RX E nL a b (pc + 3) ls st M) : RX E nL a b pc ls (.int x :: st) M := by
  obtain ⟨p, l, e, R, s, m, args, below, meth, c, Q, g⟩ := E
  intro H locs arr cells slots hR hS hL hc hs
  exact lv_if_gt hE.1 hE.2.1 hd ht (fun q => kt q H locs arr cells slots hR hS hL hc hs) (fun q => kf q H locs arr cells slots hR hS hL hc hs)
theorem rx_icmp_gt (hE : g_E d mi E) {x y : Int32} {off : Int} {tgt : Nat} (hd : decode mi.2.1 pc = .ok (.if_icmp .gt off, 3)) (ht : (pc : Int) + off = (tgt : Int)) (kt : y < x → RX E nL a b tgt ls st M) (kf : ¬ y < x → RX E nL a b (pc + 3) ls st M) : RX E nL a b pc ls (.int y :: .int x :: st) M := by
  obtain ⟨p, l, e, R, s, m, args, below, meth, c, Q, g⟩ := E
  intro H locs arr cells slots hR hS hL hc hs
  exact lv_icmp_gt hE.1 hE.2.1 hd ht (fun q => kt q H locs arr cells slots hR hS hL hc hs) (fun q => kf q H locs arr cells slots hR hS hL hc hs)
theorem rx_if_le (hE : g_E d mi E) {x : Int32} {off : Int} {tgt : Nat} (hd : decode mi.2.1 pc = .ok (.ifCond .le off, 3)) (ht : (pc : Int) + off = (tgt : Int)) (kt : x ≤ 0 → RX E nL a b tgt ls st M) (kf : ¬ x ≤ 0 → RX E nL a b (pc + 3) ls st M) : RX E nL a b pc ls (.int x :: st) M := by
  obtain ⟨p, l, e, R, s, m, args, below, meth, c, Q, g⟩ := E
  intro H locs arr cells slots hR hS hL hc hs
  exact lv_if_le hE.1 hE.2.1 hd ht (fun q => kt q H locs arr cells slots hR hS hL hc hs) (fun q => kf q H locs arr cells slots hR hS hL hc hs)
theorem rx_icmp_le (hE : g_E d mi E) {x y : Int32} {off : Int} {tgt : Nat} (hd : decode mi.2.1 pc = .ok (.if_icmp .le off, 3)) (ht : (pc : Int) + off = (tgt : Int)) (kt : x ≤ y → RX E nL a b tgt ls st M) (kf : ¬ x ≤ y → RX E nL a b (pc + 3) ls st M) : RX E nL a b pc ls (.int y :: .int x :: st) M := by
  obtain ⟨p, l, e, R, s, m, args, below, meth, c, Q, g⟩ := E
  intro H locs arr cells slots hR hS hL hc hs
  exact lv_icmp_le hE.1 hE.2.1 hd ht (fun q => kt q H locs arr cells slots hR hS hL hc hs) (fun q => kf q H locs arr cells slots hR hS hL hc hs)
theorem rx_iret {a0 b0 : Nat} {Post : Option Value → gM → Prop} (hE : g_E d mi E) (hQ : g_Q a0 b0 Post E) {x : Int32} (hr : mi.2.2.2 = some .int) (hd : decode mi.2.1 pc = .ok (.ireturn, 1)) (hp : Post (some (.int x)) M) : RX E nL 0 b pc ls [.int x] M := by
  obtain ⟨p, l, e, R, s, m, args, below, meth, c, Q, g⟩ := E
  intro H locs arr cells slots hR hS hL hc hs
  obtain ⟨hq1, hq2, rfl⟩ := hQ
  obtain ⟨hz, hc⟩ := hc
  have hr2 : meth.sig.returnType = mi.2.2.2 := hE.2.2.2.2.2.2.2.1
  have hlk : meth.locks = false := hE.2.2.2.2.2.2.1
  rw [hr] at hr2
  have hce : cells = a0 := by omega
  subst hce
  refine W.widen (k := cells) (n := b0) (Nat.le_refl _) (by omega) ?_
  exact W.iret hE.1 hE.2.1 hr2 (fun t ht hW => ⟨⟨some (.int x), M, rfl, hp, by rw [ht]; exact hR, by rw [ht]; exact hz⟩, hS.F ht⟩) hS.2.2 hd hlk
theorem rx_lret {a0 b0 : Nat} {Post : Option Value → gM → Prop} (hE : g_E d mi E) (hQ : g_Q a0 b0 Post E) {x : Int64} (hr : mi.2.2.2 = some .long) (hd : decode mi.2.1 pc = .ok (.lreturn, 1)) (hp : Post (some (.long x)) M) : RX E nL 0 b pc ls [.long x] M := by
  obtain ⟨p, l, e, R, s, m, args, below, meth, c, Q, g⟩ := E
  intro H locs arr cells slots hR hS hL hc hs
  obtain ⟨hq1, hq2, rfl⟩ := hQ
  obtain ⟨hz, hc⟩ := hc
  have hr2 : meth.sig.returnType = mi.2.2.2 := hE.2.2.2.2.2.2.2.1
  have hlk : meth.locks = false := hE.2.2.2.2.2.2.1
  rw [hr] at hr2
  have hce : cells = a0 := by omega
  subst hce
  refine W.widen (k := cells) (n := b0) (Nat.le_refl _) (by omega) ?_
  exact W.lret hE.1 hE.2.1 hr2 (fun t ht hW => ⟨⟨some (.long x), M, rfl, hp, by rw [ht]; exact hR, by rw [ht]; exact hz⟩, hS.F ht⟩) hS.2.2 hd hlk
theorem rx_vret {a0 b0 : Nat} {Post : Option Value → gM → Prop} (hE : g_E d mi E) (hQ : g_Q a0 b0 Post E) (hr : mi.2.2.2 = none) (hd : decode mi.2.1 pc = .ok (.return_, 1)) (hp : Post (none) M) : RX E nL 0 b pc ls [] M := by
  obtain ⟨p, l, e, R, s, m, args, below, meth, c, Q, g⟩ := E
  intro H locs arr cells slots hR hS hL hc hs
  obtain ⟨hq1, hq2, rfl⟩ := hQ
  obtain ⟨hz, hc⟩ := hc
  have hr2 : meth.sig.returnType = mi.2.2.2 := hE.2.2.2.2.2.2.2.1
  have hlk : meth.locks = false := hE.2.2.2.2.2.2.1
  rw [hr] at hr2
  have hce : cells = a0 := by omega
  subst hce
  refine W.widen (k := cells) (n := b0) (Nat.le_refl _) (by omega) ?_
  exact W.vret hE.1 hE.2.1 hr2 (fun t ht hW => ⟨⟨none, M, rfl, hp, by rw [ht]; exact hR, by rw [ht]; exact hz⟩, hS.F ht⟩) hS.2.2 hd hlk
theorem rx_tret {a0 b0 : Nat} {Post : Option Value → gM → Prop} (hE : g_E d mi E) (hQ : g_Q a0 b0 Post E) {x : Int32} {ty : FieldType} (hn : narrow ty (.int x) = .int x) (hr : mi.2.2.2 = some ty) (hd : decode mi.2.1 pc = .ok (.ireturn, 1)) (hp : Post (some (.int x)) M) : RX E nL 0 b pc ls [.int x] M := by
  obtain ⟨p, l, e, R, s, m, args, below, meth, c, Q, g⟩ := E
  intro H locs arr cells slots hR hS hL hc hs
  obtain ⟨hq1, hq2, rfl⟩ := hQ
  obtain ⟨hz, hc⟩ := hc
  have hr2 : meth.sig.returnType = mi.2.2.2 := hE.2.2.2.2.2.2.2.1
  have hlk : meth.locks = false := hE.2.2.2.2.2.2.1
  rw [hr] at hr2
  have hce : cells = a0 := by omega
  subst hce
  refine W.widen (k := cells) (n := b0) (Nat.le_refl _) (by omega) ?_
  exact W.zret hE.1 hE.2.1 hr2 hn (fun t ht hW => ⟨⟨some (.int x), M, rfl, hp, by rw [ht]; exact hR, by rw [ht]; exact hz⟩, hS.F ht⟩) hS.2.2 hd hlk
theorem rx_aret {a0 b0 : Nat} {Post : Option Value → gM → Prop} (hE : g_E d mi E) (hQ : g_Q a0 b0 Post E) {x : Nat} {ty : FieldType} (hrt : (∃ n, ty = .object n) ∨ ∃ t, ty = .array t) (hr : mi.2.2.2 = some ty) (hd : decode mi.2.1 pc = .ok (.areturn, 1)) (hp : Post (some (.ref x)) M) : RX E nL 0 b pc ls [.ref x] M := by
  obtain ⟨p, l, e, R, s, m, args, below, meth, c, Q, g⟩ := E
  intro H locs arr cells slots hR hS hL hc hs
  obtain ⟨hq1, hq2, rfl⟩ := hQ
  obtain ⟨hz, hc⟩ := hc
  have hr2 : meth.sig.returnType = mi.2.2.2 := hE.2.2.2.2.2.2.2.1
  have hlk : meth.locks = false := hE.2.2.2.2.2.2.1
  rw [hr] at hr2
  have hce : cells = a0 := by omega
  subst hce
  refine W.widen (k := cells) (n := b0) (Nat.le_refl _) (by omega) ?_
  exact W.aret hE.1 hE.2.1 hr2 hrt (Or.inr ⟨_, rfl⟩) (fun t ht hW => ⟨⟨some (.ref x), M, rfl, hp, by rw [ht]; exact hR, by rw [ht]; exact hz⟩, hS.F ht⟩) hS.2.2 hd hlk
theorem rx_aretN {a0 b0 : Nat} {Post : Option Value → gM → Prop} (hE : g_E d mi E) (hQ : g_Q a0 b0 Post E) {ty : FieldType} (hrt : (∃ n, ty = .object n) ∨ ∃ t, ty = .array t) (hr : mi.2.2.2 = some ty) (hd : decode mi.2.1 pc = .ok (.areturn, 1)) (hp : Post (some .null) M) : RX E nL 0 b pc ls [.null] M := by
  obtain ⟨p, l, e, R, s, m, args, below, meth, c, Q, g⟩ := E
  intro H locs arr cells slots hR hS hL hc hs
  obtain ⟨hq1, hq2, rfl⟩ := hQ
  obtain ⟨hz, hc⟩ := hc
  have hr2 : meth.sig.returnType = mi.2.2.2 := hE.2.2.2.2.2.2.2.1
  have hlk : meth.locks = false := hE.2.2.2.2.2.2.1
  rw [hr] at hr2
  have hce : cells = a0 := by omega
  subst hce
  refine W.widen (k := cells) (n := b0) (Nat.le_refl _) (by omega) ?_
  exact W.aret hE.1 hE.2.1 hr2 hrt (Or.inl rfl) (fun t ht hW => ⟨⟨some .null, M, rfl, hp, by rw [ht]; exact hR, by rw [ht]; exact hz⟩, hS.F ht⟩) hS.2.2 hd hlk
end RXB
