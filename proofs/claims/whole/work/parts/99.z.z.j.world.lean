/-! ===== the world at the law's entry ===== -/
theorem va_Xof {args : Array Value} {s : State} {tm : Term} {N : Nat} {f : Nat → Int32} (hN : N < 2 ^ 31) (harr : (Cond.arrayOf tm .int).before args s = true) (hlen : (Term.length tm).eval args s none [] s = some (.int (Int32.ofNat N))) (hel : ∀ j : Nat, j < N → (Term.elem tm (.int (Int32.ofNat j))).eval args s none [] s = some (.int (f j))) : ∃ t : Nat, tm.eval args s none [] s = some (.ref t) ∧ va_X t N f s s.heap ∧ t < s.heap.size := by
  obtain ⟨t, ht, cell, hcell, hof, hkn, hle, hsz, hel', -⟩ := va_Tof (ty := .int) (f := fun j => .int (f j)) (A := fun _ => False) hN harr hlen hel (fun _ _ q => q)
  obtain ⟨t', cell', ht', hat, hv⟩ := Term.length_spec hlen
  cases ht.symm.trans ht'
  obtain ⟨hcell', -, -, -⟩ := State.arrayAt?_spec hat
  cases hcell.symm.trans hcell'
  have hsm := Cond.small_of_lengthOf ht hat (by simp [Cond.before, Cond.holds, Cond.value, hlen])
  refine ⟨t, ht, ⟨cell, hcell, hof, hkn, ?_, hel'⟩, (Array.getElem?_eq_some_iff.mp hcell).1⟩
  have h := congrArg Int32.toNatClampNeg hsz
  rw [show cell.slots.size.toInt32 = Int32.ofNat cell.slots.size from rfl, Int32.toNatClampNeg_ofNat_of_lt hsm, Int32.toNatClampNeg_ofNat_of_lt hN] at h
  exact h
theorem g_tb_sub {w : Cond} (h : w ∈ g_tb) : w ∈ lw_tbl := (List.mem_filter.mp h).1
abbrev nfl : List Cond := flatC (Jvm.Cond.and given_1 narrow_1)
theorem wl_r : ∀ j, j < 5 → Cond.eq (.elem (.static "DutyBeats" "RESTS" "[I") (.int (Int32.ofNat j))) (.int (g_rests j)) ∈ nfl := by decide +kernel
theorem wl_s : ∀ j, j < 12 → Cond.eq (.elem (.static "DutyBeats$Junction" "SOUNDS" "[I") (.int (Int32.ofNat j))) (.int (g_sounds j)) ∈ nfl := by decide +kernel
abbrev g_tm (i : Nat) : Term := .string (g_txt i).1 (g_txt i).2.1
theorem wl_ex : ∀ i, i < 6 → Cond.exactly (g_tm i) "java/lang/String" ∈ nfl := by decide +kernel
theorem wl_co : ∀ i, i < 6 → Cond.eq (.field (g_tm i) "java/lang/String" "coder" "B") (.int 0) ∈ nfl := by decide +kernel
theorem wl_ar : ∀ i, i < 6 → Cond.arrayOf (.field (g_tm i) "java/lang/String" "value" "[B") .byte ∈ nfl := by decide +kernel
theorem wl_le : ∀ i, i < 6 → Cond.eq (.length (.field (g_tm i) "java/lang/String" "value" "[B")) (.int (Int32.ofNat (g_len.getD i 0))) ∈ nfl := by decide +kernel
theorem wl_el : ∀ i, i < 6 → ∀ j, j < g_len.getD i 0 → Cond.eq (.elem (.field (g_tm i) "java/lang/String" "value" "[B") (.int (Int32.ofNat j))) (.int ((g_byt.getD i []).getD j 0)) ∈ nfl := by decide +kernel
theorem wl_ne : ∀ i, i < 6 → ∀ j, j < 6 → i ≠ j → Cond.not (Cond.eq (g_tm i) (g_tm j)) ∈ nfl ∨ Cond.not (Cond.eq (g_tm j) (g_tm i)) ∈ nfl := by decide +kernel
theorem wl_st : ∀ i, i < 6 → Cond.stringRef (g_txt i).1 (g_txt i).2.1 (g_txt i).2.2 ∈ lw_tbl := by decide +kernel
theorem w_cl {s : State} {args : Array Value} (hts : ∀ w ∈ lw_tbl, w.before args s = true) : ∀ c : Nat, ∃ q : ClassId × (Nat → Nat), ∀ r : vw_C, vwCl[c]? = some r → u_Kn s r.1 r.2.1 r.2.2 q.1 q.2 := by
  intro c
  match c with
  | 0 =>
    obtain ⟨a, i, h⟩ := u_known (C := RX0) (T := TX0) (N := 3) (n := 3) hts (fun w hw => g_tb_sub (iX0 w hw)) (hts (.instantiable RX0 3) (by decide +kernel))
    exact ⟨(a, i), fun r hr => by cases hr; exact h⟩
  | 1 =>
    obtain ⟨a, i, h⟩ := u_known (C := RX1) (T := TX1) (N := 6) (n := 6) hts (fun w hw => g_tb_sub (iX1 w hw)) (hts (.instantiable RX1 6) (by decide +kernel))
    exact ⟨(a, i), fun r hr => by cases hr; exact h⟩
  | 2 =>
    obtain ⟨a, i, h⟩ := u_known (C := RX2) (T := TX2) (N := 15) (n := 15) hts (fun w hw => g_tb_sub (iX2 w hw)) (hts (.instantiable RX2 15) (by decide +kernel))
    exact ⟨(a, i), fun r hr => by cases hr; exact h⟩
  | 3 =>
    obtain ⟨a, i, h⟩ := u_known (C := RX3) (T := TX3) (N := 2) (n := 2) hts (fun w hw => g_tb_sub (iX3 w hw)) (hts (.instantiable RX3 2) (by decide +kernel))
    exact ⟨(a, i), fun r hr => by cases hr; exact h⟩
  | 4 =>
    obtain ⟨a, i, h⟩ := u_known (C := RX4) (T := TX4) (N := 4) (n := 4) hts (fun w hw => g_tb_sub (iX4 w hw)) (hts (.instantiable RX4 4) (by decide +kernel))
    exact ⟨(a, i), fun r hr => by cases hr; exact h⟩
  | 5 =>
    obtain ⟨a, i, h⟩ := u_known (C := RX5) (T := TX5) (N := 12) (n := 12) hts (fun w hw => g_tb_sub (iX5 w hw)) (hts (.instantiable RX5 12) (by decide +kernel))
    exact ⟨(a, i), fun r hr => by cases hr; exact h⟩
  | 6 =>
    obtain ⟨a, i, h⟩ := u_known (C := RX6) (T := TX6) (N := 2) (n := 2) hts (fun w hw => g_tb_sub (iX6 w hw)) (hts (.instantiable RX6 2) (by decide +kernel))
    exact ⟨(a, i), fun r hr => by cases hr; exact h⟩
  | 7 =>
    obtain ⟨a, i, h⟩ := u_known (C := RX7) (T := TX7) (N := 4) (n := 4) hts (fun w hw => g_tb_sub (iX7 w hw)) (hts (.instantiable RX7 4) (by decide +kernel))
    exact ⟨(a, i), fun r hr => by cases hr; exact h⟩
  | 8 =>
    obtain ⟨a, i, h⟩ := u_known (C := RX8) (T := TX8) (N := 7) (n := 7) hts (fun w hw => g_tb_sub (iX8 w hw)) (hts (.instantiable RX8 7) (by decide +kernel))
    exact ⟨(a, i), fun r hr => by cases hr; exact h⟩
  | 9 =>
    obtain ⟨a, i, h⟩ := u_known (C := RX10) (T := TX10) (N := 19) (n := 19) hts (fun w hw => g_tb_sub (iX10 w hw)) (hts (.instantiable RX10 19) (by decide +kernel))
    exact ⟨(a, i), fun r hr => by cases hr; exact h⟩
  | 10 =>
    obtain ⟨a, i, h⟩ := u_known (C := RX11) (T := TX11) (N := 42) (n := 42) hts (fun w hw => g_tb_sub (iX11 w hw)) (hts (.instantiable RX11 42) (by decide +kernel))
    exact ⟨(a, i), fun r hr => by cases hr; exact h⟩
  | n + 11 => exact ⟨(0, fun _ => 0), fun r hr => by cases hr⟩
theorem w_ty {s : State} {args : Array Value} (hts : ∀ w ∈ lw_tbl, w.before args s = true) : ∀ t : Nat, ∃ cA : ClassId, t < 8 → ArrOfT s cA (g_ty t) ∧ va_RA s cA (g_ty t) := by
  intro t
  match t with
  | 0 =>
    obtain ⟨c, k, comp, h1, h2, h3⟩ := Cond.arrayClass_spec (hts (.arrayClass .int) (by decide +kernel))
    exact ⟨c, fun _ => ⟨fun N z => ⟨(fun k h => by cases h), k, h2, comp, h3⟩, h1⟩⟩
  | 1 =>
    obtain ⟨c, k, comp, h1, h2, h3⟩ := Cond.arrayClass_spec (hts (.arrayClass .byte) (by decide +kernel))
    exact ⟨c, fun _ => ⟨fun N z => ⟨(fun k h => by cases h), k, h2, comp, h3⟩, h1⟩⟩
  | 2 =>
    obtain ⟨c, k, comp, h1, h2, h3⟩ := Cond.arrayClass_spec (hts (.arrayClass .long) (by decide +kernel))
    exact ⟨c, fun _ => ⟨fun N z => ⟨(fun k h => by cases h), k, h2, comp, h3⟩, h1⟩⟩
  | 3 =>
    obtain ⟨c, k, comp, h1, h2, h3⟩ := Cond.arrayClass_spec (hts (.arrayClass .boolean) (by decide +kernel))
    exact ⟨c, fun _ => ⟨fun N z => ⟨(fun k h => by cases h), k, h2, comp, h3⟩, h1⟩⟩
  | 4 =>
    obtain ⟨comp, c, k, h1, _, h2, h3, h4⟩ := Cond.arrayOver_spec (hts (.arrayOver (.object "DutyBeats$Rule")) (by decide +kernel))
    exact ⟨c, fun _ => ⟨fun N z => ⟨(fun k h => by cases h), k, h2, comp, h3⟩, k, comp, h2, h3, h1, h4⟩⟩
  | 5 =>
    obtain ⟨comp, c, k, h1, _, h2, h3, h4⟩ := Cond.arrayOver_spec (hts (.arrayOver (.object "DutyBeats$Junction")) (by decide +kernel))
    exact ⟨c, fun _ => ⟨fun N z => ⟨(fun k h => by cases h), k, h2, comp, h3⟩, k, comp, h2, h3, h1, h4⟩⟩
  | 6 =>
    obtain ⟨comp, c, k, h1, _, h2, h3, h4⟩ := Cond.arrayOver_spec (hts (.arrayOver (.object "DutyBeats$Image")) (by decide +kernel))
    exact ⟨c, fun _ => ⟨fun N z => ⟨(fun k h => by cases h), k, h2, comp, h3⟩, k, comp, h2, h3, h1, h4⟩⟩
  | 7 =>
    obtain ⟨comp, c, k, h1, _, h2, h3, h4⟩ := Jvm.Stand.arrayOver_specB (hts (.arrayOver (.array .int)) (by decide +kernel))
    exact ⟨c, fun _ => ⟨fun N z => ⟨(fun k h => by cases h), k, h2, comp, h3⟩, h4⟩⟩
  | n + 8 => exact ⟨0, fun h => absurd h (by omega)⟩
theorem w_N {s : State} {args : Array Value} (hts : ∀ w ∈ lw_tbl, w.before args s = true) : g_N s := ⟨fun a i b n d h hh => va_Nw.of rfl (hts _ hh), fun a i x h hh => va_Nw.of rfl (hts _ hh), fun x hh => va_Nw.of rfl (hts _ hh), fun C hh => va_AO.of (hts _ hh), Jvm.Stand.arrayOver_alikeB (Vm.Alike.refl s.vm) (hts (.arrayOver (.array .int)) (by decide +kernel))⟩
set_option maxRecDepth 100000 in
theorem g_world {s : State} {b : Nat} (hts : ∀ w ∈ lw_tbl, w.before #[Value.ref b] s = true) (hgv : (Jvm.Cond.and given_1 narrow_1).before #[Value.ref b] s = true) (hbl : b < s.heap.size) : ∃ g : gG, g_K g s s.heap ∧ g.2.2.1 = s.heap.size ∧ g.2.2.2 0 = b := by
  have hs : ∀ c ∈ nfl, c.before #[Value.ref b] s = true := flat_of_before _ hgv
  have hA : ∀ a : Nat, a < s.heap.size → ¬ s.heap.size ≤ a := fun a h => Nat.not_le.mpr h
  obtain ⟨D, hD⟩ := Classical.axiomOfChoice (w_cl hts)
  obtain ⟨TC, hTC⟩ := Classical.axiomOfChoice (w_ty hts)
  obtain ⟨r1, e1, x1, l1⟩ := va_Xof (tm := .static "DutyBeats" "RESTS" "[I") (N := 5) (f := g_rests) (by decide) (hs (.arrayOf (.static "DutyBeats" "RESTS" "[I") .int) (by decide +kernel)) (va_eqt (hs (.eq (.length (.static "DutyBeats" "RESTS" "[I")) (.int (Int32.ofNat 5))) (by decide +kernel))) (fun j hj => va_eqt (hs _ (wl_r j hj)))
  obtain ⟨r2, e2, x2, l2⟩ := va_Xof (tm := .static "DutyBeats$Junction" "SOUNDS" "[I") (N := 12) (f := g_sounds) (by decide) (hs (.arrayOf (.static "DutyBeats$Junction" "SOUNDS" "[I") .int) (by decide +kernel)) (va_eqt (hs (.eq (.length (.static "DutyBeats$Junction" "SOUNDS" "[I")) (.int (Int32.ofNat 12))) (by decide +kernel))) (fun j hj => va_eqt (hs _ (wl_s j hj)))
  have z1 : va_Z "DutyBeats" "RESTS" "[I" (.ref r1) (fun q => s.heap.size ≤ q) s s.heap := va_Zof (hts (.laysStatic "DutyBeats" "RESTS" "[I") (by decide +kernel)) (hts (.initialized "DutyBeats") (by decide +kernel)) e1 hA
  have z2 : va_Z "DutyBeats$Junction" "SOUNDS" "[I" (.ref r2) (fun q => s.heap.size ≤ q) s s.heap := va_Zof (hts (.laysStatic "DutyBeats$Junction" "SOUNDS" "[I") (by decide +kernel)) (hts (.initialized "DutyBeats$Junction") (by decide +kernel)) e2 hA
  have z3 : va_Z "java/lang/String" "COMPACT_STRINGS" "Z" (.int 1) (fun q => s.heap.size ≤ q) s s.heap := va_Zof (hts (.laysStatic "java/lang/String" "COMPACT_STRINGS" "Z") (by decide +kernel)) (hts (.initialized "java/lang/String") (by decide +kernel)) (va_eqi (hs (.eq (.static "java/lang/String" "COMPACT_STRINGS" "Z") (.int 1)) (by decide +kernel))) hA
  obtain ⟨adK, adV, hS, hR⟩ := vk_Sof (args := #[Value.ref b]) (s := s) (N := 6) (tm := g_tm) (len := g_len) (byt := g_byt) (A := fun q => s.heap.size ≤ q) (by decide +kernel) (fun i hi => hs _ (wl_ex i hi)) (fun i hi => hs _ (wl_co i hi)) (fun i hi => hs _ (wl_ar i hi)) (fun i hi => hs _ (wl_le i hi)) (fun i hi j hj => hs _ (wl_el i hi j hj)) (fun i j hi hj hij => (wl_ne i hi j hj hij).imp (hs _) (hs _)) hA
  obtain ⟨t15, h15, hw⟩ : ∃ t15 : Nat, t15 < s.heap.size ∧ ∀ g : gG, g.2.2.1 = s.heap.size → g.2.2.2 15 = t15 → ∃ w : Value, (w = .null ∨ ∃ q : Nat, w = .ref q) ∧ va_Z "jdk/internal/util/Preconditions" "SIOOBE_FORMATTER" "Ljava/util/function/BiFunction;" (g_v g w) (fun q => s.heap.size ≤ q) s s.heap := by
    rcases va_Zqof (A := fun q => s.heap.size ≤ q) (hts (.laysStatic "jdk/internal/util/Preconditions" "SIOOBE_FORMATTER" "Ljava/util/function/BiFunction;") (by decide +kernel)) (hts (.initialized "jdk/internal/util/Preconditions") (by decide +kernel)) (hs (.isRef (.static "jdk/internal/util/Preconditions" "SIOOBE_FORMATTER" "Ljava/util/function/BiFunction;")) (by decide +kernel)) hA with h | ⟨t, h⟩
    · exact ⟨b, hbl, fun g _ _ => ⟨.null, Or.inl rfl, h⟩⟩
    · by_cases ht : t < s.heap.size
      · refine ⟨t, ht, fun g _ h2 => ⟨.ref 15, Or.inr ⟨15, rfl⟩, ?_⟩⟩
        have e : g_v g (.ref 15) = .ref t := by
          show Value.ref (g_ad g 15) = _
          rw [g_ad_lo g (by decide), h2]
        rw [e]
        exact h
      · refine ⟨b, hbl, fun g h1 _ => ⟨.ref (t - s.heap.size + 16), Or.inr ⟨_, rfl⟩, ?_⟩⟩
        have e : g_v g (.ref (t - s.heap.size + 16)) = .ref t := by
          show Value.ref (g_ad g _) = _
          have e0 : s.heap.size + (t - s.heap.size + 16 - 16) = t := by omega
          rw [g_ad_hi g (by omega), h1, e0]
        rw [e]
        exact h
  have hKl : ∀ i, i < 6 → adK i < s.heap.size := fun i hi => by
    obtain ⟨cell, hc, _⟩ := (hS.1 i hi).1
    exact (Array.getElem?_eq_some_iff.mp hc).1
  have hVl : ∀ i, i < 6 → adV i < s.heap.size := fun i hi => by
    obtain ⟨cell, hc, _⟩ := (hS.1 i hi).2.2.2
    exact (Array.getElem?_eq_some_iff.mp hc).1
  let ad : Nat → Nat := fun k => if k = 0 then b else if k = 1 then r1 else if k = 2 then r2 else if k < 9 then adK (k - 3) else if k < 15 then adV (k - 9) else t15
  have aK : ∀ i, i < 6 → ad (3 + i) = adK i := fun i hi => by
    show (if 3 + i = 0 then b else if 3 + i = 1 then r1 else if 3 + i = 2 then r2 else if 3 + i < 9 then adK (3 + i - 3) else if 3 + i < 15 then adV (3 + i - 9) else t15) = _
    rw [if_neg (by omega), if_neg (by omega), if_neg (by omega), if_pos (by omega), Nat.add_sub_cancel_left]
  have aV : ∀ i, i < 6 → ad (9 + i) = adV i := fun i hi => by
    show (if 9 + i = 0 then b else if 9 + i = 1 then r1 else if 9 + i = 2 then r2 else if 9 + i < 9 then adK (9 + i - 3) else if 9 + i < 15 then adV (9 + i - 9) else t15) = _
    rw [if_neg (by omega), if_neg (by omega), if_neg (by omega), if_neg (by omega), if_pos (by omega), Nat.add_sub_cancel_left]
  refine ⟨((fun c => (D c).1, fun c => (D c).2), TC, s.heap.size, ad), ⟨⟨fun c q hq => hD c q hq, fun k q hq => ?_⟩, fun k hk => ?_, Nat.le_refl _, z1, z2, x1, x2, ⟨⟨fun i hi => ?_, fun i j hi hj e => ?_⟩, fun i hi => ?_, z3, hw _ rfl rfl⟩, w_N hts⟩, rfl, rfl⟩
  · by_cases hk : k < 8
    · rw [g_tys_at _ hk] at hq
      cases hq
      exact hTC k hk
    · rw [List.getElem?_eq_none (by unfold g_tys; rw [List.length_map, List.length_range]; omega)] at hq
      cases hq
  · show ad k < s.heap.size
    show (if k = 0 then b else if k = 1 then r1 else if k = 2 then r2 else if k < 9 then adK (k - 3) else if k < 15 then adV (k - 9) else t15) < s.heap.size
    split
    · exact hbl
    split
    · exact l1
    split
    · exact l2
    split
    · exact hKl _ (by omega)
    split
    · exact hVl _ (by omega)
    · exact h15
  · show va_O "java/lang/String" (ad (3 + i)) _ s s.heap ∧ va_OF "java/lang/String" "coder" "B" (.int 0) (ad (3 + i)) _ s s.heap ∧ va_OF "java/lang/String" "value" "[B" (.ref (ad (9 + i))) (ad (3 + i)) _ s s.heap ∧ va_T .byte (ad (9 + i)) _ _ _ s s.heap
    rw [aK i hi, aV i hi]
    exact hS.1 i hi
  · have e' : ad (3 + i) = ad (3 + j) := e
    rw [aK i hi, aK j hj] at e'
    exact hS.2 i j hi hj e'
  · show vk_R _ _ _ (ad (3 + i)) s
    rw [aK i hi]
    exact vk_R.of (hts _ (wl_st i hi)) (hR i hi)
