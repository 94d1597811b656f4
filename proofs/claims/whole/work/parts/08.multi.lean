/-! ===== new int[n][k] ===== -/
def g_mna (M : gM) (N K : Nat) : gM := (M.1 + (1 + N), fun q => if q = M.1 then .inl (7, N, .inr (.inr (.inr (.inr (fun i => if i < N then some (M.1 + 1 + i) else none))))) else if M.1 < q ∧ q < M.1 + 1 + N then gI K (fun _ => 0) else M.2 q)
theorem g_outer (c : ClassId) (N h0 : Nat) : ∀ i : Nat, Jvm.Free.Multi.outerC c N h0 i = arrV c N (fun j => va_rf (if j < i then some (h0 + 1 + j) else none))
  | 0 => by
    show ({ cls := c, slots := Array.replicate N .null, vm := .none } : Cell) = _
    rw [arrV_new]
    exact congrArg (arrV c N) (funext fun j => by rw [if_neg (Nat.not_lt_zero j)]; rfl)
  | i + 1 => by
    show (Jvm.Free.Multi.outerC c N h0 i).setSlot i (.ref (h0 + 1 + i)) = _
    rw [g_outer c N h0 i, arrV_store]
    refine congrArg (arrV c N) (funext fun j => ?_)
    unfold updV
    by_cases e : j = i
    · rw [if_pos e, if_pos (by omega), e]
      rfl
    · rw [if_neg e]
      show va_rf (if j < i then some (h0 + 1 + j) else none) = va_rf (if j < i + 1 then some (h0 + 1 + j) else none)
      by_cases h : j < i
      · rw [if_pos h, if_pos (by omega)]
      · rw [if_neg h, if_neg (by omega)]
section MNA
variable {d : Nat} {mi : gMi} {E : gE} {nL a b pc : Nat} {ls : List (Option Value)} {st : List Value} {M : gM}
theorem rx_mna (hE : g_E d mi E) {idx : Nat} {n k : Int32} {N K : Nat} (hd : decode mi.2.1 pc = .ok (.multianewarray idx 2, 4)) (hm : Cond.classLink mi.1.cls idx "[[I" ∈ g_tb) (ha : Cond.arrayClass .int ∈ g_tb) (hn : ¬ n < 0) (hk : ¬ k < 0) (hN : n.toNatClampNeg = N) (hK : k.toNatClampNeg = K) (hb : N ≤ 1000) (hb2 : K ≤ 1000) (kk : RX E nL a b (pc + 4) ls (.ref M.1 :: st) (g_mna M N K)) : RX E nL (a + (1 + N)) (b + (N + N * K)) pc ls (.int k :: .int n :: st) M := by
  obtain ⟨p, l, e, R, s, m, args, below, meth, c, Q, g⟩ := E
  intro H locs arr cells slots hR hS hL hc hs
  obtain ⟨hc1, hc2⟩ := hc
  intro T hT Xs
  obtain ⟨vm₁, cA, comp, -, fA, fC, hO, -, X', step⟩ := Xs.multianewarray2F (ty := .int) hE.1 hE.2.2.2.1 (hE.2.2.2.2.1 _ hm) hE.2.2.2.2.2.1.2.2.2.2.2.2.2.2.2.2.2.2 (hE.2.2.2.2.1 _ ha) (g := F0 m pc arr (.int k :: .int n :: st.map (g_v g))) rfl (by rw [hE.2.1]; exact hd) rfl hn hk (by rw [hN]; omega) (by rw [hK]; show K * 4 ≤ _; omega) (by rw [hK]; omega) rfl rfl (by rw [hN]; omega) (by rw [hN, hK]; omega)
  rw [hN, hK] at X' step
  have q7 : s.vm.findClass ("[" ++ (FieldType.array .int).toString) = some (g.2.1 7) := (hE.2.2.2.2.2.1.1.2 7 _ (g_tys_at g (t := 7) (by decide))).2
  have q0 : s.vm.findClass (FieldType.array .int).toString = some (g.2.1 0) := (hE.2.2.2.2.2.1.1.2 0 _ (g_tys_at g (t := 0) (by decide))).2
  have ecA : cA = g.2.1 7 := Option.some.inj (fA.symm.trans q7)
  have eco : comp = g.2.1 0 := Option.some.inj (fC.symm.trans q0)
  rw [ecA, eco] at X' step
  generalize hF : Jvm.Free.Multi.fill (T.setVm vm₁) (g.2.1 7) (g.2.1 0) N K (defaultValue .int) N = F at X' step
  have hTh : (T.setVm vm₁).heap = H := hT
  obtain ⟨f1, f2, -, -⟩ := Jvm.Free.Multi.fill_facts (T.setVm vm₁) (g.2.1 7) (g.2.1 0) N K (defaultValue .int) N
  rw [hF, hTh] at f1 f2
  have hold : ∀ x : Nat, x < H.size → F.heap[x]? = H[x]? := fun x hx => by
    have := Jvm.Free.Multi.fill_old (T.setVm vm₁) (g.2.1 7) (g.2.1 0) N K (defaultValue .int) (a := x) (by rw [hTh]; exact hx) N
    rw [hF, hTh] at this
    exact this
  have hrow : ∀ j : Nat, j < N → F.heap[H.size + 1 + j]? = some (vp_cell (g.2.1 0) (K, .inl (fun _ => 0))) := fun j hj => by
    have := Jvm.Free.Multi.fill_inner (T.setVm vm₁) (g.2.1 7) (g.2.1 0) N K (defaultValue .int) N j hj
    rw [hF, hTh] at this
    rw [this, vp_cell_i, ← arrV_new]
    rfl
  have hsz : H.size = g.2.2.1 + (M.1 - 16) := hR.2.1
  have h16 : 16 ≤ M.1 := hR.1
  rw [g_outer] at f2
  have hR' : g_R g (g_mna M N K) F.heap := by
    refine ⟨by show 16 ≤ M.1 + (1 + N); omega, by rw [f1]; show _ = g.2.2.1 + (M.1 + (1 + N) - 16); omega, fun i x hx => ?_⟩
    have hi : i < M.1 + (1 + N) - 16 := by
      have := (List.getElem?_eq_some_iff.mp hx).1
      rw [g_ws_len] at this
      exact this
    rw [g_ws_get g (g_mna M N K) hi] at hx
    have hx : (g.2.2.1 + i, g_e g ((g_mna M N K).2 (i + 16))) = x := Option.some.inj hx
    rw [← hx]
    by_cases c1 : i + 16 < M.1
    · have e1 : (g_mna M N K).2 (i + 16) = M.2 (i + 16) := (if_neg (by omega)).trans (if_neg (by omega))
      rw [e1]
      have h1 := hR.2.2 i _ (g_ws_get g M (by omega))
      exact h1.kept (hold _ (by show g.2.2.1 + i < H.size; omega))
    · by_cases c2 : i + 16 = M.1
      · have e1 : (g_mna M N K).2 (i + 16) = .inl (7, N, .inr (.inr (.inr (.inr (fun i => if i < N then some (M.1 + 1 + i) else none))))) := if_pos c2
        rw [e1, show g.2.2.1 + i = H.size by omega]
        show F.heap[H.size]? = some (arrV (g.2.1 7) N (fun j => va_rf ((if j < N then some (M.1 + 1 + j) else none).map (g_ad g))))
        rw [f2]
        refine congrArg some (congrArg (arrV (g.2.1 7) N) (funext fun j => ?_))
        by_cases hj : j < N
        · rw [if_pos hj, if_pos hj]
          show Value.ref (H.size + 1 + j) = Value.ref (g_ad g (M.1 + 1 + j))
          rw [g_ad_hi g (by omega), show g.2.2.1 + (M.1 + 1 + j - 16) = H.size + 1 + j by omega]
        · rw [if_neg hj, if_neg hj]
          rfl
      · have e1 : (g_mna M N K).2 (i + 16) = gI K (fun _ => 0) := (if_neg c2).trans (if_pos (by omega))
        obtain ⟨j, rfl⟩ : ∃ j, i = M.1 - 16 + 1 + j := ⟨i - (M.1 - 16 + 1), by omega⟩
        rw [e1, show g.2.2.1 + (M.1 - 16 + 1 + j) = H.size + 1 + j by omega]
        exact hrow j (by omega)
  obtain ⟨t, a1, b1⟩ := kk F.heap locs arr (cells + 1 + N) (slots + N + N * K) hR' ⟨Nat.le_trans hS.1 (by rw [f1]; omega), fun x h1 h2 => (hold x (Nat.lt_of_lt_of_le h1 hS.1)).trans (hS.2.1 x h1 h2), hS.2.2⟩ hL ⟨by rw [f1]; omega, by omega⟩ (by omega) F rfl X'
  refine ⟨t, step t ?_, b1⟩
  have e : T.heap.size = g_ad g M.1 := by rw [hT, g_ad_hi g h16]; exact hsz
  rw [e]
  exact a1
end MNA
