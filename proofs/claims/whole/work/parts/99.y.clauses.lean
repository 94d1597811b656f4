/-! ===== a call whose method is declared above ===== -/
section CALLU
variable {d nL a b pc : Nat} {mi : gMi} {E : gE} {ls : List (Option Value)} {st : List Value} {M : gM}
def g_lkU (own : String) (idx ci : Nat) (owner : String) (x : MethodName) (n : Nat) (mi : gMi) : Prop := ∃ (C : String) (T : u_T) (N : Nat), vwCl[ci]? = some (C, T, N) ∧ Cond.methodLink own idx x ∈ g_tb ∧ Cond.sameMethod x.cls owner x.name x.desc ∈ g_tb ∧ Cond.declares ⟨owner, x.name, x.desc⟩ ∈ lw_tbl ∧ Cond.selects C x mi.1 ∈ g_tb ∧ Cond.instanceMethod mi.1 ∈ g_tb ∧ g_cd mi ∧ (owner ≠ "java/lang/invoke/MethodHandle" ∧ owner ≠ "java/lang/invoke/VarHandle") ∧ (parseMethodDescriptor x.desc).map (fun d => d.parameters.length) = some n
theorem rx_callU (hE : g_E d mi E) {d' a' b' idx ci y n : Nat} {owner : String} {x : MethodName} {mi' : gMi} {av : List Value} {fs : List Value} {Post : Option Value → gM → Prop} {stk : List Value} (hd : decode mi.2.1 pc = .ok (.invokevirtual idx, 3)) (hl : g_lkU mi.1.cls idx ci owner x n mi') (hX : SX d' a' b' mi' (.ref y :: av) M Post) (hat : g_at M y (.inr (ci, fs))) (hn : av.length = n) (hnl : nL = mi.2.2.1) (hdd : d' + 1 ≤ d) (hst : (st.map fun v => v.category).sum ≤ 8) (hstk : stk = av.reverse ++ .ref y :: st)
    (kk : ∀ (r : Option Value) (M' : gM), Post r M' → RX E nL a b (pc + 3) ls (r.toList ++ st) M') : RX E nL (a + a') (b + b') pc ls stk M := by
  obtain ⟨p, l, e, R, s, m, args, below, meth, c, Q, g⟩ := E
  intro H locs arr cells slots hR hS hL hc hs
  obtain ⟨C, T, N, h1, h2, h3, h4, h5, h6, h7, h8, h9⟩ := hl
  have hts := hE.2.2.2.2.1
  have hfr : d ≤ R.frames := hE.2.2.2.2.2.2.2.2.2.1
  have hlo : 40 * d ≤ R.locals := hE.2.2.2.2.2.2.2.2.2.2
  have hml : c.maxLocals = mi.2.2.1 := hE.2.2.1
  have hmx := h7.2.2.2
  have hK : g_K g s H := hE.2.2.2.2.2.1.kept hS.1 hS.2.1
  have hNw : va_Nw (.declares ⟨owner, x.name, x.desc⟩) s := hE.2.2.2.2.2.1.2.2.2.2.2.2.2.2.2.2.1 _ h4
  have hcb : va_CU R s args mi.1.cls C owner idx x mi'.1 mi'.2.1 mi'.2.2.1 mi'.2.2.2 (g_wsm mi') (g_room d' a' b') a' b' n := by
    refine ⟨⟨rfl, rfl, by show d' + 1 ≤ R.frames; omega, by show 8 + (mi'.2.2.1 + 11) + 40 * d' ≤ R.locals; omega, pay_in hts h7.good, List.mem_cons_self⟩, hts _ h7.1, hts _ h7.2.1, h8, fun sig hsig => ?_, hts _ h2, hts _ h3, va_Decl.abs hNw, hts _ h5, hts _ h6⟩
    rw [hsig] at h9
    exact (Option.some.inj h9).symm
  refine rx_ofrun (nL := nL) (ls := ls) (a := a) (b := b) (rest := st) (va_runU (As := av.map (g_v g)) (rest := st.map (g_v g)) (b := g_ad g y) ⟨hE.1, hE.2.1, hml, hE.2.2.2.1, hts⟩ (hX l g) hcb ⟨g_blind g _ M, ?_, fun U hU hW => ⟨rfl, by rw [hU]; exact hR, by rw [hU]; exact hK.warm hW⟩⟩ rfl (by rw [List.length_map]; exact hn) (hL.1.trans hnl) (by rw [hstk]; simp [g_v]) (lv_room (by rw [g_stcat]; exact hst)) hd ⟨by have := hc.2; omega, by omega⟩) hS hL hc hs kk
  exact va_recv (cl := vwCl) (ws := g_ws g M) hK.1 hR.2.2 h1 (g_ws_at g hat)
end CALLU
theorem lkU_9_20_7 : g_lkU RX9 20 7 "DutyBeats$Text" ⟨"DutyBeats$Text", "readClause", "(I)V"⟩ 1 mX7_readClause := ⟨"DutyBeats$RuleText", _, _, rfl, g_tb_mem 509 (by decide +kernel) (by decide +kernel), g_tb_mem 511 (by decide +kernel) (by decide +kernel), List.mem_of_getElem? (i := 510) (by decide +kernel), g_tb_mem 598 (by decide +kernel) (by decide +kernel), g_tb_mem 599 (by decide +kernel) (by decide +kernel), cd_X7_readClause, ⟨by decide, by decide⟩, by decide +kernel⟩
theorem lkU_9_20_3 : g_lkU RX9 20 3 "DutyBeats$Text" ⟨"DutyBeats$Text", "readClause", "(I)V"⟩ 1 mX3_readClause := ⟨"DutyBeats$JunctionText", _, _, rfl, g_tb_mem 509 (by decide +kernel) (by decide +kernel), g_tb_mem 511 (by decide +kernel) (by decide +kernel), List.mem_of_getElem? (i := 510) (by decide +kernel), g_tb_mem 512 (by decide +kernel) (by decide +kernel), g_tb_mem 513 (by decide +kernel) (by decide +kernel), cd_X3_readClause, ⟨by decide, by decide⟩, by decide +kernel⟩
theorem lkU_10_138 : g_lkU RX10 138 7 "DutyBeats$Text" ⟨"DutyBeats$RuleText", "readClauses", "()I"⟩ 0 mX9_readClauses := ⟨"DutyBeats$RuleText", _, _, rfl, g_tb_mem 663 (by decide +kernel) (by decide +kernel), g_tb_mem 664 (by decide +kernel) (by decide +kernel), List.mem_of_getElem? (i := 497) (by decide +kernel), g_tb_mem 665 (by decide +kernel) (by decide +kernel), g_tb_mem 499 (by decide +kernel) (by decide +kernel), cd_X9_readClauses, ⟨by decide, by decide⟩, by decide +kernel⟩
theorem lkU_10_120 : g_lkU RX10 120 3 "DutyBeats$Text" ⟨"DutyBeats$JunctionText", "readClauses", "()I"⟩ 0 mX9_readClauses := ⟨"DutyBeats$JunctionText", _, _, rfl, g_tb_mem 495 (by decide +kernel) (by decide +kernel), g_tb_mem 496 (by decide +kernel) (by decide +kernel), List.mem_of_getElem? (i := 497) (by decide +kernel), g_tb_mem 498 (by decide +kernel) (by decide +kernel), g_tb_mem 499 (by decide +kernel) (by decide +kernel), cd_X9_readClauses, ⟨by decide, by decide⟩, by decide +kernel⟩
/-! ===== readClauses of rules ===== -/
theorem csteps_app (cl : List gCl) (q : gCl) : csteps (cl ++ [q]) = csteps cl ++ cstep q := by
  unfold csteps
  rw [List.flatMap_append]
  simp
def rlP (T : Nat → Int32) (N : Nat) (X' : gX) (v : Option Value) : Prop := X' 1 1 = T ∧ ((∃ g, v = some (.int g) ∧ ¬ g = 0 ∧ ∃ m, rlR T N m (sk T N 0) 0 0 [] (.error g)) ∨ (v = some (.int 0) ∧ ∃ cl : List gCl, (∃ m, rlR T N m (sk T N 0) 0 0 [] (.ok cl)) ∧ X' 6 0 2 = nI (csteps cl).length ∧ (∀ j x, (csteps cl)[j]? = some x → X' 6 1 j = x) ∧ (csteps cl).length < 400 ∧ ∀ q ∈ cl, kct q))
set_option maxRecDepth 100000 in
set_option maxHeartbeats 1000000 in
theorem c_X9_readRules {n : Nat} {X : gX} {O : gO} {Q : gU} {G : gK} {S : gS} {L : gLg} (hM : 408 ≤ n) {T : Nat → Int32} {N : Nat} (hN : N ≤ 400) (hb : ∀ i, tb8 (T i)) (h1 : X 1 0 1 = nI N) (hbt : X 1 1 = T) (h62 : X 6 0 2 = 0) (h63 : X 6 0 3 = 0) : SX 30 0 0 mX9_readClauses [.ref 50] (xm n X O Q G S L) (fun v M' => ∃ X', M' = xm n X' O Q G S L ∧ xf X X' ∧ rlP T N X' v) := by
  refine SX.intro [some (.ref 50), none] (by decide +kernel) (Nat.le_of_ble_eq_true rfl) rfl (fun E hE hQ => ?_)
  have l1 : ∀ (m1 p1 c1 i : Nat) (cl : List gCl) (X1 : gX), N < p1 + m1 → i ≤ 12 → xf X X1 → cq X1 T N p1 c1 (csteps cl) → (csteps cl).length ≤ p1 → (∀ q ∈ cl, kct q) → (∀ m r, rlR T N m p1 i c1 cl r → ∃ m', rlR T N m' (sk T N 0) 0 0 [] r) → RX E mX9_readClauses.2.2.1 0 0 9 [some (.ref 50), some (.int (nI i))] [] (xm n X1 O Q G S L) := by
    intro m1
    induction m1 with
    | zero =>
      intro p1 c1 i cl X1 hm hi fx q1 hln hkc hpre
      exact absurd q1.2.1 (by omega)
    | succ m1 ih =>
      intro p1 c1 i cl X1 hm hi fx q1 hln hkc hpre
      have hp1 := q1.2.1
      refine rx_iload_n hE dX9_readClauses_9 (i := 1) rfl rfl ?_
      refine rx_sipush hE dX9_readClauses_10 (v := 400) (by decide) ?_
      refine rx_icmp_gt (tgt := 72) hE dX9_readClauses_13 (by decide) (fun c13 => absurd c13 (Int32.not_lt.mpr (nI_le (a := i) (b := 400) (by omega) (by decide)))) (fun c13 => ?_)
      refine rx_aload_n hE dX9_readClauses_16 (i := 0) rfl rfl ?_
      refine rx_iload_n hE dX9_readClauses_17 (i := 1) rfl rfl ?_
      refine rx_call0 (rx_callU (av := [.int (nI i)]) hE dX9_readClauses_18 lkU_9_20_7 (c_X7_readClause (X := X1) hM hN q1 hb hln (show i ≤ 12 by omega)) (xa_6 hM) rfl rfl (by decide) (Nat.le_of_ble_eq_true rfl) rfl ?_)
      rintro v M' ⟨rfl, X2, rfl, f2, hv⟩
      have hv' : (∃ g, ce X2 T N g ∧ ∃ m, rlR T N m (sk T N 0) 0 0 [] (.error g)) ∨ ((¬ qwd T N p1 12468 = 0 ∧ i < 12) ∧ ∃ p2 q c2, clR T N (nx T N p1) c1 (.ok (p2, q, c2)) ∧ cq X2 T N p2 c2 (csteps (cl ++ [q])) ∧ kct q ∧ (csteps (cl ++ [q])).length + 2 ≤ p2 ∧ p1 < p2) := by
        rcases hv with ⟨h1, he⟩ | ⟨h1, h2, he⟩ | ⟨h1, h2, h3⟩
        · exact Or.inl ⟨_, he, hpre 1 _ (Or.inl ⟨h1, rfl⟩)⟩
        · exact Or.inl ⟨_, he, hpre 1 _ (Or.inr (Or.inl ⟨h1, h2, rfl⟩))⟩
        · rcases h3 with ⟨g, he, hc⟩ | ⟨p2, q, c2, hc, q2, hk, hl2, hlp⟩
          · exact Or.inl ⟨_, he, hpre 1 _ (Or.inr (Or.inr ⟨h1, h2, _, hc, Or.inl ⟨_, rfl, rfl⟩⟩))⟩
          · rw [← csteps_app] at q2 hl2
            exact Or.inr ⟨⟨h1, h2⟩, p2, q, c2, hc, q2, hk, hl2, hlp⟩
      rcases hv' with ⟨g, he, hg⟩ | ⟨⟨hlt, hi12⟩, p2, q, c2, hc, q2, hk, hl2, hlp⟩
      · obtain ⟨h0, ⟨pe, hpe, hce⟩, hkk⟩ := id he
        refine rx_aload_n hE dX9_readClauses_21 (i := 0) rfl rfl ?_
        refine rx_getf hE dX9_readClauses_22 fl_X9_9_7 (xa_6 hM) rfl ?_
        refine rx_getfN hE dX9_readClauses_25 fl_X9_24_8 (xa_1 hM) rfl ?_
        refine rx_int _ g hce.1.2.2.2 ?_
        refine rx_if_ne (tgt := 72) hE dX9_readClauses_28 (by decide) (fun c28 => ?_) (fun c28 => absurd c28 h0)
        refine rx_aload_n hE dX9_readClauses_72 (i := 0) rfl rfl ?_
        refine rx_getf hE dX9_readClauses_73 fl_X9_9_7 (xa_6 hM) rfl ?_
        refine rx_getfN hE dX9_readClauses_76 fl_X9_24_8 (xa_1 hM) rfl ?_
        refine rx_int _ g hce.1.2.2.2 ?_
        exact rx_iret hE hQ rfl dX9_readClauses_79 ⟨X2, rfl, fx.trans f2, hce.1.2.1, Or.inl ⟨_, rfl, h0, hg⟩⟩
      · have hp2 := q2.2.1
        refine rx_aload_n hE dX9_readClauses_21 (i := 0) rfl rfl ?_
        refine rx_getf hE dX9_readClauses_22 fl_X9_9_7 (xa_6 hM) rfl ?_
        refine rx_getfN hE dX9_readClauses_25 fl_X9_24_8 (xa_1 hM) rfl ?_
        refine rx_int _ 0 q2.1.1.2.2.2 ?_
        refine rx_if_ne (tgt := 72) hE dX9_readClauses_28 (by decide) (fun c28 => absurd rfl c28) (fun c28 => ?_)
        refine rx_aload_n hE dX9_readClauses_31 (i := 0) rfl rfl ?_
        refine rx_getf hE dX9_readClauses_32 fl_X9_9_7 (xa_6 hM) rfl ?_
        refine rx_getfN hE dX9_readClauses_35 fl_X9_28_8 (xa_1 hM) rfl ?_
        refine rx_int _ (nI (tk T N p2)) q2.1.2.1 ?_
        refine rx_if_ne (tgt := 44) hE dX9_readClauses_38 (by decide) (fun c38 => ?_) (fun c38 => ?_)
        · have hpl : p2 < N := tk_lt (fun z => c38 (by rw [z]; rfl))
          refine rx_aload_n hE dX9_readClauses_44 (i := 0) rfl rfl ?_
          refine rx_getf hE dX9_readClauses_45 fl_X9_9_7 (xa_6 hM) rfl ?_
          refine rx_bipush hE dX9_readClauses_48 (v := 59) (by decide) ?_
          refine rx_call0 (rx_callV (av := [.int 59]) hE dX9_readClauses_50 lk_X9_31 (c_X8_takeSignQ (X := X2) hM hN q2 (by omega) (k := 59) (by decide)) (xa_1 hM) np_X8_takeSign rfl rfl (by decide) (Nat.le_of_ble_eq_true rfl) rfl ?_)
          rintro v M' ⟨rfl, X3, rfl, f3, h3⟩
          rcases h3 with ⟨hs, q3⟩ | ⟨hs, he⟩
          · have hnx := nx_lt (T := T) hs.1
            refine rx_aload_n hE dX9_readClauses_53 (i := 0) rfl rfl ?_
            refine rx_getf hE dX9_readClauses_54 fl_X9_9_7 (xa_6 hM) rfl ?_
            refine rx_getfN hE dX9_readClauses_57 fl_X9_24_8 (xa_1 hM) rfl ?_
            refine rx_int _ 0 q3.1.1.2.2.2 ?_
            refine rx_if_eq (tgt := 66) hE dX9_readClauses_60 (by decide) (fun c60 => ?_) (fun c60 => absurd rfl c60)
            refine rx_iinc_1 hE dX9_readClauses_66 (v := 1) (by decide) (by decide) rfl ?_
            rw [nI_1]
            refine rx_goto (tgt := 9) hE dX9_readClauses_69 (by decide) ?_
            exact ih _ _ (i + 1) (cl ++ [q]) _ (by omega) (by omega) (fx.trans (f2.trans f3)) q3 (by omega) (fun q' hq' => by
              rcases List.mem_append.mp hq' with z | z
              · exact hkc q' z
              · rw [List.mem_singleton.mp z]; exact hk) (fun m r hm => hpre (m + 1) r (Or.inr (Or.inr ⟨hlt, hi12, _, hc, Or.inr ⟨p2, q, c2, rfl, Or.inr (Or.inr ⟨hs, hm⟩)⟩⟩)))
          · obtain ⟨h0, ⟨pe, hpe, hce⟩, hkk⟩ := id he
            refine rx_aload_n hE dX9_readClauses_53 (i := 0) rfl rfl ?_
            refine rx_getf hE dX9_readClauses_54 fl_X9_9_7 (xa_6 hM) rfl ?_
            refine rx_getfN hE dX9_readClauses_57 fl_X9_24_8 (xa_1 hM) rfl ?_
            refine rx_int _ _ hce.1.2.2.2 ?_
            refine rx_if_eq (tgt := 66) hE dX9_readClauses_60 (by decide) (fun c60 => absurd c60 h0) (fun c60 => ?_)
            refine rx_goto (tgt := 72) hE dX9_readClauses_63 (by decide) ?_
            refine rx_aload_n hE dX9_readClauses_72 (i := 0) rfl rfl ?_
            refine rx_getf hE dX9_readClauses_73 fl_X9_9_7 (xa_6 hM) rfl ?_
            refine rx_getfN hE dX9_readClauses_76 fl_X9_24_8 (xa_1 hM) rfl ?_
            refine rx_int _ _ hce.1.2.2.2 ?_
            exact rx_iret hE hQ rfl dX9_readClauses_79 ⟨X3, rfl, fx.trans (f2.trans f3), hce.1.2.1, Or.inl ⟨_, rfl, h0, hpre 1 _ (Or.inr (Or.inr ⟨hlt, hi12, _, hc, Or.inr ⟨p2, q, c2, rfl, Or.inr (Or.inl ⟨hpl, hs, rfl⟩)⟩⟩))⟩⟩
        · have hpl : ¬ p2 < N := fun z => by
            have hz : tk T N p2 = 0 := (tk_eq (k := 0) (by decide)).mp c38
            unfold tk at hz
            rw [if_neg (fun y => y z)] at hz
            split at hz
            · exact absurd hz (by decide)
            · split at hz <;> exact absurd hz (by decide)
          refine rx_goto (tgt := 72) hE dX9_readClauses_41 (by decide) ?_
          refine rx_aload_n hE dX9_readClauses_72 (i := 0) rfl rfl ?_
          refine rx_getf hE dX9_readClauses_73 fl_X9_9_7 (xa_6 hM) rfl ?_
          refine rx_getfN hE dX9_readClauses_76 fl_X9_24_8 (xa_1 hM) rfl ?_
          refine rx_int _ 0 q2.1.1.2.2.2 ?_
          exact rx_iret hE hQ rfl dX9_readClauses_79 ⟨X2, rfl, fx.trans f2, q2.1.1.2.1, Or.inr ⟨rfl, cl ++ [q], hpre 1 _ (Or.inr (Or.inr ⟨hlt, hi12, _, hc, Or.inr ⟨p2, q, c2, rfl, Or.inl ⟨hpl, rfl⟩⟩⟩)), q2.2.2.1, q2.2.2.2.1, by omega, fun q' hq' => by
            rcases List.mem_append.mp hq' with z | z
            · exact hkc q' z
            · rw [List.mem_singleton.mp z]; exact hk⟩⟩
  refine rx_aload_n hE dX9_readClauses_0 (i := 0) rfl rfl ?_
  refine rx_getf hE dX9_readClauses_1 fl_X9_9_7 (xa_6 hM) rfl ?_
  refine rx_call0 (rx_callV (av := []) hE dX9_readClauses_4 lk_X9_15 (c_X8_begin (X := X) hM hN h1 hbt) (xa_1 hM) np_X8_begin rfl rfl (by decide) (Nat.le_of_ble_eq_true rfl) rfl ?_)
  rintro v M' ⟨rfl, V, rfl, hV⟩
  refine rx_iconst hE dX9_readClauses_7 (v := 0) (by decide) ?_
  refine rx_istore_n_1 hE dX9_readClauses_8 (by decide) rfl ?_
  exact l1 (N + 1) (sk T N 0) 0 0 [] _ (by omega) (by omega) (xf.r1 X V) ⟨hV, (sk_le (Nat.zero_le _)).2, h62, fun j x z => absurd z (by simp [csteps]), h63, by omega⟩ (Nat.zero_le _) (fun q hq => absurd hq (by simp)) (fun m r hm => ⟨m, hm⟩)
