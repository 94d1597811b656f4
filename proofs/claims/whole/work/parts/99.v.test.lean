/-! ===== readFact, readTest ===== -/
def fcE (T : Nat → Int32) (N p c dp : Nat) (g : Int32) : Prop := ∀ (O : List Nat) (l : gSg), dpO O = dp → ∃ m, mtR T N m false O p l c (.error g)
def fcO (T : Nat → Int32) (N p c dp p' : Nat) (l' : gSg) (c' : Nat) : Prop := (∀ (O : List Nat) (l : gSg) (m : Nat) (r : gRs), dpO O = dp → mtR T N m true O p' (l ++ l') c' r → ∃ m', mtR T N m' false O p l c r) ∧ (∀ ts : List Bool, ts.length ≤ 6 + 2 * dp → kty l' ts = some (true :: ts)) ∧ p + l'.length ≤ p' ∧ p < p'
def bsO (dp : Nat) (O : List Nat) : Prop := dpO O = dp ∧ (O = [] ∨ ∃ O', O = 91 :: O')
def tsE (T : Nat → Int32) (N p c dp : Nat) (g : Int32) : Prop := ∀ (O : List Nat) (l : gSg), bsO dp O → ∃ m, mtR T N m false O p l c (.error g)
def tsO (T : Nat → Int32) (N p c dp p' : Nat) (l' : gSg) (c' : Nat) : Prop := (∀ l : gSg, bsO dp [] → ∃ m, mtR T N m false [] p l c (.ok (p', l ++ l', c'))) ∧ (∀ (O' : List Nat) (l : gSg) (m : Nat) (r : gRs), bsO dp (91 :: O') → sgn T N p' 93 → mtR T N m true O' (nx T N p') (l ++ l') c' r → ∃ m', mtR T N m' false (91 :: O') p l c r) ∧ (∀ (O' : List Nat) (l : gSg), bsO dp (91 :: O') → ¬ sgn T N p' 93 → ∃ m, mtR T N m false (91 :: O') p l c (.error (fE p' 0))) ∧ (∀ ts : List Bool, ts.length ≤ 4 + 2 * dp → kty l' ts = some (true :: ts)) ∧ p + l'.length ≤ p' ∧ p < p'
def aoL (a o : Bool) : List Nat := (if a then [12] else []) ++ (if o then [13] else [])
def anL (a : Bool) : gSg := if a then [(12, 0)] else []
def orL (o : Bool) : gSg := if o then [(13, 0)] else []
def aoT (a o : Bool) (ts : List Bool) : List Bool := (if a then [true] else []) ++ ((if o then [true] else []) ++ ts)
def bI (a : Bool) : Int32 := if a then 1 else 0
theorem bI_0 {a : Bool} : bI a = 0 ↔ a = false := by cases a <;> decide
section AO
variable {a o : Bool} {O : List Nat}
theorem ly3 (hb : O = [] ∨ ∃ O', O = 91 :: O') : lyL 3 (aoL a o ++ O) = [] ∧ lyR 3 (aoL a o ++ O) = aoL a o ++ O := by
  rcases hb with rfl | ⟨O', rfl⟩ <;> cases a <;> cases o <;> exact ⟨rfl, rfl⟩
theorem ly2 (hb : O = [] ∨ ∃ O', O = 91 :: O') : lyL 2 (aoL a o ++ O) = anL a ∧ lyR 2 (aoL a o ++ O) = aoL false o ++ O := by
  rcases hb with rfl | ⟨O', rfl⟩ <;> cases a <;> cases o <;> exact ⟨rfl, rfl⟩
theorem ly1 (hb : O = [] ∨ ∃ O', O = 91 :: O') : lyL 1 (aoL a o ++ O) = anL a ++ orL o ∧ lyR 1 (aoL a o ++ O) = O := by
  rcases hb with rfl | ⟨O', rfl⟩ <;> cases a <;> cases o <;> exact ⟨rfl, rfl⟩
theorem ao_mem : 91 ∈ aoL a o ++ O ↔ 91 ∈ O := by
  cases a <;> cases o <;> simp [aoL]
theorem ao_dp : dpO (aoL a o ++ O) = dpO O := by
  cases a <;> cases o <;> simp [aoL, dpO]
theorem ao_len (ts : List Bool) : (aoT a o ts).length ≤ ts.length + 2 := by
  cases a <;> cases o <;> simp [aoT]
theorem ao_ty1 {q : gSg} {ts : List Bool} (h : kty q ts = some (true :: aoT a o ts)) : kty (q ++ anL a) ts = some (true :: aoT false o ts) := by
  rw [kty_app _ _ _ _ h]
  cases a <;> rfl
theorem ao_ty2 {q : gSg} {ts : List Bool} (h : kty q ts = some (true :: aoT false o ts)) : kty (q ++ orL o) ts = some (true :: ts) := by
  rw [kty_app _ _ _ _ h]
  cases o <;> rfl
theorem an_len : (anL a).length ≤ 1 ∧ (a = false → (anL a).length = 0) := by cases a <;> decide
theorem or_len : (orL o).length ≤ 1 := by cases o <;> decide
end AO
theorem wd_n93 {T : Nat → Int32} {N p : Nat} {w : Int64} (hp : p ≤ N) (h : ¬ qwd T N p w = 0) : ¬ sgn T N p 93 := fun z => by
  have h1 := (wd_te hp h).2.1
  have h2 := ((sg_is (k := 93) (by decide)).mpr z).1
  rw [h1] at h2
  exact absurd h2 (by decide)
def fcP (n : Nat) (O : gO) (Q : gU) (G : gK) (S : gS) (L : gLg) (T : Nat → Int32) (N d dp : Nat) : Prop := ∀ (X : gX) (p c : Nat) (st : List Int32), cq X T N p c st → st.length + 3 ≤ p → SX d 0 0 mX7_readFact [.ref 50, .int (nI dp)] (xm n X O Q G S L) (fun v M' => v = none ∧ ∃ X', M' = xm n X' O Q G S L ∧ xf X X' ∧ ((∃ g, ce X' T N g ∧ fcE T N p c dp g) ∨ ∃ p' l' c', cq X' T N p' c' (st ++ l'.map cenc) ∧ fcO T N p c dp p' l' c'))
def tsP (n : Nat) (O : gO) (Q : gU) (G : gK) (S : gS) (L : gLg) (T : Nat → Int32) (N d dp : Nat) : Prop := ∀ (X : gX) (p c : Nat) (st : List Int32), cq X T N p c st → st.length + 3 ≤ p → SX d 0 0 mX7_readTest [.ref 50, .int (nI dp)] (xm n X O Q G S L) (fun v M' => v = none ∧ ∃ X', M' = xm n X' O Q G S L ∧ xf X X' ∧ ((∃ g, ce X' T N g ∧ tsE T N p c dp g) ∨ ∃ p' l' c', cq X' T N p' c' (st ++ l'.map cenc) ∧ tsO T N p c dp p' l' c'))
set_option maxRecDepth 100000 in
set_option maxHeartbeats 1000000 in
theorem c_X7_readTest {n : Nat} {O : gO} {Q : gU} {G : gK} {S : gS} {L : gLg} (hM : 408 ≤ n) {T : Nat → Int32} {N dp dF : Nat} (hN : N ≤ 400) (hdF : 7 ≤ dF) (hF : fcP n O Q G S L T N dF dp) : tsP n O Q G S L T N (dF + 1) dp := by
  intro X p c st hq hl
  refine SX.intro [some (.ref 50), some (.int (nI dp)), none, none, none, none] (by decide +kernel) (Nat.le_of_ble_eq_true rfl) rfl (fun E hE hQ => ?_)
  have l1 : ∀ (m1 : Nat) (a o : Bool) (p1 c1 i : Nat) (l1 : gSg) (X1 : gX) (l5 : Option Value), N < p1 + m1 → xf X X1 → cq X1 T N p1 c1 (st ++ l1.map cenc) → p + l1.length + (anL a).length + (orL o).length ≤ p1 → i + 1 ≤ p1 → (∀ ts : List Bool, ts.length ≤ 4 + 2 * dp → kty l1 ts = some (aoT a o ts)) → (∀ (O : List Nat) (l : gSg) (m : Nat) (r : gRs), bsO dp O → mtR T N m false (aoL a o ++ O) p1 (l ++ l1) c1 r → ∃ m', mtR T N m' false O p l c r) → RX E mX7_readTest.2.2.1 0 0 7 [some (.ref 50), some (.int (nI dp)), some (.int (bI a)), some (.int (bI o)), some (.int (nI i)), l5] [] (xm n X1 O Q G S L) := by
    intro m1
    induction m1 with
    | zero =>
      intro a o p1 c1 i l1 X1 l5 hm fx q1 hln hi hty hpre
      exact absurd q1.2.1 (by omega)
    | succ m1 ih =>
      intro a o p1 c1 i l1 X1 l5 hm fx q1 hln hi hty hpre
      have hp1 := q1.2.1
      refine rx_iload hE dX7_readTest_7 rfl ?_
      refine rx_sipush hE dX7_readTest_9 (v := 400) (by decide) ?_
      refine rx_icmp_ge (tgt := 112) hE dX7_readTest_12 (by decide) (fun c12 => absurd c12 (nI_ge (a := i) (b := 400) (by omega) (by decide))) (fun c12 => ?_)
      refine rx_aload_n hE dX7_readTest_15 (i := 0) rfl rfl ?_
      refine rx_iload_n hE dX7_readTest_16 (i := 1) rfl rfl ?_
      refine rx_call0 (rx_callV (av := [.int (nI dp)]) hE dX7_readTest_17 lk_X7_73 (hF X1 p1 c1 (st ++ l1.map cenc) q1 (by simp only [List.length_append, List.length_map]; omega)) (xa_6 hM) np_X7_readFact rfl rfl (by omega) (Nat.le_of_ble_eq_true rfl) rfl ?_)
      rintro v M' ⟨rfl, X2, rfl, f2, hv⟩
      rcases hv with ⟨g, he, hv⟩ | ⟨p2, l2, c2, q2, hv⟩
      · obtain ⟨h0, ⟨pe, hpe, hce⟩, hk⟩ := id he
        refine rx_iload_n hE dX7_readTest_20 (i := 2) rfl rfl ?_
        refine rx_if_eq (tgt := 30) hE dX7_readTest_21 (by decide) (fun c21 => ?_) (fun c21 => ?_)
        · refine rx_aload_n hE dX7_readTest_30 (i := 0) rfl rfl ?_
          refine rx_getf hE dX7_readTest_31 fl_X7_39_7 (xa_6 hM) rfl ?_
          refine rx_getfN hE dX7_readTest_34 fl_X7_62_8 (xa_1 hM) rfl ?_
          refine rx_int _ g hce.1.2.2.2 ?_
          refine rx_if_ne (tgt := 52) hE dX7_readTest_37 (by decide) (fun c37 => ?_) (fun c37 => absurd c37 h0)
          refine rx_iconst hE dX7_readTest_52 (v := -1) (by decide) ?_
          refine rx_istore_5 hE dX7_readTest_53 (by decide) rfl ?_
          refine rx_iload hE dX7_readTest_55 rfl ?_
          refine rx_if_ne (tgt := 64) hE dX7_readTest_57 (by decide) (fun c57 => ?_) (fun c57 => absurd c57 (by decide))
          refine rx_iconst hE dX7_readTest_64 (v := 0) (by decide) ?_
          refine rx_istore_n_2 hE dX7_readTest_65 (by decide) rfl ?_
          refine rx_iload_n hE dX7_readTest_66 (i := 2) rfl rfl ?_
          refine rx_if_ne (tgt := 92) hE dX7_readTest_67 (by decide) (fun c67 => absurd rfl c67) (fun c67 => ?_)
          refine rx_iload_n hE dX7_readTest_70 (i := 3) rfl rfl ?_
          refine rx_if_eq (tgt := 80) hE dX7_readTest_71 (by decide) (fun c71 => ?_) (fun c71 => ?_)
          · refine rx_iload hE dX7_readTest_80 rfl ?_
            refine rx_iconst hE dX7_readTest_82 (v := 1) (by decide) ?_
            refine rx_icmp_ne (tgt := 90) hE dX7_readTest_83 (by decide) (fun c83 => ?_) (fun c83 => absurd c83 (by decide))
            refine rx_iconst hE dX7_readTest_90 (v := 0) (by decide) ?_
            refine rx_istore_n_3 hE dX7_readTest_91 (by decide) rfl ?_
            refine rx_iload hE dX7_readTest_92 rfl ?_
            refine rx_iconst hE dX7_readTest_94 (v := -1) (by decide) ?_
            refine rx_icmp_ne (tgt := 99) hE dX7_readTest_95 (by decide) (fun c95 => absurd rfl c95) (fun c95 => ?_)
            exact rx_vret hE hQ rfl dX7_readTest_98 ⟨rfl, X2, rfl, fx.trans f2, Or.inl ⟨g, he, fun O l hO => hpre O l _ _ hO (hv (aoL a o ++ O) (l ++ l1) (by rw [ao_dp]; exact hO.1)).choose_spec⟩⟩
          · refine rx_aload_n hE dX7_readTest_74 (i := 0) rfl rfl ?_
            refine rx_bipush hE dX7_readTest_75 (v := -31) (by decide) ?_
            refine rx_call0 (rx_callV (av := [.int (-31)]) hE dX7_readTest_77 lk_X7_67 (c_X7_putE hM he (-31)) (xa_6 hM) np_X7_put rfl rfl (by omega) (Nat.le_of_ble_eq_true rfl) rfl ?_)
            rintro v M' ⟨rfl, rfl⟩
            refine rx_iload hE dX7_readTest_80 rfl ?_
            refine rx_iconst hE dX7_readTest_82 (v := 1) (by decide) ?_
            refine rx_icmp_ne (tgt := 90) hE dX7_readTest_83 (by decide) (fun c83 => ?_) (fun c83 => absurd c83 (by decide))
            refine rx_iconst hE dX7_readTest_90 (v := 0) (by decide) ?_
            refine rx_istore_n_3 hE dX7_readTest_91 (by decide) rfl ?_
            refine rx_iload hE dX7_readTest_92 rfl ?_
            refine rx_iconst hE dX7_readTest_94 (v := -1) (by decide) ?_
            refine rx_icmp_ne (tgt := 99) hE dX7_readTest_95 (by decide) (fun c95 => absurd rfl c95) (fun c95 => ?_)
            exact rx_vret hE hQ rfl dX7_readTest_98 ⟨rfl, X2, rfl, fx.trans f2, Or.inl ⟨g, he, fun O l hO => hpre O l _ _ hO (hv (aoL a o ++ O) (l ++ l1) (by rw [ao_dp]; exact hO.1)).choose_spec⟩⟩
        · refine rx_aload_n hE dX7_readTest_24 (i := 0) rfl rfl ?_
          refine rx_bipush hE dX7_readTest_25 (v := -30) (by decide) ?_
          refine rx_call0 (rx_callV (av := [.int (-30)]) hE dX7_readTest_27 lk_X7_67 (c_X7_putE hM he (-30)) (xa_6 hM) np_X7_put rfl rfl (by omega) (Nat.le_of_ble_eq_true rfl) rfl ?_)
          rintro v M' ⟨rfl, rfl⟩
          refine rx_aload_n hE dX7_readTest_30 (i := 0) rfl rfl ?_
          refine rx_getf hE dX7_readTest_31 fl_X7_39_7 (xa_6 hM) rfl ?_
          refine rx_getfN hE dX7_readTest_34 fl_X7_62_8 (xa_1 hM) rfl ?_
          refine rx_int _ g hce.1.2.2.2 ?_
          refine rx_if_ne (tgt := 52) hE dX7_readTest_37 (by decide) (fun c37 => ?_) (fun c37 => absurd c37 h0)
          refine rx_iconst hE dX7_readTest_52 (v := -1) (by decide) ?_
          refine rx_istore_5 hE dX7_readTest_53 (by decide) rfl ?_
          refine rx_iload hE dX7_readTest_55 rfl ?_
          refine rx_if_ne (tgt := 64) hE dX7_readTest_57 (by decide) (fun c57 => ?_) (fun c57 => absurd c57 (by decide))
          refine rx_iconst hE dX7_readTest_64 (v := 0) (by decide) ?_
          refine rx_istore_n_2 hE dX7_readTest_65 (by decide) rfl ?_
          refine rx_iload_n hE dX7_readTest_66 (i := 2) rfl rfl ?_
          refine rx_if_ne (tgt := 92) hE dX7_readTest_67 (by decide) (fun c67 => absurd rfl c67) (fun c67 => ?_)
          refine rx_iload_n hE dX7_readTest_70 (i := 3) rfl rfl ?_
          refine rx_if_eq (tgt := 80) hE dX7_readTest_71 (by decide) (fun c71 => ?_) (fun c71 => ?_)
          · refine rx_iload hE dX7_readTest_80 rfl ?_
            refine rx_iconst hE dX7_readTest_82 (v := 1) (by decide) ?_
            refine rx_icmp_ne (tgt := 90) hE dX7_readTest_83 (by decide) (fun c83 => ?_) (fun c83 => absurd c83 (by decide))
            refine rx_iconst hE dX7_readTest_90 (v := 0) (by decide) ?_
            refine rx_istore_n_3 hE dX7_readTest_91 (by decide) rfl ?_
            refine rx_iload hE dX7_readTest_92 rfl ?_
            refine rx_iconst hE dX7_readTest_94 (v := -1) (by decide) ?_
            refine rx_icmp_ne (tgt := 99) hE dX7_readTest_95 (by decide) (fun c95 => absurd rfl c95) (fun c95 => ?_)
            exact rx_vret hE hQ rfl dX7_readTest_98 ⟨rfl, X2, rfl, fx.trans f2, Or.inl ⟨g, he, fun O l hO => hpre O l _ _ hO (hv (aoL a o ++ O) (l ++ l1) (by rw [ao_dp]; exact hO.1)).choose_spec⟩⟩
          · refine rx_aload_n hE dX7_readTest_74 (i := 0) rfl rfl ?_
            refine rx_bipush hE dX7_readTest_75 (v := -31) (by decide) ?_
            refine rx_call0 (rx_callV (av := [.int (-31)]) hE dX7_readTest_77 lk_X7_67 (c_X7_putE hM he (-31)) (xa_6 hM) np_X7_put rfl rfl (by omega) (Nat.le_of_ble_eq_true rfl) rfl ?_)
            rintro v M' ⟨rfl, rfl⟩
            refine rx_iload hE dX7_readTest_80 rfl ?_
            refine rx_iconst hE dX7_readTest_82 (v := 1) (by decide) ?_
            refine rx_icmp_ne (tgt := 90) hE dX7_readTest_83 (by decide) (fun c83 => ?_) (fun c83 => absurd c83 (by decide))
            refine rx_iconst hE dX7_readTest_90 (v := 0) (by decide) ?_
            refine rx_istore_n_3 hE dX7_readTest_91 (by decide) rfl ?_
            refine rx_iload hE dX7_readTest_92 rfl ?_
            refine rx_iconst hE dX7_readTest_94 (v := -1) (by decide) ?_
            refine rx_icmp_ne (tgt := 99) hE dX7_readTest_95 (by decide) (fun c95 => absurd rfl c95) (fun c95 => ?_)
            exact rx_vret hE hQ rfl dX7_readTest_98 ⟨rfl, X2, rfl, fx.trans f2, Or.inl ⟨g, he, fun O l hO => hpre O l _ _ hO (hv (aoL a o ++ O) (l ++ l1) (by rw [ao_dp]; exact hO.1)).choose_spec⟩⟩
      · have hp2 := q2.2.1
        have hv3 := hv.2.2
        have hty2 : ∀ ts : List Bool, ts.length ≤ 4 + 2 * dp → kty (l1 ++ l2) ts = some (true :: aoT a o ts) := fun ts hts => by
          have k1 := ao_len (a := a) (o := o) ts
          rw [kty_app _ _ _ _ (hty ts hts)]
          exact hv.2.1 _ (by omega)
        have hnx : ∀ (O : List Nat) (l : gSg) (m : Nat) (r : gRs), bsO dp O → mtR T N m true (aoL a o ++ O) p2 (l ++ (l1 ++ l2)) c2 r → ∃ m', mtR T N m' false O p l c r := fun O l m r hO hm => by
          obtain ⟨m', hm'⟩ := hv.1 (aoL a o ++ O) (l ++ l1) m r (by rw [ao_dp]; exact hO.1) (by rw [List.append_assoc]; exact hm)
          exact hpre O l m' r hO hm'
        have k30 : ∀ (X3 : gX) (l5 : Option Value), xf X X3 → cq X3 T N p2 c2 (st ++ (l1 ++ l2 ++ anL a).map cenc) → RX E mX7_readTest.2.2.1 0 0 30 [some (.ref 50), some (.int (nI dp)), some (.int (bI a)), some (.int (bI o)), some (.int (nI i)), l5] [] (xm n X3 O Q G S L) := by
          intro X3 l5 f3 q3
          refine rx_aload_n hE dX7_readTest_30 (i := 0) rfl rfl ?_
          refine rx_getf hE dX7_readTest_31 fl_X7_39_7 (xa_6 hM) rfl ?_
          refine rx_getfN hE dX7_readTest_34 fl_X7_62_8 (xa_1 hM) rfl ?_
          refine rx_int _ 0 q3.1.1.2.2.2 ?_
          refine rx_if_ne (tgt := 52) hE dX7_readTest_37 (by decide) (fun c37 => absurd rfl c37) (fun c37 => ?_)
          refine rx_aload_n hE dX7_readTest_40 (i := 0) rfl rfl ?_
          refine rx_getf hE dX7_readTest_41 fl_X7_39_7 (xa_6 hM) rfl ?_
          refine rx_ldcS hE 3 (by decide) dX7_readTest_44 rfl rfl ?_
          refine rx_call0 (rx_callV (av := [.ref 6]) hE dX7_readTest_46 lk_X7_45 (c_X8_wordAO hM hN q3.2.1 q3.1) (xa_1 hM) np_X8_wordOf rfl rfl (by omega) (Nat.le_of_ble_eq_true rfl) rfl ?_)
          rintro v M' ⟨rfl, rfl⟩
          by_cases hA : qwd T N p2 1476 = 0
          · by_cases hO2 : qwd T N p2 498 = 0
            · refine rx_int _ (-1) (by rw [if_pos hA, if_pos hO2]) ?_
              have k80 : ∀ (X4 : gX), xf X X4 → cq X4 T N p2 c2 (st ++ (l1 ++ l2 ++ anL a ++ orL o).map cenc) → RX E mX7_readTest.2.2.1 0 0 80 [some (.ref 50), some (.int (nI dp)), some (.int 0), some (.int (bI o)), some (.int (nI i)), some (.int (-1))] [] (xm n X4 O Q G S L) := by
                intro X4 f4 q4
                refine rx_iload hE dX7_readTest_80 rfl ?_
                refine rx_iconst hE dX7_readTest_82 (v := 1) (by decide) ?_
                refine rx_icmp_ne (tgt := 90) hE dX7_readTest_83 (by decide) (fun c83 => ?_) (fun c83 => absurd c83 (by decide))
                refine rx_iconst hE dX7_readTest_90 (v := 0) (by decide) ?_
                refine rx_istore_n_3 hE dX7_readTest_91 (by decide) rfl ?_
                refine rx_iload hE dX7_readTest_92 rfl ?_
                refine rx_iconst hE dX7_readTest_94 (v := -1) (by decide) ?_
                refine rx_icmp_ne (tgt := 99) hE dX7_readTest_95 (by decide) (fun c95 => absurd rfl c95) (fun c95 => ?_)
                exact rx_vret hE hQ rfl dX7_readTest_98 ⟨rfl, X4, rfl, f4, Or.inr ⟨p2, l1 ++ l2 ++ anL a ++ orL o, c2, q4, ⟨fun l hO => hnx [] l 1 _ hO (Or.inr (Or.inr (Or.inr ⟨fun z => absurd (ao_mem.mp z.2) (by simp), hA, hO2, Or.inr ⟨fun z => absurd (ao_mem.mp z) (by simp), by rw [(ly3 hO.2).1, (ly3 hO.2).2, (ly1 hO.2).1]; simp only [List.append_assoc, List.append_nil]⟩⟩))), fun O' l m r hO hs hm => hnx (91 :: O') l (m + 1) r hO (Or.inl ⟨⟨hs, ao_mem.mpr (by simp)⟩, by rw [(ly3 hO.2).1, (ly3 hO.2).2, (ly1 hO.2).1, (ly1 hO.2).2]; simp only [List.append_assoc, List.append_nil] at hm ⊢; exact hm⟩), fun O' l hO hs => hnx (91 :: O') l 1 _ hO (Or.inr (Or.inr (Or.inr ⟨fun z => hs z.1, hA, hO2, Or.inl ⟨ao_mem.mpr (by simp), rfl⟩⟩))), fun ts hts => ao_ty2 (ao_ty1 (hty2 ts hts)), (by have k1 := an_len (a := a); have k2 := or_len (o := o); simp only [List.length_append]; omega), by omega⟩⟩⟩
              refine rx_goto (tgt := 53) hE dX7_readTest_49 (by decide) ?_
              refine rx_istore_5 hE dX7_readTest_53 (by decide) rfl ?_
              refine rx_iload hE dX7_readTest_55 rfl ?_
              refine rx_if_ne (tgt := 64) hE dX7_readTest_57 (by decide) (fun c57 => ?_) (fun c57 => absurd c57 (by decide))
              refine rx_iconst hE dX7_readTest_64 (v := 0) (by decide) ?_
              refine rx_istore_n_2 hE dX7_readTest_65 (by decide) rfl ?_
              refine rx_iload_n hE dX7_readTest_66 (i := 2) rfl rfl ?_
              refine rx_if_ne (tgt := 92) hE dX7_readTest_67 (by decide) (fun c67 => absurd rfl c67) (fun c67 => ?_)
              refine rx_iload_n hE dX7_readTest_70 (i := 3) rfl rfl ?_
              refine rx_if_eq (tgt := 80) hE dX7_readTest_71 (by decide) (fun c71 => ?_) (fun c71 => ?_)
              · have ho0 : o = false := bI_0.mp c71
                exact k80 X3 f3 (by rw [ho0]; rw [show l1 ++ l2 ++ anL a ++ orL false = l1 ++ l2 ++ anL a from List.append_nil _]; exact q3)
              · refine rx_aload_n hE dX7_readTest_74 (i := 0) rfl rfl ?_
                refine rx_bipush hE dX7_readTest_75 (v := -31) (by decide) ?_
                refine rx_call0 (rx_callV (av := [.int (-31)]) hE dX7_readTest_77 lk_X7_67 (c_X7_putQ (X := X3) hM q3 (by have k1 := an_len (a := a); simp only [List.length_append, List.length_map]; omega) (-31)) (xa_6 hM) np_X7_put rfl rfl (by omega) (Nat.le_of_ble_eq_true rfl) rfl ?_)
                rintro v M' ⟨rfl, X4, rfl, f4, q4⟩
                have ho0 : o = true := by
                  cases o with
                  | false => exact absurd rfl c71
                  | true => rfl
                exact k80 X4 (f3.trans f4) (by rw [ho0, List.map_append, ← List.append_assoc]; exact q4)
            · refine rx_int _ 1 (by rw [if_pos hA, if_neg hO2]) ?_
              have k80 : ∀ (X4 : gX), xf X X4 → cq X4 T N p2 c2 (st ++ (l1 ++ l2 ++ anL a ++ orL o).map cenc) → RX E mX7_readTest.2.2.1 0 0 80 [some (.ref 50), some (.int (nI dp)), some (.int 0), some (.int (bI o)), some (.int (nI i)), some (.int 1)] [] (xm n X4 O Q G S L) := by
                intro X4 f4 q4
                refine rx_iload hE dX7_readTest_80 rfl ?_
                refine rx_iconst hE dX7_readTest_82 (v := 1) (by decide) ?_
                refine rx_icmp_ne (tgt := 90) hE dX7_readTest_83 (by decide) (fun c83 => absurd rfl c83) (fun c83 => ?_)
                refine rx_iconst hE dX7_readTest_86 (v := 1) (by decide) ?_
                refine rx_goto (tgt := 91) hE dX7_readTest_87 (by decide) ?_
                refine rx_istore_n_3 hE dX7_readTest_91 (by decide) rfl ?_
                refine rx_iload hE dX7_readTest_92 rfl ?_
                refine rx_iconst hE dX7_readTest_94 (v := -1) (by decide) ?_
                refine rx_icmp_ne (tgt := 99) hE dX7_readTest_95 (by decide) (fun c95 => ?_) (fun c95 => absurd c95 (by decide))
                refine rx_aload_n hE dX7_readTest_99 (i := 0) rfl rfl ?_
                refine rx_getf hE dX7_readTest_100 fl_X7_39_7 (xa_6 hM) rfl ?_
                refine rx_call0 (rx_callV (av := []) hE dX7_readTest_103 lk_X7_55 (c_X8_nextQ (X := X4) hM hN q4) (xa_1 hM) np_X8_next rfl rfl (by omega) (Nat.le_of_ble_eq_true rfl) rfl ?_)
                rintro v M' ⟨rfl, X5, rfl, f5, q5⟩
                refine rx_iinc_4 hE dX7_readTest_106 (v := 1) (by decide) (by decide) rfl ?_
                rw [nI_1]
                refine rx_goto (tgt := 7) hE dX7_readTest_109 (by decide) ?_
                have hb2 := nx_lt (T := T) (wd_te hp2 hO2).1
                exact ih false true _ c2 (i + 1) (l1 ++ l2 ++ anL a ++ orL o) _ _ (by omega) (f4.trans f5) q5 (by have k1 := an_len (a := a); have k2 := or_len (o := o); have k3 : (anL false).length = 0 := rfl; have k4 := or_len (o := true); simp only [List.length_append]; omega) (by omega) (fun ts hts => ao_ty2 (ao_ty1 (hty2 ts hts))) (fun O l m r hO hm => hnx O l (m + 1) r hO (Or.inr (Or.inr (Or.inl ⟨fun z => wd_n93 hp2 hO2 z.1, hA, hO2, by rw [(ly3 hO.2).1, (ly3 hO.2).2, (ly1 hO.2).1, (ly1 hO.2).2]; simp only [List.append_assoc, List.append_nil] at hm ⊢; exact hm⟩))))
              refine rx_goto (tgt := 53) hE dX7_readTest_49 (by decide) ?_
              refine rx_istore_5 hE dX7_readTest_53 (by decide) rfl ?_
              refine rx_iload hE dX7_readTest_55 rfl ?_
              refine rx_if_ne (tgt := 64) hE dX7_readTest_57 (by decide) (fun c57 => ?_) (fun c57 => absurd c57 (by decide))
              refine rx_iconst hE dX7_readTest_64 (v := 0) (by decide) ?_
              refine rx_istore_n_2 hE dX7_readTest_65 (by decide) rfl ?_
              refine rx_iload_n hE dX7_readTest_66 (i := 2) rfl rfl ?_
              refine rx_if_ne (tgt := 92) hE dX7_readTest_67 (by decide) (fun c67 => absurd rfl c67) (fun c67 => ?_)
              refine rx_iload_n hE dX7_readTest_70 (i := 3) rfl rfl ?_
              refine rx_if_eq (tgt := 80) hE dX7_readTest_71 (by decide) (fun c71 => ?_) (fun c71 => ?_)
              · have ho0 : o = false := bI_0.mp c71
                exact k80 X3 f3 (by rw [ho0]; rw [show l1 ++ l2 ++ anL a ++ orL false = l1 ++ l2 ++ anL a from List.append_nil _]; exact q3)
              · refine rx_aload_n hE dX7_readTest_74 (i := 0) rfl rfl ?_
                refine rx_bipush hE dX7_readTest_75 (v := -31) (by decide) ?_
                refine rx_call0 (rx_callV (av := [.int (-31)]) hE dX7_readTest_77 lk_X7_67 (c_X7_putQ (X := X3) hM q3 (by have k1 := an_len (a := a); simp only [List.length_append, List.length_map]; omega) (-31)) (xa_6 hM) np_X7_put rfl rfl (by omega) (Nat.le_of_ble_eq_true rfl) rfl ?_)
                rintro v M' ⟨rfl, X4, rfl, f4, q4⟩
                have ho0 : o = true := by
                  cases o with
                  | false => exact absurd rfl c71
                  | true => rfl
                exact k80 X4 (f3.trans f4) (by rw [ho0, List.map_append, ← List.append_assoc]; exact q4)
          · refine rx_int _ 0 (if_neg hA) ?_
            refine rx_goto (tgt := 53) hE dX7_readTest_49 (by decide) ?_
            refine rx_istore_5 hE dX7_readTest_53 (by decide) rfl ?_
            refine rx_iload hE dX7_readTest_55 rfl ?_
            refine rx_if_ne (tgt := 64) hE dX7_readTest_57 (by decide) (fun c57 => absurd rfl c57) (fun c57 => ?_)
            refine rx_iconst hE dX7_readTest_60 (v := 1) (by decide) ?_
            refine rx_goto (tgt := 65) hE dX7_readTest_61 (by decide) ?_
            refine rx_istore_n_2 hE dX7_readTest_65 (by decide) rfl ?_
            refine rx_iload_n hE dX7_readTest_66 (i := 2) rfl rfl ?_
            refine rx_if_ne (tgt := 92) hE dX7_readTest_67 (by decide) (fun c67 => ?_) (fun c67 => absurd c67 (by decide))
            refine rx_iload hE dX7_readTest_92 rfl ?_
            refine rx_iconst hE dX7_readTest_94 (v := -1) (by decide) ?_
            refine rx_icmp_ne (tgt := 99) hE dX7_readTest_95 (by decide) (fun c95 => ?_) (fun c95 => absurd c95 (by decide))
            refine rx_aload_n hE dX7_readTest_99 (i := 0) rfl rfl ?_
            refine rx_getf hE dX7_readTest_100 fl_X7_39_7 (xa_6 hM) rfl ?_
            refine rx_call0 (rx_callV (av := []) hE dX7_readTest_103 lk_X7_55 (c_X8_nextQ (X := X3) hM hN q3) (xa_1 hM) np_X8_next rfl rfl (by omega) (Nat.le_of_ble_eq_true rfl) rfl ?_)
            rintro v M' ⟨rfl, X5, rfl, f5, q5⟩
            refine rx_iinc_4 hE dX7_readTest_106 (v := 1) (by decide) (by decide) rfl ?_
            rw [nI_1]
            refine rx_goto (tgt := 7) hE dX7_readTest_109 (by decide) ?_
            have hb2 := nx_lt (T := T) (wd_te hp2 hA).1
            exact ih true o _ c2 (i + 1) (l1 ++ l2 ++ anL a) _ _ (by omega) (f3.trans f5) q5 (by have k1 := an_len (a := a); have k3 := an_len (a := true); simp only [List.length_append]; omega) (by omega) (fun ts hts => ao_ty1 (hty2 ts hts)) (fun O l m r hO hm => hnx O l (m + 1) r hO (Or.inr (Or.inl ⟨fun z => wd_n93 hp2 hA z.1, hA, by rw [(ly3 hO.2).1, (ly3 hO.2).2, (ly2 hO.2).1, (ly2 hO.2).2]; simp only [List.append_assoc, List.append_nil] at hm ⊢; exact hm⟩)))
        refine rx_iload_n hE dX7_readTest_20 (i := 2) rfl rfl ?_
        refine rx_if_eq (tgt := 30) hE dX7_readTest_21 (by decide) (fun c21 => ?_) (fun c21 => ?_)
        · have ha0 : a = false := bI_0.mp c21
          exact k30 X2 _ (fx.trans f2) (by rw [ha0, show l1 ++ l2 ++ anL false = l1 ++ l2 from List.append_nil _, List.map_append, ← List.append_assoc]; exact q2)
        · refine rx_aload_n hE dX7_readTest_24 (i := 0) rfl rfl ?_
          refine rx_bipush hE dX7_readTest_25 (v := -30) (by decide) ?_
          refine rx_call0 (rx_callV (av := [.int (-30)]) hE dX7_readTest_27 lk_X7_67 (c_X7_putQ (X := X2) hM q2 (by simp only [List.length_append, List.length_map]; omega) (-30)) (xa_6 hM) np_X7_put rfl rfl (by omega) (Nat.le_of_ble_eq_true rfl) rfl ?_)
          rintro v M' ⟨rfl, X3, rfl, f3, q3⟩
          have ha0 : a = true := by
            cases a with
            | false => exact absurd rfl c21
            | true => rfl
          exact k30 X3 _ (fx.trans (f2.trans f3)) (by rw [ha0, List.map_append, List.map_append, ← List.append_assoc, ← List.append_assoc]; exact q3)
  refine rx_iconst hE dX7_readTest_0 (v := 0) (by decide) ?_
  refine rx_istore_n_2 hE dX7_readTest_1 (by decide) rfl ?_
  refine rx_iconst hE dX7_readTest_2 (v := 0) (by decide) ?_
  refine rx_istore_n_3 hE dX7_readTest_3 (by decide) rfl ?_
  refine rx_iconst hE dX7_readTest_4 (v := 0) (by decide) ?_
  refine rx_istore_4 hE dX7_readTest_5 (by decide) rfl ?_
  exact l1 (N + 1) false false p c 0 [] X _ (by omega) (xf.refl X) (by rw [List.map_nil, List.append_nil]; exact hq) (by show p + 0 + 0 + 0 ≤ p; omega) (by omega) (fun ts _ => rfl) (fun O l m r hO hm => ⟨m, by rw [List.append_nil] at hm; exact hm⟩)
