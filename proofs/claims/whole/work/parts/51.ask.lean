/-! ===== the fewest beats in which all are let in once: the first sharing out ===== -/
abbrev gB1 : Type := Nat → Int32
def qshL (kk : gB1 → Option gB1) (c : Int32) (r : Nat) : Nat → Nat → gB1 → Option gB1
  | 0, _, _ => none
  | n + 1, j, b => if qfrF (upd b r (nI j)) c r 0 r = 0 then qshL kk c r n (j + 1) b else match kk (upd b r (nI j)) with
    | some x => some x
    | none => qshL kk c r n (j + 1) b
def qsh (C : Nat → Int32) (many : Nat) : Nat → Nat → gB1 → Option gB1
  | 0, _, b => some b
  | d + 1, r, b => qshL (qsh C many d (r + 1)) (C r) r many 0 b
def oeq (R : Nat) (x y : Option gB1) : Prop := match x, y with
  | none, none => True
  | some f, some g => ∀ i, i < R → f i = g i
  | _, _ => False
theorem oeq.refl (R : Nat) (x : Option gB1) : oeq R x x := by
  cases x
  · trivial
  · exact fun _ _ => rfl
theorem oeq.trans {R : Nat} {x y z : Option gB1} (h : oeq R x y) (h' : oeq R y z) : oeq R x z := by
  cases x <;> cases y <;> cases z <;> try trivial
  exact fun i hi => (h i hi).trans (h' i hi)
theorem oeq.symm {R : Nat} {x y : Option gB1} (h : oeq R x y) : oeq R y x := by
  cases x <;> cases y <;> try trivial
  exact fun i hi => (h i hi).symm
theorem oeq.none {R : Nat} {x : Option gB1} (h : oeq R none x) : x = none := by
  cases x
  · rfl
  · exact h.elim
theorem oeq.some {R : Nat} {f : gB1} {x : Option gB1} (h : oeq R (some f) x) : ∃ g, x = some g ∧ ∀ i, i < R → f i = g i := by
  cases x
  · exact h.elim
  · exact ⟨_, rfl, h⟩
theorem qfrF_congr {b b' : gB1} (c : Int32) (r : Nat) (h : ∀ i, i ≤ r → b i = b' i) : ∀ (n k : Nat), k + n ≤ r → qfrF b c r k n = qfrF b' c r k n
  | 0, _, _ => rfl
  | n + 1, k, hk => by
    show (if b k = b r ∧ jbit c k = 1 then 0 else qfrF b c r (k + 1) n) = (if b' k = b' r ∧ jbit c k = 1 then 0 else qfrF b' c r (k + 1) n)
    rw [h k (by omega), h r (Nat.le_refl _), qfrF_congr c r h n (k + 1) (by omega)]
theorem upd_agree {b b' : gB1} {r : Nat} (h : ∀ i, i < r → b i = b' i) (v : Int32) : ∀ i, i < r + 1 → upd b r v i = upd b' r v i := by
  intro i hi
  unfold upd
  by_cases hr : i = r
  · rw [if_pos hr, if_pos hr]
  · rw [if_neg hr, if_neg hr, h i (by omega)]
theorem qshL_agree (R : Nat) {kk : gB1 → Option gB1} (c : Int32) (r : Nat) (hk : ∀ b b', (∀ i, i < r + 1 → b i = b' i) → oeq R (kk b) (kk b')) : ∀ (n j : Nat) (b b' : gB1), (∀ i, i < r → b i = b' i) → oeq R (qshL kk c r n j b) (qshL kk c r n j b')
  | 0, _, _, _, _ => trivial
  | n + 1, j, b, b', h => by
    have hu := upd_agree h (nI j)
    unfold qshL
    rw [qfrF_congr c r (fun i hi => hu i (by omega)) r 0 (by omega)]
    split
    · exact qshL_agree R c r hk n (j + 1) b b' h
    · have h2 := hk _ _ hu
      revert h2
      cases kk (upd b r (nI j)) <;> cases kk (upd b' r (nI j)) <;> intro h2
      · exact qshL_agree R c r hk n (j + 1) b b' h
      · exact h2.elim
      · exact h2.elim
      · exact h2
theorem qsh_agree (C : Nat → Int32) (many R : Nat) : ∀ (d r : Nat) (b b' : gB1), r + d = R → (∀ i, i < r → b i = b' i) → oeq R (qsh C many d r b) (qsh C many d r b')
  | 0, r, b, b', hr, h => fun i hi => h i (by omega)
  | d + 1, r, b, b', hr, h => qshL_agree R (C r) r (fun b b' h => qsh_agree C many R d (r + 1) b b' (by omega) h) many 0 b b' h
theorem qfr_free {b : gB1} {c : Int32} {r : Nat} (h : ∀ i, i < r → ¬ b i = b r) : ∀ (n k : Nat), k + n ≤ r → qfrF b c r k n = 1
  | 0, _, _ => rfl
  | n + 1, k, hk => by
    show (if b k = b r ∧ jbit c k = 1 then 0 else qfrF b c r (k + 1) n) = 1
    rw [if_neg (fun q => h k (by omega) q.1), qfr_free h n (k + 1) (by omega)]
theorem qshL_so {kk : gB1 → Option gB1} {c : Int32} {r : Nat} (hr : r < 100) (hk : ∀ b, (∀ i, i < r + 1 → ∃ x, x ≤ i ∧ b i = nI x) → kk b ≠ none) : ∀ (n j : Nat) (b : gB1), j ≤ r → r < j + n → (∀ i, i < r → ∃ x, x ≤ i ∧ b i = nI x) → qshL kk c r n j b ≠ none
  | 0, j, b, h1, h2, _ => by omega
  | n + 1, j, b, h1, h2, h => by
    unfold qshL
    split
    · next h0 =>
      have hj : j ≠ r := fun hj => by
        subst hj
        rw [qfr_free (fun i hi => ?_) j 0 (by omega)] at h0
        · exact absurd h0 (by decide)
        · rw [upd_ne (by omega), upd_eq]
          obtain ⟨x, hx, e⟩ := h i hi
          rw [e]
          exact fun q => by
            have := (nI_eq (by omega) (by omega)).mp q
            omega
      exact qshL_so hr hk n (j + 1) b (by omega) (by omega) h
    · have h2 := hk (upd b r (nI j)) (fun i hi => by
        unfold upd
        split
        · next e => exact ⟨j, by omega, rfl⟩
        · exact h i (by omega))
      revert h2
      cases kk (upd b r (nI j))
      · intro h2; exact absurd rfl h2
      · intro _ h3; exact absurd h3 (by simp)
theorem qsh_so (C : Nat → Int32) {many R : Nat} (hR : R ≤ 6) (hm : R ≤ many) : ∀ (d r : Nat) (b : gB1), r + d = R → (∀ i, i < r → ∃ x, x ≤ i ∧ b i = nI x) → qsh C many d r b ≠ none
  | 0, _, b, _, _ => by intro h; exact absurd h (by simp [qsh])
  | d + 1, r, b, hr, h => qshL_so (by omega) (fun b hb => qsh_so C hR hm d (r + 1) b (by omega) hb) many 0 b (by omega) (by omega) h
def qbt (C : Nat → Int32) (R : Nat) : Nat → Nat → Nat
  | 0, m => m
  | n + 1, m => if (qsh C m R 0 (fun _ => 0)).isNone then qbt C R n (m + 1) else m
def q_beats (J : gJn) (what : Int32) : Int32 := if j_isTold J = 0 ∨ q_in what (-1) 5 = 0 then -3 else if what = -1 then nI (qbt (J 3) (jR J) (jR J) 0) else if j_hasRoad J what = 0 then -2 else ((qsh (J 3) (qbt (J 3) (jR J) (jR J) 0) (jR J) 0 (fun _ => 0)).getD (fun _ => 0)) what.toNatClampNeg
theorem nI_p0 (j : Nat) : nI j + (-1) + 1 = nI j := by rw [Int32.add_assoc]; exact Int32.add_zero _
set_option maxRecDepth 100000 in
set_option maxHeartbeats 4000000 in
theorem c_X11_isDoneBy {M : gM} {S : gS} {L : gLg} {J : gJn} (hM : 408 ≤ M.1) {N R : Nat} (hR : J 9 2 = nI R) (hR6 : R ≤ 6) (hN : N ≤ 100) : SX 2 0 0 mX11_isDoneBy [.ref 384, .int (nI N)] (kp M (kput S J) L) (fun v M' => v = some (.int (if (qsh (J 3) N R 0 (fun _ => 0)).isNone then 0 else 1)) ∧ ∃ b' : gB1, M' = kp M (kput (k_s S 14 b') J) L ∧ ∀ x, qsh (J 3) N R 0 (fun _ => 0) = some x → ∀ i, i < R → b' i = x i) := by
  refine SX.intro [some (.ref 384), some (.int (nI N)), none] (by decide +kernel) (Nat.le_of_ble_eq_true rfl) rfl (fun E hE hQ => ?_)
  have lev : ∀ (d r : Nat), r + d = R → ∀ (b : gB1) (o : Option gB1), oeq R (qsh (J 3) N d r b) o → b r = -1 → (o = none → ∀ b', (∀ i, i < r → b' i = b i) → RX E mX11_isDoneBy.2.2.1 0 0 9 [some (.ref 384), some (.int (nI N)), some (.int (nI r + (-1)))] [] (kp M (kput (k_s S 14 b') J) L)) → (∀ x, o = some x → ∀ b', (∀ i, i < R → b' i = x i) → RX E mX11_isDoneBy.2.2.1 0 0 9 [some (.ref 384), some (.int (nI N)), some (.int (nI R))] [] (kp M (kput (k_s S 14 b') J) L)) → RX E mX11_isDoneBy.2.2.1 0 0 9 [some (.ref 384), some (.int (nI N)), some (.int (nI r))] [] (kp M (kput (k_s S 14 b) J) L) := by
    intro d
    induction d with
    | zero =>
      intro r hr b o ho hb1 fail succ
      obtain ⟨x, e, hx⟩ := oeq.some (show oeq R (some b) o from ho)
      have hrR : r = R := by omega
      subst hrR
      exact succ x e b hx
    | succ d ihd =>
      intro r hr b o ho hb1 fail succ
      have inner : ∀ (n j : Nat) (b : gB1) (o : Option gB1), j + n = N → b r = nI j + (-1) → oeq R (qshL (qsh (J 3) N d (r + 1)) (J 3 r) r n j b) o → (o = none → ∀ b', (∀ i, i < r → b' i = b i) → RX E mX11_isDoneBy.2.2.1 0 0 9 [some (.ref 384), some (.int (nI N)), some (.int (nI r + (-1)))] [] (kp M (kput (k_s S 14 b') J) L)) → (∀ x, o = some x → ∀ b', (∀ i, i < R → b' i = x i) → RX E mX11_isDoneBy.2.2.1 0 0 9 [some (.ref 384), some (.int (nI N)), some (.int (nI R))] [] (kp M (kput (k_s S 14 b') J) L)) → RX E mX11_isDoneBy.2.2.1 0 0 9 [some (.ref 384), some (.int (nI N)), some (.int (nI r))] [] (kp M (kput (k_s S 14 b) J) L) := by
        intro n
        induction n with
        | zero =>
          intro j b o hj hbr ho fail succ
          refine rx_iload_n hE dX11_isDoneBy_9 (i := 2) rfl rfl ?_
          refine rx_if_lt (tgt := 70) hE dX11_isDoneBy_10 (by decide) (fun c10 => absurd c10 (nI_pos (by omega))) (fun c10 => ?_)
          refine rx_iload_n hE dX11_isDoneBy_13 (i := 2) rfl rfl ?_
          refine rx_aload_n hE dX11_isDoneBy_14 (i := 0) rfl rfl ?_
          refine rx_getf hE dX11_isDoneBy_15 fl_X11_39_10 (kp_o hM) rfl ?_
          refine rx_iconst hE dX11_isDoneBy_18 (v := 3) (by decide) ?_
          refine rx_ialdN (i := 3) hE dX11_isDoneBy_19 (kp_10 hM) (by omega) (by decide) ?_
          refine rx_int _ _ kr_c2 ?_
          refine rx_icmp_ge (tgt := 70) hE dX11_isDoneBy_20 (by decide) (fun c20 => absurd (by rw [hR] at c20; exact c20) (nI_ge (by omega) (by omega))) (fun c20 => ?_)
          refine rx_aload_n hE dX11_isDoneBy_23 (i := 0) rfl rfl ?_
          refine rx_getf hE dX11_isDoneBy_24 fl_X11_61_10 (kp_o hM) rfl ?_
          refine rx_iload_n hE dX11_isDoneBy_27 (i := 2) rfl rfl ?_
          refine rx_dup2 hE dX11_isDoneBy_28 rfl rfl ?_
          refine rx_ialdN (i := r) hE dX11_isDoneBy_29 (kp_14 hM) (by omega) (by decide) ?_
          refine rx_int _ _ (kr_a (by decide) (by decide) (by decide)) ?_
          refine rx_int _ (b r) rfl ?_
          refine rx_iconst hE dX11_isDoneBy_30 (v := 1) (by decide) ?_
          refine rx_iadd hE dX11_isDoneBy_31 ?_
          refine rx_int _ (nI j) (by rw [hbr]; exact nI_p0 j) ?_
          refine rx_iastN (i := r) hE dX11_isDoneBy_32 (kp_14 hM) (by omega) (by decide) ?_
          refine rx_mem (M' := kp M (kput (k_s S 14 (upd b (r) (nI j))) J) L) (by rw [kw_14, kput_s (by decide) (by decide) (by decide)]; show kp M (kput (k_s (k_s S 14 b) 14 (upd b (r) _)) J) L = _; rw [k_ss]) ?_
          refine rx_aload_n hE dX11_isDoneBy_33 (i := 0) rfl rfl ?_
          refine rx_getf hE dX11_isDoneBy_34 fl_X11_61_10 (kp_o hM) rfl ?_
          refine rx_iload_n hE dX11_isDoneBy_37 (i := 2) rfl rfl ?_
          refine rx_ialdN (i := r) hE dX11_isDoneBy_38 (kp_14 hM) (by omega) (by decide) ?_
          refine rx_int _ _ (kr_a (by decide) (by decide) (by decide)) ?_
          refine rx_int _ (upd b r (nI j) r) rfl ?_
          refine rx_iload_n hE dX11_isDoneBy_39 (i := 1) rfl rfl ?_
          refine rx_icmp_lt (tgt := 49) hE dX11_isDoneBy_40 (by decide) (fun c40 => absurd (by rw [upd_eq] at c40; exact c40) (nI_nlt (by omega) (by omega))) (fun c40 => ?_)
          refine rx_iinc_2 hE dX11_isDoneBy_43 (v := -1) (by decide) (by decide) rfl ?_
          refine rx_goto (tgt := 9) hE dX11_isDoneBy_46 (by decide) ?_
          exact fail (by cases o <;> first | rfl | exact absurd ho (fun q => q)) _ (fun i hi => upd_ne (by omega))
        | succ n ihn =>
          intro j b o hj hbr ho fail succ
          refine rx_iload_n hE dX11_isDoneBy_9 (i := 2) rfl rfl ?_
          refine rx_if_lt (tgt := 70) hE dX11_isDoneBy_10 (by decide) (fun c10 => absurd c10 (nI_pos (by omega))) (fun c10 => ?_)
          refine rx_iload_n hE dX11_isDoneBy_13 (i := 2) rfl rfl ?_
          refine rx_aload_n hE dX11_isDoneBy_14 (i := 0) rfl rfl ?_
          refine rx_getf hE dX11_isDoneBy_15 fl_X11_39_10 (kp_o hM) rfl ?_
          refine rx_iconst hE dX11_isDoneBy_18 (v := 3) (by decide) ?_
          refine rx_ialdN (i := 3) hE dX11_isDoneBy_19 (kp_10 hM) (by omega) (by decide) ?_
          refine rx_int _ _ kr_c2 ?_
          refine rx_icmp_ge (tgt := 70) hE dX11_isDoneBy_20 (by decide) (fun c20 => absurd (by rw [hR] at c20; exact c20) (nI_ge (by omega) (by omega))) (fun c20 => ?_)
          refine rx_aload_n hE dX11_isDoneBy_23 (i := 0) rfl rfl ?_
          refine rx_getf hE dX11_isDoneBy_24 fl_X11_61_10 (kp_o hM) rfl ?_
          refine rx_iload_n hE dX11_isDoneBy_27 (i := 2) rfl rfl ?_
          refine rx_dup2 hE dX11_isDoneBy_28 rfl rfl ?_
          refine rx_ialdN (i := r) hE dX11_isDoneBy_29 (kp_14 hM) (by omega) (by decide) ?_
          refine rx_int _ _ (kr_a (by decide) (by decide) (by decide)) ?_
          refine rx_int _ (b r) rfl ?_
          refine rx_iconst hE dX11_isDoneBy_30 (v := 1) (by decide) ?_
          refine rx_iadd hE dX11_isDoneBy_31 ?_
          refine rx_int _ (nI j) (by rw [hbr]; exact nI_p0 j) ?_
          refine rx_iastN (i := r) hE dX11_isDoneBy_32 (kp_14 hM) (by omega) (by decide) ?_
          refine rx_mem (M' := kp M (kput (k_s S 14 (upd b (r) (nI j))) J) L) (by rw [kw_14, kput_s (by decide) (by decide) (by decide)]; show kp M (kput (k_s (k_s S 14 b) 14 (upd b (r) _)) J) L = _; rw [k_ss]) ?_
          refine rx_aload_n hE dX11_isDoneBy_33 (i := 0) rfl rfl ?_
          refine rx_getf hE dX11_isDoneBy_34 fl_X11_61_10 (kp_o hM) rfl ?_
          refine rx_iload_n hE dX11_isDoneBy_37 (i := 2) rfl rfl ?_
          refine rx_ialdN (i := r) hE dX11_isDoneBy_38 (kp_14 hM) (by omega) (by decide) ?_
          refine rx_int _ _ (kr_a (by decide) (by decide) (by decide)) ?_
          refine rx_int _ (upd b r (nI j) r) rfl ?_
          refine rx_iload_n hE dX11_isDoneBy_39 (i := 1) rfl rfl ?_
          refine rx_icmp_lt (tgt := 49) hE dX11_isDoneBy_40 (by decide) (fun c40 => ?_) (fun c40 => absurd (by rw [upd_eq]; exact nI_lt (by omega) (by omega)) c40)
          refine rx_aload_n hE dX11_isDoneBy_49 (i := 0) rfl rfl ?_
          refine rx_iload_n hE dX11_isDoneBy_50 (i := 2) rfl rfl ?_
          refine rx_call0 (rx_callV (av := [.int (nI r)]) hE dX11_isDoneBy_51 lk_X11_388 (c_X11_isFree hM (r := r) (by omega)) (kp_o hM) np_X11_isFree rfl rfl (by decide) (Nat.le_of_ble_eq_true rfl) rfl ?_)
          rintro v M' ⟨rfl, rfl⟩
          refine rx_int _ (qfrF (upd b r (nI j)) (J 3 r) r 0 r) rfl ?_
          refine rx_if_eq (tgt := 9) hE dX11_isDoneBy_54 (by decide) (fun c54 => ?_) (fun c54 => ?_)
          · exact ihn (j + 1) (upd b r (nI j)) o (by omega) (by rw [upd_eq, pk_m1]) (oeq.trans (qshL_agree R _ _ (fun b b' h => qsh_agree (J 3) N R d (r + 1) b b' (by omega) h) n (j + 1) _ b (fun i hi => upd_ne (by omega))) (by unfold qshL at ho; rw [if_pos c54] at ho; exact ho)) (fun e b' hb' => fail e b' (fun i hi => (hb' i hi).trans (upd_ne (by omega)))) succ
          · refine rx_iinc_2 hE dX11_isDoneBy_57 (v := 1) (by decide) (by decide) rfl ?_
            rw [nI_1]
            refine rx_aload_n hE dX11_isDoneBy_60 (i := 0) rfl rfl ?_
            refine rx_getf hE dX11_isDoneBy_61 fl_X11_61_10 (kp_o hM) rfl ?_
            refine rx_iload_n hE dX11_isDoneBy_64 (i := 2) rfl rfl ?_
            refine rx_iconst hE dX11_isDoneBy_65 (v := -1) (by decide) ?_
            refine rx_iastN (i := r + 1) hE dX11_isDoneBy_66 (kp_14 hM) (by omega) (by decide) ?_
            refine rx_mem (M' := kp M (kput (k_s S 14 (upd (upd b r (nI j)) (r + 1) (-1))) J) L) (by rw [kw_14, kput_s (by decide) (by decide) (by decide)]; show kp M (kput (k_s (k_s S 14 (upd b r (nI j))) 14 (upd (upd b r (nI j)) (r + 1) _)) J) L = _; rw [k_ss]) ?_
            refine rx_goto (tgt := 9) hE dX11_isDoneBy_67 (by decide) ?_
            have ho2 : oeq R (match qsh (J 3) N d (r + 1) (upd b r (nI j)) with
                | some x => some x
                | none => qshL (qsh (J 3) N d (r + 1)) (J 3 r) r n (j + 1) b) o := by unfold qshL at ho; rw [if_neg c54] at ho; exact ho
            have hag := qsh_agree (J 3) N R d (r + 1) (upd (upd b r (nI j)) (r + 1) (-1)) (upd b r (nI j)) (by omega) (fun i hi => upd_ne (by omega))
            refine ihd (r + 1) (by omega) (upd (upd b r (nI j)) (r + 1) (-1)) (qsh (J 3) N d (r + 1) (upd b r (nI j))) hag (by rw [upd_eq]) (fun e b' hb' => ?_) (fun x e b' hb' => ?_)
            · rw [e] at ho2
              rw [pk_m1]
              exact ihn (j + 1) b' o (by omega) (by rw [hb' r (by omega), upd_ne (by omega), upd_eq, pk_m1]) (oeq.trans (qshL_agree R _ _ (fun b b' h => qsh_agree (J 3) N R d (r + 1) b b' (by omega) h) n (j + 1) _ b (fun i hi => by rw [hb' i (by omega), upd_ne (by omega), upd_ne (by omega)])) ho2) (fun e b2 hb2 => fail e b2 (fun i hi => by rw [hb2 i hi, hb' i (by omega), upd_ne (by omega), upd_ne (by omega)])) succ
            · rw [e] at ho2
              obtain ⟨x2, e2, hx⟩ := oeq.some ho2
              exact succ x2 e2 b' (fun i hi => (hb' i hi).trans (hx i hi))
      exact inner N 0 b o (by omega) (by rw [hb1]; rfl) ho fail succ
  refine rx_iconst hE dX11_isDoneBy_0 (v := 0) (by decide) ?_
  refine rx_istore_n_2 hE dX11_isDoneBy_1 (by decide) rfl ?_
  refine rx_aload_n hE dX11_isDoneBy_2 (i := 0) rfl rfl ?_
  refine rx_getf hE dX11_isDoneBy_3 fl_X11_61_10 (kp_o hM) rfl ?_
  refine rx_iconst hE dX11_isDoneBy_6 (v := 0) (by decide) ?_
  refine rx_iconst hE dX11_isDoneBy_7 (v := -1) (by decide) ?_
  refine rx_iastN (i := 0) hE dX11_isDoneBy_8 (kp_14 hM) (by omega) (by decide) ?_
  refine rx_mem (M' := kp M (kput (k_s S 14 (upd (S 14) 0 (-1))) J) L) (by rw [kw_14, kput_s (by decide) (by decide) (by decide)]; rfl) ?_
  refine lev R 0 (by omega) _ (qsh (J 3) N R 0 (fun _ => 0)) (qsh_agree (J 3) N R R 0 _ _ (by omega) (fun i hi => by omega)) upd_eq (fun e b' hb' => ?_) (fun x e b' hb' => ?_)
  · refine rx_iload_n hE dX11_isDoneBy_9 (i := 2) rfl rfl ?_
    refine rx_if_lt (tgt := 70) hE dX11_isDoneBy_10 (by decide) (fun c10 => ?_) (fun c10 => absurd (by decide) c10)
    refine rx_iload_n hE dX11_isDoneBy_70 (i := 2) rfl rfl ?_
    refine rx_aload_n hE dX11_isDoneBy_71 (i := 0) rfl rfl ?_
    refine rx_getf hE dX11_isDoneBy_72 fl_X11_39_10 (kp_o hM) rfl ?_
    refine rx_iconst hE dX11_isDoneBy_75 (v := 3) (by decide) ?_
    refine rx_ialdN (i := 3) hE dX11_isDoneBy_76 (kp_10 hM) (by omega) (by decide) ?_
    refine rx_int _ _ kr_c2 ?_
    refine rx_icmp_ne (tgt := 84) hE dX11_isDoneBy_77 (by decide) (fun c77 => ?_) (fun c77 => absurd c77 (fun q => absurd (show nI 0 + (-1) = nI R from q.trans hR) (fun q2 => by have := congrArg Int32.toInt q2; rw [nI_toInt (by omega), show (nI 0 + (-1) : Int32).toInt = -1 by decide] at this; omega)))
    refine rx_iconst hE dX11_isDoneBy_84 (v := 0) (by decide) ?_
    exact rx_tret hE hQ rfl rfl dX11_isDoneBy_85 ⟨by rw [e]; rfl, b', rfl, fun x2 e2 => by rw [e] at e2; exact absurd e2 (by simp)⟩
  · refine rx_iload_n hE dX11_isDoneBy_9 (i := 2) rfl rfl ?_
    refine rx_if_lt (tgt := 70) hE dX11_isDoneBy_10 (by decide) (fun c10 => absurd c10 (nI_pos (by omega))) (fun c10 => ?_)
    refine rx_iload_n hE dX11_isDoneBy_13 (i := 2) rfl rfl ?_
    refine rx_aload_n hE dX11_isDoneBy_14 (i := 0) rfl rfl ?_
    refine rx_getf hE dX11_isDoneBy_15 fl_X11_39_10 (kp_o hM) rfl ?_
    refine rx_iconst hE dX11_isDoneBy_18 (v := 3) (by decide) ?_
    refine rx_ialdN (i := 3) hE dX11_isDoneBy_19 (kp_10 hM) (by omega) (by decide) ?_
    refine rx_int _ _ kr_c2 ?_
    refine rx_icmp_ge (tgt := 70) hE dX11_isDoneBy_20 (by decide) (fun c20 => ?_) (fun c20 => absurd (show J 9 2 ≤ nI R from by rw [hR]; exact nI_le (Nat.le_refl _) (by omega)) c20)
    refine rx_iload_n hE dX11_isDoneBy_70 (i := 2) rfl rfl ?_
    refine rx_aload_n hE dX11_isDoneBy_71 (i := 0) rfl rfl ?_
    refine rx_getf hE dX11_isDoneBy_72 fl_X11_39_10 (kp_o hM) rfl ?_
    refine rx_iconst hE dX11_isDoneBy_75 (v := 3) (by decide) ?_
    refine rx_ialdN (i := 3) hE dX11_isDoneBy_76 (kp_10 hM) (by omega) (by decide) ?_
    refine rx_int _ _ kr_c2 ?_
    refine rx_icmp_ne (tgt := 84) hE dX11_isDoneBy_77 (by decide) (fun c77 => absurd hR.symm c77) (fun c77 => ?_)
    refine rx_iconst hE dX11_isDoneBy_80 (v := 1) (by decide) ?_
    refine rx_goto (tgt := 85) hE dX11_isDoneBy_81 (by decide) ?_
    exact rx_tret hE hQ rfl rfl dX11_isDoneBy_85 ⟨by rw [e]; rfl, b', rfl, fun x2 e2 => by rw [e] at e2; injection e2 with e2; subst e2; exact hb'⟩
theorem qbt_so (C : Nat → Int32) {R : Nat} (hR : R ≤ 6) : ∀ (n m : Nat), m + n = R → (qsh C (qbt C R n m) R 0 (fun _ => 0)).isNone = false ∧ qbt C R n m ≤ 6
  | 0, m, h => by
    have := qsh_so C hR (many := m) (by omega) R 0 (fun _ => 0) (by omega) (fun i hi => by omega)
    refine ⟨?_, by show m ≤ 6; omega⟩
    show (qsh C m R 0 (fun _ => 0)).isNone = false
    revert this
    cases qsh C m R 0 (fun _ => 0)
    · intro q; exact absurd rfl q
    · intro _; rfl
  | n + 1, m, h => by
    unfold qbt
    split
    · exact qbt_so C hR n (m + 1) (by omega)
    · next q => exact ⟨Bool.eq_false_iff.mpr q, by omega⟩
set_option maxRecDepth 100000 in
set_option maxHeartbeats 4000000 in
theorem c_X11_beats {M : gM} {S : gS} {L : gLg} {J : gJn} {g : Nat → Int32} (hM : 408 ≤ M.1) {t : gJn → Nat → Int32 → Bool} (hk : kok S J t) (what : Int32) : SX 3 0 0 mX11_beats [.ref 384, .int what] (kp M (kput S (j_s J 7 g)) L) (fun v M' => v = some (.int (q_beats J what)) ∧ kD M S J M') := by
  refine SX.intro [some (.ref 384), some (.int what), none] (by decide +kernel) (Nat.le_of_ble_eq_true rfl) rfl (fun E hE hQ => ?_)
  refine rx_aload_n hE dX11_beats_0 (i := 0) rfl rfl ?_
  refine rx_call0 (rx_callV (av := []) hE dX11_beats_1 lk_X11_294 (c_X11_isJunction hM) (kp_o hM) np_X11_isJunction rfl rfl (by decide) (Nat.le_of_ble_eq_true rfl) rfl ?_)
  rintro v M' ⟨rfl, rfl⟩
  refine rx_int _ (j_isTold J) hk.isJ ?_
  refine rx_if_eq (tgt := 21) hE dX11_beats_4 (by decide) (fun c4 => ?_) (fun c4 => ?_)
  · refine rx_bipush hE dX11_beats_21 (v := -3) (by decide) ?_
    exact rx_iret hE hQ rfl dX11_beats_23 ⟨by simp [q_beats, *], kD.refl M S L J g⟩
  · refine rx_iload_n hE dX11_beats_7 (i := 1) rfl rfl ?_
    refine rx_i2l hE dX11_beats_8 ?_
    refine rx_ldc2 hE dX11_beats_9 kl_X11_391 ?_
    refine rx_ldc2 hE dX11_beats_12 kl_X11_393 ?_
    refine rx_call0 (rx_callS (av := [.long _, .long _, .long _]) hE dX11_beats_15 lk_X11_130 (c_X11_in _ _ _) np_X11_in rfl rfl (by decide) (Nat.le_of_ble_eq_true rfl) rfl ?_)
    rintro v M' ⟨rfl, rfl⟩
    refine rx_int _ (q_in _ (-1) (5)) (k_in_eq _ _ _ (by decide) (by decide)) ?_
    refine rx_if_ne (tgt := 24) hE dX11_beats_18 (by decide) (fun c18 => ?_) (fun c18 => ?_)
    · have hg : ¬ (j_isTold J = 0 ∨ q_in what (-1) 5 = 0) := by simp [*]
      obtain ⟨hb, hf, hT9⟩ := hk.told c4
      have hr6 := hf.1.2.1
      have hv : q_beats J what = if what = -1 then nI (qbt (J 3) (jR J) (jR J) 0) else if j_hasRoad J what = 0 then -2 else ((qsh (J 3) (qbt (J 3) (jR J) (jR J) 0) (jR J) 0 (fun _ => 0)).getD (fun _ => 0)) what.toNatClampNeg := if_neg hg
      have fin : ∀ (m : Nat) (b1 : gB1), m = qbt (J 3) (jR J) (jR J) 0 → (∀ x, qsh (J 3) m (jR J) 0 (fun _ => 0) = some x → ∀ i, i < jR J → b1 i = x i) → (qsh (J 3) m (jR J) 0 (fun _ => 0)).isNone = false → RX E mX11_beats.2.2.1 0 0 40 [some (.ref 384), some (.int what), some (.int (nI m))] [] (kp M (kput (k_s S 14 b1) (j_s J 7 g)) L) := by
        intro m b1 hm hb1 hn
        refine rx_iload_n hE dX11_beats_40 (i := 1) rfl rfl ?_
        refine rx_iconst hE dX11_beats_41 (v := -1) (by decide) ?_
        refine rx_icmp_ne (tgt := 49) hE dX11_beats_42 (by decide) (fun c42 => ?_) (fun c42 => ?_)
        · refine rx_aload_n hE dX11_beats_49 (i := 0) rfl rfl ?_
          refine rx_iload_n hE dX11_beats_50 (i := 1) rfl rfl ?_
          refine rx_call0 (rx_callV (av := [.int _]) hE dX11_beats_51 lk_X11_309 (c_X11_isRoad hM _) (kp_o hM) np_X11_isRoad rfl rfl (by decide) (Nat.le_of_ble_eq_true rfl) rfl ?_)
          rintro v M' ⟨rfl, rfl⟩
          refine rx_int _ (j_hasRoad J _) rfl ?_
          refine rx_if_eq (tgt := 66) hE dX11_beats_54 (by decide) (fun c54 => ?_) (fun c54 => ?_)
          · refine rx_bipush hE dX11_beats_66 (v := -2) (by decide) ?_
            exact rx_iret hE hQ rfl dX11_beats_68 ⟨by rw [hv, if_neg c42, if_pos c54], _, L, g, rfl, kq.s S _ (by decide)⟩
          · obtain ⟨_, _, _, r, hr, rfl⟩ := hk.road c54
            refine rx_aload_n hE dX11_beats_57 (i := 0) rfl rfl ?_
            refine rx_getf hE dX11_beats_58 fl_X11_61_10 (kp_o hM) rfl ?_
            refine rx_iload_n hE dX11_beats_61 (i := 1) rfl rfl ?_
            refine rx_ialdN (i := r) hE dX11_beats_62 (kp_14 hM) (by omega) (by decide) ?_
            refine rx_int _ (b1 r) rfl ?_
            refine rx_goto (tgt := 68) hE dX11_beats_63 (by decide) ?_
            exact rx_iret hE hQ rfl dX11_beats_68 ⟨by rw [hv, if_neg c42, if_neg c54, nI_clamp (n := r) (by omega), ← hm]; exact congrArg (fun x => some (Value.int x)) (by
              revert hb1 hn
              cases qsh (J 3) m (jR J) 0 (fun _ => 0)
              · intro hb1 hn; exact absurd hn (by decide)
              · intro hb1 hn; exact hb1 _ rfl r hr), _, L, g, rfl, kq.s S _ (by decide)⟩
        · refine rx_iload_n hE dX11_beats_45 (i := 2) rfl rfl ?_
          refine rx_goto (tgt := 68) hE dX11_beats_46 (by decide) ?_
          exact rx_iret hE hQ rfl dX11_beats_68 ⟨by rw [hv, if_pos c42, ← hm], _, L, g, rfl, kq.s S _ (by decide)⟩
      have loop : ∀ (n m : Nat) (b' : gB1), m + n = jR J → qbt (J 3) (jR J) n m = qbt (J 3) (jR J) (jR J) 0 → RX E mX11_beats.2.2.1 0 0 26 [some (.ref 384), some (.int what), some (.int (nI m))] [] (kp M (kput (k_s S 14 b') (j_s J 7 g)) L) := by
        intro n
        induction n with
        | zero =>
          intro m b' hk2 hF
          have hso := (qbt_so (J 3) hr6 0 m (by omega)).1
          refine rx_aload_n hE dX11_beats_26 (i := 0) rfl rfl ?_
          refine rx_iload_n hE dX11_beats_27 (i := 2) rfl rfl ?_
          refine rx_call0 (rx_callV (av := [.int (nI m)]) hE dX11_beats_28 lk_X11_395 (c_X11_isDoneBy (J := j_s J 7 g) hM (R := jR J) (N := m) hf.1.1 hr6 (by omega)) (kp_o hM) np_X11_isDoneBy rfl rfl (by decide) (Nat.le_of_ble_eq_true rfl) rfl ?_)
          rintro v M' ⟨rfl, b1, rfl, hb1⟩
          refine rx_int _ (if (qsh (J 3) m (jR J) 0 (fun _ => 0)).isNone then 0 else 1) rfl ?_
          rw [k_ss]
          refine rx_if_ne (tgt := 40) hE dX11_beats_31 (by decide) (fun c31 => ?_) (fun c31 => absurd c31 (by rw [show (qsh (J 3) m (jR J) 0 (fun _ => 0)).isNone = false from hso]; decide))
          exact fin m b1 hF hb1 hso
        | succ n ih =>
          intro m b' hk2 hF
          refine rx_aload_n hE dX11_beats_26 (i := 0) rfl rfl ?_
          refine rx_iload_n hE dX11_beats_27 (i := 2) rfl rfl ?_
          refine rx_call0 (rx_callV (av := [.int (nI m)]) hE dX11_beats_28 lk_X11_395 (c_X11_isDoneBy (J := j_s J 7 g) hM (R := jR J) (N := m) hf.1.1 hr6 (by omega)) (kp_o hM) np_X11_isDoneBy rfl rfl (by decide) (Nat.le_of_ble_eq_true rfl) rfl ?_)
          rintro v M' ⟨rfl, b1, rfl, hb1⟩
          refine rx_int _ (if (qsh (J 3) m (jR J) 0 (fun _ => 0)).isNone then 0 else 1) rfl ?_
          rw [k_ss]
          refine rx_if_ne (tgt := 40) hE dX11_beats_31 (by decide) (fun c31 => ?_) (fun c31 => ?_)
          · have hn : (qsh (J 3) m (jR J) 0 (fun _ => 0)).isNone = false := by revert c31; cases (qsh (J 3) m (jR J) 0 (fun _ => 0)).isNone <;> intro c31 <;> first | rfl | exact absurd rfl c31
            exact fin m b1 (by rw [← hF]; show _ = (if (qsh (J 3) m (jR J) 0 (fun _ => 0)).isNone then _ else m); rw [hn]; rfl) hb1 hn
          · have hn : (qsh (J 3) m (jR J) 0 (fun _ => 0)).isNone = true := by revert c31; cases (qsh (J 3) m (jR J) 0 (fun _ => 0)).isNone <;> intro c31 <;> first | rfl | exact absurd c31 (by decide)
            refine rx_iinc_2 hE dX11_beats_34 (v := 1) (by decide) (by decide) rfl ?_
            rw [nI_1]
            refine rx_goto (tgt := 26) hE dX11_beats_37 (by decide) ?_
            exact ih (m + 1) b1 (by omega) (by rw [← hF]; show _ = (if (qsh (J 3) m (jR J) 0 (fun _ => 0)).isNone then _ else m); rw [hn]; rfl)
      refine rx_iconst hE dX11_beats_24 (v := 0) (by decide) ?_
      refine rx_istore_n_2 hE dX11_beats_25 (by decide) rfl ?_
      refine rx_mem (M' := kp M (kput (k_s S 14 (S 14)) (j_s J 7 g)) L) (by rw [k_s_id]) ?_
      exact loop (jR J) 0 (S 14) (by omega) rfl
    · refine rx_bipush hE dX11_beats_21 (v := -3) (by decide) ?_
      exact rx_iret hE hQ rfl dX11_beats_23 ⟨by simp [q_beats, *], kD.refl M S L J g⟩
