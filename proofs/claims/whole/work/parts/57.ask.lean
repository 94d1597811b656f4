def qruF (f : Nat → Int32) : Nat → g2 → g2
  | 0, s => s
  | n + 1, s => qruF f n (if f n = 0 then s else (s.1 + 1, nI n - 1))
def q_ruled (J : gJn) (f : Nat → Int32) (ρ : Nat) (what : Int32) : Int32 := if j_isTold J = 0 ∨ q_in what 0 1 = 0 then -3 else if what = 0 then (qruF f (ρ + 1) (0, -2)).1 else (qruF f (ρ + 1) (0, -2)).2
def qaB (f m : Nat → Int32) (x : Int32) : Nat → Nat → Int32 → Int32
  | _, 0, acc => acc
  | b, n + 1, acc => qaB f m x (b + 1) n (acc + (if f b = 0 then 0 else if x = m b then 1 else 0))
def qaA (f m : Nat → Int32) (N : Nat) : Nat → Nat → Int32 → Int32
  | _, 0, s => s
  | a, n + 1, s => qaA f m N (a + 1) n (if (if f a = 0 then 0 else qaB f m (m a) 0 N 0) ≤ s then s else (if f a = 0 then 0 else qaB f m (m a) 0 N 0))
theorem qaB_congr {f f' m m' : Nat → Int32} {N : Nat} (hf : ∀ k, k < N → f k = f' k) (hm : ∀ k, k < N → m k = m' k) (x : Int32) : ∀ (n b : Nat) (acc : Int32), b + n ≤ N → qaB f m x b n acc = qaB f' m' x b n acc
  | 0, _, _, _ => rfl
  | n + 1, b, acc, h => by
    show qaB f m x (b + 1) n (acc + (if f b = 0 then 0 else if x = m b then 1 else 0)) = qaB f' m' x (b + 1) n (acc + (if f' b = 0 then 0 else if x = m' b then 1 else 0))
    rw [hf b (by omega), hm b (by omega), qaB_congr hf hm x n (b + 1) _ (by omega)]
theorem qaA_congr {f f' m m' : Nat → Int32} {N : Nat} (hf : ∀ k, k < N → f k = f' k) (hm : ∀ k, k < N → m k = m' k) : ∀ (n a : Nat) (s : Int32), a + n ≤ N → qaA f m N a n s = qaA f' m' N a n s
  | 0, _, _, _ => rfl
  | n + 1, a, s, h => by
    show qaA f m N (a + 1) n (if (if f a = 0 then 0 else qaB f m (m a) 0 N 0) ≤ s then s else (if f a = 0 then 0 else qaB f m (m a) 0 N 0)) = qaA f' m' N (a + 1) n (if (if f' a = 0 then 0 else qaB f' m' (m' a) 0 N 0) ≤ s then s else (if f' a = 0 then 0 else qaB f' m' (m' a) 0 N 0))
    rw [hf a (by omega), hm a (by omega), qaB_congr hf hm _ N 0 0 (by omega), qaA_congr hf hm n (a + 1) _ (by omega)]
def qlkF (al : Nat → Int32) : Nat → Nat → g2 → g2
  | _, 0, s => s
  | k, n + 1, s => qlkF al (k + 1) n (if al k = 0 ∨ (0 ≤ s.1 ∧ ¬ al k < s.2) then s else (nI k, al k))
theorem qlkF_congr {al al' : Nat → Int32} {R : Nat} (h : ∀ k, k < R → al k = al' k) : ∀ (n k : Nat) (s : g2), k + n ≤ R → qlkF al k n s = qlkF al' k n s
  | 0, _, _, _ => rfl
  | n + 1, k, s, hk => by
    show qlkF al (k + 1) n (if al k = 0 ∨ (0 ≤ s.1 ∧ ¬ al k < s.2) then s else (nI k, al k)) = qlkF al' (k + 1) n (if al' k = 0 ∨ (0 ≤ s.1 ∧ ¬ al' k < s.2) then s else (nI k, al' k))
    rw [h k (by omega), qlkF_congr h n (k + 1) _ (by omega)]
def qal2 (t : Nat → gJn → Nat → Int32 → Bool) (B Q W : Nat → Int32) (c ρ : Nat) (K : gJn) (th r : Nat) : Int32 := qaA (fun k => qfit (t k) B Q W c K) (fun k => qmt (t k) K th r) (ρ + 1) 0 (ρ + 1) 0
def q_look (J : gJn) (al : Nat → Nat → Int32) (n what : Int32) : Int32 := if j_isTold J = 0 ∨ q_in n 0 60 = 0 ∨ q_in what 0 1 = 0 then -1 else if what = 0 then (qlkF (al n.toNatClampNeg) 0 (jR J) (-2, -2)).1 else (qlkF (al n.toNatClampNeg) 0 (jR J) (-2, -2)).2
set_option maxRecDepth 100000 in
set_option maxHeartbeats 4000000 in
theorem c_X11_ruled {M : gM} {S : gS} {L : gLg} {J : gJn} {g : Nat → Int32} (hM : 408 ≤ M.1) {t0 : gJn → Nat → Int32 → Bool} {t : Nat → gJn → Nat → Int32 → Bool} {K : gJn} {B Q W : Nat → Int32} {ρ c : Nat} (hk : kok S J t0) (hrul : S 0 2 = nI ρ) (hρ : ρ ≤ 6) (hA : ∀ k, k ≤ ρ → kT (k_f S 21 (nI k - 1)) (t k)) (hkt : kth S J K) (hfK : jok J → jfit K ∧ jT K = 0) (hn : kn (S 10) c B Q W) (hnr : knr (jR J) c Q) (what : Int32) : SX 9 0 0 mX11_ruled [.ref 384, .int what] (kp M (kput S (j_s J 7 g)) L) (fun v M' => v = some (.int (q_ruled J (fun k => qfit (t k) B Q W c K) ρ what)) ∧ kD M S J M') := by
  refine SX.intro [some (.ref 384), some (.int what), none, none, none] (by decide +kernel) (Nat.le_of_ble_eq_true rfl) rfl (fun E hE hQ => ?_)
  refine rx_aload_n hE dX11_ruled_0 (i := 0) rfl rfl ?_
  refine rx_call0 (rx_callV (av := []) hE dX11_ruled_1 lk_X11_294 (c_X11_isJunction hM) (kp_o hM) np_X11_isJunction rfl rfl (by decide) (Nat.le_of_ble_eq_true rfl) rfl ?_)
  rintro v M' ⟨rfl, rfl⟩
  refine rx_int _ (j_isTold J) hk.isJ ?_
  refine rx_if_eq (tgt := 17) hE dX11_ruled_4 (by decide) (fun c4 => ?_) (fun c4 => ?_)
  · refine rx_bipush hE dX11_ruled_17 (v := -3) (by decide) ?_
    exact rx_iret hE hQ rfl dX11_ruled_19 ⟨by simp [q_ruled, *], kD.refl M S L J g⟩
  · refine rx_iload_n hE dX11_ruled_7 (i := 1) rfl rfl ?_
    refine rx_i2l hE dX11_ruled_8 ?_
    refine rx_lconst hE dX11_ruled_9 (v := 0) (by decide) ?_
    refine rx_lconst hE dX11_ruled_10 (v := 1) (by decide) ?_
    refine rx_call0 (rx_callS (av := [.long _, .long _, .long _]) hE dX11_ruled_11 lk_X11_130 (c_X11_in _ _ _) np_X11_in rfl rfl (by decide) (Nat.le_of_ble_eq_true rfl) rfl ?_)
    rintro v M' ⟨rfl, rfl⟩
    refine rx_int _ (q_in _ (0) (1)) (k_in_eq _ _ _ (by decide) (by decide)) ?_
    refine rx_if_ne (tgt := 20) hE dX11_ruled_14 (by decide) (fun c14 => ?_) (fun c14 => ?_)
    · have hg : ¬ (j_isTold J = 0 ∨ q_in what 0 1 = 0) := by simp [*]
      obtain ⟨hb, hf, hT9⟩ := hk.told c4
      refine rx_aload_n hE dX11_ruled_20 (i := 0) rfl rfl ?_
      refine rx_iconst hE dX11_ruled_21 (v := 0) (by decide) ?_
      refine rx_call0 (rx_callV (av := [.int (nI 0)]) hE dX11_ruled_22 lk_X11_448 (c_X11_fillsFits hM (th := 0) hb.1 hb.2.1 hrul hρ hA hkt (hfK hf.1).1 (hfK hf.1).2 hf hn hnr (by omega)) (kp_o hM) np_X11_fillsFits rfl rfl (by decide) (Nat.le_of_ble_eq_true rfl) rfl ?_)
      rintro v M' ⟨rfl, S', L', g', rfl, hz, hH⟩
      have hr2 : S' 0 2 = nI ρ := (hz.2 2 (by decide)).trans hrul
      have fin : ∀ (s : g2) (x : Int32), s = qruF (fun k => qfit (t k) B Q W c K) (ρ + 1) (0, -2) → RX E mX11_ruled.2.2.1 0 0 68 [some (.ref 384), some (.int what), some (.int s.1), some (.int s.2), some (.int x)] [] (kp M (kput S' (j_s J 7 g')) L') := by
        intro s x hs
        have hv : q_ruled J (fun k => qfit (t k) B Q W c K) ρ what = if what = 0 then s.1 else s.2 := by rw [hs]; exact if_neg hg
        refine rx_iload_n hE dX11_ruled_68 (i := 1) rfl rfl ?_
        refine rx_if_ne (tgt := 76) hE dX11_ruled_69 (by decide) (fun c69 => ?_) (fun c69 => ?_)
        · refine rx_iload_n hE dX11_ruled_76 (i := 3) rfl rfl ?_
          exact rx_iret hE hQ rfl dX11_ruled_77 ⟨by rw [hv, if_neg c69], S', L', g', rfl, hz⟩
        · refine rx_iload_n hE dX11_ruled_72 (i := 2) rfl rfl ?_
          refine rx_goto (tgt := 77) hE dX11_ruled_73 (by decide) ?_
          exact rx_iret hE hQ rfl dX11_ruled_77 ⟨by rw [hv, if_pos c69], S', L', g', rfl, hz⟩
      have loop : ∀ (n : Nat) (s : g2), n ≤ ρ + 1 → qruF (fun k => qfit (t k) B Q W c K) n s = qruF (fun k => qfit (t k) B Q W c K) (ρ + 1) (0, -2) → RX E mX11_ruled.2.2.1 0 0 36 [some (.ref 384), some (.int what), some (.int s.1), some (.int s.2), some (.int (nI n + (-1)))] [] (kp M (kput S' (j_s J 7 g')) L') := by
        intro n
        induction n with
        | zero =>
          intro s hn hF
          refine rx_iload hE dX11_ruled_36 rfl ?_
          refine rx_if_lt (tgt := 68) hE dX11_ruled_38 (by decide) (fun c38 => ?_) (fun c38 => absurd (by decide) c38)
          exact fin s _ (by rw [← hF]; rfl)
        | succ n ih =>
          intro s hn hF
          rw [pk_m1]
          refine rx_iload hE dX11_ruled_36 rfl ?_
          refine rx_if_lt (tgt := 68) hE dX11_ruled_38 (by decide) (fun c38 => absurd c38 (nI_pos (by omega))) (fun c38 => ?_)
          refine rx_aload_n hE dX11_ruled_41 (i := 0) rfl rfl ?_
          refine rx_getf hE dX11_ruled_42 fl_X11_73_10 (kp_o hM) rfl ?_
          refine rx_iload hE dX11_ruled_45 rfl ?_
          refine rx_zaldN (i := n) hE dX11_ruled_47 (kp_18 hM) (by omega) (by decide) ?_
          refine rx_int _ _ (kr_a (by decide) (by decide) (by decide)) ?_
          refine rx_int _ (qfit (t n) B Q W c K) (hH n (by omega)).1 ?_
          refine rx_if_ne (tgt := 54) hE dX11_ruled_48 (by decide) (fun c48 => ?_) (fun c48 => ?_)
          · refine rx_iload hE dX11_ruled_54 rfl ?_
            refine rx_iconst hE dX11_ruled_56 (v := 1) (by decide) ?_
            refine rx_isub hE dX11_ruled_57 ?_
            refine rx_istore_n_3 hE dX11_ruled_58 (by decide) rfl ?_
            refine rx_iinc_2 hE dX11_ruled_59 (v := 1) (by decide) (by decide) rfl ?_
            refine rx_iinc_4 hE dX11_ruled_62 (v := -1) (by decide) (by decide) rfl ?_
            refine rx_goto (tgt := 36) hE dX11_ruled_65 (by decide) ?_
            exact ih (s.1 + 1, nI n - 1) (by omega) (by rw [← hF]; exact congrArg (qruF (fun k => qfit (t k) B Q W c K) n) (if_neg c48).symm)
          · refine rx_goto (tgt := 62) hE dX11_ruled_51 (by decide) ?_
            refine rx_iinc_4 hE dX11_ruled_62 (v := -1) (by decide) (by decide) rfl ?_
            refine rx_goto (tgt := 36) hE dX11_ruled_65 (by decide) ?_
            exact ih s (by omega) (by rw [← hF]; exact congrArg (qruF (fun k => qfit (t k) B Q W c K) n) (if_pos c48).symm)
      refine rx_iconst hE dX11_ruled_25 (v := 0) (by decide) ?_
      refine rx_istore_n_2 hE dX11_ruled_26 (by decide) rfl ?_
      refine rx_bipush hE dX11_ruled_27 (v := -2) (by decide) ?_
      refine rx_istore_n_3 hE dX11_ruled_29 (by decide) rfl ?_
      refine rx_aload_n hE dX11_ruled_30 (i := 0) rfl rfl ?_
      refine rx_getf hE dX11_ruled_31 fl_X11_267_10 (kp_o hM) rfl ?_
      refine rx_int _ _ (kr_f (by decide)) ?_
      refine rx_int _ (nI ρ) hr2 ?_
      refine rx_istore_4 hE dX11_ruled_34 (by decide) rfl ?_
      rw [← pk_m1 ρ]
      exact loop (ρ + 1) (0, -2) (by omega) rfl
    · refine rx_bipush hE dX11_ruled_17 (v := -3) (by decide) ?_
      exact rx_iret hE hQ rfl dX11_ruled_19 ⟨by simp [q_ruled, *], kD.refl M S L J g⟩
set_option maxRecDepth 100000 in
set_option maxHeartbeats 4000000 in
theorem c_X11_alikeAt {M : gM} {S : gS} {L : gLg} {J : gJn} (hM : 408 ≤ M.1) {r ρ : Nat} (hr : r < 6) (hrul : S 0 2 = nI ρ) (hρ : ρ ≤ 6) : SX 0 0 0 mX11_alikeAt [.ref 384, .int (nI r)] (kp M (kput S J) L) (fun v M' => v = some (.int (qaA (S 18) (fun b => S 19 (6 * b + r)) (ρ + 1) 0 (ρ + 1) 0)) ∧ M' = kp M (kput S J) L) := by
  refine SX.intro [some (.ref 384), some (.int (nI r)), none, none, none, none] (by decide +kernel) (Nat.le_of_ble_eq_true rfl) rfl (fun E hE hQ => ?_)
  have loop : ∀ (n a : Nat) (s : Int32) (l4 l5 : Option Value), a + n = ρ + 1 → qaA (S 18) (fun b => S 19 (6 * b + r)) (ρ + 1) a n s = qaA (S 18) (fun b => S 19 (6 * b + r)) (ρ + 1) 0 (ρ + 1) 0 → RX E mX11_alikeAt.2.2.1 0 0 4 [some (.ref 384), some (.int (nI r)), some (.int s), some (.int (nI a)), l4, l5] [] (kp M (kput S J) L) := by
    intro n
    induction n with
    | zero =>
      intro a s l4 l5 hk2 hF
      refine rx_iload_n hE dX11_alikeAt_4 (i := 3) rfl rfl ?_
      refine rx_aload_n hE dX11_alikeAt_5 (i := 0) rfl rfl ?_
      refine rx_getf hE dX11_alikeAt_6 fl_X11_267_10 (kp_o hM) rfl ?_
      refine rx_int _ _ (kr_f (by decide)) ?_
      refine rx_int _ (nI ρ) hrul ?_
      refine rx_icmp_gt (tgt := 107) hE dX11_alikeAt_9 (by decide) (fun c9 => ?_) (fun c9 => absurd (nI_lt (a := ρ) (b := a) (by omega) (by omega)) c9)
      refine rx_iload_n hE dX11_alikeAt_107 (i := 2) rfl rfl ?_
      exact rx_iret hE hQ rfl dX11_alikeAt_108 ⟨by rw [← hF]; rfl, rfl⟩
    | succ n ih =>
      intro a s l4 l5 hk2 hF
      have ta : ∀ (x : Int32) (l5 : Option Value), x = (if S 18 a = 0 then 0 else qaB (S 18) (fun b => S 19 (6 * b + r)) (S 19 (6 * a + r)) 0 (ρ + 1) 0) → RX E mX11_alikeAt.2.2.1 0 0 88 [some (.ref 384), some (.int (nI r)), some (.int s), some (.int (nI a)), some (.int x), l5] [] (kp M (kput S J) L) := by
        intro x l5 hx
        refine rx_iload hE dX11_alikeAt_88 rfl ?_
        refine rx_iload_n hE dX11_alikeAt_90 (i := 2) rfl rfl ?_
        refine rx_icmp_le (tgt := 99) hE dX11_alikeAt_91 (by decide) (fun c91 => ?_) (fun c91 => ?_)
        · refine rx_iload_n hE dX11_alikeAt_99 (i := 2) rfl rfl ?_
          refine rx_istore_n_2 hE dX11_alikeAt_100 (by decide) rfl ?_
          refine rx_iinc_3 hE dX11_alikeAt_101 (v := 1) (by decide) (by decide) rfl ?_
          rw [nI_1]
          refine rx_goto (tgt := 4) hE dX11_alikeAt_104 (by decide) ?_
          exact ih (a + 1) _ _ _ (by omega) (by rw [← hF]; show _ = qaA (S 18) (fun b => S 19 (6 * b + r)) (ρ + 1) (a + 1) n (if (if S 18 a = 0 then 0 else qaB (S 18) (fun b => S 19 (6 * b + r)) (S 19 (6 * a + r)) 0 (ρ + 1) 0) ≤ s then s else (if S 18 a = 0 then 0 else qaB (S 18) (fun b => S 19 (6 * b + r)) (S 19 (6 * a + r)) 0 (ρ + 1) 0)); rw [← hx]; exact congrArg (qaA (S 18) (fun b => S 19 (6 * b + r)) (ρ + 1) (a + 1) n) ((if_pos c91).symm))
        · refine rx_iload hE dX11_alikeAt_94 rfl ?_
          refine rx_goto (tgt := 100) hE dX11_alikeAt_96 (by decide) ?_
          refine rx_istore_n_2 hE dX11_alikeAt_100 (by decide) rfl ?_
          refine rx_iinc_3 hE dX11_alikeAt_101 (v := 1) (by decide) (by decide) rfl ?_
          rw [nI_1]
          refine rx_goto (tgt := 4) hE dX11_alikeAt_104 (by decide) ?_
          exact ih (a + 1) _ _ _ (by omega) (by rw [← hF]; show _ = qaA (S 18) (fun b => S 19 (6 * b + r)) (ρ + 1) (a + 1) n (if (if S 18 a = 0 then 0 else qaB (S 18) (fun b => S 19 (6 * b + r)) (S 19 (6 * a + r)) 0 (ρ + 1) 0) ≤ s then s else (if S 18 a = 0 then 0 else qaB (S 18) (fun b => S 19 (6 * b + r)) (S 19 (6 * a + r)) 0 (ρ + 1) 0)); rw [← hx]; exact congrArg (qaA (S 18) (fun b => S 19 (6 * b + r)) (ρ + 1) (a + 1) n) ((if_neg c91).symm))
      refine rx_iload_n hE dX11_alikeAt_4 (i := 3) rfl rfl ?_
      refine rx_aload_n hE dX11_alikeAt_5 (i := 0) rfl rfl ?_
      refine rx_getf hE dX11_alikeAt_6 fl_X11_267_10 (kp_o hM) rfl ?_
      refine rx_int _ _ (kr_f (by decide)) ?_
      refine rx_int _ (nI ρ) hrul ?_
      refine rx_icmp_gt (tgt := 107) hE dX11_alikeAt_9 (by decide) (fun c9 => absurd c9 (nI_nlt (a := ρ) (b := a) (by omega) (by omega))) (fun c9 => ?_)
      refine rx_iconst hE dX11_alikeAt_12 (v := 0) (by decide) ?_
      refine rx_istore_4 hE dX11_alikeAt_13 (by decide) rfl ?_
      refine rx_iconst hE dX11_alikeAt_15 (v := 0) (by decide) ?_
      refine rx_istore_5 hE dX11_alikeAt_16 (by decide) rfl ?_
      by_cases hfa : S 18 a = 0
      · refine rx_iload hE dX11_alikeAt_18 rfl ?_
        refine rx_aload_n hE dX11_alikeAt_20 (i := 0) rfl rfl ?_
        refine rx_getf hE dX11_alikeAt_21 fl_X11_267_10 (kp_o hM) rfl ?_
        refine rx_int _ _ (kr_f (by decide)) ?_
        refine rx_int _ (nI ρ) hrul ?_
        refine rx_icmp_gt (tgt := 88) hE dX11_alikeAt_24 (by decide) (fun c24 => absurd c24 (nI_nlt (a := ρ) (b := 0) (by omega) (by omega))) (fun c24 => ?_)
        refine rx_aload_n hE dX11_alikeAt_27 (i := 0) rfl rfl ?_
        refine rx_getf hE dX11_alikeAt_28 fl_X11_73_10 (kp_o hM) rfl ?_
        refine rx_iload_n hE dX11_alikeAt_31 (i := 3) rfl rfl ?_
        refine rx_zaldN (i := a) hE dX11_alikeAt_32 (kp_18 hM) (by omega) (by decide) ?_
        refine rx_int _ _ (kr_a (by decide) (by decide) (by decide)) ?_
        refine rx_int _ (S 18 a) rfl ?_
        refine rx_if_eq (tgt := 88) hE dX11_alikeAt_33 (by decide) (fun c33 => ?_) (fun c33 => absurd hfa c33)
        exact ta 0 _ (by rw [if_pos hfa])
      · have bloop : ∀ (m b : Nat) (acc : Int32), b + m = ρ + 1 → qaB (S 18) (fun b => S 19 (6 * b + r)) (S 19 (6 * a + r)) b m acc = qaB (S 18) (fun b => S 19 (6 * b + r)) (S 19 (6 * a + r)) 0 (ρ + 1) 0 → RX E mX11_alikeAt.2.2.1 0 0 18 [some (.ref 384), some (.int (nI r)), some (.int s), some (.int (nI a)), some (.int acc), some (.int (nI b))] [] (kp M (kput S J) L) := by
          intro m
          induction m with
          | zero =>
            intro b acc hb2 hF2
            refine rx_iload hE dX11_alikeAt_18 rfl ?_
            refine rx_aload_n hE dX11_alikeAt_20 (i := 0) rfl rfl ?_
            refine rx_getf hE dX11_alikeAt_21 fl_X11_267_10 (kp_o hM) rfl ?_
            refine rx_int _ _ (kr_f (by decide)) ?_
            refine rx_int _ (nI ρ) hrul ?_
            refine rx_icmp_gt (tgt := 88) hE dX11_alikeAt_24 (by decide) (fun c24 => ?_) (fun c24 => absurd (nI_lt (a := ρ) (b := b) (by omega) (by omega)) c24)
            exact ta acc _ (by rw [if_neg hfa, ← hF2]; rfl)
          | succ m ihb =>
            intro b acc hb2 hF2
            refine rx_iload hE dX11_alikeAt_18 rfl ?_
            refine rx_aload_n hE dX11_alikeAt_20 (i := 0) rfl rfl ?_
            refine rx_getf hE dX11_alikeAt_21 fl_X11_267_10 (kp_o hM) rfl ?_
            refine rx_int _ _ (kr_f (by decide)) ?_
            refine rx_int _ (nI ρ) hrul ?_
            refine rx_icmp_gt (tgt := 88) hE dX11_alikeAt_24 (by decide) (fun c24 => absurd c24 (nI_nlt (a := ρ) (b := b) (by omega) (by omega))) (fun c24 => ?_)
            refine rx_aload_n hE dX11_alikeAt_27 (i := 0) rfl rfl ?_
            refine rx_getf hE dX11_alikeAt_28 fl_X11_73_10 (kp_o hM) rfl ?_
            refine rx_iload_n hE dX11_alikeAt_31 (i := 3) rfl rfl ?_
            refine rx_zaldN (i := a) hE dX11_alikeAt_32 (kp_18 hM) (by omega) (by decide) ?_
            refine rx_int _ _ (kr_a (by decide) (by decide) (by decide)) ?_
            refine rx_int _ (S 18 a) rfl ?_
            refine rx_if_eq (tgt := 88) hE dX11_alikeAt_33 (by decide) (fun c33 => absurd c33 hfa) (fun c33 => ?_)
            refine rx_iload hE dX11_alikeAt_36 rfl ?_
            refine rx_aload_n hE dX11_alikeAt_38 (i := 0) rfl rfl ?_
            refine rx_getf hE dX11_alikeAt_39 fl_X11_73_10 (kp_o hM) rfl ?_
            refine rx_iload hE dX11_alikeAt_42 rfl ?_
            refine rx_zaldN (i := b) hE dX11_alikeAt_44 (kp_18 hM) (by omega) (by decide) ?_
            refine rx_int _ _ (kr_a (by decide) (by decide) (by decide)) ?_
            refine rx_int _ (S 18 b) rfl ?_
            refine rx_if_eq (tgt := 78) hE dX11_alikeAt_45 (by decide) (fun c45 => ?_) (fun c45 => ?_)
            · refine rx_iconst hE dX11_alikeAt_78 (v := 0) (by decide) ?_
              refine rx_iadd hE dX11_alikeAt_79 ?_
              refine rx_istore_4 hE dX11_alikeAt_80 (by decide) rfl ?_
              refine rx_iinc_5 hE dX11_alikeAt_82 (v := 1) (by decide) (by decide) rfl ?_
              rw [nI_1]
              refine rx_goto (tgt := 18) hE dX11_alikeAt_85 (by decide) ?_
              exact ihb (b + 1) _ (by omega) (by rw [← hF2]; exact congrArg (fun y => qaB (S 18) (fun b => S 19 (6 * b + r)) (S 19 (6 * a + r)) (b + 1) m (acc + y)) (if_pos c45).symm)
            · refine rx_aload_n hE dX11_alikeAt_48 (i := 0) rfl rfl ?_
              refine rx_getf hE dX11_alikeAt_49 fl_X11_77_10 (kp_o hM) rfl ?_
              refine rx_bipush hE dX11_alikeAt_52 (v := 6) (by decide) ?_
              refine rx_iload_n hE dX11_alikeAt_54 (i := 3) rfl rfl ?_
              refine rx_imul hE dX11_alikeAt_55 ?_
              refine rx_int _ (nI (6 * a)) (pk_mul _ _) ?_
              refine rx_iload_n hE dX11_alikeAt_56 (i := 1) rfl rfl ?_
              refine rx_iadd hE dX11_alikeAt_57 ?_
              refine rx_int _ (nI (6 * a + r)) (nI_add _ _) ?_
              refine rx_ialdN (i := 6 * a + r) hE dX11_alikeAt_58 (kp_19 hM) (by omega) (by decide) ?_
              refine rx_int _ _ (kr_a (by decide) (by decide) (by decide)) ?_
              refine rx_int _ (S 19 (6 * a + r)) rfl ?_
              refine rx_aload_n hE dX11_alikeAt_59 (i := 0) rfl rfl ?_
              refine rx_getf hE dX11_alikeAt_60 fl_X11_77_10 (kp_o hM) rfl ?_
              refine rx_bipush hE dX11_alikeAt_63 (v := 6) (by decide) ?_
              refine rx_iload hE dX11_alikeAt_65 rfl ?_
              refine rx_imul hE dX11_alikeAt_67 ?_
              refine rx_int _ (nI (6 * b)) (pk_mul _ _) ?_
              refine rx_iload_n hE dX11_alikeAt_68 (i := 1) rfl rfl ?_
              refine rx_iadd hE dX11_alikeAt_69 ?_
              refine rx_int _ (nI (6 * b + r)) (nI_add _ _) ?_
              refine rx_ialdN (i := 6 * b + r) hE dX11_alikeAt_70 (kp_19 hM) (by omega) (by decide) ?_
              refine rx_int _ _ (kr_a (by decide) (by decide) (by decide)) ?_
              refine rx_int _ (S 19 (6 * b + r)) rfl ?_
              refine rx_icmp_ne (tgt := 78) hE dX11_alikeAt_71 (by decide) (fun c71 => ?_) (fun c71 => ?_)
              · refine rx_iconst hE dX11_alikeAt_78 (v := 0) (by decide) ?_
                refine rx_iadd hE dX11_alikeAt_79 ?_
                refine rx_istore_4 hE dX11_alikeAt_80 (by decide) rfl ?_
                refine rx_iinc_5 hE dX11_alikeAt_82 (v := 1) (by decide) (by decide) rfl ?_
                rw [nI_1]
                refine rx_goto (tgt := 18) hE dX11_alikeAt_85 (by decide) ?_
                exact ihb (b + 1) _ (by omega) (by rw [← hF2]; exact congrArg (fun y => qaB (S 18) (fun b => S 19 (6 * b + r)) (S 19 (6 * a + r)) (b + 1) m (acc + y)) ((if_neg c45).trans (if_neg c71)).symm)
              · refine rx_iconst hE dX11_alikeAt_74 (v := 1) (by decide) ?_
                refine rx_goto (tgt := 79) hE dX11_alikeAt_75 (by decide) ?_
                refine rx_iadd hE dX11_alikeAt_79 ?_
                refine rx_istore_4 hE dX11_alikeAt_80 (by decide) rfl ?_
                refine rx_iinc_5 hE dX11_alikeAt_82 (v := 1) (by decide) (by decide) rfl ?_
                rw [nI_1]
                refine rx_goto (tgt := 18) hE dX11_alikeAt_85 (by decide) ?_
                exact ihb (b + 1) _ (by omega) (by rw [← hF2]; exact congrArg (fun y => qaB (S 18) (fun b => S 19 (6 * b + r)) (S 19 (6 * a + r)) (b + 1) m (acc + y)) ((if_neg c45).trans (if_pos c71)).symm)
        exact bloop (ρ + 1) 0 0 (by omega) rfl
  refine rx_iconst hE dX11_alikeAt_0 (v := 0) (by decide) ?_
  refine rx_istore_n_2 hE dX11_alikeAt_1 (by decide) rfl ?_
  refine rx_iconst hE dX11_alikeAt_2 (v := 0) (by decide) ?_
  refine rx_istore_n_3 hE dX11_alikeAt_3 (by decide) rfl ?_
  exact loop (ρ + 1) 0 0 _ _ (by omega) rfl
set_option maxRecDepth 100000 in
set_option maxHeartbeats 4000000 in
theorem c_X11_look {M : gM} {S : gS} {L : gLg} {J : gJn} {g : Nat → Int32} (hM : 408 ≤ M.1) {t0 : gJn → Nat → Int32 → Bool} {t : Nat → gJn → Nat → Int32 → Bool} {K : gJn} {B Q W : Nat → Int32} {ρ c : Nat} (hk : kok S J t0) (hrul : S 0 2 = nI ρ) (hρ : ρ ≤ 6) (hA : ∀ k, k ≤ ρ → kT (k_f S 21 (nI k - 1)) (t k)) (hkt : kth S J K) (hfK : jok J → jfit K ∧ jT K = 0) (hn : kn (S 10) c B Q W) (hnr : knr (jR J) c Q) (n what : Int32) : SX 9 0 0 mX11_look [.ref 384, .int n, .int what] (kp M (kput S (j_s J 7 g)) L) (fun v M' => v = some (.int (q_look J (qal2 t B Q W c ρ K) n what)) ∧ kD M S J M') := by
  refine SX.intro [some (.ref 384), some (.int n), some (.int what), none, none, none, none] (by decide +kernel) (Nat.le_of_ble_eq_true rfl) rfl (fun E hE hQ => ?_)
  refine rx_aload_n hE dX11_look_0 (i := 0) rfl rfl ?_
  refine rx_call0 (rx_callV (av := []) hE dX11_look_1 lk_X11_294 (c_X11_isJunction hM) (kp_o hM) np_X11_isJunction rfl rfl (by decide) (Nat.le_of_ble_eq_true rfl) rfl ?_)
  rintro v M' ⟨rfl, rfl⟩
  refine rx_int _ (j_isTold J) hk.isJ ?_
  refine rx_if_eq (tgt := 29) hE dX11_look_4 (by decide) (fun c4 => ?_) (fun c4 => ?_)
  · refine rx_iconst hE dX11_look_29 (v := -1) (by decide) ?_
    exact rx_iret hE hQ rfl dX11_look_30 ⟨by simp [q_look, *], kD.refl M S L J g⟩
  · refine rx_iload_n hE dX11_look_7 (i := 1) rfl rfl ?_
    refine rx_i2l hE dX11_look_8 ?_
    refine rx_lconst hE dX11_look_9 (v := 0) (by decide) ?_
    refine rx_ldc2 hE dX11_look_10 kl_X11_419 ?_
    refine rx_call0 (rx_callS (av := [.long _, .long _, .long _]) hE dX11_look_13 lk_X11_130 (c_X11_in _ _ _) np_X11_in rfl rfl (by decide) (Nat.le_of_ble_eq_true rfl) rfl ?_)
    rintro v M' ⟨rfl, rfl⟩
    refine rx_int _ (q_in _ (0) (60)) (k_in_eq _ _ _ (by decide) (by decide)) ?_
    refine rx_if_eq (tgt := 29) hE dX11_look_16 (by decide) (fun c16 => ?_) (fun c16 => ?_)
    · refine rx_iconst hE dX11_look_29 (v := -1) (by decide) ?_
      exact rx_iret hE hQ rfl dX11_look_30 ⟨by simp [q_look, *], kD.refl M S L J g⟩
    · refine rx_iload_n hE dX11_look_19 (i := 2) rfl rfl ?_
      refine rx_i2l hE dX11_look_20 ?_
      refine rx_lconst hE dX11_look_21 (v := 0) (by decide) ?_
      refine rx_lconst hE dX11_look_22 (v := 1) (by decide) ?_
      refine rx_call0 (rx_callS (av := [.long _, .long _, .long _]) hE dX11_look_23 lk_X11_130 (c_X11_in _ _ _) np_X11_in rfl rfl (by decide) (Nat.le_of_ble_eq_true rfl) rfl ?_)
      rintro v M' ⟨rfl, rfl⟩
      refine rx_int _ (q_in _ (0) (1)) (k_in_eq _ _ _ (by decide) (by decide)) ?_
      refine rx_if_ne (tgt := 31) hE dX11_look_26 (by decide) (fun c26 => ?_) (fun c26 => ?_)
      · have hg : ¬ (j_isTold J = 0 ∨ q_in n 0 60 = 0 ∨ q_in what 0 1 = 0) := by simp [*]
        obtain ⟨hb, hf, hT9⟩ := hk.told c4
        obtain ⟨N, hN0, hN, rfl⟩ := q_in_of (a := 0) (b := 60) (by decide) c16
        have hr6 := hf.1.2.1
        
        refine rx_aload_n hE dX11_look_31 (i := 0) rfl rfl ?_
        refine rx_iload_n hE dX11_look_32 (i := 1) rfl rfl ?_
        refine rx_call0 (rx_callV (av := [.int (nI N)]) hE dX11_look_33 lk_X11_448 (c_X11_fillsFits hM (th := N) hb.1 hb.2.1 hrul hρ hA hkt (hfK hf.1).1 (hfK hf.1).2 hf hn hnr (by omega)) (kp_o hM) np_X11_fillsFits rfl rfl (by decide) (Nat.le_of_ble_eq_true rfl) rfl ?_)
        rintro v M' ⟨rfl, S', L', g', rfl, hz, hH⟩
        have hr2 : S' 0 2 = nI ρ := (hz.2 2 (by decide)).trans hrul
        have fin : ∀ (s : g2) (x : Int32) (l6 : Option Value), s = qlkF ((qal2 t B Q W c ρ K) N) 0 (jR J) (-2, -2) → RX E mX11_look.2.2.1 0 0 97 [some (.ref 384), some (.int (nI N)), some (.int what), some (.int s.1), some (.int s.2), some (.int x), l6] [] (kp M (kput S' (j_s J 7 g')) L') := by
          intro s x l6 hs
          have hv : q_look J (qal2 t B Q W c ρ K) (nI N) what = if what = 0 then s.1 else s.2 := by rw [hs]; unfold q_look; rw [if_neg hg, nI_clamp (n := N) (by omega)]
          refine rx_iload_n hE dX11_look_97 (i := 2) rfl rfl ?_
          refine rx_if_ne (tgt := 105) hE dX11_look_98 (by decide) (fun c98 => ?_) (fun c98 => ?_)
          · refine rx_iload hE dX11_look_105 rfl ?_
            exact rx_iret hE hQ rfl dX11_look_107 ⟨by rw [hv, if_neg c98], S', L', g', rfl, hz⟩
          · refine rx_iload_n hE dX11_look_101 (i := 3) rfl rfl ?_
            refine rx_goto (tgt := 107) hE dX11_look_102 (by decide) ?_
            exact rx_iret hE hQ rfl dX11_look_107 ⟨by rw [hv, if_pos c98], S', L', g', rfl, hz⟩
        have loop : ∀ (n k : Nat) (s : g2) (l6 : Option Value), k + n = jR J → qlkF ((qal2 t B Q W c ρ K) N) k n s = qlkF ((qal2 t B Q W c ρ K) N) 0 (jR J) (-2, -2) → RX E mX11_look.2.2.1 0 0 46 [some (.ref 384), some (.int (nI N)), some (.int what), some (.int s.1), some (.int s.2), some (.int (nI k)), l6] [] (kp M (kput S' (j_s J 7 g')) L') := by
          intro n
          induction n with
          | zero =>
            intro k s l6 hk2 hF
            refine rx_iload hE dX11_look_46 rfl ?_
            refine rx_aload_n hE dX11_look_48 (i := 0) rfl rfl ?_
            refine rx_getf hE dX11_look_49 fl_X11_39_10 (kp_o hM) rfl ?_
            refine rx_iconst hE dX11_look_52 (v := 3) (by decide) ?_
            refine rx_ialdN (i := 3) hE dX11_look_53 (kp_10 hM) (by omega) (by decide) ?_
            refine rx_int _ _ kr_c2 ?_
            refine rx_icmp_ge (tgt := 97) hE dX11_look_54 (by decide) (fun c54 => ?_) (fun c54 => absurd (show J 9 2 ≤ nI k from by rw [hf.1.1]; exact nI_le (by omega) (by omega)) c54)
            exact fin s _ _ (by rw [← hF]; rfl)
          | succ n ih =>
            intro k s l6 hk2 hF
            refine rx_iload hE dX11_look_46 rfl ?_
            refine rx_aload_n hE dX11_look_48 (i := 0) rfl rfl ?_
            refine rx_getf hE dX11_look_49 fl_X11_39_10 (kp_o hM) rfl ?_
            refine rx_iconst hE dX11_look_52 (v := 3) (by decide) ?_
            refine rx_ialdN (i := 3) hE dX11_look_53 (kp_10 hM) (by omega) (by decide) ?_
            refine rx_int _ _ kr_c2 ?_
            refine rx_icmp_ge (tgt := 97) hE dX11_look_54 (by decide) (fun c54 => absurd (show nI (jR J) ≤ nI k from by rw [← hf.1.1]; exact c54) (nI_ge (by omega) (by omega))) (fun c54 => ?_)
            refine rx_aload_n hE dX11_look_57 (i := 0) rfl rfl ?_
            refine rx_iload hE dX11_look_58 rfl ?_
            refine rx_call0 (rx_callV (av := [.int (nI k)]) hE dX11_look_60 lk_X11_451 (c_X11_alikeAt hM (r := k) (ρ := ρ) (by omega) hr2 hρ) (kp_o hM) np_X11_alikeAt rfl rfl (by decide) (Nat.le_of_ble_eq_true rfl) rfl ?_)
            rintro v M' ⟨rfl, rfl⟩
            refine rx_int _ ((qal2 t B Q W c ρ K) N k) (qaA_congr (fun k' hk' => (hH k' hk').1) (fun k' hk' => (hH k' hk').2 k (by omega)) (ρ + 1) 0 0 (by omega)) ?_
            refine rx_istore_6 hE dX11_look_63 (by decide) rfl ?_
            refine rx_iload hE dX11_look_65 rfl ?_
            refine rx_if_eq (tgt := 91) hE dX11_look_67 (by decide) (fun c67 => ?_) (fun c67 => ?_)
            · refine rx_iinc_5 hE dX11_look_91 (v := 1) (by decide) (by decide) rfl ?_
              rw [nI_1]
              refine rx_goto (tgt := 46) hE dX11_look_94 (by decide) ?_
              exact ih (k + 1) s _ (by omega) (by rw [← hF]; exact congrArg (qlkF ((qal2 t B Q W c ρ K) N) (k + 1) n) (if_pos (Or.inl c67)).symm)
            · refine rx_iload_n hE dX11_look_70 (i := 3) rfl rfl ?_
              refine rx_if_lt (tgt := 84) hE dX11_look_71 (by decide) (fun c71 => ?_) (fun c71 => ?_)
              · refine rx_iload hE dX11_look_84 rfl ?_
                refine rx_istore_n_3 hE dX11_look_86 (by decide) rfl ?_
                refine rx_iload hE dX11_look_87 rfl ?_
                refine rx_istore_4 hE dX11_look_89 (by decide) rfl ?_
                refine rx_iinc_5 hE dX11_look_91 (v := 1) (by decide) (by decide) rfl ?_
                rw [nI_1]
                refine rx_goto (tgt := 46) hE dX11_look_94 (by decide) ?_
                exact ih (k + 1) (nI k, (qal2 t B Q W c ρ K) N k) _ (by omega) (by rw [← hF]; exact congrArg (qlkF ((qal2 t B Q W c ρ K) N) (k + 1) n) (if_neg (fun q => q.elim c67 (fun z => absurd c71 (Int32.not_lt.mpr z.1)))).symm)
              · refine rx_iload hE dX11_look_74 rfl ?_
                refine rx_iload hE dX11_look_76 rfl ?_
                refine rx_icmp_lt (tgt := 84) hE dX11_look_78 (by decide) (fun c78 => ?_) (fun c78 => ?_)
                · refine rx_iload hE dX11_look_84 rfl ?_
                  refine rx_istore_n_3 hE dX11_look_86 (by decide) rfl ?_
                  refine rx_iload hE dX11_look_87 rfl ?_
                  refine rx_istore_4 hE dX11_look_89 (by decide) rfl ?_
                  refine rx_iinc_5 hE dX11_look_91 (v := 1) (by decide) (by decide) rfl ?_
                  rw [nI_1]
                  refine rx_goto (tgt := 46) hE dX11_look_94 (by decide) ?_
                  exact ih (k + 1) (nI k, (qal2 t B Q W c ρ K) N k) _ (by omega) (by rw [← hF]; exact congrArg (qlkF ((qal2 t B Q W c ρ K) N) (k + 1) n) (if_neg (fun q => q.elim c67 (fun z => z.2 c78))).symm)
                · refine rx_goto (tgt := 91) hE dX11_look_81 (by decide) ?_
                  refine rx_iinc_5 hE dX11_look_91 (v := 1) (by decide) (by decide) rfl ?_
                  rw [nI_1]
                  refine rx_goto (tgt := 46) hE dX11_look_94 (by decide) ?_
                  exact ih (k + 1) s _ (by omega) (by rw [← hF]; exact congrArg (qlkF ((qal2 t B Q W c ρ K) N) (k + 1) n) (if_pos (Or.inr ⟨Int32.not_lt.mp c71, c78⟩)).symm)
        refine rx_bipush hE dX11_look_36 (v := -2) (by decide) ?_
        refine rx_istore_n_3 hE dX11_look_38 (by decide) rfl ?_
        refine rx_bipush hE dX11_look_39 (v := -2) (by decide) ?_
        refine rx_istore_4 hE dX11_look_41 (by decide) rfl ?_
        refine rx_iconst hE dX11_look_43 (v := 0) (by decide) ?_
        refine rx_istore_5 hE dX11_look_44 (by decide) rfl ?_
        exact loop (jR J) 0 (-2, -2) _ (by omega) rfl
      · refine rx_iconst hE dX11_look_29 (v := -1) (by decide) ?_
        exact rx_iret hE hQ rfl dX11_look_30 ⟨by simp [q_look, *], kD.refl M S L J g⟩
