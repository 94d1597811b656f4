/-! ===== where to look next: the class ===== -/
theorem qaB_add (f m : Nat → Int32) (x : Int32) : ∀ (n n' b : Nat) (acc : Int32), qaB f m x b (n + n') acc = qaB f m x (b + n) n' (qaB f m x b n acc)
  | 0, n', b, acc => by rw [Nat.zero_add]; rfl
  | n + 1, n', b, acc => by
    rw [Nat.succ_add]
    show qaB f m x (b + 1) (n + n') _ = qaB f m x (b + (n + 1)) n' (qaB f m x (b + 1) n _)
    rw [qaB_add f m x n n' (b + 1), show b + 1 + n = b + (n + 1) by omega]
theorem qaB_z {f m : Nat → Int32} {x : Int32} : ∀ (n b : Nat) (acc : Int32), (∀ i, b ≤ i → i < b + n → f i = 0) → qaB f m x b n acc = acc
  | 0, _, _, _ => rfl
  | n + 1, b, acc, h => by
    show qaB f m x (b + 1) n (acc + (if f b = 0 then 0 else if x = m b then 1 else 0)) = acc
    rw [if_pos (h b (Nat.le_refl _) (by omega)), Int32.add_zero]
    exact qaB_z n (b + 1) acc (fun i h1 h2 => h i (by omega) (by omega))
theorem qaA_add (f m : Nat → Int32) (N : Nat) : ∀ (n n' a : Nat) (s : Int32), qaA f m N a (n + n') s = qaA f m N (a + n) n' (qaA f m N a n s)
  | 0, n', b, acc => by rw [Nat.zero_add]; rfl
  | n + 1, n', b, acc => by
    rw [Nat.succ_add]
    show qaA f m N (b + 1) (n + n') _ = qaA f m N (b + (n + 1)) n' (qaA f m N (b + 1) n _)
    rw [qaA_add f m N n n' (b + 1), show b + 1 + n = b + (n + 1) by omega]
theorem qaA_ge (f m : Nat → Int32) (N : Nat) : ∀ (n a : Nat) (s : Int32), s ≤ qaA f m N a n s
  | 0, _, s => Int32.le_refl s
  | n + 1, a, s => by
    show s ≤ qaA f m N (a + 1) n (if (if f a = 0 then 0 else qaB f m (m a) 0 N 0) ≤ s then s else (if f a = 0 then 0 else qaB f m (m a) 0 N 0))
    refine Int32.le_trans ?_ (qaA_ge f m N n (a + 1) _)
    generalize (if f a = 0 then (0 : Int32) else qaB f m (m a) 0 N 0) = z
    split
    · exact Int32.le_refl s
    · next h => exact Int32.le_of_lt (Int32.not_le.mp h)
theorem qaA_z {f m : Nat → Int32} {N : Nat} : ∀ (n a : Nat) (s : Int32), 0 ≤ s → (∀ i, a ≤ i → i < a + n → f i = 0) → qaA f m N a n s = s
  | 0, _, _, _, _ => rfl
  | n + 1, a, s, hs, h => by
    show qaA f m N (a + 1) n (if (if f a = 0 then 0 else qaB f m (m a) 0 N 0) ≤ s then s else (if f a = 0 then 0 else qaB f m (m a) 0 N 0)) = s
    rw [if_pos (h a (Nat.le_refl _) (by omega)), if_pos hs]
    exact qaA_z n (a + 1) s hs (fun i h1 h2 => h i (by omega) (by omega))
theorem qaB_cg {f f' m m' : Nat → Int32} {N : Nat} (hf : ∀ k, k < N → f k = f' k) (hm : ∀ k, k < N → ¬ f k = 0 → m k = m' k) (x : Int32) : ∀ (n b : Nat) (acc : Int32), b + n ≤ N → qaB f m x b n acc = qaB f' m' x b n acc
  | 0, _, _, _ => rfl
  | n + 1, b, acc, h => by
    show qaB f m x (b + 1) n (acc + (if f b = 0 then 0 else if x = m b then 1 else 0)) = qaB f' m' x (b + 1) n (acc + (if f' b = 0 then 0 else if x = m' b then 1 else 0))
    have e : (if f b = 0 then (0 : Int32) else if x = m b then 1 else 0) = (if f' b = 0 then 0 else if x = m' b then 1 else 0) := by
      rw [← hf b (by omega)]
      by_cases c : f b = 0
      · rw [if_pos c, if_pos c]
      · rw [if_neg c, if_neg c, hm b (by omega) c]
    rw [e, qaB_cg hf hm x n (b + 1) _ (by omega)]
theorem qaA_cg {f f' m m' : Nat → Int32} {N N1 : Nat} (hN : N ≤ N1) (hf : ∀ k, k < N → f k = f' k) (hz : ∀ k, N ≤ k → k < N1 → f k = 0) (hm : ∀ k, k < N → ¬ f k = 0 → m k = m' k) : ∀ (n a : Nat) (s : Int32), a + n ≤ N → qaA f m N1 a n s = qaA f' m' N a n s
  | 0, _, _, _ => rfl
  | n + 1, a, s, h => by
    show qaA f m N1 (a + 1) n (if (if f a = 0 then 0 else qaB f m (m a) 0 N1 0) ≤ s then s else (if f a = 0 then 0 else qaB f m (m a) 0 N1 0)) = qaA f' m' N (a + 1) n (if (if f' a = 0 then 0 else qaB f' m' (m' a) 0 N 0) ≤ s then s else (if f' a = 0 then 0 else qaB f' m' (m' a) 0 N 0))
    have e : (if f a = 0 then 0 else qaB f m (m a) 0 N1 0) = (if f' a = 0 then 0 else qaB f' m' (m' a) 0 N 0) := by
      rw [← hf a (by omega)]
      by_cases c : f a = 0
      · rw [if_pos c, if_pos c]
      · rw [if_neg c, if_neg c, hm a (by omega) c, show N1 = N + (N1 - N) by omega, qaB_add, qaB_z (N1 - N) (0 + N) _ (fun i h1 h2 => hz i (by omega) (by omega)), qaB_cg hf hm _ N 0 0 (by omega)]
    rw [e, qaA_cg hN hf hz hm n (a + 1) _ (by omega)]
theorem qaA_7 {f f' m m' : Nat → Int32} {N : Nat} (hN : N ≤ 7) (hf : ∀ k, k < N → f k = f' k) (hz : ∀ k, N ≤ k → k < 7 → f k = 0) (hm : ∀ k, k < N → ¬ f k = 0 → m k = m' k) : qaA f m 7 0 7 0 = qaA f' m' N 0 N 0 := by
  have e : qaA f m 7 0 7 0 = qaA f m 7 0 (N + (7 - N)) 0 := by rw [show N + (7 - N) = 7 by omega]
  rw [e, qaA_add, qaA_z (7 - N) (0 + N) _ (qaA_ge f m 7 N 0 0) (fun i h1 h2 => hz i (by omega) (by omega)), qaA_cg hN hf hz hm N 0 0 (by omega)]
/-- what is counted is a number, and not 0 where there is one -/
theorem qaB_n (f m : Nat → Int32) (x : Int32) : ∀ (n b acc : Nat), ∃ z, z ≤ acc + n ∧ acc ≤ z ∧ qaB f m x b n (nI acc) = nI z ∧ ∀ i, b ≤ i → i < b + n → ¬ f i = 0 → x = m i → acc < z
  | 0, b, acc => ⟨acc, by omega, by omega, rfl, fun i h1 h2 => by omega⟩
  | n + 1, b, acc => by
    by_cases c : f b = 0
    · obtain ⟨z, h1, h2, h3, h4⟩ := qaB_n f m x n (b + 1) acc
      refine ⟨z, by omega, h2, ?_, fun i hi1 hi2 hf hx => ?_⟩
      · show qaB f m x (b + 1) n (nI acc + (if f b = 0 then 0 else if x = m b then 1 else 0)) = nI z
        rw [if_pos c, Int32.add_zero]
        exact h3
      · by_cases e : i = b
        · rw [e] at hf
          exact absurd c hf
        · exact h4 i (by omega) (by omega) hf hx
    · by_cases d : x = m b
      · obtain ⟨z, h1, h2, h3, h4⟩ := qaB_n f m x n (b + 1) (acc + 1)
        refine ⟨z, by omega, by omega, ?_, fun i hi1 hi2 hf hx => by omega⟩
        show qaB f m x (b + 1) n (nI acc + (if f b = 0 then 0 else if x = m b then 1 else 0)) = nI z
        rw [if_neg c, if_pos d, nI_1]
        exact h3
      · obtain ⟨z, h1, h2, h3, h4⟩ := qaB_n f m x n (b + 1) acc
        refine ⟨z, by omega, h2, ?_, fun i hi1 hi2 hf hx => ?_⟩
        · show qaB f m x (b + 1) n (nI acc + (if f b = 0 then 0 else if x = m b then 1 else 0)) = nI z
          rw [if_neg c, if_neg d, Int32.add_zero]
          exact h3
        · by_cases e : i = b
          · rw [e] at hx
            exact absurd hx d
          · exact h4 i (by omega) (by omega) hf hx
theorem qaA_n {f m : Nat → Int32} {N : Nat} (hN : N ≤ 7) : ∀ (n a s : Nat), s ≤ 7 → a + n ≤ N → ∃ z, z ≤ 7 ∧ s ≤ z ∧ qaA f m N a n (nI s) = nI z ∧ ∀ i, a ≤ i → i < a + n → ¬ f i = 0 → 0 < z
  | 0, a, s, hs, _ => ⟨s, hs, Nat.le_refl _, rfl, fun i h1 h2 => by omega⟩
  | n + 1, a, s, hs, ha => by
    obtain ⟨z0, g1, g2, g3, g4⟩ := qaB_n f m (m a) N 0 0
    have e : ∃ y, y ≤ 7 ∧ (if f a = 0 then (0 : Int32) else qaB f m (m a) 0 N 0) = nI y ∧ (¬ f a = 0 → 0 < y) := by
      by_cases c : f a = 0
      · exact ⟨0, by decide, by rw [if_pos c]; rfl, fun q => absurd c q⟩
      · exact ⟨z0, by omega, by rw [if_neg c]; exact g3, fun q => g4 a (by omega) (by omega) q rfl⟩
    obtain ⟨y, y1, y2, y3⟩ := e
    obtain ⟨z, h1, h2, h3, h4⟩ := qaA_n hN n (a + 1) (if y ≤ s then s else y) (by split <;> omega) (by omega)
    refine ⟨z, h1, Nat.le_trans (by split <;> omega) h2, ?_, fun i hi1 hi2 hf => ?_⟩
    · show qaA f m N (a + 1) n (if (if f a = 0 then 0 else qaB f m (m a) 0 N 0) ≤ nI s then nI s else (if f a = 0 then 0 else qaB f m (m a) 0 N 0)) = nI z
      rw [y2, ← h3]
      congr 1
      by_cases c : y ≤ s
      · rw [if_pos (nI_le c (by omega)), if_pos c]
      · rw [if_neg (nI_ge (by omega) (by omega)), if_neg c]
    · by_cases e : i = a
      · rw [e] at hf
        have := y3 hf
        have h5 : y ≤ (if y ≤ s then s else y) := by split <;> omega
        omega
      · exact h4 i (by omega) (by omega) hf
theorem qlkF_z {al : Nat → Int32} : ∀ (n k : Nat) (s : g2), (∀ i, k ≤ i → i < k + n → al i = 0) → qlkF al k n s = s
  | 0, _, _, _ => rfl
  | n + 1, k, s, h => by
    show qlkF al (k + 1) n (if al k = 0 ∨ (0 ≤ s.1 ∧ ¬ al k < s.2) then s else (nI k, al k)) = s
    rw [if_pos (Or.inl (h k (Nat.le_refl _) (by omega)))]
    exact qlkF_z n (k + 1) s (fun i h1 h2 => h i (by omega) (by omega))
set_option maxRecDepth 100000 in
set_option maxHeartbeats 1000000 in
theorem c_X10_mostAlike {n : Nat} {X : gX} {O : gO} {Q : gU} {G : gK} {S : gS} {L : gLg} (hM : 408 ≤ n) {r mm : Nat} (hr : r < 6) : SX 1 0 0 mX10_mostAlike [.ref 16, .int (nI r), .int (nI mm)] (xm n X O Q G S L) (fun v M' => v = some (.int (qaA (jbit (nI mm)) (fun i => X 32 4 (6 * i + r)) 7 0 7 0)) ∧ M' = xm n X O Q G S L) := by
  refine SX.intro [some (.ref 16), some (.int (nI r)), some (.int (nI mm)), none, none, none, none, none] (by decide +kernel) (Nat.le_of_ble_eq_true rfl) rfl (fun E hE hQ => ?_)
  have outer : ∀ (m a : Nat) (s : Int32) (l5 l6 l7 : Option Value), a + m = 7 → 0 ≤ s → qaA (jbit (nI mm)) (fun i => X 32 4 (6 * i + r)) 7 a m s = qaA (jbit (nI mm)) (fun i => X 32 4 (6 * i + r)) 7 0 7 0 → RX E mX10_mostAlike.2.2.1 0 0 5 [some (.ref 16), some (.int (nI r)), some (.int (nI mm)), some (.int s), some (.int (nI a)), l5, l6, l7] [] (xm n X O Q G S L) := by
    intro m
    induction m with
    | zero =>
      intro a s l5 l6 l7 hk2 hs0 hF
      refine rx_iload hE dX10_mostAlike_5 rfl ?_
      refine rx_bipush hE dX10_mostAlike_7 (v := 6) (by decide) ?_
      refine rx_icmp_gt (tgt := 117) hE dX10_mostAlike_9 (by decide) (fun c9 => ?_) (fun c9 => absurd (nI_lt (a := 6) (b := a) (by omega) (by omega)) c9)
      refine rx_iload_n hE dX10_mostAlike_117 (i := 3) rfl rfl ?_
      exact rx_iret hE hQ rfl dX10_mostAlike_118 ⟨by rw [← hF]; rfl, rfl⟩
    | succ m ih =>
      intro a s l5 l6 l7 hk2 hs0 hF
      refine rx_iload hE dX10_mostAlike_5 rfl ?_
      refine rx_bipush hE dX10_mostAlike_7 (v := 6) (by decide) ?_
      refine rx_icmp_gt (tgt := 117) hE dX10_mostAlike_9 (by decide) (fun c9 => absurd c9 (nI_nlt (a := 6) (b := a) (by omega) (by decide))) (fun c9 => ?_)
      refine rx_iconst hE dX10_mostAlike_12 (v := 0) (by decide) ?_
      refine rx_istore_5 hE dX10_mostAlike_13 (by decide) rfl ?_
      refine rx_iconst hE dX10_mostAlike_15 (v := 0) (by decide) ?_
      refine rx_istore_6 hE dX10_mostAlike_16 (by decide) rfl ?_
      have inner : ∀ (n' b : Nat) (acc : Int32) (l7 : Option Value), b + n' = 7 → qaB (jbit (nI mm)) (fun i => X 32 4 (6 * i + r)) (X 32 4 (6 * a + r)) b n' acc = qaB (jbit (nI mm)) (fun i => X 32 4 (6 * i + r)) (X 32 4 (6 * a + r)) 0 7 0 → RX E mX10_mostAlike.2.2.1 0 0 18 [some (.ref 16), some (.int (nI r)), some (.int (nI mm)), some (.int s), some (.int (nI a)), some (.int acc), some (.int (nI b)), l7] [] (xm n X O Q G S L) := by
        intro n'
        induction n' with
        | zero =>
          intro b acc l7 hk3 hIn
          refine rx_iload hE dX10_mostAlike_18 rfl ?_
          refine rx_bipush hE dX10_mostAlike_20 (v := 6) (by decide) ?_
          refine rx_icmp_gt (tgt := 90) hE dX10_mostAlike_22 (by decide) (fun c22 => ?_) (fun c22 => absurd (nI_lt (a := 6) (b := b) (by omega) (by omega)) c22)
          refine rx_iload_n hE dX10_mostAlike_90 (i := 2) rfl rfl ?_
          refine rx_iload hE dX10_mostAlike_91 rfl ?_
          refine rx_ishr hE dX10_mostAlike_93 ?_
          refine rx_iconst hE dX10_mostAlike_94 (v := 1) (by decide) ?_
          refine rx_iand hE dX10_mostAlike_95 ?_
          refine rx_int _ (jbit (nI mm) a) rfl ?_
          refine rx_iconst hE dX10_mostAlike_96 (v := 1) (by decide) ?_
          refine rx_icmp_ne (tgt := 109) hE dX10_mostAlike_97 (by decide) (fun c97 => ?_) (fun c97 => ?_)
          · refine rx_iload_n hE dX10_mostAlike_109 (i := 3) rfl rfl ?_
            refine rx_istore_n_3 hE dX10_mostAlike_110 (by decide) rfl ?_
            refine rx_iinc_4 hE dX10_mostAlike_111 (v := 1) (by decide) (by decide) rfl ?_
            rw [nI_1]
            refine rx_goto (tgt := 5) hE dX10_mostAlike_114 (by decide) ?_
            have hB : acc = qaB (jbit (nI mm)) (fun i => X 32 4 (6 * i + r)) (X 32 4 (6 * a + r)) 0 7 0 := by rw [← hIn]; rfl
            have eo : (if (if jbit (nI mm) a = 0 then 0 else qaB (jbit (nI mm)) (fun i => X 32 4 (6 * i + r)) (X 32 4 (6 * a + r)) 0 7 0) ≤ s then s else (if jbit (nI mm) a = 0 then 0 else qaB (jbit (nI mm)) (fun i => X 32 4 (6 * i + r)) (X 32 4 (6 * a + r)) 0 7 0)) = s := by rw [if_pos ((jbit01 _ _).resolve_right c97), if_pos hs0]
            exact ih (a + 1) s _ _ _ (by omega) hs0 (by rw [← hF]; show _ = qaA (jbit (nI mm)) (fun i => X 32 4 (6 * i + r)) 7 (a + 1) m (if (if jbit (nI mm) a = 0 then 0 else qaB (jbit (nI mm)) (fun i => X 32 4 (6 * i + r)) (X 32 4 (6 * a + r)) 0 7 0) ≤ s then s else (if jbit (nI mm) a = 0 then 0 else qaB (jbit (nI mm)) (fun i => X 32 4 (6 * i + r)) (X 32 4 (6 * a + r)) 0 7 0)); rw [eo])
          · refine rx_iload_n hE dX10_mostAlike_100 (i := 3) rfl rfl ?_
            refine rx_iload hE dX10_mostAlike_101 rfl ?_
            refine rx_mmax hE dX10_mostAlike_103 mm_X10_316 rfl (by decide) (Nat.le_of_ble_eq_true rfl) ?_
            refine rx_goto (tgt := 110) hE dX10_mostAlike_106 (by decide) ?_
            refine rx_istore_n_3 hE dX10_mostAlike_110 (by decide) rfl ?_
            refine rx_iinc_4 hE dX10_mostAlike_111 (v := 1) (by decide) (by decide) rfl ?_
            rw [nI_1]
            refine rx_goto (tgt := 5) hE dX10_mostAlike_114 (by decide) ?_
            have hB : acc = qaB (jbit (nI mm)) (fun i => X 32 4 (6 * i + r)) (X 32 4 (6 * a + r)) 0 7 0 := by rw [← hIn]; rfl
            have eo : (if (if jbit (nI mm) a = 0 then 0 else qaB (jbit (nI mm)) (fun i => X 32 4 (6 * i + r)) (X 32 4 (6 * a + r)) 0 7 0) ≤ s then s else (if jbit (nI mm) a = 0 then 0 else qaB (jbit (nI mm)) (fun i => X 32 4 (6 * i + r)) (X 32 4 (6 * a + r)) 0 7 0)) = (if s < acc then acc else s) := by
              rw [if_neg (show ¬ jbit (nI mm) a = 0 by rw [c97]; decide), hB]
              by_cases c : qaB (jbit (nI mm)) (fun i => X 32 4 (6 * i + r)) (X 32 4 (6 * a + r)) 0 7 0 ≤ s
              · rw [if_pos c, if_neg (Int32.not_lt.mpr c)]
              · rw [if_neg c, if_pos (Int32.not_le.mp c)]
            exact ih (a + 1) _ _ _ _ (by omega) (by split; (next h => exact Int32.le_of_lt (Int32.lt_of_le_of_lt hs0 h)); exact hs0) (by rw [← hF]; show _ = qaA (jbit (nI mm)) (fun i => X 32 4 (6 * i + r)) 7 (a + 1) m (if (if jbit (nI mm) a = 0 then 0 else qaB (jbit (nI mm)) (fun i => X 32 4 (6 * i + r)) (X 32 4 (6 * a + r)) 0 7 0) ≤ s then s else (if jbit (nI mm) a = 0 then 0 else qaB (jbit (nI mm)) (fun i => X 32 4 (6 * i + r)) (X 32 4 (6 * a + r)) 0 7 0)); rw [eo])
        | succ n' ihn =>
          intro b acc l7 hk3 hIn
          refine rx_iload hE dX10_mostAlike_18 rfl ?_
          refine rx_bipush hE dX10_mostAlike_20 (v := 6) (by decide) ?_
          refine rx_icmp_gt (tgt := 90) hE dX10_mostAlike_22 (by decide) (fun c22 => absurd c22 (nI_nlt (a := 6) (b := b) (by omega) (by decide))) (fun c22 => ?_)
          refine rx_aload_n hE dX10_mostAlike_25 (i := 0) rfl rfl ?_
          refine rx_getf hE dX10_mostAlike_26 fl_X10_96_9 (xa_0 hM) rfl ?_
          refine rx_iload hE dX10_mostAlike_29 rfl ?_
          refine rx_bipush hE dX10_mostAlike_31 (v := 6) (by decide) ?_
          refine rx_imul hE dX10_mostAlike_33 ?_
          refine rx_int _ (nI (a * 6)) (pk_mul _ _) ?_
          refine rx_iload_n hE dX10_mostAlike_34 (i := 1) rfl rfl ?_
          refine rx_iadd hE dX10_mostAlike_35 ?_
          refine rx_int _ (nI (a * 6 + r)) (nI_add _ _) ?_
          refine rx_ialdN (i := a * 6 + r) hE dX10_mostAlike_36 (xa_32_4 hM) (by omega) (by decide) ?_
          refine rx_int _ (X 32 4 (6 * a + r)) (by rw [Nat.mul_comm]) ?_
          refine rx_aload_n hE dX10_mostAlike_37 (i := 0) rfl rfl ?_
          refine rx_getf hE dX10_mostAlike_38 fl_X10_96_9 (xa_0 hM) rfl ?_
          refine rx_iload hE dX10_mostAlike_41 rfl ?_
          refine rx_bipush hE dX10_mostAlike_43 (v := 6) (by decide) ?_
          refine rx_imul hE dX10_mostAlike_45 ?_
          refine rx_int _ (nI (b * 6)) (pk_mul _ _) ?_
          refine rx_iload_n hE dX10_mostAlike_46 (i := 1) rfl rfl ?_
          refine rx_iadd hE dX10_mostAlike_47 ?_
          refine rx_int _ (nI (b * 6 + r)) (nI_add _ _) ?_
          refine rx_ialdN (i := b * 6 + r) hE dX10_mostAlike_48 (xa_32_4 hM) (by omega) (by decide) ?_
          refine rx_int _ (X 32 4 (6 * b + r)) (by rw [Nat.mul_comm]) ?_
          refine rx_icmp_ne (tgt := 56) hE dX10_mostAlike_49 (by decide) (fun c49 => ?_) (fun c49 => ?_)
          · refine rx_iconst hE dX10_mostAlike_56 (v := 0) (by decide) ?_
            refine rx_istore_7 hE dX10_mostAlike_57 (by decide) rfl ?_
            refine rx_iload hE dX10_mostAlike_59 rfl ?_
            refine rx_iload hE dX10_mostAlike_61 rfl ?_
            refine rx_if_eq (tgt := 80) hE dX10_mostAlike_63 (by decide) (fun c63 => ?_) (fun c63 => absurd rfl c63)
            refine rx_iconst hE dX10_mostAlike_80 (v := 0) (by decide) ?_
            refine rx_iadd hE dX10_mostAlike_81 ?_
            refine rx_istore_5 hE dX10_mostAlike_82 (by decide) rfl ?_
            refine rx_iinc_6 hE dX10_mostAlike_84 (v := 1) (by decide) (by decide) rfl ?_
            rw [nI_1]
            refine rx_goto (tgt := 18) hE dX10_mostAlike_87 (by decide) ?_
            have es : (if jbit (nI mm) b = 0 then 0 else if X 32 4 (6 * a + r) = X 32 4 (6 * b + r) then 1 else 0) = (0 : Int32) := by
              by_cases h0 : jbit (nI mm) b = 0
              · exact if_pos h0
              · rw [if_neg h0, if_neg c49]
            exact ihn (b + 1) (acc + 0) _ (by omega) (by rw [← hIn]; show _ = qaB (jbit (nI mm)) (fun i => X 32 4 (6 * i + r)) (X 32 4 (6 * a + r)) (b + 1) n' (acc + (if jbit (nI mm) b = 0 then 0 else if X 32 4 (6 * a + r) = X 32 4 (6 * b + r) then 1 else 0)); rw [es])
          · refine rx_iconst hE dX10_mostAlike_52 (v := 1) (by decide) ?_
            refine rx_goto (tgt := 57) hE dX10_mostAlike_53 (by decide) ?_
            refine rx_istore_7 hE dX10_mostAlike_57 (by decide) rfl ?_
            refine rx_iload hE dX10_mostAlike_59 rfl ?_
            refine rx_iload hE dX10_mostAlike_61 rfl ?_
            refine rx_if_eq (tgt := 80) hE dX10_mostAlike_63 (by decide) (fun c63 => absurd c63 (by decide)) (fun c63 => ?_)
            refine rx_iload_n hE dX10_mostAlike_66 (i := 2) rfl rfl ?_
            refine rx_iload hE dX10_mostAlike_67 rfl ?_
            refine rx_ishr hE dX10_mostAlike_69 ?_
            refine rx_iconst hE dX10_mostAlike_70 (v := 1) (by decide) ?_
            refine rx_iand hE dX10_mostAlike_71 ?_
            refine rx_int _ (jbit (nI mm) b) rfl ?_
            refine rx_iconst hE dX10_mostAlike_72 (v := 1) (by decide) ?_
            refine rx_icmp_ne (tgt := 80) hE dX10_mostAlike_73 (by decide) (fun c73 => ?_) (fun c73 => ?_)
            · refine rx_iconst hE dX10_mostAlike_80 (v := 0) (by decide) ?_
              refine rx_iadd hE dX10_mostAlike_81 ?_
              refine rx_istore_5 hE dX10_mostAlike_82 (by decide) rfl ?_
              refine rx_iinc_6 hE dX10_mostAlike_84 (v := 1) (by decide) (by decide) rfl ?_
              rw [nI_1]
              refine rx_goto (tgt := 18) hE dX10_mostAlike_87 (by decide) ?_
              have es : (if jbit (nI mm) b = 0 then 0 else if X 32 4 (6 * a + r) = X 32 4 (6 * b + r) then 1 else 0) = (0 : Int32) := if_pos ((jbit01 _ _).resolve_right c73)
              exact ihn (b + 1) (acc + 0) _ (by omega) (by rw [← hIn]; show _ = qaB (jbit (nI mm)) (fun i => X 32 4 (6 * i + r)) (X 32 4 (6 * a + r)) (b + 1) n' (acc + (if jbit (nI mm) b = 0 then 0 else if X 32 4 (6 * a + r) = X 32 4 (6 * b + r) then 1 else 0)); rw [es])
            · refine rx_iconst hE dX10_mostAlike_76 (v := 1) (by decide) ?_
              refine rx_goto (tgt := 81) hE dX10_mostAlike_77 (by decide) ?_
              refine rx_iadd hE dX10_mostAlike_81 ?_
              refine rx_istore_5 hE dX10_mostAlike_82 (by decide) rfl ?_
              refine rx_iinc_6 hE dX10_mostAlike_84 (v := 1) (by decide) (by decide) rfl ?_
              rw [nI_1]
              refine rx_goto (tgt := 18) hE dX10_mostAlike_87 (by decide) ?_
              have es : (if jbit (nI mm) b = 0 then 0 else if X 32 4 (6 * a + r) = X 32 4 (6 * b + r) then 1 else 0) = (1 : Int32) := by rw [if_neg (by rw [c73]; decide), if_pos c49]
              exact ihn (b + 1) (acc + 1) _ (by omega) (by rw [← hIn]; show _ = qaB (jbit (nI mm)) (fun i => X 32 4 (6 * i + r)) (X 32 4 (6 * a + r)) (b + 1) n' (acc + (if jbit (nI mm) b = 0 then 0 else if X 32 4 (6 * a + r) = X 32 4 (6 * b + r) then 1 else 0)); rw [es])
      exact inner 7 0 0 _ (by omega) rfl
  refine rx_iconst hE dX10_mostAlike_0 (v := 0) (by decide) ?_
  refine rx_istore_n_3 hE dX10_mostAlike_1 (by decide) rfl ?_
  refine rx_iconst hE dX10_mostAlike_2 (v := 0) (by decide) ?_
  refine rx_istore_4 hE dX10_mostAlike_3 (by decide) rfl ?_
  exact outer 7 0 0 _ _ _ (by omega) (by decide) rfl
theorem kbm_all0 (f : Nat → Int32) : ∀ n, (∀ i, i < n → f i = 0) → kbm f n = 0
  | 0, _ => rfl
  | n + 1, h => by
    show (if f n = 0 then kbm f n else kbm f n + 2 ^ n) = 0
    rw [if_pos (h n (by omega))]
    exact kbm_all0 f n (fun i hi => h i (by omega))
set_option maxRecDepth 100000 in
set_option maxHeartbeats 1000000 in
theorem c_X10_look {n : Nat} {X : gX} {O : gO} {Q : gU} {G : gK} {S : gS} {L : gLg} (hR : xR n X O Q) {J : gJn} (hJ : X 2 = J) (hk : xk J) {t : gJn → Nat → Int32 → Bool} (ht : xtf X Q (X 0 0 17) = t) {K : gJn} (hK : X 3 = K) (hfK : jok J → jfit K ∧ jT K = 0) {T : Nat → Nat → Int32} (hT : X 29 = T) {c : Nat} (hc : T 0 3 = nI c) (hc10 : c ≤ 10) (hnr : knr 6 c (T 2)) {ρ : Nat} (hρ : X 0 0 16 = nI ρ) (hρ6 : ρ ≤ 6) (n0 what : Int32) : SX 9 0 0 mX10_look [.ref 16, .int n0, .int what] (xm n X O Q G S L) (fun v M' => v = some (.int (q_look J (qal2 (fun k => xtf X Q (nI k - 1)) (T 1) (T 2) (T 3) c ρ K) n0 what)) ∧ xD n X O Q S L M') := by
  refine SX.intro [some (.ref 16), some (.int n0), some (.int what), none, none, none, none, none] (by decide +kernel) (Nat.le_of_ble_eq_true rfl) rfl (fun E hE hQ => ?_)
  have hM := hR.M
  refine rx_aload_n hE dX10_look_0 (i := 0) rfl rfl ?_
  refine rx_getf hE dX10_look_1 fl_X10_19_9 (xa_0 hM) rfl ?_
  refine rx_call0 (rx_callV (av := []) hE dX10_look_4 lk_X10_198 (x_isTold (X := X) xJ_2 hM (J := J) hJ) (xa_j xJ_2 hM) np_X2_isTold rfl rfl (by decide) (Nat.le_of_ble_eq_true rfl) rfl ?_)
  rintro v M' ⟨rfl, rfl⟩
  refine rx_if_eq (tgt := 29) hE dX10_look_7 (by decide) (fun c7 => ?_) (fun c7 => ?_)
  · refine rx_iconst hE dX10_look_29 (v := -1) (by decide) ?_
    exact rx_iret hE hQ rfl dX10_look_30 ⟨by simp [q_look, *], xD.refl n X O Q G S L⟩
  · refine rx_iload_n hE dX10_look_10 (i := 1) rfl rfl ?_
    refine rx_iconst hE dX10_look_11 (v := 0) (by decide) ?_
    refine rx_bipush hE dX10_look_12 (v := 60) (by decide) ?_
    refine rx_call0 (rx_callS (av := [.int _, .int _, .int _]) hE dX10_look_14 lk_X10_143 (c_X10_within _ _ _) np_X10_within rfl rfl (by decide) (Nat.le_of_ble_eq_true rfl) rfl ?_)
    rintro v M' ⟨rfl, rfl⟩
    refine rx_if_eq (tgt := 29) hE dX10_look_17 (by decide) (fun c17 => ?_) (fun c17 => ?_)
    · refine rx_iconst hE dX10_look_29 (v := -1) (by decide) ?_
      exact rx_iret hE hQ rfl dX10_look_30 ⟨by simp [q_look, *], xD.refl n X O Q G S L⟩
    · refine rx_iload_n hE dX10_look_20 (i := 2) rfl rfl ?_
      refine rx_iconst hE dX10_look_21 (v := 0) (by decide) ?_
      refine rx_iconst hE dX10_look_22 (v := 1) (by decide) ?_
      refine rx_call0 (rx_callS (av := [.int _, .int _, .int _]) hE dX10_look_23 lk_X10_143 (c_X10_within _ _ _) np_X10_within rfl rfl (by decide) (Nat.le_of_ble_eq_true rfl) rfl ?_)
      rintro v M' ⟨rfl, rfl⟩
      refine rx_if_ne (tgt := 31) hE dX10_look_26 (by decide) (fun c26 => ?_) (fun c26 => ?_)
      · have hg : ¬ (j_isTold J = 0 ∨ q_in n0 0 60 = 0 ∨ q_in what 0 1 = 0) := by simp [*]
        obtain ⟨hf, hT9⟩ := hk.told c7
        obtain ⟨N, hN0, hN, rfl⟩ := q_in_of (a := 0) (b := 60) (by decide) c17
        have hr6 := hf.1.2.1
        have hv : q_look J (qal2 (fun k => xtf X Q (nI k - 1)) (T 1) (T 2) (T 3) c ρ K) (nI N) what = if what = 0 then (qlkF (qal2 (fun k => xtf X Q (nI k - 1)) (T 1) (T 2) (T 3) c ρ K N) 0 (jR J) (-2, -2)).1 else (qlkF (qal2 (fun k => xtf X Q (nI k - 1)) (T 1) (T 2) (T 3) c ρ K N) 0 (jR J) (-2, -2)).2 := by unfold q_look; rw [if_neg hg, nI_clamp (n := N) (by omega)]
        have hfK := hfK hf.1
        have hkl := kbm_lt (xff X Q T c K) (ρ + 1)
        have hk7 : kbm (xff X Q T c K) (ρ + 1) < 128 := Nat.lt_of_lt_of_le hkl (show 2 ^ (ρ + 1) ≤ 2 ^ 7 from Nat.pow_le_pow_right (by decide) (by omega))
        refine rx_aload_n hE dX10_look_31 (i := 0) rfl rfl ?_
        refine rx_iload_n hE dX10_look_32 (i := 1) rfl rfl ?_
        refine rx_call0 (rx_callV (av := [.int _]) hE dX10_look_33 lk_X10_300 (c_X10_rulesThatAreSo (X := X) hR hK hfK.1 hfK.2 hT hc hc10 hnr hρ hρ6 _) (xa_0 hM) np_X10_rulesThatAreSo rfl rfl (by decide) (Nat.le_of_ble_eq_true rfl) rfl ?_)
        rintro v M' ⟨rfl, Y, G1, rfl, hq, hw⟩
        have hal : ∀ r, r < 6 → qaA (jbit (nI (kbm (xff X Q T c K) (ρ + 1)))) (fun i => Y 32 4 (6 * i + r)) 7 0 7 0 = (qal2 (fun k => xtf X Q (nI k - 1)) (T 1) (T 2) (T 3) c ρ K N) r := fun r hr => by
          have hb := kbm_b (xff X Q T c K) (xff_01 X Q T c K) (ρ + 1) (by omega)
          exact qaA_7 (by omega) hb.1 (fun k h1 h2 => hb.2 k h2 h1) (fun k h1 h2 => hw k h1 (by rw [← hb.1 k h1]; exact h2) N (by omega) rfl r hr)
        have hz0 : kbm (xff X Q T c K) (ρ + 1) = 0 → ∀ r, (qal2 (fun k => xtf X Q (nI k - 1)) (T 1) (T 2) (T 3) c ρ K N) r = 0 := fun hz r => by
          have hzz := kbm_z (xff X Q T c K) (ρ + 1) hz
          exact qaA_z (ρ + 1) 0 0 (by decide) (fun i _ hi => hzz i (by omega))
        refine rx_istore_n_3 hE dX10_look_36 (by decide) rfl ?_
        refine rx_iload_n hE dX10_look_37 (i := 3) rfl rfl ?_
        refine rx_if_eq (tgt := 51) hE dX10_look_38 (by decide) (fun c38 => ?_) (fun c38 => ?_)
        · refine rx_bipush hE dX10_look_51 (v := -2) (by decide) ?_
          exact rx_iret hE hQ rfl dX10_look_53 ⟨by rw [hv, qlkF_z (jR J) 0 _ (fun i _ _ => hz0 (nI_inj (by omega) (by decide) c38) i)]; split <;> rfl, Y, G1, rfl, hq⟩
        · have hex : ∃ a, a < ρ + 1 ∧ ¬ (xff X Q T c K) a = 0 := by
            by_cases h : ∃ a, a < ρ + 1 ∧ ¬ (xff X Q T c K) a = 0
            · exact h
            · exact absurd (show nI (kbm (xff X Q T c K) (ρ + 1)) = 0 from by
                rw [show kbm (xff X Q T c K) (ρ + 1) = 0 from kbm_all0 _ _ (fun i hi => Classical.byContradiction (fun q => h ⟨i, hi, q⟩))]
                rfl) c38
          obtain ⟨a0, ha0, hfa0⟩ := hex
          have hne : ∀ r, r < 6 → ¬ (qal2 (fun k => xtf X Q (nI k - 1)) (T 1) (T 2) (T 3) c ρ K N) r = 0 := fun r hr q => by
            obtain ⟨z, h1, _, h3, h4⟩ := qaA_n (f := (xff X Q T c K)) (m := fun k => qmt (xtf X Q (nI k - 1)) K N r) (N := ρ + 1) (by omega) (ρ + 1) 0 0 (by decide) (by omega)
            have hz := h4 a0 (by omega) (by omega) hfa0
            exact nI_ne0 hz (by omega) (h3.symm.trans q)
          refine rx_aload_n hE dX10_look_41 (i := 0) rfl rfl ?_
          refine rx_getf hE dX10_look_42 fl_X10_19_9 (xa_0 hM) rfl ?_
          refine rx_getfN hE dX10_look_45 fl_X10_132_2 (xa_j xJ_2 hM) rfl ?_
          refine rx_int _ (nI (jR J)) ((congrFun (congrFun (hq.J hJ) 9) 2).trans hf.1.1) ?_
          refine rx_if_ne (tgt := 54) hE dX10_look_48 (by decide) (fun c48 => ?_) (fun c48 => ?_)
          · have hR0 : 0 < jR J := Nat.pos_of_ne_zero (fun q => c48 (by rw [q]; rfl))
            have loop : ∀ (m k : Nat) (s : g2) (l7 : Option Value), k + m = jR J → 0 ≤ s.1 → qlkF (qal2 (fun k => xtf X Q (nI k - 1)) (T 1) (T 2) (T 3) c ρ K N) k m s = qlkF (qal2 (fun k => xtf X Q (nI k - 1)) (T 1) (T 2) (T 3) c ρ K N) 0 (jR J) (-2, -2) → RX E mX10_look.2.2.1 0 0 68 [some (.ref 16), some (.int (nI N)), some (.int what), some (.int (nI (kbm (xff X Q T c K) (ρ + 1)))), some (.int s.1), some (.int s.2), some (.int (nI k)), l7] [] (xm n Y O Q G1 S L) := by
              intro m
              induction m with
              | zero =>
                intro k s l7 hk2 hs1 hF
                refine rx_iload hE dX10_look_68 rfl ?_
                refine rx_aload_n hE dX10_look_70 (i := 0) rfl rfl ?_
                refine rx_getf hE dX10_look_71 fl_X10_19_9 (xa_0 hM) rfl ?_
                refine rx_getfN hE dX10_look_74 fl_X10_132_2 (xa_j xJ_2 hM) rfl ?_
                refine rx_int _ (nI (jR J)) ((congrFun (congrFun (hq.J hJ) 9) 2).trans hf.1.1) ?_
                refine rx_icmp_ge (tgt := 110) hE dX10_look_77 (by decide) (fun c77 => ?_) (fun c77 => absurd (show nI (jR J) ≤ nI k from nI_le (by omega) (by omega)) c77)
                refine rx_iload_n hE dX10_look_110 (i := 2) rfl rfl ?_
                refine rx_if_ne (tgt := 119) hE dX10_look_111 (by decide) (fun c111 => ?_) (fun c111 => ?_)
                · refine rx_iload hE dX10_look_119 rfl ?_
                  exact rx_iret hE hQ rfl dX10_look_121 ⟨by rw [hv, ← hF]; show _ = some (Value.int (if what = 0 then s.1 else s.2)); rw [if_neg c111], Y, G1, rfl, hq⟩
                · refine rx_iload hE dX10_look_114 rfl ?_
                  refine rx_goto (tgt := 121) hE dX10_look_116 (by decide) ?_
                  exact rx_iret hE hQ rfl dX10_look_121 ⟨by rw [hv, ← hF]; show _ = some (Value.int (if what = 0 then s.1 else s.2)); rw [if_pos c111], Y, G1, rfl, hq⟩
              | succ m ih =>
                intro k s l7 hk2 hs1 hF
                refine rx_iload hE dX10_look_68 rfl ?_
                refine rx_aload_n hE dX10_look_70 (i := 0) rfl rfl ?_
                refine rx_getf hE dX10_look_71 fl_X10_19_9 (xa_0 hM) rfl ?_
                refine rx_getfN hE dX10_look_74 fl_X10_132_2 (xa_j xJ_2 hM) rfl ?_
                refine rx_int _ (nI (jR J)) ((congrFun (congrFun (hq.J hJ) 9) 2).trans hf.1.1) ?_
                refine rx_icmp_ge (tgt := 110) hE dX10_look_77 (by decide) (fun c77 => absurd c77 (nI_ge (a := k) (b := (jR J)) (by omega) (by omega))) (fun c77 => ?_)
                refine rx_aload_n hE dX10_look_80 (i := 0) rfl rfl ?_
                refine rx_iload hE dX10_look_81 rfl ?_
                refine rx_iload_n hE dX10_look_83 (i := 3) rfl rfl ?_
                refine rx_call0 (rx_callV (av := [.int (nI k), .int (nI (kbm (xff X Q T c K) (ρ + 1)))]) hE dX10_look_84 lk_X10_306 (c_X10_mostAlike (X := Y) (r := k) (mm := kbm (xff X Q T c K) (ρ + 1)) hM (by omega)) (xa_0 hM) np_X10_mostAlike rfl rfl (by decide) (Nat.le_of_ble_eq_true rfl) rfl ?_)
                rintro v M' ⟨rfl, rfl⟩
                refine rx_int _ ((qal2 (fun k => xtf X Q (nI k - 1)) (T 1) (T 2) (T 3) c ρ K N) k) (hal _ (by omega)) ?_
                refine rx_istore_7 hE dX10_look_87 (by decide) rfl ?_
                refine rx_iload hE dX10_look_89 rfl ?_
                refine rx_iload hE dX10_look_91 rfl ?_
                refine rx_icmp_ge (tgt := 104) hE dX10_look_93 (by decide) (fun c93 => ?_) (fun c93 => ?_)
                · refine rx_iinc_6 hE dX10_look_104 (v := 1) (by decide) (by decide) rfl ?_
                  rw [nI_1]
                  refine rx_goto (tgt := 68) hE dX10_look_107 (by decide) ?_
                  exact ih (k + 1) s _ (by omega) (hs1) (by rw [← hF]; show _ = qlkF (qal2 (fun k => xtf X Q (nI k - 1)) (T 1) (T 2) (T 3) c ρ K N) (k + 1) m (if (qal2 (fun k => xtf X Q (nI k - 1)) (T 1) (T 2) (T 3) c ρ K N) k = 0 ∨ (0 ≤ s.1 ∧ ¬ (qal2 (fun k => xtf X Q (nI k - 1)) (T 1) (T 2) (T 3) c ρ K N) k < s.2) then s else (nI k, (qal2 (fun k => xtf X Q (nI k - 1)) (T 1) (T 2) (T 3) c ρ K N) k)); rw [if_pos (Or.inr ⟨hs1, Int32.not_lt.mpr c93⟩)])
                · refine rx_iload hE dX10_look_96 rfl ?_
                  refine rx_istore_5 hE dX10_look_98 (by decide) rfl ?_
                  refine rx_iload hE dX10_look_100 rfl ?_
                  refine rx_istore_4 hE dX10_look_102 (by decide) rfl ?_
                  refine rx_iinc_6 hE dX10_look_104 (v := 1) (by decide) (by decide) rfl ?_
                  rw [nI_1]
                  refine rx_goto (tgt := 68) hE dX10_look_107 (by decide) ?_
                  exact ih (k + 1) (nI k, (qal2 (fun k => xtf X Q (nI k - 1)) (T 1) (T 2) (T 3) c ρ K N) k) _ (by omega) (nI_pos' (by omega)) (by rw [← hF]; show _ = qlkF (qal2 (fun k => xtf X Q (nI k - 1)) (T 1) (T 2) (T 3) c ρ K N) (k + 1) m (if (qal2 (fun k => xtf X Q (nI k - 1)) (T 1) (T 2) (T 3) c ρ K N) k = 0 ∨ (0 ≤ s.1 ∧ ¬ (qal2 (fun k => xtf X Q (nI k - 1)) (T 1) (T 2) (T 3) c ρ K N) k < s.2) then s else (nI k, (qal2 (fun k => xtf X Q (nI k - 1)) (T 1) (T 2) (T 3) c ρ K N) k)); rw [if_neg (fun q => q.elim (hne k (by omega)) (fun z => z.2 (Int32.not_le.mp c93)))])
            refine rx_iconst hE dX10_look_54 (v := 0) (by decide) ?_
            refine rx_istore_4 hE dX10_look_55 (by decide) rfl ?_
            refine rx_aload_n hE dX10_look_57 (i := 0) rfl rfl ?_
            refine rx_iconst hE dX10_look_58 (v := 0) (by decide) ?_
            refine rx_iload_n hE dX10_look_59 (i := 3) rfl rfl ?_
            refine rx_call0 (rx_callV (av := [.int (nI 0), .int (nI (kbm (xff X Q T c K) (ρ + 1)))]) hE dX10_look_60 lk_X10_306 (c_X10_mostAlike (X := Y) (r := 0) (mm := kbm (xff X Q T c K) (ρ + 1)) hM (by omega)) (xa_0 hM) np_X10_mostAlike rfl rfl (by decide) (Nat.le_of_ble_eq_true rfl) rfl ?_)
            rintro v M' ⟨rfl, rfl⟩
            refine rx_int _ ((qal2 (fun k => xtf X Q (nI k - 1)) (T 1) (T 2) (T 3) c ρ K N) 0) (hal _ (by omega)) ?_
            refine rx_istore_5 hE dX10_look_63 (by decide) rfl ?_
            refine rx_iconst hE dX10_look_65 (v := 1) (by decide) ?_
            refine rx_istore_6 hE dX10_look_66 (by decide) rfl ?_
            exact loop (jR J - 1) 1 (nI 0, (qal2 (fun k => xtf X Q (nI k - 1)) (T 1) (T 2) (T 3) c ρ K N) 0) _ (by omega) (show (0 : Int32) ≤ nI 0 by decide) (by rw [show jR J = (jR J - 1) + 1 by omega]; show _ = qlkF (qal2 (fun k => xtf X Q (nI k - 1)) (T 1) (T 2) (T 3) c ρ K N) 1 (jR J - 1) (if (qal2 (fun k => xtf X Q (nI k - 1)) (T 1) (T 2) (T 3) c ρ K N) 0 = 0 ∨ ((0 : Int32) ≤ -2 ∧ ¬ (qal2 (fun k => xtf X Q (nI k - 1)) (T 1) (T 2) (T 3) c ρ K N) 0 < -2) then (-2, -2) else (nI 0, (qal2 (fun k => xtf X Q (nI k - 1)) (T 1) (T 2) (T 3) c ρ K N) 0)); rw [if_neg (fun q => q.elim (hne 0 (by omega)) (fun z => absurd z.1 (by decide)))]; rfl)
          · refine rx_bipush hE dX10_look_51 (v := -2) (by decide) ?_
            exact rx_iret hE hQ rfl dX10_look_53 ⟨by rw [hv, show jR J = 0 from nI_inj (by omega) (by decide) c48]; show _ = some (Value.int (if what = 0 then -2 else -2)); rw [ite_self], Y, G1, rfl, hq⟩
      · refine rx_iconst hE dX10_look_29 (v := -1) (by decide) ?_
        exact rx_iret hE hQ rfl dX10_look_30 ⟨by simp [q_look, *], xD.refl n X O Q G S L⟩
