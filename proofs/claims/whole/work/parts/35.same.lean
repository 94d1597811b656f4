/-! ===== the two beats are one ===== -/
theorem upd_ne {f : Nat → Int32} {k i : Nat} {v : Int32} (h : i ≠ k) : upd f k v i = f i := if_neg h
theorem upd_eq {f : Nat → Int32} {k : Nat} {v : Int32} : upd f k v k = v := if_pos rfl
theorem upd_upd (f : Nat → Int32) (k : Nat) (v w : Int32) : upd (upd f k v) k w = upd f k w := by
  funext i
  unfold upd
  split <;> rfl
theorem jgt1_ka (s : Int32) (k : Nat) (J : gJn) : jgt1 s k J = kaS s k J := by
  unfold jgt1 kaS
  split
  · funext f
    unfold j_s j_leave j_many j_s
    by_cases h7 : f = 7
    · subst h7
      simp [upd_upd]
    · by_cases h6 : f = 6
      · subst h6
        simp
      · by_cases h4 : f = 4
        · subst h4
          simp
        · by_cases h0 : f = 0
          · subst h0
            simp
          · simp [h7, h6, h4, h0]
  · rfl
theorem kaS_comm (s : Int32) {k k' : Nat} (h : k ≠ k') (J : gJn) : kaS s k' (jgt2 k J) = jgt2 k (kaS s k' J) := by
  unfold kaS
  by_cases hb : jbit s k' = 1
  · rw [if_pos hb, if_pos hb]
    funext f
    unfold jgt2 j_s j_leave j_many j_s
    by_cases h5 : f = 5
    · subst h5
      simp [upd_ne h]
    · by_cases h7 : f = 7
      · subst h7
        simp
      · by_cases h6 : f = 6
        · subst h6
          simp
        · by_cases h4 : f = 4
          · subst h4
            simp
          · by_cases h0 : f = 0
            · subst h0
              simp
            · simp [h5, h7, h6, h4, h0]
  · rw [if_neg hb, if_neg hb]
    funext f
    unfold jgt2 j_s
    by_cases h5 : f = 5
    · subst h5
      simp
    · by_cases h7 : f = 7
      · subst h7
        simp
      · simp [h5, h7]
theorem kaF_comm (s : Int32) {k : Nat} : ∀ (n k' : Nat) (J : gJn), k < k' → kaF s k' n (jgt2 k J) = jgt2 k (kaF s k' n J)
  | 0, _, _, _ => rfl
  | n + 1, k', J, h => by
    show kaF s (k' + 1) n (kaS s k' (jgt2 k J)) = jgt2 k (kaF s (k' + 1) n (kaS s k' J))
    rw [kaS_comm s (by omega) J]
    exact kaF_comm s n (k' + 1) _ (by omega)
theorem jgtF_fst (s : Int32) : ∀ (n k : Nat) (J : gJn) (acc : Int32), (jgtF s k n J acc).1 = kbF k n (kaF s k n J)
  | 0, _, _, _ => rfl
  | n + 1, k, J, acc => by
    show (jgtF s (k + 1) n (jgt2 k (jgt1 s k J)) (jgtA s k J acc)).1 = kbF (k + 1) n (jgt2 k (kaF s (k + 1) n (kaS s k J)))
    rw [jgtF_fst s n (k + 1), jgt1_ka, kaF_comm s n (k + 1) _ (by omega)]
theorem kaF_7 (s : Int32) {i : Nat} : ∀ (n k : Nat) (J : gJn), i < k → kaF s k n J 7 i = J 7 i
  | 0, _, _, _ => rfl
  | n + 1, k, J, h => by
    show kaF s (k + 1) n (kaS s k J) 7 i = J 7 i
    rw [kaF_7 s n (k + 1) _ (by omega)]
    unfold kaS
    split
    · show upd (J 7) k _ i = J 7 i
      exact upd_ne (by omega)
    · show upd (J 7) k _ i = J 7 i
      exact upd_ne (by omega)
theorem jgtA_k (s : Int32) (k : Nat) (J : gJn) (acc : Int32) : jgtA s k J acc = acc ||| (if (kaS s k J) 7 k ≤ 0 then (0 : Int32) else (1 : Int32) <<< (nI k &&& 31)) := by
  unfold jgtA
  rw [jgt1_ka]
  split
  · rfl
  · rename_i h
    have : (kaS s k J) 7 k = 0 := by
      unfold kaS
      rw [if_neg h]
      exact upd_eq
    rw [this, if_pos (by decide)]
    exact (Int32.or_zero).symm
theorem jgtF_snd (s : Int32) : ∀ (n k : Nat) (J J2 : gJn) (acc : Int32), (∀ i, k ≤ i → i < k + n → J2 7 i = kaF s k n J 7 i) → (jgtF s k n J acc).2 = kgsF J2 k n acc
  | 0, _, _, _, _, _ => rfl
  | n + 1, k, J, J2, acc, h => by
    show (jgtF s (k + 1) n (jgt2 k (jgt1 s k J)) (jgtA s k J acc)).2 = kgsF J2 (k + 1) n (acc ||| (if J2 7 k ≤ 0 then (0 : Int32) else (1 : Int32) <<< (nI k &&& 31)))
    have h0 : J2 7 k = (kaS s k J) 7 k := by
      rw [h k (Nat.le_refl _) (by omega)]
      exact kaF_7 s n (k + 1) _ (by omega)
    rw [h0, jgtA_k]
    apply jgtF_snd s n (k + 1)
    intro i hi1 hi2
    rw [h i (by omega) (by omega)]
    show kaF s (k + 1) n (kaS s k J) 7 i = _
    rw [jgt1_ka, kaF_comm s n (k + 1) _ (by omega)]
    rfl
theorem kbF_c (v : Int32) : ∀ (n k : Nat) (J : gJn), kbF k n (j_c J 4 v) = j_c (kbF k n J) 4 v
  | 0, _, _ => rfl
  | n + 1, k, J => by
    show kbF (k + 1) n (jgt2 k (j_c J 4 v)) = j_c (kbF (k + 1) n (jgt2 k J)) 4 v
    rw [← kbF_c v n (k + 1)]
    congr 1
    funext f
    unfold jgt2 j_s j_c
    by_cases h5 : f = 5
    · subst h5
      simp
    · simp [h5]
/-- the reference's beat behind its arrivals is the class's, where the two sounds agree -/
theorem kps_go (pn : Nat → Nat) (R : Nat) (s : Int32) (J : gJn) (hs : kso pn (kgsF (kaF s 0 R J) 0 R 0) R = jso pn (kgsF (kaF s 0 R J) 0 R 0) R) : kps pn R s J = j_go pn R s J := by
  have h1 := jgtF_fst s R 0 J 0
  have h2 := jgtF_snd s R 0 J (kaF s 0 R J) 0 (fun i _ _ => rfl)
  unfold kps j_go j_end ksn
  rw [h1, h2, kbF_c, hs]
  have e : (kbF 0 R (kaF s 0 R J)) 9 4 = (kaF s 0 R J) 9 4 := by rw [kbF_f (by decide)]
  rw [e]
  rfl
