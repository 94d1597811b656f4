/-! ===== arrays at a place that is a number ===== -/
section RXK
variable {d : Nat} {mi : gMi} {E : gE} {nL a b pc : Nat} {ls : List (Option Value)} {st : List Value} {M : gM}
theorem rx_ialdN (hE : g_E d mi E) {x n i : Nat} {f : Nat → Int32} (hd : decode mi.2.1 pc = .ok (.iaload, 1)) (hat : g_at M x (gI n f)) (hi : i < n) (hn : n < 2 ^ 31) (kk : RX E nL a b (pc + 1) ls (.int (f i) :: st) M) : RX E nL a b pc ls (.int (nI i) :: .ref x :: st) M :=
  rx_iald hE hd hat (vp_in_nI hi hn) (by rw [nI_clamp (by omega)]; exact kk)
theorem rx_baldN (hE : g_E d mi E) {x n i : Nat} {f : Nat → Int32} (hd : decode mi.2.1 pc = .ok (.baload, 1)) (hat : g_at M x (gB n f)) (hi : i < n) (hn : n < 2 ^ 31) (kk : RX E nL a b (pc + 1) ls (.int (f i) :: st) M) : RX E nL a b pc ls (.int (nI i) :: .ref x :: st) M :=
  rx_bald hE hd hat (vp_in_nI hi hn) (by rw [nI_clamp (by omega)]; exact kk)
theorem rx_laldN (hE : g_E d mi E) {x n i : Nat} {f : Nat → Int64} (hd : decode mi.2.1 pc = .ok (.laload, 1)) (hat : g_at M x (gJ n f)) (hi : i < n) (hn : n < 2 ^ 31) (kk : RX E nL a b (pc + 1) ls (.long (f i) :: st) M) : RX E nL a b pc ls (.int (nI i) :: .ref x :: st) M :=
  rx_lald hE hd hat (vp_in_nI hi hn) (by rw [nI_clamp (by omega)]; exact kk)
theorem rx_zaldN (hE : g_E d mi E) {x n i : Nat} {f : Nat → Int32} (hd : decode mi.2.1 pc = .ok (.baload, 1)) (hat : g_at M x (gZ n f)) (hi : i < n) (hn : n < 2 ^ 31) (kk : RX E nL a b (pc + 1) ls (.int (f i) :: st) M) : RX E nL a b pc ls (.int (nI i) :: .ref x :: st) M :=
  rx_zald hE hd hat (vp_in_nI hi hn) (by rw [nI_clamp (by omega)]; exact kk)
theorem rx_iastN (hE : g_E d mi E) {x n i : Nat} {f : Nat → Int32} {v : Int32} (hd : decode mi.2.1 pc = .ok (.iastore, 1)) (hat : g_at M x (gI n f)) (hi : i < n) (hn : n < 2 ^ 31) (kk : RX E nL a b (pc + 1) ls st (g_up M x (gI n (upd f i v)))) : RX E nL a b pc ls (.int v :: .int (nI i) :: .ref x :: st) M :=
  rx_iast hE hd hat (vp_in_nI hi hn) (by rw [nI_clamp (by omega)]; exact kk)
theorem rx_bastN (hE : g_E d mi E) {x n i : Nat} {f : Nat → Int32} {v : Int32} (hd : decode mi.2.1 pc = .ok (.bastore, 1)) (hat : g_at M x (gB n f)) (hi : i < n) (hn : n < 2 ^ 31) (kk : RX E nL a b (pc + 1) ls st (g_up M x (gB n (upd f i (vp_nar .byte v))))) : RX E nL a b pc ls (.int v :: .int (nI i) :: .ref x :: st) M :=
  rx_bast hE hd hat (vp_in_nI hi hn) (by rw [nI_clamp (by omega)]; exact kk)
theorem rx_zastN (hE : g_E d mi E) {x n i : Nat} {f : Nat → Int32} {v : Int32} (hd : decode mi.2.1 pc = .ok (.bastore, 1)) (hat : g_at M x (gZ n f)) (hi : i < n) (hn : n < 2 ^ 31) (kk : RX E nL a b (pc + 1) ls st (g_up M x (gZ n (upd f i (vp_nar .boolean v))))) : RX E nL a b pc ls (.int v :: .int (nI i) :: .ref x :: st) M :=
  rx_zast hE hd hat (vp_in_nI hi hn) (by rw [nI_clamp (by omega)]; exact kk)
theorem rx_lastN (hE : g_E d mi E) {x n i : Nat} {f : Nat → Int64} {v : Int64} (hd : decode mi.2.1 pc = .ok (.lastore, 1)) (hat : g_at M x (gJ n f)) (hi : i < n) (hn : n < 2 ^ 31) (kk : RX E nL a b (pc + 1) ls st (g_up M x (gJ n (vp_updL f i v)))) : RX E nL a b pc ls (.long v :: .int (nI i) :: .ref x :: st) M :=
  rx_last hE hd hat (vp_in_nI hi hn) (by rw [nI_clamp (by omega)]; exact kk)
theorem rx_aaldN (hE : g_E d mi E) {t x n i : Nat} {f : Nat → Option Nat} (ht : t < 8) (hr : (g_ty t).isReference = true) (hd : decode mi.2.1 pc = .ok (.aaload, 1)) (hat : g_at M x (gQ t n f)) (hi : i < n) (hn : n < 2 ^ 31) (kk : RX E nL a b (pc + 1) ls (va_rf (f i) :: st) M) : RX E nL a b pc ls (.int (nI i) :: .ref x :: st) M :=
  rx_aald hE ht hr hd hat (vp_in_nI hi hn) (by rw [nI_clamp (by omega)]; exact kk)
theorem rx_int (x y : Int32) (h : x = y) (kk : RX E nL a b pc ls (.int y :: st) M) : RX E nL a b pc ls (.int x :: st) M := by rw [h]; exact kk
theorem rx_mem {M' : gM} (h : M = M') (kk : RX E nL a b pc ls st M') : RX E nL a b pc ls st M := by rw [h]; exact kk
end RXK
/-! ===== a Junction: its object and its nine rows, ten cells from a on; J f i: row f, place i; J 9: bar, room, roads, beat, heard, shut ===== -/
abbrev gJn : Type := Nat → Nat → Int32
def jc (a : Nat) (J : gJn) (k : Nat) : va_E := match k with
  | 0 => .inr (2, [.ref (a + 1), .ref (a + 2), .ref (a + 3), .ref (a + 4), .ref (a + 5), .ref (a + 6), .ref (a + 7), .ref (a + 8), .ref (a + 9), .int (J 9 0), .int (J 9 1), .int (J 9 2), .int (J 9 3), .int (J 9 4), .int (J 9 5)])
  | 9 => gI 12 (J 8)
  | k + 1 => gI 6 (J k)
def jp (M : gM) (a : Nat) (J : gJn) : gM := (M.1, fun q => if a ≤ q ∧ q < a + 10 then jc a J (q - a) else M.2 q)
def jb (M : gM) (a : Nat) : Prop := 16 ≤ a ∧ a + 10 ≤ M.1
def j_s (J : gJn) (f : Nat) (v : Nat → Int32) : gJn := fun i => if i = f then v else J i
def j_c (J : gJn) (s : Nat) (v : Int32) : gJn := fun i => if i = 9 then upd (J 9) s v else J i
theorem jp_at {M : gM} {a : Nat} {J : gJn} (h : jb M a) (k : Nat) (hk : k < 10) : g_at (jp M a J) (a + k) (jc a J k) := by
  refine ⟨by have := h.1; omega, by have := h.2; show a + k < M.1; omega, ?_⟩
  show (if a ≤ a + k ∧ a + k < a + 10 then jc a J (a + k - a) else M.2 (a + k)) = _
  rw [if_pos ⟨by omega, by omega⟩, Nat.add_sub_cancel_left]
theorem jp_up {M : gM} {a : Nat} {J J' : gJn} (k : Nat) (hk : k < 10) (e : va_E) (he : e = jc a J' k) (ho : ∀ j, j < 10 → j ≠ k → jc a J' j = jc a J j) : g_up (jp M a J) (a + k) e = jp M a J' := by
  unfold g_up jp
  refine Prod.ext rfl (funext fun q => ?_)
  show (if q = a + k then e else if a ≤ q ∧ q < a + 10 then jc a J (q - a) else M.2 q) = (if a ≤ q ∧ q < a + 10 then jc a J' (q - a) else M.2 q)
  by_cases h1 : q = a + k
  · subst h1
    rw [if_pos rfl, if_pos ⟨by omega, by omega⟩, Nat.add_sub_cancel_left]
    exact he
  · rw [if_neg h1]
    by_cases h2 : a ≤ q ∧ q < a + 10
    · rw [if_pos h2, if_pos h2]
      exact (ho (q - a) (by omega) (by omega)).symm
    · rw [if_neg h2, if_neg h2]
theorem jp_jp (M : gM) (a : Nat) (J K : gJn) : jp (jp M a J) a K = jp M a K := by
  unfold jp
  refine Prod.ext rfl (funext fun q => ?_)
  show (if a ≤ q ∧ q < a + 10 then jc a K (q - a) else if a ≤ q ∧ q < a + 10 then jc a J (q - a) else M.2 q) = (if a ≤ q ∧ q < a + 10 then jc a K (q - a) else M.2 q)
  by_cases h : a ≤ q ∧ q < a + 10
  · rw [if_pos h, if_pos h]
  · rw [if_neg h, if_neg h, if_neg h]
theorem jb_jp {M : gM} {a b : Nat} {J : gJn} : jb (jp M b J) a ↔ jb M a := Iff.rfl
theorem jp_comm {M : gM} {a b : Nat} {J K : gJn} (h : a + 10 ≤ b ∨ b + 10 ≤ a) : jp (jp M a J) b K = jp (jp M b K) a J := by
  unfold jp
  refine Prod.ext rfl (funext fun q => ?_)
  show (if b ≤ q ∧ q < b + 10 then jc b K (q - b) else if a ≤ q ∧ q < a + 10 then jc a J (q - a) else M.2 q) = (if a ≤ q ∧ q < a + 10 then jc a J (q - a) else if b ≤ q ∧ q < b + 10 then jc b K (q - b) else M.2 q)
  by_cases h1 : b ≤ q ∧ q < b + 10
  · rw [if_pos h1, if_neg (show ¬ (a ≤ q ∧ q < a + 10) by omega), if_pos h1]
  · by_cases h2 : a ≤ q ∧ q < a + 10
    · rw [if_neg h1, if_pos h2, if_pos h2]
    · rw [if_neg h1, if_neg h2, if_neg h2, if_neg h1]
theorem jp_o {M : gM} {a : Nat} {J : gJn} (h : jb M a) : g_at (jp M a J) a (jc a J 0) := jp_at h 0 (by decide)
theorem jp_1 {M : gM} {a : Nat} {J : gJn} (h : jb M a) : g_at (jp M a J) (a + 1) (gI 6 (J 0)) := jp_at h 1 (by decide)
theorem jw_1 {M : gM} {a : Nat} {J : gJn} {v : Nat → Int32} : g_up (jp M a J) (a + 1) (gI 6 v) = jp M a (j_s J 0 v) := jp_up 1 (by decide) _ (by simp [jc, j_s]) (fun j hj hk => by
  rcases (show j = 0 ∨ j = 1 ∨ j = 2 ∨ j = 3 ∨ j = 4 ∨ j = 5 ∨ j = 6 ∨ j = 7 ∨ j = 8 ∨ j = 9 by omega) with rfl | rfl | rfl | rfl | rfl | rfl | rfl | rfl | rfl | rfl <;> first | (exact absurd rfl hk) | (simp [jc, j_s]))
theorem jp_2 {M : gM} {a : Nat} {J : gJn} (h : jb M a) : g_at (jp M a J) (a + 2) (gI 6 (J 1)) := jp_at h 2 (by decide)
theorem jw_2 {M : gM} {a : Nat} {J : gJn} {v : Nat → Int32} : g_up (jp M a J) (a + 2) (gI 6 v) = jp M a (j_s J 1 v) := jp_up 2 (by decide) _ (by simp [jc, j_s]) (fun j hj hk => by
  rcases (show j = 0 ∨ j = 1 ∨ j = 2 ∨ j = 3 ∨ j = 4 ∨ j = 5 ∨ j = 6 ∨ j = 7 ∨ j = 8 ∨ j = 9 by omega) with rfl | rfl | rfl | rfl | rfl | rfl | rfl | rfl | rfl | rfl <;> first | (exact absurd rfl hk) | (simp [jc, j_s]))
theorem jp_3 {M : gM} {a : Nat} {J : gJn} (h : jb M a) : g_at (jp M a J) (a + 3) (gI 6 (J 2)) := jp_at h 3 (by decide)
theorem jw_3 {M : gM} {a : Nat} {J : gJn} {v : Nat → Int32} : g_up (jp M a J) (a + 3) (gI 6 v) = jp M a (j_s J 2 v) := jp_up 3 (by decide) _ (by simp [jc, j_s]) (fun j hj hk => by
  rcases (show j = 0 ∨ j = 1 ∨ j = 2 ∨ j = 3 ∨ j = 4 ∨ j = 5 ∨ j = 6 ∨ j = 7 ∨ j = 8 ∨ j = 9 by omega) with rfl | rfl | rfl | rfl | rfl | rfl | rfl | rfl | rfl | rfl <;> first | (exact absurd rfl hk) | (simp [jc, j_s]))
theorem jp_4 {M : gM} {a : Nat} {J : gJn} (h : jb M a) : g_at (jp M a J) (a + 4) (gI 6 (J 3)) := jp_at h 4 (by decide)
theorem jw_4 {M : gM} {a : Nat} {J : gJn} {v : Nat → Int32} : g_up (jp M a J) (a + 4) (gI 6 v) = jp M a (j_s J 3 v) := jp_up 4 (by decide) _ (by simp [jc, j_s]) (fun j hj hk => by
  rcases (show j = 0 ∨ j = 1 ∨ j = 2 ∨ j = 3 ∨ j = 4 ∨ j = 5 ∨ j = 6 ∨ j = 7 ∨ j = 8 ∨ j = 9 by omega) with rfl | rfl | rfl | rfl | rfl | rfl | rfl | rfl | rfl | rfl <;> first | (exact absurd rfl hk) | (simp [jc, j_s]))
theorem jp_5 {M : gM} {a : Nat} {J : gJn} (h : jb M a) : g_at (jp M a J) (a + 5) (gI 6 (J 4)) := jp_at h 5 (by decide)
theorem jw_5 {M : gM} {a : Nat} {J : gJn} {v : Nat → Int32} : g_up (jp M a J) (a + 5) (gI 6 v) = jp M a (j_s J 4 v) := jp_up 5 (by decide) _ (by simp [jc, j_s]) (fun j hj hk => by
  rcases (show j = 0 ∨ j = 1 ∨ j = 2 ∨ j = 3 ∨ j = 4 ∨ j = 5 ∨ j = 6 ∨ j = 7 ∨ j = 8 ∨ j = 9 by omega) with rfl | rfl | rfl | rfl | rfl | rfl | rfl | rfl | rfl | rfl <;> first | (exact absurd rfl hk) | (simp [jc, j_s]))
theorem jp_6 {M : gM} {a : Nat} {J : gJn} (h : jb M a) : g_at (jp M a J) (a + 6) (gI 6 (J 5)) := jp_at h 6 (by decide)
theorem jw_6 {M : gM} {a : Nat} {J : gJn} {v : Nat → Int32} : g_up (jp M a J) (a + 6) (gI 6 v) = jp M a (j_s J 5 v) := jp_up 6 (by decide) _ (by simp [jc, j_s]) (fun j hj hk => by
  rcases (show j = 0 ∨ j = 1 ∨ j = 2 ∨ j = 3 ∨ j = 4 ∨ j = 5 ∨ j = 6 ∨ j = 7 ∨ j = 8 ∨ j = 9 by omega) with rfl | rfl | rfl | rfl | rfl | rfl | rfl | rfl | rfl | rfl <;> first | (exact absurd rfl hk) | (simp [jc, j_s]))
theorem jp_7 {M : gM} {a : Nat} {J : gJn} (h : jb M a) : g_at (jp M a J) (a + 7) (gI 6 (J 6)) := jp_at h 7 (by decide)
theorem jw_7 {M : gM} {a : Nat} {J : gJn} {v : Nat → Int32} : g_up (jp M a J) (a + 7) (gI 6 v) = jp M a (j_s J 6 v) := jp_up 7 (by decide) _ (by simp [jc, j_s]) (fun j hj hk => by
  rcases (show j = 0 ∨ j = 1 ∨ j = 2 ∨ j = 3 ∨ j = 4 ∨ j = 5 ∨ j = 6 ∨ j = 7 ∨ j = 8 ∨ j = 9 by omega) with rfl | rfl | rfl | rfl | rfl | rfl | rfl | rfl | rfl | rfl <;> first | (exact absurd rfl hk) | (simp [jc, j_s]))
theorem jp_8 {M : gM} {a : Nat} {J : gJn} (h : jb M a) : g_at (jp M a J) (a + 8) (gI 6 (J 7)) := jp_at h 8 (by decide)
theorem jw_8 {M : gM} {a : Nat} {J : gJn} {v : Nat → Int32} : g_up (jp M a J) (a + 8) (gI 6 v) = jp M a (j_s J 7 v) := jp_up 8 (by decide) _ (by simp [jc, j_s]) (fun j hj hk => by
  rcases (show j = 0 ∨ j = 1 ∨ j = 2 ∨ j = 3 ∨ j = 4 ∨ j = 5 ∨ j = 6 ∨ j = 7 ∨ j = 8 ∨ j = 9 by omega) with rfl | rfl | rfl | rfl | rfl | rfl | rfl | rfl | rfl | rfl <;> first | (exact absurd rfl hk) | (simp [jc, j_s]))
theorem jp_9 {M : gM} {a : Nat} {J : gJn} (h : jb M a) : g_at (jp M a J) (a + 9) (gI 12 (J 8)) := jp_at h 9 (by decide)
theorem jw_9 {M : gM} {a : Nat} {J : gJn} {v : Nat → Int32} : g_up (jp M a J) (a + 9) (gI 12 v) = jp M a (j_s J 8 v) := jp_up 9 (by decide) _ (by simp [jc, j_s]) (fun j hj hk => by
  rcases (show j = 0 ∨ j = 1 ∨ j = 2 ∨ j = 3 ∨ j = 4 ∨ j = 5 ∨ j = 6 ∨ j = 7 ∨ j = 8 ∨ j = 9 by omega) with rfl | rfl | rfl | rfl | rfl | rfl | rfl | rfl | rfl | rfl <;> first | (exact absurd rfl hk) | (simp [jc, j_s]))
theorem jw_c0 {M : gM} {a : Nat} {J : gJn} {v : Int32} : g_up (jp M a J) a (.inr (2, [.ref (a + 1), .ref (a + 2), .ref (a + 3), .ref (a + 4), .ref (a + 5), .ref (a + 6), .ref (a + 7), .ref (a + 8), .ref (a + 9), .int v, .int (J 9 1), .int (J 9 2), .int (J 9 3), .int (J 9 4), .int (J 9 5)])) = jp M a (j_c J 0 v) := jp_up 0 (by decide) _ (by simp [jc, j_c, upd]) (fun j hj hk => by
  rcases (show j = 0 ∨ j = 1 ∨ j = 2 ∨ j = 3 ∨ j = 4 ∨ j = 5 ∨ j = 6 ∨ j = 7 ∨ j = 8 ∨ j = 9 by omega) with rfl | rfl | rfl | rfl | rfl | rfl | rfl | rfl | rfl | rfl <;> first | (exact absurd rfl hk) | (simp [jc, j_c]))
theorem jw_c1 {M : gM} {a : Nat} {J : gJn} {v : Int32} : g_up (jp M a J) a (.inr (2, [.ref (a + 1), .ref (a + 2), .ref (a + 3), .ref (a + 4), .ref (a + 5), .ref (a + 6), .ref (a + 7), .ref (a + 8), .ref (a + 9), .int (J 9 0), .int v, .int (J 9 2), .int (J 9 3), .int (J 9 4), .int (J 9 5)])) = jp M a (j_c J 1 v) := jp_up 0 (by decide) _ (by simp [jc, j_c, upd]) (fun j hj hk => by
  rcases (show j = 0 ∨ j = 1 ∨ j = 2 ∨ j = 3 ∨ j = 4 ∨ j = 5 ∨ j = 6 ∨ j = 7 ∨ j = 8 ∨ j = 9 by omega) with rfl | rfl | rfl | rfl | rfl | rfl | rfl | rfl | rfl | rfl <;> first | (exact absurd rfl hk) | (simp [jc, j_c]))
theorem jw_c2 {M : gM} {a : Nat} {J : gJn} {v : Int32} : g_up (jp M a J) a (.inr (2, [.ref (a + 1), .ref (a + 2), .ref (a + 3), .ref (a + 4), .ref (a + 5), .ref (a + 6), .ref (a + 7), .ref (a + 8), .ref (a + 9), .int (J 9 0), .int (J 9 1), .int v, .int (J 9 3), .int (J 9 4), .int (J 9 5)])) = jp M a (j_c J 2 v) := jp_up 0 (by decide) _ (by simp [jc, j_c, upd]) (fun j hj hk => by
  rcases (show j = 0 ∨ j = 1 ∨ j = 2 ∨ j = 3 ∨ j = 4 ∨ j = 5 ∨ j = 6 ∨ j = 7 ∨ j = 8 ∨ j = 9 by omega) with rfl | rfl | rfl | rfl | rfl | rfl | rfl | rfl | rfl | rfl <;> first | (exact absurd rfl hk) | (simp [jc, j_c]))
theorem jw_c3 {M : gM} {a : Nat} {J : gJn} {v : Int32} : g_up (jp M a J) a (.inr (2, [.ref (a + 1), .ref (a + 2), .ref (a + 3), .ref (a + 4), .ref (a + 5), .ref (a + 6), .ref (a + 7), .ref (a + 8), .ref (a + 9), .int (J 9 0), .int (J 9 1), .int (J 9 2), .int v, .int (J 9 4), .int (J 9 5)])) = jp M a (j_c J 3 v) := jp_up 0 (by decide) _ (by simp [jc, j_c, upd]) (fun j hj hk => by
  rcases (show j = 0 ∨ j = 1 ∨ j = 2 ∨ j = 3 ∨ j = 4 ∨ j = 5 ∨ j = 6 ∨ j = 7 ∨ j = 8 ∨ j = 9 by omega) with rfl | rfl | rfl | rfl | rfl | rfl | rfl | rfl | rfl | rfl <;> first | (exact absurd rfl hk) | (simp [jc, j_c]))
theorem jw_c4 {M : gM} {a : Nat} {J : gJn} {v : Int32} : g_up (jp M a J) a (.inr (2, [.ref (a + 1), .ref (a + 2), .ref (a + 3), .ref (a + 4), .ref (a + 5), .ref (a + 6), .ref (a + 7), .ref (a + 8), .ref (a + 9), .int (J 9 0), .int (J 9 1), .int (J 9 2), .int (J 9 3), .int v, .int (J 9 5)])) = jp M a (j_c J 4 v) := jp_up 0 (by decide) _ (by simp [jc, j_c, upd]) (fun j hj hk => by
  rcases (show j = 0 ∨ j = 1 ∨ j = 2 ∨ j = 3 ∨ j = 4 ∨ j = 5 ∨ j = 6 ∨ j = 7 ∨ j = 8 ∨ j = 9 by omega) with rfl | rfl | rfl | rfl | rfl | rfl | rfl | rfl | rfl | rfl <;> first | (exact absurd rfl hk) | (simp [jc, j_c]))
theorem jw_c5 {M : gM} {a : Nat} {J : gJn} {v : Int32} : g_up (jp M a J) a (.inr (2, [.ref (a + 1), .ref (a + 2), .ref (a + 3), .ref (a + 4), .ref (a + 5), .ref (a + 6), .ref (a + 7), .ref (a + 8), .ref (a + 9), .int (J 9 0), .int (J 9 1), .int (J 9 2), .int (J 9 3), .int (J 9 4), .int v])) = jp M a (j_c J 5 v) := jp_up 0 (by decide) _ (by simp [jc, j_c, upd]) (fun j hj hk => by
  rcases (show j = 0 ∨ j = 1 ∨ j = 2 ∨ j = 3 ∨ j = 4 ∨ j = 5 ∨ j = 6 ∨ j = 7 ∨ j = 8 ∨ j = 9 by omega) with rfl | rfl | rfl | rfl | rfl | rfl | rfl | rfl | rfl | rfl <;> first | (exact absurd rfl hk) | (simp [jc, j_c]))
