/-! ===== the reference: its object and its 23 rows, 24 cells from 384 on; S k: the row in cell k, S 0 i: its field i; L 8, L 9: the rows of longs, L 0 0: drawX ===== -/
abbrev gS : Type := Nat → Nat → Int32
abbrev gLg : Type := Nat → Nat → Int64
def kc (S : gS) (L : gLg) (k : Nat) : va_E := match k with
  | 0 => .inr (10, [.ref 385, .int (S 0 1), .int (S 0 2), .ref 386, .ref 387, .ref 388, .ref 389, .ref 390, .int (S 0 8), .int (S 0 9), .int (S 0 10), .int (S 0 11), .int (S 0 12), .int (S 0 13), .int (S 0 14), .ref 391, .int (S 0 16), .ref 392, .int (S 0 18), .ref 393, .ref 394, .int (S 0 21), .int (S 0 22), .int (S 0 23), .int (S 0 24), .ref 395, .ref 396, .int (S 0 27), .ref 397, .ref 398, .ref 399, .int (S 0 31), .int (S 0 32), .ref 400, .ref 401, .ref 402, .ref 403, .long (L 0 0), .ref 404, .ref 405, .ref 406, .ref 407])
  | 1 => gB 400 (S 1)
  | 2 => gI 2400 (S 2)
  | 3 => gI 7 (S 3)
  | 4 => gI 288 (S 4)
  | 5 => gI 6 (S 5)
  | 6 => gI 90 (S 6)
  | 7 => gI 400 (S 7)
  | 8 => gJ 64 (L 8)
  | 9 => gJ 12 (L 9)
  | 10 => gI 121 (S 10)
  | 11 => gI 6 (S 11)
  | 12 => gI 880 (S 12)
  | 13 => gI 44 (S 13)
  | 14 => gI 7 (S 14)
  | 15 => gI 3 (S 15)
  | 16 => gI 50 (S 16)
  | 17 => gI 366 (S 17)
  | 18 => gZ 7 (S 18)
  | 19 => gI 42 (S 19)
  | 20 => gI 484 (S 20)
  | 21 => gI 4 (S 21)
  | 22 => gI 4 (S 22)
  | _ => gZ 4 (S 23)
def kp (M : gM) (S : gS) (L : gLg) : gM := zp M 384 24 (kc S L)
def k_s (S : gS) (k : Nat) (v : Nat → Int32) : gS := fun i => if i = k then v else S i
def k_f (S : gS) (i : Nat) (v : Int32) : gS := fun k => if k = 0 then upd (S 0) i v else S k
def k_l (L : gLg) (k : Nat) (v : Nat → Int64) : gLg := fun i => if i = k then v else L i
theorem kp_at {M : gM} {S : gS} {L : gLg} (h : 408 ≤ M.1) (k : Nat) (hk : k < 24) : g_at (kp M S L) (384 + k) (kc S L k) := by
  refine ⟨by omega, by show 384 + k < M.1; omega, ?_⟩
  show (if 384 ≤ 384 + k ∧ 384 + k < 384 + 24 then kc S L (384 + k - 384) else M.2 (384 + k)) = _
  rw [if_pos ⟨by omega, by omega⟩, Nat.add_sub_cancel_left]
theorem kp_up {M : gM} {S S' : gS} {L L' : gLg} (k : Nat) (hk : k < 24) (e : va_E) (he : e = kc S' L' k) (ho : ∀ j, j < 24 → j ≠ k → kc S' L' j = kc S L j) : g_up (kp M S L) (384 + k) e = kp M S' L' := by
  unfold g_up kp zp
  refine Prod.ext rfl (funext fun q => ?_)
  show (if q = 384 + k then e else if 384 ≤ q ∧ q < 384 + 24 then kc S L (q - 384) else M.2 q) = (if 384 ≤ q ∧ q < 384 + 24 then kc S' L' (q - 384) else M.2 q)
  by_cases h1 : q = 384 + k
  · subst h1
    rw [if_pos rfl, if_pos ⟨by omega, by omega⟩, Nat.add_sub_cancel_left]
    exact he
  · rw [if_neg h1]
    by_cases h2 : 384 ≤ q ∧ q < 384 + 24
    · rw [if_pos h2, if_pos h2]
      exact (ho (q - 384) (by omega) (by omega)).symm
    · rw [if_neg h2, if_neg h2]
theorem k24 (j : Nat) (h : j < 24) : j = 0 ∨ j = 1 ∨ j = 2 ∨ j = 3 ∨ j = 4 ∨ j = 5 ∨ j = 6 ∨ j = 7 ∨ j = 8 ∨ j = 9 ∨ j = 10 ∨ j = 11 ∨ j = 12 ∨ j = 13 ∨ j = 14 ∨ j = 15 ∨ j = 16 ∨ j = 17 ∨ j = 18 ∨ j = 19 ∨ j = 20 ∨ j = 21 ∨ j = 22 ∨ j = 23 := by omega
theorem kp_o {M : gM} {S : gS} {L : gLg} (h : 408 ≤ M.1) : g_at (kp M S L) 384 (kc S L 0) := kp_at h 0 (by decide)
theorem kp_1 {M : gM} {S : gS} {L : gLg} (h : 408 ≤ M.1) : g_at (kp M S L) 385 (gB 400 (S 1)) := kp_at h 1 (by decide)
theorem kw_1 {M : gM} {S : gS} {L : gLg} {v : Nat → Int32} : g_up (kp M S L) 385 (gB 400 v) = kp M (k_s S 1 v) L := kp_up 1 (by decide) _ rfl (fun j hj hk => by
  rcases k24 j hj with rfl | rfl | rfl | rfl | rfl | rfl | rfl | rfl | rfl | rfl | rfl | rfl | rfl | rfl | rfl | rfl | rfl | rfl | rfl | rfl | rfl | rfl | rfl | rfl <;> first | exact absurd rfl hk | rfl)
theorem kp_2 {M : gM} {S : gS} {L : gLg} (h : 408 ≤ M.1) : g_at (kp M S L) 386 (gI 2400 (S 2)) := kp_at h 2 (by decide)
theorem kw_2 {M : gM} {S : gS} {L : gLg} {v : Nat → Int32} : g_up (kp M S L) 386 (gI 2400 v) = kp M (k_s S 2 v) L := kp_up 2 (by decide) _ rfl (fun j hj hk => by
  rcases k24 j hj with rfl | rfl | rfl | rfl | rfl | rfl | rfl | rfl | rfl | rfl | rfl | rfl | rfl | rfl | rfl | rfl | rfl | rfl | rfl | rfl | rfl | rfl | rfl | rfl <;> first | exact absurd rfl hk | rfl)
theorem kp_3 {M : gM} {S : gS} {L : gLg} (h : 408 ≤ M.1) : g_at (kp M S L) 387 (gI 7 (S 3)) := kp_at h 3 (by decide)
theorem kw_3 {M : gM} {S : gS} {L : gLg} {v : Nat → Int32} : g_up (kp M S L) 387 (gI 7 v) = kp M (k_s S 3 v) L := kp_up 3 (by decide) _ rfl (fun j hj hk => by
  rcases k24 j hj with rfl | rfl | rfl | rfl | rfl | rfl | rfl | rfl | rfl | rfl | rfl | rfl | rfl | rfl | rfl | rfl | rfl | rfl | rfl | rfl | rfl | rfl | rfl | rfl <;> first | exact absurd rfl hk | rfl)
theorem kp_4 {M : gM} {S : gS} {L : gLg} (h : 408 ≤ M.1) : g_at (kp M S L) 388 (gI 288 (S 4)) := kp_at h 4 (by decide)
theorem kw_4 {M : gM} {S : gS} {L : gLg} {v : Nat → Int32} : g_up (kp M S L) 388 (gI 288 v) = kp M (k_s S 4 v) L := kp_up 4 (by decide) _ rfl (fun j hj hk => by
  rcases k24 j hj with rfl | rfl | rfl | rfl | rfl | rfl | rfl | rfl | rfl | rfl | rfl | rfl | rfl | rfl | rfl | rfl | rfl | rfl | rfl | rfl | rfl | rfl | rfl | rfl <;> first | exact absurd rfl hk | rfl)
theorem kp_5 {M : gM} {S : gS} {L : gLg} (h : 408 ≤ M.1) : g_at (kp M S L) 389 (gI 6 (S 5)) := kp_at h 5 (by decide)
theorem kw_5 {M : gM} {S : gS} {L : gLg} {v : Nat → Int32} : g_up (kp M S L) 389 (gI 6 v) = kp M (k_s S 5 v) L := kp_up 5 (by decide) _ rfl (fun j hj hk => by
  rcases k24 j hj with rfl | rfl | rfl | rfl | rfl | rfl | rfl | rfl | rfl | rfl | rfl | rfl | rfl | rfl | rfl | rfl | rfl | rfl | rfl | rfl | rfl | rfl | rfl | rfl <;> first | exact absurd rfl hk | rfl)
theorem kp_6 {M : gM} {S : gS} {L : gLg} (h : 408 ≤ M.1) : g_at (kp M S L) 390 (gI 90 (S 6)) := kp_at h 6 (by decide)
theorem kw_6 {M : gM} {S : gS} {L : gLg} {v : Nat → Int32} : g_up (kp M S L) 390 (gI 90 v) = kp M (k_s S 6 v) L := kp_up 6 (by decide) _ rfl (fun j hj hk => by
  rcases k24 j hj with rfl | rfl | rfl | rfl | rfl | rfl | rfl | rfl | rfl | rfl | rfl | rfl | rfl | rfl | rfl | rfl | rfl | rfl | rfl | rfl | rfl | rfl | rfl | rfl <;> first | exact absurd rfl hk | rfl)
theorem kp_7 {M : gM} {S : gS} {L : gLg} (h : 408 ≤ M.1) : g_at (kp M S L) 391 (gI 400 (S 7)) := kp_at h 7 (by decide)
theorem kw_7 {M : gM} {S : gS} {L : gLg} {v : Nat → Int32} : g_up (kp M S L) 391 (gI 400 v) = kp M (k_s S 7 v) L := kp_up 7 (by decide) _ rfl (fun j hj hk => by
  rcases k24 j hj with rfl | rfl | rfl | rfl | rfl | rfl | rfl | rfl | rfl | rfl | rfl | rfl | rfl | rfl | rfl | rfl | rfl | rfl | rfl | rfl | rfl | rfl | rfl | rfl <;> first | exact absurd rfl hk | rfl)
theorem kp_8 {M : gM} {S : gS} {L : gLg} (h : 408 ≤ M.1) : g_at (kp M S L) 392 (gJ 64 (L 8)) := kp_at h 8 (by decide)
theorem kw_8 {M : gM} {S : gS} {L : gLg} {v : Nat → Int64} : g_up (kp M S L) 392 (gJ 64 v) = kp M S (k_l L 8 v) := kp_up 8 (by decide) _ rfl (fun j hj hk => by
  rcases k24 j hj with rfl | rfl | rfl | rfl | rfl | rfl | rfl | rfl | rfl | rfl | rfl | rfl | rfl | rfl | rfl | rfl | rfl | rfl | rfl | rfl | rfl | rfl | rfl | rfl <;> first | exact absurd rfl hk | rfl)
theorem kp_9 {M : gM} {S : gS} {L : gLg} (h : 408 ≤ M.1) : g_at (kp M S L) 393 (gJ 12 (L 9)) := kp_at h 9 (by decide)
theorem kw_9 {M : gM} {S : gS} {L : gLg} {v : Nat → Int64} : g_up (kp M S L) 393 (gJ 12 v) = kp M S (k_l L 9 v) := kp_up 9 (by decide) _ rfl (fun j hj hk => by
  rcases k24 j hj with rfl | rfl | rfl | rfl | rfl | rfl | rfl | rfl | rfl | rfl | rfl | rfl | rfl | rfl | rfl | rfl | rfl | rfl | rfl | rfl | rfl | rfl | rfl | rfl <;> first | exact absurd rfl hk | rfl)
theorem kp_10 {M : gM} {S : gS} {L : gLg} (h : 408 ≤ M.1) : g_at (kp M S L) 394 (gI 121 (S 10)) := kp_at h 10 (by decide)
theorem kw_10 {M : gM} {S : gS} {L : gLg} {v : Nat → Int32} : g_up (kp M S L) 394 (gI 121 v) = kp M (k_s S 10 v) L := kp_up 10 (by decide) _ rfl (fun j hj hk => by
  rcases k24 j hj with rfl | rfl | rfl | rfl | rfl | rfl | rfl | rfl | rfl | rfl | rfl | rfl | rfl | rfl | rfl | rfl | rfl | rfl | rfl | rfl | rfl | rfl | rfl | rfl <;> first | exact absurd rfl hk | rfl)
theorem kp_11 {M : gM} {S : gS} {L : gLg} (h : 408 ≤ M.1) : g_at (kp M S L) 395 (gI 6 (S 11)) := kp_at h 11 (by decide)
theorem kw_11 {M : gM} {S : gS} {L : gLg} {v : Nat → Int32} : g_up (kp M S L) 395 (gI 6 v) = kp M (k_s S 11 v) L := kp_up 11 (by decide) _ rfl (fun j hj hk => by
  rcases k24 j hj with rfl | rfl | rfl | rfl | rfl | rfl | rfl | rfl | rfl | rfl | rfl | rfl | rfl | rfl | rfl | rfl | rfl | rfl | rfl | rfl | rfl | rfl | rfl | rfl <;> first | exact absurd rfl hk | rfl)
theorem kp_12 {M : gM} {S : gS} {L : gLg} (h : 408 ≤ M.1) : g_at (kp M S L) 396 (gI 880 (S 12)) := kp_at h 12 (by decide)
theorem kw_12 {M : gM} {S : gS} {L : gLg} {v : Nat → Int32} : g_up (kp M S L) 396 (gI 880 v) = kp M (k_s S 12 v) L := kp_up 12 (by decide) _ rfl (fun j hj hk => by
  rcases k24 j hj with rfl | rfl | rfl | rfl | rfl | rfl | rfl | rfl | rfl | rfl | rfl | rfl | rfl | rfl | rfl | rfl | rfl | rfl | rfl | rfl | rfl | rfl | rfl | rfl <;> first | exact absurd rfl hk | rfl)
theorem kp_13 {M : gM} {S : gS} {L : gLg} (h : 408 ≤ M.1) : g_at (kp M S L) 397 (gI 44 (S 13)) := kp_at h 13 (by decide)
theorem kw_13 {M : gM} {S : gS} {L : gLg} {v : Nat → Int32} : g_up (kp M S L) 397 (gI 44 v) = kp M (k_s S 13 v) L := kp_up 13 (by decide) _ rfl (fun j hj hk => by
  rcases k24 j hj with rfl | rfl | rfl | rfl | rfl | rfl | rfl | rfl | rfl | rfl | rfl | rfl | rfl | rfl | rfl | rfl | rfl | rfl | rfl | rfl | rfl | rfl | rfl | rfl <;> first | exact absurd rfl hk | rfl)
theorem kp_14 {M : gM} {S : gS} {L : gLg} (h : 408 ≤ M.1) : g_at (kp M S L) 398 (gI 7 (S 14)) := kp_at h 14 (by decide)
theorem kw_14 {M : gM} {S : gS} {L : gLg} {v : Nat → Int32} : g_up (kp M S L) 398 (gI 7 v) = kp M (k_s S 14 v) L := kp_up 14 (by decide) _ rfl (fun j hj hk => by
  rcases k24 j hj with rfl | rfl | rfl | rfl | rfl | rfl | rfl | rfl | rfl | rfl | rfl | rfl | rfl | rfl | rfl | rfl | rfl | rfl | rfl | rfl | rfl | rfl | rfl | rfl <;> first | exact absurd rfl hk | rfl)
theorem kp_15 {M : gM} {S : gS} {L : gLg} (h : 408 ≤ M.1) : g_at (kp M S L) 399 (gI 3 (S 15)) := kp_at h 15 (by decide)
theorem kw_15 {M : gM} {S : gS} {L : gLg} {v : Nat → Int32} : g_up (kp M S L) 399 (gI 3 v) = kp M (k_s S 15 v) L := kp_up 15 (by decide) _ rfl (fun j hj hk => by
  rcases k24 j hj with rfl | rfl | rfl | rfl | rfl | rfl | rfl | rfl | rfl | rfl | rfl | rfl | rfl | rfl | rfl | rfl | rfl | rfl | rfl | rfl | rfl | rfl | rfl | rfl <;> first | exact absurd rfl hk | rfl)
theorem kp_16 {M : gM} {S : gS} {L : gLg} (h : 408 ≤ M.1) : g_at (kp M S L) 400 (gI 50 (S 16)) := kp_at h 16 (by decide)
theorem kw_16 {M : gM} {S : gS} {L : gLg} {v : Nat → Int32} : g_up (kp M S L) 400 (gI 50 v) = kp M (k_s S 16 v) L := kp_up 16 (by decide) _ rfl (fun j hj hk => by
  rcases k24 j hj with rfl | rfl | rfl | rfl | rfl | rfl | rfl | rfl | rfl | rfl | rfl | rfl | rfl | rfl | rfl | rfl | rfl | rfl | rfl | rfl | rfl | rfl | rfl | rfl <;> first | exact absurd rfl hk | rfl)
theorem kp_17 {M : gM} {S : gS} {L : gLg} (h : 408 ≤ M.1) : g_at (kp M S L) 401 (gI 366 (S 17)) := kp_at h 17 (by decide)
theorem kw_17 {M : gM} {S : gS} {L : gLg} {v : Nat → Int32} : g_up (kp M S L) 401 (gI 366 v) = kp M (k_s S 17 v) L := kp_up 17 (by decide) _ rfl (fun j hj hk => by
  rcases k24 j hj with rfl | rfl | rfl | rfl | rfl | rfl | rfl | rfl | rfl | rfl | rfl | rfl | rfl | rfl | rfl | rfl | rfl | rfl | rfl | rfl | rfl | rfl | rfl | rfl <;> first | exact absurd rfl hk | rfl)
theorem kp_18 {M : gM} {S : gS} {L : gLg} (h : 408 ≤ M.1) : g_at (kp M S L) 402 (gZ 7 (S 18)) := kp_at h 18 (by decide)
theorem kw_18 {M : gM} {S : gS} {L : gLg} {v : Nat → Int32} : g_up (kp M S L) 402 (gZ 7 v) = kp M (k_s S 18 v) L := kp_up 18 (by decide) _ rfl (fun j hj hk => by
  rcases k24 j hj with rfl | rfl | rfl | rfl | rfl | rfl | rfl | rfl | rfl | rfl | rfl | rfl | rfl | rfl | rfl | rfl | rfl | rfl | rfl | rfl | rfl | rfl | rfl | rfl <;> first | exact absurd rfl hk | rfl)
theorem kp_19 {M : gM} {S : gS} {L : gLg} (h : 408 ≤ M.1) : g_at (kp M S L) 403 (gI 42 (S 19)) := kp_at h 19 (by decide)
theorem kw_19 {M : gM} {S : gS} {L : gLg} {v : Nat → Int32} : g_up (kp M S L) 403 (gI 42 v) = kp M (k_s S 19 v) L := kp_up 19 (by decide) _ rfl (fun j hj hk => by
  rcases k24 j hj with rfl | rfl | rfl | rfl | rfl | rfl | rfl | rfl | rfl | rfl | rfl | rfl | rfl | rfl | rfl | rfl | rfl | rfl | rfl | rfl | rfl | rfl | rfl | rfl <;> first | exact absurd rfl hk | rfl)
theorem kp_20 {M : gM} {S : gS} {L : gLg} (h : 408 ≤ M.1) : g_at (kp M S L) 404 (gI 484 (S 20)) := kp_at h 20 (by decide)
theorem kw_20 {M : gM} {S : gS} {L : gLg} {v : Nat → Int32} : g_up (kp M S L) 404 (gI 484 v) = kp M (k_s S 20 v) L := kp_up 20 (by decide) _ rfl (fun j hj hk => by
  rcases k24 j hj with rfl | rfl | rfl | rfl | rfl | rfl | rfl | rfl | rfl | rfl | rfl | rfl | rfl | rfl | rfl | rfl | rfl | rfl | rfl | rfl | rfl | rfl | rfl | rfl <;> first | exact absurd rfl hk | rfl)
theorem kp_21 {M : gM} {S : gS} {L : gLg} (h : 408 ≤ M.1) : g_at (kp M S L) 405 (gI 4 (S 21)) := kp_at h 21 (by decide)
theorem kw_21 {M : gM} {S : gS} {L : gLg} {v : Nat → Int32} : g_up (kp M S L) 405 (gI 4 v) = kp M (k_s S 21 v) L := kp_up 21 (by decide) _ rfl (fun j hj hk => by
  rcases k24 j hj with rfl | rfl | rfl | rfl | rfl | rfl | rfl | rfl | rfl | rfl | rfl | rfl | rfl | rfl | rfl | rfl | rfl | rfl | rfl | rfl | rfl | rfl | rfl | rfl <;> first | exact absurd rfl hk | rfl)
theorem kp_22 {M : gM} {S : gS} {L : gLg} (h : 408 ≤ M.1) : g_at (kp M S L) 406 (gI 4 (S 22)) := kp_at h 22 (by decide)
theorem kw_22 {M : gM} {S : gS} {L : gLg} {v : Nat → Int32} : g_up (kp M S L) 406 (gI 4 v) = kp M (k_s S 22 v) L := kp_up 22 (by decide) _ rfl (fun j hj hk => by
  rcases k24 j hj with rfl | rfl | rfl | rfl | rfl | rfl | rfl | rfl | rfl | rfl | rfl | rfl | rfl | rfl | rfl | rfl | rfl | rfl | rfl | rfl | rfl | rfl | rfl | rfl <;> first | exact absurd rfl hk | rfl)
theorem kp_23 {M : gM} {S : gS} {L : gLg} (h : 408 ≤ M.1) : g_at (kp M S L) 407 (gZ 4 (S 23)) := kp_at h 23 (by decide)
theorem kw_23 {M : gM} {S : gS} {L : gLg} {v : Nat → Int32} : g_up (kp M S L) 407 (gZ 4 v) = kp M (k_s S 23 v) L := kp_up 23 (by decide) _ rfl (fun j hj hk => by
  rcases k24 j hj with rfl | rfl | rfl | rfl | rfl | rfl | rfl | rfl | rfl | rfl | rfl | rfl | rfl | rfl | rfl | rfl | rfl | rfl | rfl | rfl | rfl | rfl | rfl | rfl <;> first | exact absurd rfl hk | rfl)
theorem kw_c1 {M : gM} {S : gS} {L : gLg} {v : Int32} : g_up (kp M S L) 384 (.inr (10, [.ref 385, .int v, .int (S 0 2), .ref 386, .ref 387, .ref 388, .ref 389, .ref 390, .int (S 0 8), .int (S 0 9), .int (S 0 10), .int (S 0 11), .int (S 0 12), .int (S 0 13), .int (S 0 14), .ref 391, .int (S 0 16), .ref 392, .int (S 0 18), .ref 393, .ref 394, .int (S 0 21), .int (S 0 22), .int (S 0 23), .int (S 0 24), .ref 395, .ref 396, .int (S 0 27), .ref 397, .ref 398, .ref 399, .int (S 0 31), .int (S 0 32), .ref 400, .ref 401, .ref 402, .ref 403, .long (L 0 0), .ref 404, .ref 405, .ref 406, .ref 407])) = kp M (k_f S 1 v) L := kp_up 0 (by decide) _ rfl (fun j hj hk => by
  rcases k24 j hj with rfl | rfl | rfl | rfl | rfl | rfl | rfl | rfl | rfl | rfl | rfl | rfl | rfl | rfl | rfl | rfl | rfl | rfl | rfl | rfl | rfl | rfl | rfl | rfl <;> first | exact absurd rfl hk | rfl)
theorem kw_c2 {M : gM} {S : gS} {L : gLg} {v : Int32} : g_up (kp M S L) 384 (.inr (10, [.ref 385, .int (S 0 1), .int v, .ref 386, .ref 387, .ref 388, .ref 389, .ref 390, .int (S 0 8), .int (S 0 9), .int (S 0 10), .int (S 0 11), .int (S 0 12), .int (S 0 13), .int (S 0 14), .ref 391, .int (S 0 16), .ref 392, .int (S 0 18), .ref 393, .ref 394, .int (S 0 21), .int (S 0 22), .int (S 0 23), .int (S 0 24), .ref 395, .ref 396, .int (S 0 27), .ref 397, .ref 398, .ref 399, .int (S 0 31), .int (S 0 32), .ref 400, .ref 401, .ref 402, .ref 403, .long (L 0 0), .ref 404, .ref 405, .ref 406, .ref 407])) = kp M (k_f S 2 v) L := kp_up 0 (by decide) _ rfl (fun j hj hk => by
  rcases k24 j hj with rfl | rfl | rfl | rfl | rfl | rfl | rfl | rfl | rfl | rfl | rfl | rfl | rfl | rfl | rfl | rfl | rfl | rfl | rfl | rfl | rfl | rfl | rfl | rfl <;> first | exact absurd rfl hk | rfl)
theorem kw_c8 {M : gM} {S : gS} {L : gLg} {v : Int32} : g_up (kp M S L) 384 (.inr (10, [.ref 385, .int (S 0 1), .int (S 0 2), .ref 386, .ref 387, .ref 388, .ref 389, .ref 390, .int v, .int (S 0 9), .int (S 0 10), .int (S 0 11), .int (S 0 12), .int (S 0 13), .int (S 0 14), .ref 391, .int (S 0 16), .ref 392, .int (S 0 18), .ref 393, .ref 394, .int (S 0 21), .int (S 0 22), .int (S 0 23), .int (S 0 24), .ref 395, .ref 396, .int (S 0 27), .ref 397, .ref 398, .ref 399, .int (S 0 31), .int (S 0 32), .ref 400, .ref 401, .ref 402, .ref 403, .long (L 0 0), .ref 404, .ref 405, .ref 406, .ref 407])) = kp M (k_f S 8 v) L := kp_up 0 (by decide) _ rfl (fun j hj hk => by
  rcases k24 j hj with rfl | rfl | rfl | rfl | rfl | rfl | rfl | rfl | rfl | rfl | rfl | rfl | rfl | rfl | rfl | rfl | rfl | rfl | rfl | rfl | rfl | rfl | rfl | rfl <;> first | exact absurd rfl hk | rfl)
theorem kw_c9 {M : gM} {S : gS} {L : gLg} {v : Int32} : g_up (kp M S L) 384 (.inr (10, [.ref 385, .int (S 0 1), .int (S 0 2), .ref 386, .ref 387, .ref 388, .ref 389, .ref 390, .int (S 0 8), .int v, .int (S 0 10), .int (S 0 11), .int (S 0 12), .int (S 0 13), .int (S 0 14), .ref 391, .int (S 0 16), .ref 392, .int (S 0 18), .ref 393, .ref 394, .int (S 0 21), .int (S 0 22), .int (S 0 23), .int (S 0 24), .ref 395, .ref 396, .int (S 0 27), .ref 397, .ref 398, .ref 399, .int (S 0 31), .int (S 0 32), .ref 400, .ref 401, .ref 402, .ref 403, .long (L 0 0), .ref 404, .ref 405, .ref 406, .ref 407])) = kp M (k_f S 9 v) L := kp_up 0 (by decide) _ rfl (fun j hj hk => by
  rcases k24 j hj with rfl | rfl | rfl | rfl | rfl | rfl | rfl | rfl | rfl | rfl | rfl | rfl | rfl | rfl | rfl | rfl | rfl | rfl | rfl | rfl | rfl | rfl | rfl | rfl <;> first | exact absurd rfl hk | rfl)
theorem kw_c10 {M : gM} {S : gS} {L : gLg} {v : Int32} : g_up (kp M S L) 384 (.inr (10, [.ref 385, .int (S 0 1), .int (S 0 2), .ref 386, .ref 387, .ref 388, .ref 389, .ref 390, .int (S 0 8), .int (S 0 9), .int v, .int (S 0 11), .int (S 0 12), .int (S 0 13), .int (S 0 14), .ref 391, .int (S 0 16), .ref 392, .int (S 0 18), .ref 393, .ref 394, .int (S 0 21), .int (S 0 22), .int (S 0 23), .int (S 0 24), .ref 395, .ref 396, .int (S 0 27), .ref 397, .ref 398, .ref 399, .int (S 0 31), .int (S 0 32), .ref 400, .ref 401, .ref 402, .ref 403, .long (L 0 0), .ref 404, .ref 405, .ref 406, .ref 407])) = kp M (k_f S 10 v) L := kp_up 0 (by decide) _ rfl (fun j hj hk => by
  rcases k24 j hj with rfl | rfl | rfl | rfl | rfl | rfl | rfl | rfl | rfl | rfl | rfl | rfl | rfl | rfl | rfl | rfl | rfl | rfl | rfl | rfl | rfl | rfl | rfl | rfl <;> first | exact absurd rfl hk | rfl)
theorem kw_c11 {M : gM} {S : gS} {L : gLg} {v : Int32} : g_up (kp M S L) 384 (.inr (10, [.ref 385, .int (S 0 1), .int (S 0 2), .ref 386, .ref 387, .ref 388, .ref 389, .ref 390, .int (S 0 8), .int (S 0 9), .int (S 0 10), .int v, .int (S 0 12), .int (S 0 13), .int (S 0 14), .ref 391, .int (S 0 16), .ref 392, .int (S 0 18), .ref 393, .ref 394, .int (S 0 21), .int (S 0 22), .int (S 0 23), .int (S 0 24), .ref 395, .ref 396, .int (S 0 27), .ref 397, .ref 398, .ref 399, .int (S 0 31), .int (S 0 32), .ref 400, .ref 401, .ref 402, .ref 403, .long (L 0 0), .ref 404, .ref 405, .ref 406, .ref 407])) = kp M (k_f S 11 v) L := kp_up 0 (by decide) _ rfl (fun j hj hk => by
  rcases k24 j hj with rfl | rfl | rfl | rfl | rfl | rfl | rfl | rfl | rfl | rfl | rfl | rfl | rfl | rfl | rfl | rfl | rfl | rfl | rfl | rfl | rfl | rfl | rfl | rfl <;> first | exact absurd rfl hk | rfl)
theorem kw_c12 {M : gM} {S : gS} {L : gLg} {v : Int32} : g_up (kp M S L) 384 (.inr (10, [.ref 385, .int (S 0 1), .int (S 0 2), .ref 386, .ref 387, .ref 388, .ref 389, .ref 390, .int (S 0 8), .int (S 0 9), .int (S 0 10), .int (S 0 11), .int v, .int (S 0 13), .int (S 0 14), .ref 391, .int (S 0 16), .ref 392, .int (S 0 18), .ref 393, .ref 394, .int (S 0 21), .int (S 0 22), .int (S 0 23), .int (S 0 24), .ref 395, .ref 396, .int (S 0 27), .ref 397, .ref 398, .ref 399, .int (S 0 31), .int (S 0 32), .ref 400, .ref 401, .ref 402, .ref 403, .long (L 0 0), .ref 404, .ref 405, .ref 406, .ref 407])) = kp M (k_f S 12 v) L := kp_up 0 (by decide) _ rfl (fun j hj hk => by
  rcases k24 j hj with rfl | rfl | rfl | rfl | rfl | rfl | rfl | rfl | rfl | rfl | rfl | rfl | rfl | rfl | rfl | rfl | rfl | rfl | rfl | rfl | rfl | rfl | rfl | rfl <;> first | exact absurd rfl hk | rfl)
theorem kw_c13 {M : gM} {S : gS} {L : gLg} {v : Int32} : g_up (kp M S L) 384 (.inr (10, [.ref 385, .int (S 0 1), .int (S 0 2), .ref 386, .ref 387, .ref 388, .ref 389, .ref 390, .int (S 0 8), .int (S 0 9), .int (S 0 10), .int (S 0 11), .int (S 0 12), .int v, .int (S 0 14), .ref 391, .int (S 0 16), .ref 392, .int (S 0 18), .ref 393, .ref 394, .int (S 0 21), .int (S 0 22), .int (S 0 23), .int (S 0 24), .ref 395, .ref 396, .int (S 0 27), .ref 397, .ref 398, .ref 399, .int (S 0 31), .int (S 0 32), .ref 400, .ref 401, .ref 402, .ref 403, .long (L 0 0), .ref 404, .ref 405, .ref 406, .ref 407])) = kp M (k_f S 13 v) L := kp_up 0 (by decide) _ rfl (fun j hj hk => by
  rcases k24 j hj with rfl | rfl | rfl | rfl | rfl | rfl | rfl | rfl | rfl | rfl | rfl | rfl | rfl | rfl | rfl | rfl | rfl | rfl | rfl | rfl | rfl | rfl | rfl | rfl <;> first | exact absurd rfl hk | rfl)
theorem kw_c14 {M : gM} {S : gS} {L : gLg} {v : Int32} : g_up (kp M S L) 384 (.inr (10, [.ref 385, .int (S 0 1), .int (S 0 2), .ref 386, .ref 387, .ref 388, .ref 389, .ref 390, .int (S 0 8), .int (S 0 9), .int (S 0 10), .int (S 0 11), .int (S 0 12), .int (S 0 13), .int v, .ref 391, .int (S 0 16), .ref 392, .int (S 0 18), .ref 393, .ref 394, .int (S 0 21), .int (S 0 22), .int (S 0 23), .int (S 0 24), .ref 395, .ref 396, .int (S 0 27), .ref 397, .ref 398, .ref 399, .int (S 0 31), .int (S 0 32), .ref 400, .ref 401, .ref 402, .ref 403, .long (L 0 0), .ref 404, .ref 405, .ref 406, .ref 407])) = kp M (k_f S 14 v) L := kp_up 0 (by decide) _ rfl (fun j hj hk => by
  rcases k24 j hj with rfl | rfl | rfl | rfl | rfl | rfl | rfl | rfl | rfl | rfl | rfl | rfl | rfl | rfl | rfl | rfl | rfl | rfl | rfl | rfl | rfl | rfl | rfl | rfl <;> first | exact absurd rfl hk | rfl)
theorem kw_c16 {M : gM} {S : gS} {L : gLg} {v : Int32} : g_up (kp M S L) 384 (.inr (10, [.ref 385, .int (S 0 1), .int (S 0 2), .ref 386, .ref 387, .ref 388, .ref 389, .ref 390, .int (S 0 8), .int (S 0 9), .int (S 0 10), .int (S 0 11), .int (S 0 12), .int (S 0 13), .int (S 0 14), .ref 391, .int v, .ref 392, .int (S 0 18), .ref 393, .ref 394, .int (S 0 21), .int (S 0 22), .int (S 0 23), .int (S 0 24), .ref 395, .ref 396, .int (S 0 27), .ref 397, .ref 398, .ref 399, .int (S 0 31), .int (S 0 32), .ref 400, .ref 401, .ref 402, .ref 403, .long (L 0 0), .ref 404, .ref 405, .ref 406, .ref 407])) = kp M (k_f S 16 v) L := kp_up 0 (by decide) _ rfl (fun j hj hk => by
  rcases k24 j hj with rfl | rfl | rfl | rfl | rfl | rfl | rfl | rfl | rfl | rfl | rfl | rfl | rfl | rfl | rfl | rfl | rfl | rfl | rfl | rfl | rfl | rfl | rfl | rfl <;> first | exact absurd rfl hk | rfl)
theorem kw_c18 {M : gM} {S : gS} {L : gLg} {v : Int32} : g_up (kp M S L) 384 (.inr (10, [.ref 385, .int (S 0 1), .int (S 0 2), .ref 386, .ref 387, .ref 388, .ref 389, .ref 390, .int (S 0 8), .int (S 0 9), .int (S 0 10), .int (S 0 11), .int (S 0 12), .int (S 0 13), .int (S 0 14), .ref 391, .int (S 0 16), .ref 392, .int v, .ref 393, .ref 394, .int (S 0 21), .int (S 0 22), .int (S 0 23), .int (S 0 24), .ref 395, .ref 396, .int (S 0 27), .ref 397, .ref 398, .ref 399, .int (S 0 31), .int (S 0 32), .ref 400, .ref 401, .ref 402, .ref 403, .long (L 0 0), .ref 404, .ref 405, .ref 406, .ref 407])) = kp M (k_f S 18 v) L := kp_up 0 (by decide) _ rfl (fun j hj hk => by
  rcases k24 j hj with rfl | rfl | rfl | rfl | rfl | rfl | rfl | rfl | rfl | rfl | rfl | rfl | rfl | rfl | rfl | rfl | rfl | rfl | rfl | rfl | rfl | rfl | rfl | rfl <;> first | exact absurd rfl hk | rfl)
theorem kw_c21 {M : gM} {S : gS} {L : gLg} {v : Int32} : g_up (kp M S L) 384 (.inr (10, [.ref 385, .int (S 0 1), .int (S 0 2), .ref 386, .ref 387, .ref 388, .ref 389, .ref 390, .int (S 0 8), .int (S 0 9), .int (S 0 10), .int (S 0 11), .int (S 0 12), .int (S 0 13), .int (S 0 14), .ref 391, .int (S 0 16), .ref 392, .int (S 0 18), .ref 393, .ref 394, .int v, .int (S 0 22), .int (S 0 23), .int (S 0 24), .ref 395, .ref 396, .int (S 0 27), .ref 397, .ref 398, .ref 399, .int (S 0 31), .int (S 0 32), .ref 400, .ref 401, .ref 402, .ref 403, .long (L 0 0), .ref 404, .ref 405, .ref 406, .ref 407])) = kp M (k_f S 21 v) L := kp_up 0 (by decide) _ rfl (fun j hj hk => by
  rcases k24 j hj with rfl | rfl | rfl | rfl | rfl | rfl | rfl | rfl | rfl | rfl | rfl | rfl | rfl | rfl | rfl | rfl | rfl | rfl | rfl | rfl | rfl | rfl | rfl | rfl <;> first | exact absurd rfl hk | rfl)
theorem kw_c22 {M : gM} {S : gS} {L : gLg} {v : Int32} : g_up (kp M S L) 384 (.inr (10, [.ref 385, .int (S 0 1), .int (S 0 2), .ref 386, .ref 387, .ref 388, .ref 389, .ref 390, .int (S 0 8), .int (S 0 9), .int (S 0 10), .int (S 0 11), .int (S 0 12), .int (S 0 13), .int (S 0 14), .ref 391, .int (S 0 16), .ref 392, .int (S 0 18), .ref 393, .ref 394, .int (S 0 21), .int v, .int (S 0 23), .int (S 0 24), .ref 395, .ref 396, .int (S 0 27), .ref 397, .ref 398, .ref 399, .int (S 0 31), .int (S 0 32), .ref 400, .ref 401, .ref 402, .ref 403, .long (L 0 0), .ref 404, .ref 405, .ref 406, .ref 407])) = kp M (k_f S 22 v) L := kp_up 0 (by decide) _ rfl (fun j hj hk => by
  rcases k24 j hj with rfl | rfl | rfl | rfl | rfl | rfl | rfl | rfl | rfl | rfl | rfl | rfl | rfl | rfl | rfl | rfl | rfl | rfl | rfl | rfl | rfl | rfl | rfl | rfl <;> first | exact absurd rfl hk | rfl)
theorem kw_c23 {M : gM} {S : gS} {L : gLg} {v : Int32} : g_up (kp M S L) 384 (.inr (10, [.ref 385, .int (S 0 1), .int (S 0 2), .ref 386, .ref 387, .ref 388, .ref 389, .ref 390, .int (S 0 8), .int (S 0 9), .int (S 0 10), .int (S 0 11), .int (S 0 12), .int (S 0 13), .int (S 0 14), .ref 391, .int (S 0 16), .ref 392, .int (S 0 18), .ref 393, .ref 394, .int (S 0 21), .int (S 0 22), .int v, .int (S 0 24), .ref 395, .ref 396, .int (S 0 27), .ref 397, .ref 398, .ref 399, .int (S 0 31), .int (S 0 32), .ref 400, .ref 401, .ref 402, .ref 403, .long (L 0 0), .ref 404, .ref 405, .ref 406, .ref 407])) = kp M (k_f S 23 v) L := kp_up 0 (by decide) _ rfl (fun j hj hk => by
  rcases k24 j hj with rfl | rfl | rfl | rfl | rfl | rfl | rfl | rfl | rfl | rfl | rfl | rfl | rfl | rfl | rfl | rfl | rfl | rfl | rfl | rfl | rfl | rfl | rfl | rfl <;> first | exact absurd rfl hk | rfl)
theorem kw_c24 {M : gM} {S : gS} {L : gLg} {v : Int32} : g_up (kp M S L) 384 (.inr (10, [.ref 385, .int (S 0 1), .int (S 0 2), .ref 386, .ref 387, .ref 388, .ref 389, .ref 390, .int (S 0 8), .int (S 0 9), .int (S 0 10), .int (S 0 11), .int (S 0 12), .int (S 0 13), .int (S 0 14), .ref 391, .int (S 0 16), .ref 392, .int (S 0 18), .ref 393, .ref 394, .int (S 0 21), .int (S 0 22), .int (S 0 23), .int v, .ref 395, .ref 396, .int (S 0 27), .ref 397, .ref 398, .ref 399, .int (S 0 31), .int (S 0 32), .ref 400, .ref 401, .ref 402, .ref 403, .long (L 0 0), .ref 404, .ref 405, .ref 406, .ref 407])) = kp M (k_f S 24 v) L := kp_up 0 (by decide) _ rfl (fun j hj hk => by
  rcases k24 j hj with rfl | rfl | rfl | rfl | rfl | rfl | rfl | rfl | rfl | rfl | rfl | rfl | rfl | rfl | rfl | rfl | rfl | rfl | rfl | rfl | rfl | rfl | rfl | rfl <;> first | exact absurd rfl hk | rfl)
theorem kw_c27 {M : gM} {S : gS} {L : gLg} {v : Int32} : g_up (kp M S L) 384 (.inr (10, [.ref 385, .int (S 0 1), .int (S 0 2), .ref 386, .ref 387, .ref 388, .ref 389, .ref 390, .int (S 0 8), .int (S 0 9), .int (S 0 10), .int (S 0 11), .int (S 0 12), .int (S 0 13), .int (S 0 14), .ref 391, .int (S 0 16), .ref 392, .int (S 0 18), .ref 393, .ref 394, .int (S 0 21), .int (S 0 22), .int (S 0 23), .int (S 0 24), .ref 395, .ref 396, .int v, .ref 397, .ref 398, .ref 399, .int (S 0 31), .int (S 0 32), .ref 400, .ref 401, .ref 402, .ref 403, .long (L 0 0), .ref 404, .ref 405, .ref 406, .ref 407])) = kp M (k_f S 27 v) L := kp_up 0 (by decide) _ rfl (fun j hj hk => by
  rcases k24 j hj with rfl | rfl | rfl | rfl | rfl | rfl | rfl | rfl | rfl | rfl | rfl | rfl | rfl | rfl | rfl | rfl | rfl | rfl | rfl | rfl | rfl | rfl | rfl | rfl <;> first | exact absurd rfl hk | rfl)
theorem kw_c31 {M : gM} {S : gS} {L : gLg} {v : Int32} : g_up (kp M S L) 384 (.inr (10, [.ref 385, .int (S 0 1), .int (S 0 2), .ref 386, .ref 387, .ref 388, .ref 389, .ref 390, .int (S 0 8), .int (S 0 9), .int (S 0 10), .int (S 0 11), .int (S 0 12), .int (S 0 13), .int (S 0 14), .ref 391, .int (S 0 16), .ref 392, .int (S 0 18), .ref 393, .ref 394, .int (S 0 21), .int (S 0 22), .int (S 0 23), .int (S 0 24), .ref 395, .ref 396, .int (S 0 27), .ref 397, .ref 398, .ref 399, .int v, .int (S 0 32), .ref 400, .ref 401, .ref 402, .ref 403, .long (L 0 0), .ref 404, .ref 405, .ref 406, .ref 407])) = kp M (k_f S 31 v) L := kp_up 0 (by decide) _ rfl (fun j hj hk => by
  rcases k24 j hj with rfl | rfl | rfl | rfl | rfl | rfl | rfl | rfl | rfl | rfl | rfl | rfl | rfl | rfl | rfl | rfl | rfl | rfl | rfl | rfl | rfl | rfl | rfl | rfl <;> first | exact absurd rfl hk | rfl)
theorem kw_c32 {M : gM} {S : gS} {L : gLg} {v : Int32} : g_up (kp M S L) 384 (.inr (10, [.ref 385, .int (S 0 1), .int (S 0 2), .ref 386, .ref 387, .ref 388, .ref 389, .ref 390, .int (S 0 8), .int (S 0 9), .int (S 0 10), .int (S 0 11), .int (S 0 12), .int (S 0 13), .int (S 0 14), .ref 391, .int (S 0 16), .ref 392, .int (S 0 18), .ref 393, .ref 394, .int (S 0 21), .int (S 0 22), .int (S 0 23), .int (S 0 24), .ref 395, .ref 396, .int (S 0 27), .ref 397, .ref 398, .ref 399, .int (S 0 31), .int v, .ref 400, .ref 401, .ref 402, .ref 403, .long (L 0 0), .ref 404, .ref 405, .ref 406, .ref 407])) = kp M (k_f S 32 v) L := kp_up 0 (by decide) _ rfl (fun j hj hk => by
  rcases k24 j hj with rfl | rfl | rfl | rfl | rfl | rfl | rfl | rfl | rfl | rfl | rfl | rfl | rfl | rfl | rfl | rfl | rfl | rfl | rfl | rfl | rfl | rfl | rfl | rfl <;> first | exact absurd rfl hk | rfl)
theorem kw_c37 {M : gM} {S : gS} {L : gLg} {v : Int64} : g_up (kp M S L) 384 (.inr (10, [.ref 385, .int (S 0 1), .int (S 0 2), .ref 386, .ref 387, .ref 388, .ref 389, .ref 390, .int (S 0 8), .int (S 0 9), .int (S 0 10), .int (S 0 11), .int (S 0 12), .int (S 0 13), .int (S 0 14), .ref 391, .int (S 0 16), .ref 392, .int (S 0 18), .ref 393, .ref 394, .int (S 0 21), .int (S 0 22), .int (S 0 23), .int (S 0 24), .ref 395, .ref 396, .int (S 0 27), .ref 397, .ref 398, .ref 399, .int (S 0 31), .int (S 0 32), .ref 400, .ref 401, .ref 402, .ref 403, .long v, .ref 404, .ref 405, .ref 406, .ref 407])) = kp M S (k_l L 0 (vp_updL (L 0) 0 v)) := kp_up 0 (by decide) _ rfl (fun j hj hk => by
  rcases k24 j hj with rfl | rfl | rfl | rfl | rfl | rfl | rfl | rfl | rfl | rfl | rfl | rfl | rfl | rfl | rfl | rfl | rfl | rfl | rfl | rfl | rfl | rfl | rfl | rfl <;> first | exact absurd rfl hk | rfl)
