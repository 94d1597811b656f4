/-! ===== a Rule: its object, its steps, its stack: three cells from p on ===== -/
def rc (p n : Nat) (f : Nat → Int32) (g : Nat → Int64) (k : Nat) : va_E := match k with
  | 0 => .inr (6, [.ref (p + 1), .ref (p + 2)])
  | 1 => gI n f
  | _ => gJ 32 g
def rp (M : gM) (p n : Nat) (f : Nat → Int32) (g : Nat → Int64) : gM := (M.1, fun q => if p ≤ q ∧ q < p + 3 then rc p n f g (q - p) else M.2 q)
def rb (M : gM) (p : Nat) : Prop := 16 ≤ p ∧ p + 3 ≤ M.1
theorem rp_at {M : gM} {p n : Nat} {f : Nat → Int32} {g : Nat → Int64} (h : rb M p) (k : Nat) (hk : k < 3) : g_at (rp M p n f g) (p + k) (rc p n f g k) := by
  refine ⟨by have := h.1; omega, by have := h.2; show p + k < M.1; omega, ?_⟩
  show (if p ≤ p + k ∧ p + k < p + 3 then rc p n f g (p + k - p) else M.2 (p + k)) = _
  rw [if_pos ⟨by omega, by omega⟩, Nat.add_sub_cancel_left]
theorem jp_at_out {M : gM} {a : Nat} {J : gJn} {q : Nat} {e : va_E} (h : g_at M q e) (hq : q < a ∨ a + 10 ≤ q) : g_at (jp M a J) q e := ⟨h.1, h.2.1, by
  show (if a ≤ q ∧ q < a + 10 then jc a J (q - a) else M.2 q) = e
  rw [if_neg (by omega)]
  exact h.2.2⟩
theorem jp_up_out {M : gM} {a : Nat} {J : gJn} {q : Nat} {e : va_E} (hq : q < a ∨ a + 10 ≤ q) : g_up (jp M a J) q e = jp (g_up M q e) a J := by
  unfold g_up jp
  refine Prod.ext rfl (funext fun x => ?_)
  show (if x = q then e else if a ≤ x ∧ x < a + 10 then jc a J (x - a) else M.2 x) = (if a ≤ x ∧ x < a + 10 then jc a J (x - a) else if x = q then e else M.2 x)
  by_cases h1 : x = q
  · subst h1
    rw [if_pos rfl, if_neg (show ¬ (a ≤ x ∧ x < a + 10) by omega), if_pos rfl]
  · rw [if_neg h1, if_neg h1]
theorem rp_up {M : gM} {p n : Nat} {f : Nat → Int32} {g g' : Nat → Int64} : g_up (rp M p n f g) (p + 2) (gJ 32 g') = rp M p n f g' := by
  unfold g_up rp
  refine Prod.ext rfl (funext fun q => ?_)
  show (if q = p + 2 then gJ 32 g' else if p ≤ q ∧ q < p + 3 then rc p n f g (q - p) else M.2 q) = (if p ≤ q ∧ q < p + 3 then rc p n f g' (q - p) else M.2 q)
  by_cases h1 : q = p + 2
  · subst h1
    rw [if_pos rfl, if_pos ⟨by omega, by omega⟩, Nat.add_sub_cancel_left]
    rfl
  · rw [if_neg h1]
    by_cases h2 : p ≤ q ∧ q < p + 3
    · rw [if_pos h2, if_pos h2]
      rcases (show q - p = 0 ∨ q - p = 1 by omega) with h | h <;> rw [h] <;> rfl
    · rw [if_neg h2, if_neg h2]
theorem rb_at {M : gM} {a p n : Nat} {J : gJn} {f : Nat → Int32} {g : Nat → Int64} (h : rb M p) (hd : p + 3 ≤ a ∨ a + 10 ≤ p) (k : Nat) (hk : k < 3) : g_at (jp (rp M p n f g) a J) (p + k) (rc p n f g k) := jp_at_out (rp_at h k hk) (by omega)
theorem rb_up {M : gM} {a p n : Nat} {J : gJn} {f : Nat → Int32} {g g' : Nat → Int64} (hd : p + 3 ≤ a ∨ a + 10 ≤ p) : g_up (jp (rp M p n f g) a J) (p + 2) (gJ 32 g') = jp (rp M p n f g') a J := by
  rw [jp_up_out (by omega), rp_up]
def jsfF (f : Nat → Int32) (wd : Int32 → Int64) : Nat → Nat → Nat → (Nat → Int64) → Int64
  | _, 0, _, _ => 0
  | k, m + 1, top, op =>
    if f k ≤ -20 then
      if f k = -32 ∧ 0 < top then jsfF f wd (k + 1) m top (vp_updL op (top - 1) (if op (top - 1) = 0 then 1 else 0))
      else if f k = -33 ∧ 0 < top then op (top - 1)
      else if f k = -34 ∧ 1 < top then (if op (top - 1) = 0 then jsfF f wd (k + 1) m 0 op else op (top - 2))
      else if 1 < top then jsfF f wd (k + 1) m (top - 1) (vp_updL op (top - 2) (j_join (f k) (op (top - 2)) (op (top - 1))))
      else jsfF f wd (k + 1) m top op
    else if top < 32 then jsfF f wd (k + 1) m (top + 1) (vp_updL op top (if f k < 0 then wd (-2 - f k) else (f k).toInt64))
    else jsfF f wd (k + 1) m top op
theorem nI_p1 {t : Nat} (h : 0 < t) : nI t - 1 = nI (t - 1) := by
  obtain ⟨u, rfl⟩ : ∃ u, t = u + 1 := ⟨t - 1, by omega⟩
  exact nI_pred u
theorem nI_p2 {t : Nat} (h : 1 < t) : nI t - 2 = nI (t - 2) := by
  obtain ⟨u, rfl⟩ : ∃ u, t = u + 2 := ⟨t - 2, by omega⟩
  have := pk_sub (a := u + 2) (b := 2) (by omega)
  exact this
set_option maxRecDepth 100000 in
set_option maxHeartbeats 4000000 in
theorem c_X6_sumFor {M : gM} {a p n R bb r : Nat} {pn : Nat → Nat} {J : gJn} {f : Nat → Int32} {g : Nat → Int64} (set : Int32) (hb : jb M a) (hr0 : rb M p) (hd : p + 3 ≤ a ∨ a + 10 ≤ p) (hn : n < 2 ^ 31) (hR : J 9 2 = nI R) (hR6 : R ≤ 6) (hp : jpt J pn) (hbb : j_bob J = nI bb) (hb12 : bb < 12) (hr : r < 6) : SX 3 0 0 mX6_sumFor [.ref p, .ref a, .int (nI r), .int set] (jp (rp M p n f g) a J) (fun v M' => ∃ op : Nat → Int64, v = some (.long (jsfF f (j_word pn R bb J r set) 0 n 0 g)) ∧ M' = jp (rp M p n f op) a J) := by
  refine SX.intro [some (.ref p), some (.ref a), some (.int (nI r)), some (.int set), none, none, none] (by decide +kernel) (Nat.le_of_ble_eq_true rfl) rfl (fun E hE hQ => ?_)
  have loop : ∀ (m k top : Nat) (op : Nat → Int64) (l6 : Option Value), k + m = n → top ≤ 32 → jsfF f (j_word pn R bb J r set) k m top op = jsfF f (j_word pn R bb J r set) 0 n 0 g → RX E mX6_sumFor.2.2.1 0 0 6 [some (.ref p), some (.ref a), some (.int (nI r)), some (.int set), some (.int (nI top)), some (.int (nI k)), l6] [] (jp (rp M p n f op) a J) := by
    intro m
    induction m with
    | zero =>
      intro k top op l6 hk ht hF
      refine rx_iload hE dX6_sumFor_6 rfl ?_
      refine rx_aload_n hE dX6_sumFor_8 (i := 0) rfl rfl ?_
      refine rx_getf hE dX6_sumFor_9 fl_X6_13_6 (rb_at hr0 hd 0 (by decide)) rfl ?_
      refine rx_alenI hE dX6_sumFor_12 (rb_at hr0 hd 1 (by decide)) ?_
      refine rx_icmp_ge (tgt := 230) hE dX6_sumFor_13 (by decide) (fun c13 => ?_) (fun c13 => absurd (nI_le (by omega) (by omega)) c13)
      refine rx_lconst hE dX6_sumFor_230 (v := 0) (by decide) ?_
      exact rx_lret hE hQ rfl dX6_sumFor_231 ⟨op, by rw [← hF]; rfl, rfl⟩
    | succ m ih =>
      intro k top op l6 hk ht hF
      refine rx_iload hE dX6_sumFor_6 rfl ?_
      refine rx_aload_n hE dX6_sumFor_8 (i := 0) rfl rfl ?_
      refine rx_getf hE dX6_sumFor_9 fl_X6_13_6 (rb_at hr0 hd 0 (by decide)) rfl ?_
      refine rx_alenI hE dX6_sumFor_12 (rb_at hr0 hd 1 (by decide)) ?_
      refine rx_icmp_ge (tgt := 230) hE dX6_sumFor_13 (by decide) (fun c13 => absurd c13 (nI_ge (by omega) (by omega))) (fun c13 => ?_)
      refine rx_aload_n hE dX6_sumFor_16 (i := 0) rfl rfl ?_
      refine rx_getf hE dX6_sumFor_17 fl_X6_13_6 (rb_at hr0 hd 0 (by decide)) rfl ?_
      refine rx_iload hE dX6_sumFor_20 rfl ?_
      refine rx_ialdN hE dX6_sumFor_22 (rb_at hr0 hd 1 (by decide)) (by omega) hn ?_
      refine rx_istore_6 hE dX6_sumFor_23 (by decide) rfl ?_
      refine rx_iload hE dX6_sumFor_25 rfl ?_
      refine rx_bipush hE dX6_sumFor_27 (v := -20) (by decide) ?_
      refine rx_icmp_le (tgt := 74) hE dX6_sumFor_29 (by decide) (fun c29 => ?_) (fun c29 => ?_)
      · refine rx_iload hE dX6_sumFor_74 rfl ?_
        refine rx_bipush hE dX6_sumFor_76 (v := -32) (by decide) ?_
        refine rx_icmp_ne (tgt := 120) hE dX6_sumFor_78 (by decide) (fun c78 => ?_) (fun c78 => ?_)
        · refine rx_iload hE dX6_sumFor_120 rfl ?_
          refine rx_bipush hE dX6_sumFor_122 (v := -33) (by decide) ?_
          refine rx_icmp_ne (tgt := 142) hE dX6_sumFor_124 (by decide) (fun c124 => ?_) (fun c124 => ?_)
          · refine rx_iload hE dX6_sumFor_142 rfl ?_
            refine rx_bipush hE dX6_sumFor_144 (v := -34) (by decide) ?_
            refine rx_icmp_ne (tgt := 185) hE dX6_sumFor_146 (by decide) (fun c146 => ?_) (fun c146 => ?_)
            · refine rx_iload hE dX6_sumFor_185 rfl ?_
              refine rx_iconst hE dX6_sumFor_187 (v := 1) (by decide) ?_
              refine rx_icmp_le (tgt := 224) hE dX6_sumFor_188 (by decide) (fun c188 => ?_) (fun c188 => ?_)
              · have h188 : ¬ 1 < top := fun q => absurd c188 (nI_ge (a := 1) (by omega) (by omega))
                refine rx_iinc_5 hE dX6_sumFor_224 (v := 1) (by decide) (by decide) rfl ?_
                rw [nI_1]
                refine rx_goto (tgt := 6) hE dX6_sumFor_227 (by decide) ?_
                exact ih (k + 1) _ _ _ (by omega) (by omega) (by rw [← hF]; clear hF ih; first | (simp [jsfF, j_tr, *]; done) | (simp_all [jsfF, j_tr]; done))
              · have h188 : 1 < top := Nat.lt_of_not_le (fun q => c188 (nI_le (b := 1) q (by omega)))
                refine rx_iinc_4 hE dX6_sumFor_191 (v := -1) (by decide) (by decide) rfl ?_
                rw [show nI top + -1 = nI (top - 1) from sb_m1 (by omega)]
                refine rx_aload_n hE dX6_sumFor_194 (i := 0) rfl rfl ?_
                refine rx_getf hE dX6_sumFor_195 fl_X6_9_6 (rb_at hr0 hd 0 (by decide)) rfl ?_
                refine rx_iload hE dX6_sumFor_198 rfl ?_
                refine rx_iconst hE dX6_sumFor_200 (v := 1) (by decide) ?_
                refine rx_isub hE dX6_sumFor_201 ?_
                rw [nI_p1 (show 0 < top - 1 by omega), show top - 1 - 1 = top - 2 by omega]
                refine rx_iload hE dX6_sumFor_202 rfl ?_
                refine rx_aload_n hE dX6_sumFor_204 (i := 0) rfl rfl ?_
                refine rx_getf hE dX6_sumFor_205 fl_X6_9_6 (rb_at hr0 hd 0 (by decide)) rfl ?_
                refine rx_iload hE dX6_sumFor_208 rfl ?_
                refine rx_iconst hE dX6_sumFor_210 (v := 1) (by decide) ?_
                refine rx_isub hE dX6_sumFor_211 ?_
                rw [nI_p1 (show 0 < top - 1 by omega), show top - 1 - 1 = top - 2 by omega]
                refine rx_laldN hE dX6_sumFor_212 (rb_at hr0 hd 2 (by decide)) (by omega) (by decide) ?_
                refine rx_aload_n hE dX6_sumFor_213 (i := 0) rfl rfl ?_
                refine rx_getf hE dX6_sumFor_214 fl_X6_9_6 (rb_at hr0 hd 0 (by decide)) rfl ?_
                refine rx_iload hE dX6_sumFor_217 rfl ?_
                refine rx_laldN hE dX6_sumFor_219 (rb_at hr0 hd 2 (by decide)) (by omega) (by decide) ?_
                refine rx_call0 (rx_callS (av := [.int _, .long _, .long _]) hE dX6_sumFor_220 lk_X6_27 (c_X6_joined _ _ _) np_X6_joined rfl rfl (by decide) (Nat.le_of_ble_eq_true rfl) rfl ?_)
                rintro v M' ⟨rfl, rfl⟩
                refine rx_lastN hE dX6_sumFor_223 (rb_at hr0 hd 2 (by decide)) (by omega) (by decide) ?_
                refine rx_mem (rb_up hd) ?_
                refine rx_iinc_5 hE dX6_sumFor_224 (v := 1) (by decide) (by decide) rfl ?_
                rw [nI_1]
                refine rx_goto (tgt := 6) hE dX6_sumFor_227 (by decide) ?_
                exact ih (k + 1) _ _ _ (by omega) (by omega) (by rw [← hF]; clear hF ih; first | (simp [jsfF, j_tr, *]; done) | (simp_all [jsfF, j_tr]; done))
            · refine rx_iload hE dX6_sumFor_149 rfl ?_
              refine rx_iconst hE dX6_sumFor_151 (v := 1) (by decide) ?_
              refine rx_icmp_le (tgt := 185) hE dX6_sumFor_152 (by decide) (fun c152 => ?_) (fun c152 => ?_)
              · have h152 : ¬ 1 < top := fun q => absurd c152 (nI_ge (a := 1) (by omega) (by omega))
                refine rx_iload hE dX6_sumFor_185 rfl ?_
                refine rx_iconst hE dX6_sumFor_187 (v := 1) (by decide) ?_
                refine rx_icmp_le (tgt := 224) hE dX6_sumFor_188 (by decide) (fun c188 => ?_) (fun c188 => ?_)
                · have h188 : ¬ 1 < top := fun q => absurd c188 (nI_ge (a := 1) (by omega) (by omega))
                  refine rx_iinc_5 hE dX6_sumFor_224 (v := 1) (by decide) (by decide) rfl ?_
                  rw [nI_1]
                  refine rx_goto (tgt := 6) hE dX6_sumFor_227 (by decide) ?_
                  exact ih (k + 1) _ _ _ (by omega) (by omega) (by rw [← hF]; clear hF ih; first | (simp [jsfF, j_tr, *]; done) | (simp_all [jsfF, j_tr]; done))
                · have h188 : 1 < top := Nat.lt_of_not_le (fun q => c188 (nI_le (b := 1) q (by omega)))
                  refine rx_iinc_4 hE dX6_sumFor_191 (v := -1) (by decide) (by decide) rfl ?_
                  rw [show nI top + -1 = nI (top - 1) from sb_m1 (by omega)]
                  refine rx_aload_n hE dX6_sumFor_194 (i := 0) rfl rfl ?_
                  refine rx_getf hE dX6_sumFor_195 fl_X6_9_6 (rb_at hr0 hd 0 (by decide)) rfl ?_
                  refine rx_iload hE dX6_sumFor_198 rfl ?_
                  refine rx_iconst hE dX6_sumFor_200 (v := 1) (by decide) ?_
                  refine rx_isub hE dX6_sumFor_201 ?_
                  rw [nI_p1 (show 0 < top - 1 by omega), show top - 1 - 1 = top - 2 by omega]
                  refine rx_iload hE dX6_sumFor_202 rfl ?_
                  refine rx_aload_n hE dX6_sumFor_204 (i := 0) rfl rfl ?_
                  refine rx_getf hE dX6_sumFor_205 fl_X6_9_6 (rb_at hr0 hd 0 (by decide)) rfl ?_
                  refine rx_iload hE dX6_sumFor_208 rfl ?_
                  refine rx_iconst hE dX6_sumFor_210 (v := 1) (by decide) ?_
                  refine rx_isub hE dX6_sumFor_211 ?_
                  rw [nI_p1 (show 0 < top - 1 by omega), show top - 1 - 1 = top - 2 by omega]
                  refine rx_laldN hE dX6_sumFor_212 (rb_at hr0 hd 2 (by decide)) (by omega) (by decide) ?_
                  refine rx_aload_n hE dX6_sumFor_213 (i := 0) rfl rfl ?_
                  refine rx_getf hE dX6_sumFor_214 fl_X6_9_6 (rb_at hr0 hd 0 (by decide)) rfl ?_
                  refine rx_iload hE dX6_sumFor_217 rfl ?_
                  refine rx_laldN hE dX6_sumFor_219 (rb_at hr0 hd 2 (by decide)) (by omega) (by decide) ?_
                  refine rx_call0 (rx_callS (av := [.int _, .long _, .long _]) hE dX6_sumFor_220 lk_X6_27 (c_X6_joined _ _ _) np_X6_joined rfl rfl (by decide) (Nat.le_of_ble_eq_true rfl) rfl ?_)
                  rintro v M' ⟨rfl, rfl⟩
                  refine rx_lastN hE dX6_sumFor_223 (rb_at hr0 hd 2 (by decide)) (by omega) (by decide) ?_
                  refine rx_mem (rb_up hd) ?_
                  refine rx_iinc_5 hE dX6_sumFor_224 (v := 1) (by decide) (by decide) rfl ?_
                  rw [nI_1]
                  refine rx_goto (tgt := 6) hE dX6_sumFor_227 (by decide) ?_
                  exact ih (k + 1) _ _ _ (by omega) (by omega) (by rw [← hF]; clear hF ih; first | (simp [jsfF, j_tr, *]; done) | (simp_all [jsfF, j_tr]; done))
              · have h152 : 1 < top := Nat.lt_of_not_le (fun q => c152 (nI_le (b := 1) q (by omega)))
                refine rx_aload_n hE dX6_sumFor_155 (i := 0) rfl rfl ?_
                refine rx_getf hE dX6_sumFor_156 fl_X6_9_6 (rb_at hr0 hd 0 (by decide)) rfl ?_
                refine rx_iload hE dX6_sumFor_159 rfl ?_
                refine rx_iconst hE dX6_sumFor_161 (v := 1) (by decide) ?_
                refine rx_isub hE dX6_sumFor_162 ?_
                rw [nI_p1 (show 0 < top by omega)]
                refine rx_laldN hE dX6_sumFor_163 (rb_at hr0 hd 2 (by decide)) (by omega) (by decide) ?_
                refine rx_lconst hE dX6_sumFor_164 (v := 0) (by decide) ?_
                refine rx_lcmp hE dX6_sumFor_165 ?_
                refine rx_if_eq (tgt := 179) hE dX6_sumFor_166 (by decide) (fun c166 => ?_) (fun c166 => ?_)
                · have c166 : op (top - 1) = 0 := (lg_cmp_eq _ _).mp c166
                  refine rx_iconst hE dX6_sumFor_179 (v := 0) (by decide) ?_
                  refine rx_int _ (nI 0) rfl ?_
                  refine rx_istore_4 hE dX6_sumFor_180 (by decide) rfl ?_
                  refine rx_goto (tgt := 224) hE dX6_sumFor_182 (by decide) ?_
                  refine rx_iinc_5 hE dX6_sumFor_224 (v := 1) (by decide) (by decide) rfl ?_
                  rw [nI_1]
                  refine rx_goto (tgt := 6) hE dX6_sumFor_227 (by decide) ?_
                  exact ih (k + 1) _ _ _ (by omega) (by omega) (by rw [← hF]; clear hF ih; first | (simp [jsfF, j_tr, *]; done) | (simp_all [jsfF, j_tr]; done))
                · have c166 : ¬ op (top - 1) = 0 := fun q => c166 ((lg_cmp_eq _ _).mpr q)
                  refine rx_aload_n hE dX6_sumFor_169 (i := 0) rfl rfl ?_
                  refine rx_getf hE dX6_sumFor_170 fl_X6_9_6 (rb_at hr0 hd 0 (by decide)) rfl ?_
                  refine rx_iload hE dX6_sumFor_173 rfl ?_
                  refine rx_iconst hE dX6_sumFor_175 (v := 2) (by decide) ?_
                  refine rx_isub hE dX6_sumFor_176 ?_
                  rw [nI_p2 h152]
                  refine rx_laldN hE dX6_sumFor_177 (rb_at hr0 hd 2 (by decide)) (by omega) (by decide) ?_
                  exact rx_lret hE hQ rfl dX6_sumFor_178 ⟨op, (by rw [← hF]; clear hF ih; first | (simp [jsfF, j_tr, *]; done) | (simp_all [jsfF, j_tr]; done)), rfl⟩
          · refine rx_iload hE dX6_sumFor_127 rfl ?_
            refine rx_if_le (tgt := 142) hE dX6_sumFor_129 (by decide) (fun c129 => ?_) (fun c129 => ?_)
            · have h129 : ¬ 0 < top := fun q => absurd c129 (nI_nle q (by omega))
              refine rx_iload hE dX6_sumFor_142 rfl ?_
              refine rx_bipush hE dX6_sumFor_144 (v := -34) (by decide) ?_
              refine rx_icmp_ne (tgt := 185) hE dX6_sumFor_146 (by decide) (fun c146 => ?_) (fun c146 => ?_)
              · refine rx_iload hE dX6_sumFor_185 rfl ?_
                refine rx_iconst hE dX6_sumFor_187 (v := 1) (by decide) ?_
                refine rx_icmp_le (tgt := 224) hE dX6_sumFor_188 (by decide) (fun c188 => ?_) (fun c188 => ?_)
                · have h188 : ¬ 1 < top := fun q => absurd c188 (nI_ge (a := 1) (by omega) (by omega))
                  refine rx_iinc_5 hE dX6_sumFor_224 (v := 1) (by decide) (by decide) rfl ?_
                  rw [nI_1]
                  refine rx_goto (tgt := 6) hE dX6_sumFor_227 (by decide) ?_
                  exact ih (k + 1) _ _ _ (by omega) (by omega) (by rw [← hF]; clear hF ih; first | (simp [jsfF, j_tr, *]; done) | (simp_all [jsfF, j_tr]; done))
                · have h188 : 1 < top := Nat.lt_of_not_le (fun q => c188 (nI_le (b := 1) q (by omega)))
                  refine rx_iinc_4 hE dX6_sumFor_191 (v := -1) (by decide) (by decide) rfl ?_
                  rw [show nI top + -1 = nI (top - 1) from sb_m1 (by omega)]
                  refine rx_aload_n hE dX6_sumFor_194 (i := 0) rfl rfl ?_
                  refine rx_getf hE dX6_sumFor_195 fl_X6_9_6 (rb_at hr0 hd 0 (by decide)) rfl ?_
                  refine rx_iload hE dX6_sumFor_198 rfl ?_
                  refine rx_iconst hE dX6_sumFor_200 (v := 1) (by decide) ?_
                  refine rx_isub hE dX6_sumFor_201 ?_
                  rw [nI_p1 (show 0 < top - 1 by omega), show top - 1 - 1 = top - 2 by omega]
                  refine rx_iload hE dX6_sumFor_202 rfl ?_
                  refine rx_aload_n hE dX6_sumFor_204 (i := 0) rfl rfl ?_
                  refine rx_getf hE dX6_sumFor_205 fl_X6_9_6 (rb_at hr0 hd 0 (by decide)) rfl ?_
                  refine rx_iload hE dX6_sumFor_208 rfl ?_
                  refine rx_iconst hE dX6_sumFor_210 (v := 1) (by decide) ?_
                  refine rx_isub hE dX6_sumFor_211 ?_
                  rw [nI_p1 (show 0 < top - 1 by omega), show top - 1 - 1 = top - 2 by omega]
                  refine rx_laldN hE dX6_sumFor_212 (rb_at hr0 hd 2 (by decide)) (by omega) (by decide) ?_
                  refine rx_aload_n hE dX6_sumFor_213 (i := 0) rfl rfl ?_
                  refine rx_getf hE dX6_sumFor_214 fl_X6_9_6 (rb_at hr0 hd 0 (by decide)) rfl ?_
                  refine rx_iload hE dX6_sumFor_217 rfl ?_
                  refine rx_laldN hE dX6_sumFor_219 (rb_at hr0 hd 2 (by decide)) (by omega) (by decide) ?_
                  refine rx_call0 (rx_callS (av := [.int _, .long _, .long _]) hE dX6_sumFor_220 lk_X6_27 (c_X6_joined _ _ _) np_X6_joined rfl rfl (by decide) (Nat.le_of_ble_eq_true rfl) rfl ?_)
                  rintro v M' ⟨rfl, rfl⟩
                  refine rx_lastN hE dX6_sumFor_223 (rb_at hr0 hd 2 (by decide)) (by omega) (by decide) ?_
                  refine rx_mem (rb_up hd) ?_
                  refine rx_iinc_5 hE dX6_sumFor_224 (v := 1) (by decide) (by decide) rfl ?_
                  rw [nI_1]
                  refine rx_goto (tgt := 6) hE dX6_sumFor_227 (by decide) ?_
                  exact ih (k + 1) _ _ _ (by omega) (by omega) (by rw [← hF]; clear hF ih; first | (simp [jsfF, j_tr, *]; done) | (simp_all [jsfF, j_tr]; done))
              · refine rx_iload hE dX6_sumFor_149 rfl ?_
                refine rx_iconst hE dX6_sumFor_151 (v := 1) (by decide) ?_
                refine rx_icmp_le (tgt := 185) hE dX6_sumFor_152 (by decide) (fun c152 => ?_) (fun c152 => ?_)
                · have h152 : ¬ 1 < top := fun q => absurd c152 (nI_ge (a := 1) (by omega) (by omega))
                  refine rx_iload hE dX6_sumFor_185 rfl ?_
                  refine rx_iconst hE dX6_sumFor_187 (v := 1) (by decide) ?_
                  refine rx_icmp_le (tgt := 224) hE dX6_sumFor_188 (by decide) (fun c188 => ?_) (fun c188 => ?_)
                  · have h188 : ¬ 1 < top := fun q => absurd c188 (nI_ge (a := 1) (by omega) (by omega))
                    refine rx_iinc_5 hE dX6_sumFor_224 (v := 1) (by decide) (by decide) rfl ?_
                    rw [nI_1]
                    refine rx_goto (tgt := 6) hE dX6_sumFor_227 (by decide) ?_
                    exact ih (k + 1) _ _ _ (by omega) (by omega) (by rw [← hF]; clear hF ih; first | (simp [jsfF, j_tr, *]; done) | (simp_all [jsfF, j_tr]; done))
                  · have h188 : 1 < top := Nat.lt_of_not_le (fun q => c188 (nI_le (b := 1) q (by omega)))
                    refine rx_iinc_4 hE dX6_sumFor_191 (v := -1) (by decide) (by decide) rfl ?_
                    rw [show nI top + -1 = nI (top - 1) from sb_m1 (by omega)]
                    refine rx_aload_n hE dX6_sumFor_194 (i := 0) rfl rfl ?_
                    refine rx_getf hE dX6_sumFor_195 fl_X6_9_6 (rb_at hr0 hd 0 (by decide)) rfl ?_
                    refine rx_iload hE dX6_sumFor_198 rfl ?_
                    refine rx_iconst hE dX6_sumFor_200 (v := 1) (by decide) ?_
                    refine rx_isub hE dX6_sumFor_201 ?_
                    rw [nI_p1 (show 0 < top - 1 by omega), show top - 1 - 1 = top - 2 by omega]
                    refine rx_iload hE dX6_sumFor_202 rfl ?_
                    refine rx_aload_n hE dX6_sumFor_204 (i := 0) rfl rfl ?_
                    refine rx_getf hE dX6_sumFor_205 fl_X6_9_6 (rb_at hr0 hd 0 (by decide)) rfl ?_
                    refine rx_iload hE dX6_sumFor_208 rfl ?_
                    refine rx_iconst hE dX6_sumFor_210 (v := 1) (by decide) ?_
                    refine rx_isub hE dX6_sumFor_211 ?_
                    rw [nI_p1 (show 0 < top - 1 by omega), show top - 1 - 1 = top - 2 by omega]
                    refine rx_laldN hE dX6_sumFor_212 (rb_at hr0 hd 2 (by decide)) (by omega) (by decide) ?_
                    refine rx_aload_n hE dX6_sumFor_213 (i := 0) rfl rfl ?_
                    refine rx_getf hE dX6_sumFor_214 fl_X6_9_6 (rb_at hr0 hd 0 (by decide)) rfl ?_
                    refine rx_iload hE dX6_sumFor_217 rfl ?_
                    refine rx_laldN hE dX6_sumFor_219 (rb_at hr0 hd 2 (by decide)) (by omega) (by decide) ?_
                    refine rx_call0 (rx_callS (av := [.int _, .long _, .long _]) hE dX6_sumFor_220 lk_X6_27 (c_X6_joined _ _ _) np_X6_joined rfl rfl (by decide) (Nat.le_of_ble_eq_true rfl) rfl ?_)
                    rintro v M' ⟨rfl, rfl⟩
                    refine rx_lastN hE dX6_sumFor_223 (rb_at hr0 hd 2 (by decide)) (by omega) (by decide) ?_
                    refine rx_mem (rb_up hd) ?_
                    refine rx_iinc_5 hE dX6_sumFor_224 (v := 1) (by decide) (by decide) rfl ?_
                    rw [nI_1]
                    refine rx_goto (tgt := 6) hE dX6_sumFor_227 (by decide) ?_
                    exact ih (k + 1) _ _ _ (by omega) (by omega) (by rw [← hF]; clear hF ih; first | (simp [jsfF, j_tr, *]; done) | (simp_all [jsfF, j_tr]; done))
                · have h152 : 1 < top := Nat.lt_of_not_le (fun q => c152 (nI_le (b := 1) q (by omega)))
                  refine rx_aload_n hE dX6_sumFor_155 (i := 0) rfl rfl ?_
                  refine rx_getf hE dX6_sumFor_156 fl_X6_9_6 (rb_at hr0 hd 0 (by decide)) rfl ?_
                  refine rx_iload hE dX6_sumFor_159 rfl ?_
                  refine rx_iconst hE dX6_sumFor_161 (v := 1) (by decide) ?_
                  refine rx_isub hE dX6_sumFor_162 ?_
                  rw [nI_p1 (show 0 < top by omega)]
                  refine rx_laldN hE dX6_sumFor_163 (rb_at hr0 hd 2 (by decide)) (by omega) (by decide) ?_
                  refine rx_lconst hE dX6_sumFor_164 (v := 0) (by decide) ?_
                  refine rx_lcmp hE dX6_sumFor_165 ?_
                  refine rx_if_eq (tgt := 179) hE dX6_sumFor_166 (by decide) (fun c166 => ?_) (fun c166 => ?_)
                  · have c166 : op (top - 1) = 0 := (lg_cmp_eq _ _).mp c166
                    refine rx_iconst hE dX6_sumFor_179 (v := 0) (by decide) ?_
                    refine rx_int _ (nI 0) rfl ?_
                    refine rx_istore_4 hE dX6_sumFor_180 (by decide) rfl ?_
                    refine rx_goto (tgt := 224) hE dX6_sumFor_182 (by decide) ?_
                    refine rx_iinc_5 hE dX6_sumFor_224 (v := 1) (by decide) (by decide) rfl ?_
                    rw [nI_1]
                    refine rx_goto (tgt := 6) hE dX6_sumFor_227 (by decide) ?_
                    exact ih (k + 1) _ _ _ (by omega) (by omega) (by rw [← hF]; clear hF ih; first | (simp [jsfF, j_tr, *]; done) | (simp_all [jsfF, j_tr]; done))
                  · have c166 : ¬ op (top - 1) = 0 := fun q => c166 ((lg_cmp_eq _ _).mpr q)
                    refine rx_aload_n hE dX6_sumFor_169 (i := 0) rfl rfl ?_
                    refine rx_getf hE dX6_sumFor_170 fl_X6_9_6 (rb_at hr0 hd 0 (by decide)) rfl ?_
                    refine rx_iload hE dX6_sumFor_173 rfl ?_
                    refine rx_iconst hE dX6_sumFor_175 (v := 2) (by decide) ?_
                    refine rx_isub hE dX6_sumFor_176 ?_
                    rw [nI_p2 h152]
                    refine rx_laldN hE dX6_sumFor_177 (rb_at hr0 hd 2 (by decide)) (by omega) (by decide) ?_
                    exact rx_lret hE hQ rfl dX6_sumFor_178 ⟨op, (by rw [← hF]; clear hF ih; first | (simp [jsfF, j_tr, *]; done) | (simp_all [jsfF, j_tr]; done)), rfl⟩
            · have h129 : 0 < top := Nat.pos_of_ne_zero (fun q => c129 (by rw [q]; decide))
              refine rx_aload_n hE dX6_sumFor_132 (i := 0) rfl rfl ?_
              refine rx_getf hE dX6_sumFor_133 fl_X6_9_6 (rb_at hr0 hd 0 (by decide)) rfl ?_
              refine rx_iload hE dX6_sumFor_136 rfl ?_
              refine rx_iconst hE dX6_sumFor_138 (v := 1) (by decide) ?_
              refine rx_isub hE dX6_sumFor_139 ?_
              rw [nI_p1 h129]
              refine rx_laldN hE dX6_sumFor_140 (rb_at hr0 hd 2 (by decide)) (by omega) (by decide) ?_
              exact rx_lret hE hQ rfl dX6_sumFor_141 ⟨op, (by rw [← hF]; clear hF ih; first | (simp [jsfF, j_tr, *]; done) | (simp_all [jsfF, j_tr]; done)), rfl⟩
        · refine rx_iload hE dX6_sumFor_81 rfl ?_
          refine rx_if_le (tgt := 120) hE dX6_sumFor_83 (by decide) (fun c83 => ?_) (fun c83 => ?_)
          · have h83 : ¬ 0 < top := fun q => absurd c83 (nI_nle q (by omega))
            refine rx_iload hE dX6_sumFor_120 rfl ?_
            refine rx_bipush hE dX6_sumFor_122 (v := -33) (by decide) ?_
            refine rx_icmp_ne (tgt := 142) hE dX6_sumFor_124 (by decide) (fun c124 => ?_) (fun c124 => ?_)
            · refine rx_iload hE dX6_sumFor_142 rfl ?_
              refine rx_bipush hE dX6_sumFor_144 (v := -34) (by decide) ?_
              refine rx_icmp_ne (tgt := 185) hE dX6_sumFor_146 (by decide) (fun c146 => ?_) (fun c146 => ?_)
              · refine rx_iload hE dX6_sumFor_185 rfl ?_
                refine rx_iconst hE dX6_sumFor_187 (v := 1) (by decide) ?_
                refine rx_icmp_le (tgt := 224) hE dX6_sumFor_188 (by decide) (fun c188 => ?_) (fun c188 => ?_)
                · have h188 : ¬ 1 < top := fun q => absurd c188 (nI_ge (a := 1) (by omega) (by omega))
                  refine rx_iinc_5 hE dX6_sumFor_224 (v := 1) (by decide) (by decide) rfl ?_
                  rw [nI_1]
                  refine rx_goto (tgt := 6) hE dX6_sumFor_227 (by decide) ?_
                  exact ih (k + 1) _ _ _ (by omega) (by omega) (by rw [← hF]; clear hF ih; first | (simp [jsfF, j_tr, *]; done) | (simp_all [jsfF, j_tr]; done))
                · have h188 : 1 < top := Nat.lt_of_not_le (fun q => c188 (nI_le (b := 1) q (by omega)))
                  refine rx_iinc_4 hE dX6_sumFor_191 (v := -1) (by decide) (by decide) rfl ?_
                  rw [show nI top + -1 = nI (top - 1) from sb_m1 (by omega)]
                  refine rx_aload_n hE dX6_sumFor_194 (i := 0) rfl rfl ?_
                  refine rx_getf hE dX6_sumFor_195 fl_X6_9_6 (rb_at hr0 hd 0 (by decide)) rfl ?_
                  refine rx_iload hE dX6_sumFor_198 rfl ?_
                  refine rx_iconst hE dX6_sumFor_200 (v := 1) (by decide) ?_
                  refine rx_isub hE dX6_sumFor_201 ?_
                  rw [nI_p1 (show 0 < top - 1 by omega), show top - 1 - 1 = top - 2 by omega]
                  refine rx_iload hE dX6_sumFor_202 rfl ?_
                  refine rx_aload_n hE dX6_sumFor_204 (i := 0) rfl rfl ?_
                  refine rx_getf hE dX6_sumFor_205 fl_X6_9_6 (rb_at hr0 hd 0 (by decide)) rfl ?_
                  refine rx_iload hE dX6_sumFor_208 rfl ?_
                  refine rx_iconst hE dX6_sumFor_210 (v := 1) (by decide) ?_
                  refine rx_isub hE dX6_sumFor_211 ?_
                  rw [nI_p1 (show 0 < top - 1 by omega), show top - 1 - 1 = top - 2 by omega]
                  refine rx_laldN hE dX6_sumFor_212 (rb_at hr0 hd 2 (by decide)) (by omega) (by decide) ?_
                  refine rx_aload_n hE dX6_sumFor_213 (i := 0) rfl rfl ?_
                  refine rx_getf hE dX6_sumFor_214 fl_X6_9_6 (rb_at hr0 hd 0 (by decide)) rfl ?_
                  refine rx_iload hE dX6_sumFor_217 rfl ?_
                  refine rx_laldN hE dX6_sumFor_219 (rb_at hr0 hd 2 (by decide)) (by omega) (by decide) ?_
                  refine rx_call0 (rx_callS (av := [.int _, .long _, .long _]) hE dX6_sumFor_220 lk_X6_27 (c_X6_joined _ _ _) np_X6_joined rfl rfl (by decide) (Nat.le_of_ble_eq_true rfl) rfl ?_)
                  rintro v M' ⟨rfl, rfl⟩
                  refine rx_lastN hE dX6_sumFor_223 (rb_at hr0 hd 2 (by decide)) (by omega) (by decide) ?_
                  refine rx_mem (rb_up hd) ?_
                  refine rx_iinc_5 hE dX6_sumFor_224 (v := 1) (by decide) (by decide) rfl ?_
                  rw [nI_1]
                  refine rx_goto (tgt := 6) hE dX6_sumFor_227 (by decide) ?_
                  exact ih (k + 1) _ _ _ (by omega) (by omega) (by rw [← hF]; clear hF ih; first | (simp [jsfF, j_tr, *]; done) | (simp_all [jsfF, j_tr]; done))
              · refine rx_iload hE dX6_sumFor_149 rfl ?_
                refine rx_iconst hE dX6_sumFor_151 (v := 1) (by decide) ?_
                refine rx_icmp_le (tgt := 185) hE dX6_sumFor_152 (by decide) (fun c152 => ?_) (fun c152 => ?_)
                · have h152 : ¬ 1 < top := fun q => absurd c152 (nI_ge (a := 1) (by omega) (by omega))
                  refine rx_iload hE dX6_sumFor_185 rfl ?_
                  refine rx_iconst hE dX6_sumFor_187 (v := 1) (by decide) ?_
                  refine rx_icmp_le (tgt := 224) hE dX6_sumFor_188 (by decide) (fun c188 => ?_) (fun c188 => ?_)
                  · have h188 : ¬ 1 < top := fun q => absurd c188 (nI_ge (a := 1) (by omega) (by omega))
                    refine rx_iinc_5 hE dX6_sumFor_224 (v := 1) (by decide) (by decide) rfl ?_
                    rw [nI_1]
                    refine rx_goto (tgt := 6) hE dX6_sumFor_227 (by decide) ?_
                    exact ih (k + 1) _ _ _ (by omega) (by omega) (by rw [← hF]; clear hF ih; first | (simp [jsfF, j_tr, *]; done) | (simp_all [jsfF, j_tr]; done))
                  · have h188 : 1 < top := Nat.lt_of_not_le (fun q => c188 (nI_le (b := 1) q (by omega)))
                    refine rx_iinc_4 hE dX6_sumFor_191 (v := -1) (by decide) (by decide) rfl ?_
                    rw [show nI top + -1 = nI (top - 1) from sb_m1 (by omega)]
                    refine rx_aload_n hE dX6_sumFor_194 (i := 0) rfl rfl ?_
                    refine rx_getf hE dX6_sumFor_195 fl_X6_9_6 (rb_at hr0 hd 0 (by decide)) rfl ?_
                    refine rx_iload hE dX6_sumFor_198 rfl ?_
                    refine rx_iconst hE dX6_sumFor_200 (v := 1) (by decide) ?_
                    refine rx_isub hE dX6_sumFor_201 ?_
                    rw [nI_p1 (show 0 < top - 1 by omega), show top - 1 - 1 = top - 2 by omega]
                    refine rx_iload hE dX6_sumFor_202 rfl ?_
                    refine rx_aload_n hE dX6_sumFor_204 (i := 0) rfl rfl ?_
                    refine rx_getf hE dX6_sumFor_205 fl_X6_9_6 (rb_at hr0 hd 0 (by decide)) rfl ?_
                    refine rx_iload hE dX6_sumFor_208 rfl ?_
                    refine rx_iconst hE dX6_sumFor_210 (v := 1) (by decide) ?_
                    refine rx_isub hE dX6_sumFor_211 ?_
                    rw [nI_p1 (show 0 < top - 1 by omega), show top - 1 - 1 = top - 2 by omega]
                    refine rx_laldN hE dX6_sumFor_212 (rb_at hr0 hd 2 (by decide)) (by omega) (by decide) ?_
                    refine rx_aload_n hE dX6_sumFor_213 (i := 0) rfl rfl ?_
                    refine rx_getf hE dX6_sumFor_214 fl_X6_9_6 (rb_at hr0 hd 0 (by decide)) rfl ?_
                    refine rx_iload hE dX6_sumFor_217 rfl ?_
                    refine rx_laldN hE dX6_sumFor_219 (rb_at hr0 hd 2 (by decide)) (by omega) (by decide) ?_
                    refine rx_call0 (rx_callS (av := [.int _, .long _, .long _]) hE dX6_sumFor_220 lk_X6_27 (c_X6_joined _ _ _) np_X6_joined rfl rfl (by decide) (Nat.le_of_ble_eq_true rfl) rfl ?_)
                    rintro v M' ⟨rfl, rfl⟩
                    refine rx_lastN hE dX6_sumFor_223 (rb_at hr0 hd 2 (by decide)) (by omega) (by decide) ?_
                    refine rx_mem (rb_up hd) ?_
                    refine rx_iinc_5 hE dX6_sumFor_224 (v := 1) (by decide) (by decide) rfl ?_
                    rw [nI_1]
                    refine rx_goto (tgt := 6) hE dX6_sumFor_227 (by decide) ?_
                    exact ih (k + 1) _ _ _ (by omega) (by omega) (by rw [← hF]; clear hF ih; first | (simp [jsfF, j_tr, *]; done) | (simp_all [jsfF, j_tr]; done))
                · have h152 : 1 < top := Nat.lt_of_not_le (fun q => c152 (nI_le (b := 1) q (by omega)))
                  refine rx_aload_n hE dX6_sumFor_155 (i := 0) rfl rfl ?_
                  refine rx_getf hE dX6_sumFor_156 fl_X6_9_6 (rb_at hr0 hd 0 (by decide)) rfl ?_
                  refine rx_iload hE dX6_sumFor_159 rfl ?_
                  refine rx_iconst hE dX6_sumFor_161 (v := 1) (by decide) ?_
                  refine rx_isub hE dX6_sumFor_162 ?_
                  rw [nI_p1 (show 0 < top by omega)]
                  refine rx_laldN hE dX6_sumFor_163 (rb_at hr0 hd 2 (by decide)) (by omega) (by decide) ?_
                  refine rx_lconst hE dX6_sumFor_164 (v := 0) (by decide) ?_
                  refine rx_lcmp hE dX6_sumFor_165 ?_
                  refine rx_if_eq (tgt := 179) hE dX6_sumFor_166 (by decide) (fun c166 => ?_) (fun c166 => ?_)
                  · have c166 : op (top - 1) = 0 := (lg_cmp_eq _ _).mp c166
                    refine rx_iconst hE dX6_sumFor_179 (v := 0) (by decide) ?_
                    refine rx_int _ (nI 0) rfl ?_
                    refine rx_istore_4 hE dX6_sumFor_180 (by decide) rfl ?_
                    refine rx_goto (tgt := 224) hE dX6_sumFor_182 (by decide) ?_
                    refine rx_iinc_5 hE dX6_sumFor_224 (v := 1) (by decide) (by decide) rfl ?_
                    rw [nI_1]
                    refine rx_goto (tgt := 6) hE dX6_sumFor_227 (by decide) ?_
                    exact ih (k + 1) _ _ _ (by omega) (by omega) (by rw [← hF]; clear hF ih; first | (simp [jsfF, j_tr, *]; done) | (simp_all [jsfF, j_tr]; done))
                  · have c166 : ¬ op (top - 1) = 0 := fun q => c166 ((lg_cmp_eq _ _).mpr q)
                    refine rx_aload_n hE dX6_sumFor_169 (i := 0) rfl rfl ?_
                    refine rx_getf hE dX6_sumFor_170 fl_X6_9_6 (rb_at hr0 hd 0 (by decide)) rfl ?_
                    refine rx_iload hE dX6_sumFor_173 rfl ?_
                    refine rx_iconst hE dX6_sumFor_175 (v := 2) (by decide) ?_
                    refine rx_isub hE dX6_sumFor_176 ?_
                    rw [nI_p2 h152]
                    refine rx_laldN hE dX6_sumFor_177 (rb_at hr0 hd 2 (by decide)) (by omega) (by decide) ?_
                    exact rx_lret hE hQ rfl dX6_sumFor_178 ⟨op, (by rw [← hF]; clear hF ih; first | (simp [jsfF, j_tr, *]; done) | (simp_all [jsfF, j_tr]; done)), rfl⟩
            · refine rx_iload hE dX6_sumFor_127 rfl ?_
              refine rx_if_le (tgt := 142) hE dX6_sumFor_129 (by decide) (fun c129 => ?_) (fun c129 => ?_)
              · have h129 : ¬ 0 < top := fun q => absurd c129 (nI_nle q (by omega))
                refine rx_iload hE dX6_sumFor_142 rfl ?_
                refine rx_bipush hE dX6_sumFor_144 (v := -34) (by decide) ?_
                refine rx_icmp_ne (tgt := 185) hE dX6_sumFor_146 (by decide) (fun c146 => ?_) (fun c146 => ?_)
                · refine rx_iload hE dX6_sumFor_185 rfl ?_
                  refine rx_iconst hE dX6_sumFor_187 (v := 1) (by decide) ?_
                  refine rx_icmp_le (tgt := 224) hE dX6_sumFor_188 (by decide) (fun c188 => ?_) (fun c188 => ?_)
                  · have h188 : ¬ 1 < top := fun q => absurd c188 (nI_ge (a := 1) (by omega) (by omega))
                    refine rx_iinc_5 hE dX6_sumFor_224 (v := 1) (by decide) (by decide) rfl ?_
                    rw [nI_1]
                    refine rx_goto (tgt := 6) hE dX6_sumFor_227 (by decide) ?_
                    exact ih (k + 1) _ _ _ (by omega) (by omega) (by rw [← hF]; clear hF ih; first | (simp [jsfF, j_tr, *]; done) | (simp_all [jsfF, j_tr]; done))
                  · have h188 : 1 < top := Nat.lt_of_not_le (fun q => c188 (nI_le (b := 1) q (by omega)))
                    refine rx_iinc_4 hE dX6_sumFor_191 (v := -1) (by decide) (by decide) rfl ?_
                    rw [show nI top + -1 = nI (top - 1) from sb_m1 (by omega)]
                    refine rx_aload_n hE dX6_sumFor_194 (i := 0) rfl rfl ?_
                    refine rx_getf hE dX6_sumFor_195 fl_X6_9_6 (rb_at hr0 hd 0 (by decide)) rfl ?_
                    refine rx_iload hE dX6_sumFor_198 rfl ?_
                    refine rx_iconst hE dX6_sumFor_200 (v := 1) (by decide) ?_
                    refine rx_isub hE dX6_sumFor_201 ?_
                    rw [nI_p1 (show 0 < top - 1 by omega), show top - 1 - 1 = top - 2 by omega]
                    refine rx_iload hE dX6_sumFor_202 rfl ?_
                    refine rx_aload_n hE dX6_sumFor_204 (i := 0) rfl rfl ?_
                    refine rx_getf hE dX6_sumFor_205 fl_X6_9_6 (rb_at hr0 hd 0 (by decide)) rfl ?_
                    refine rx_iload hE dX6_sumFor_208 rfl ?_
                    refine rx_iconst hE dX6_sumFor_210 (v := 1) (by decide) ?_
                    refine rx_isub hE dX6_sumFor_211 ?_
                    rw [nI_p1 (show 0 < top - 1 by omega), show top - 1 - 1 = top - 2 by omega]
                    refine rx_laldN hE dX6_sumFor_212 (rb_at hr0 hd 2 (by decide)) (by omega) (by decide) ?_
                    refine rx_aload_n hE dX6_sumFor_213 (i := 0) rfl rfl ?_
                    refine rx_getf hE dX6_sumFor_214 fl_X6_9_6 (rb_at hr0 hd 0 (by decide)) rfl ?_
                    refine rx_iload hE dX6_sumFor_217 rfl ?_
                    refine rx_laldN hE dX6_sumFor_219 (rb_at hr0 hd 2 (by decide)) (by omega) (by decide) ?_
                    refine rx_call0 (rx_callS (av := [.int _, .long _, .long _]) hE dX6_sumFor_220 lk_X6_27 (c_X6_joined _ _ _) np_X6_joined rfl rfl (by decide) (Nat.le_of_ble_eq_true rfl) rfl ?_)
                    rintro v M' ⟨rfl, rfl⟩
                    refine rx_lastN hE dX6_sumFor_223 (rb_at hr0 hd 2 (by decide)) (by omega) (by decide) ?_
                    refine rx_mem (rb_up hd) ?_
                    refine rx_iinc_5 hE dX6_sumFor_224 (v := 1) (by decide) (by decide) rfl ?_
                    rw [nI_1]
                    refine rx_goto (tgt := 6) hE dX6_sumFor_227 (by decide) ?_
                    exact ih (k + 1) _ _ _ (by omega) (by omega) (by rw [← hF]; clear hF ih; first | (simp [jsfF, j_tr, *]; done) | (simp_all [jsfF, j_tr]; done))
                · refine rx_iload hE dX6_sumFor_149 rfl ?_
                  refine rx_iconst hE dX6_sumFor_151 (v := 1) (by decide) ?_
                  refine rx_icmp_le (tgt := 185) hE dX6_sumFor_152 (by decide) (fun c152 => ?_) (fun c152 => ?_)
                  · have h152 : ¬ 1 < top := fun q => absurd c152 (nI_ge (a := 1) (by omega) (by omega))
                    refine rx_iload hE dX6_sumFor_185 rfl ?_
                    refine rx_iconst hE dX6_sumFor_187 (v := 1) (by decide) ?_
                    refine rx_icmp_le (tgt := 224) hE dX6_sumFor_188 (by decide) (fun c188 => ?_) (fun c188 => ?_)
                    · have h188 : ¬ 1 < top := fun q => absurd c188 (nI_ge (a := 1) (by omega) (by omega))
                      refine rx_iinc_5 hE dX6_sumFor_224 (v := 1) (by decide) (by decide) rfl ?_
                      rw [nI_1]
                      refine rx_goto (tgt := 6) hE dX6_sumFor_227 (by decide) ?_
                      exact ih (k + 1) _ _ _ (by omega) (by omega) (by rw [← hF]; clear hF ih; first | (simp [jsfF, j_tr, *]; done) | (simp_all [jsfF, j_tr]; done))
                    · have h188 : 1 < top := Nat.lt_of_not_le (fun q => c188 (nI_le (b := 1) q (by omega)))
                      refine rx_iinc_4 hE dX6_sumFor_191 (v := -1) (by decide) (by decide) rfl ?_
                      rw [show nI top + -1 = nI (top - 1) from sb_m1 (by omega)]
                      refine rx_aload_n hE dX6_sumFor_194 (i := 0) rfl rfl ?_
                      refine rx_getf hE dX6_sumFor_195 fl_X6_9_6 (rb_at hr0 hd 0 (by decide)) rfl ?_
                      refine rx_iload hE dX6_sumFor_198 rfl ?_
                      refine rx_iconst hE dX6_sumFor_200 (v := 1) (by decide) ?_
                      refine rx_isub hE dX6_sumFor_201 ?_
                      rw [nI_p1 (show 0 < top - 1 by omega), show top - 1 - 1 = top - 2 by omega]
                      refine rx_iload hE dX6_sumFor_202 rfl ?_
                      refine rx_aload_n hE dX6_sumFor_204 (i := 0) rfl rfl ?_
                      refine rx_getf hE dX6_sumFor_205 fl_X6_9_6 (rb_at hr0 hd 0 (by decide)) rfl ?_
                      refine rx_iload hE dX6_sumFor_208 rfl ?_
                      refine rx_iconst hE dX6_sumFor_210 (v := 1) (by decide) ?_
                      refine rx_isub hE dX6_sumFor_211 ?_
                      rw [nI_p1 (show 0 < top - 1 by omega), show top - 1 - 1 = top - 2 by omega]
                      refine rx_laldN hE dX6_sumFor_212 (rb_at hr0 hd 2 (by decide)) (by omega) (by decide) ?_
                      refine rx_aload_n hE dX6_sumFor_213 (i := 0) rfl rfl ?_
                      refine rx_getf hE dX6_sumFor_214 fl_X6_9_6 (rb_at hr0 hd 0 (by decide)) rfl ?_
                      refine rx_iload hE dX6_sumFor_217 rfl ?_
                      refine rx_laldN hE dX6_sumFor_219 (rb_at hr0 hd 2 (by decide)) (by omega) (by decide) ?_
                      refine rx_call0 (rx_callS (av := [.int _, .long _, .long _]) hE dX6_sumFor_220 lk_X6_27 (c_X6_joined _ _ _) np_X6_joined rfl rfl (by decide) (Nat.le_of_ble_eq_true rfl) rfl ?_)
                      rintro v M' ⟨rfl, rfl⟩
                      refine rx_lastN hE dX6_sumFor_223 (rb_at hr0 hd 2 (by decide)) (by omega) (by decide) ?_
                      refine rx_mem (rb_up hd) ?_
                      refine rx_iinc_5 hE dX6_sumFor_224 (v := 1) (by decide) (by decide) rfl ?_
                      rw [nI_1]
                      refine rx_goto (tgt := 6) hE dX6_sumFor_227 (by decide) ?_
                      exact ih (k + 1) _ _ _ (by omega) (by omega) (by rw [← hF]; clear hF ih; first | (simp [jsfF, j_tr, *]; done) | (simp_all [jsfF, j_tr]; done))
                  · have h152 : 1 < top := Nat.lt_of_not_le (fun q => c152 (nI_le (b := 1) q (by omega)))
                    refine rx_aload_n hE dX6_sumFor_155 (i := 0) rfl rfl ?_
                    refine rx_getf hE dX6_sumFor_156 fl_X6_9_6 (rb_at hr0 hd 0 (by decide)) rfl ?_
                    refine rx_iload hE dX6_sumFor_159 rfl ?_
                    refine rx_iconst hE dX6_sumFor_161 (v := 1) (by decide) ?_
                    refine rx_isub hE dX6_sumFor_162 ?_
                    rw [nI_p1 (show 0 < top by omega)]
                    refine rx_laldN hE dX6_sumFor_163 (rb_at hr0 hd 2 (by decide)) (by omega) (by decide) ?_
                    refine rx_lconst hE dX6_sumFor_164 (v := 0) (by decide) ?_
                    refine rx_lcmp hE dX6_sumFor_165 ?_
                    refine rx_if_eq (tgt := 179) hE dX6_sumFor_166 (by decide) (fun c166 => ?_) (fun c166 => ?_)
                    · have c166 : op (top - 1) = 0 := (lg_cmp_eq _ _).mp c166
                      refine rx_iconst hE dX6_sumFor_179 (v := 0) (by decide) ?_
                      refine rx_int _ (nI 0) rfl ?_
                      refine rx_istore_4 hE dX6_sumFor_180 (by decide) rfl ?_
                      refine rx_goto (tgt := 224) hE dX6_sumFor_182 (by decide) ?_
                      refine rx_iinc_5 hE dX6_sumFor_224 (v := 1) (by decide) (by decide) rfl ?_
                      rw [nI_1]
                      refine rx_goto (tgt := 6) hE dX6_sumFor_227 (by decide) ?_
                      exact ih (k + 1) _ _ _ (by omega) (by omega) (by rw [← hF]; clear hF ih; first | (simp [jsfF, j_tr, *]; done) | (simp_all [jsfF, j_tr]; done))
                    · have c166 : ¬ op (top - 1) = 0 := fun q => c166 ((lg_cmp_eq _ _).mpr q)
                      refine rx_aload_n hE dX6_sumFor_169 (i := 0) rfl rfl ?_
                      refine rx_getf hE dX6_sumFor_170 fl_X6_9_6 (rb_at hr0 hd 0 (by decide)) rfl ?_
                      refine rx_iload hE dX6_sumFor_173 rfl ?_
                      refine rx_iconst hE dX6_sumFor_175 (v := 2) (by decide) ?_
                      refine rx_isub hE dX6_sumFor_176 ?_
                      rw [nI_p2 h152]
                      refine rx_laldN hE dX6_sumFor_177 (rb_at hr0 hd 2 (by decide)) (by omega) (by decide) ?_
                      exact rx_lret hE hQ rfl dX6_sumFor_178 ⟨op, (by rw [← hF]; clear hF ih; first | (simp [jsfF, j_tr, *]; done) | (simp_all [jsfF, j_tr]; done)), rfl⟩
              · have h129 : 0 < top := Nat.pos_of_ne_zero (fun q => c129 (by rw [q]; decide))
                refine rx_aload_n hE dX6_sumFor_132 (i := 0) rfl rfl ?_
                refine rx_getf hE dX6_sumFor_133 fl_X6_9_6 (rb_at hr0 hd 0 (by decide)) rfl ?_
                refine rx_iload hE dX6_sumFor_136 rfl ?_
                refine rx_iconst hE dX6_sumFor_138 (v := 1) (by decide) ?_
                refine rx_isub hE dX6_sumFor_139 ?_
                rw [nI_p1 h129]
                refine rx_laldN hE dX6_sumFor_140 (rb_at hr0 hd 2 (by decide)) (by omega) (by decide) ?_
                exact rx_lret hE hQ rfl dX6_sumFor_141 ⟨op, (by rw [← hF]; clear hF ih; first | (simp [jsfF, j_tr, *]; done) | (simp_all [jsfF, j_tr]; done)), rfl⟩
          · have h83 : 0 < top := Nat.pos_of_ne_zero (fun q => c83 (by rw [q]; decide))
            refine rx_aload_n hE dX6_sumFor_86 (i := 0) rfl rfl ?_
            refine rx_getf hE dX6_sumFor_87 fl_X6_9_6 (rb_at hr0 hd 0 (by decide)) rfl ?_
            refine rx_iload hE dX6_sumFor_90 rfl ?_
            refine rx_iconst hE dX6_sumFor_92 (v := 1) (by decide) ?_
            refine rx_isub hE dX6_sumFor_93 ?_
            rw [nI_p1 h83]
            refine rx_aload_n hE dX6_sumFor_94 (i := 0) rfl rfl ?_
            refine rx_getf hE dX6_sumFor_95 fl_X6_9_6 (rb_at hr0 hd 0 (by decide)) rfl ?_
            refine rx_iload hE dX6_sumFor_98 rfl ?_
            refine rx_iconst hE dX6_sumFor_100 (v := 1) (by decide) ?_
            refine rx_isub hE dX6_sumFor_101 ?_
            rw [nI_p1 h83]
            refine rx_laldN hE dX6_sumFor_102 (rb_at hr0 hd 2 (by decide)) (by omega) (by decide) ?_
            refine rx_lconst hE dX6_sumFor_103 (v := 0) (by decide) ?_
            refine rx_lcmp hE dX6_sumFor_104 ?_
            refine rx_if_ne (tgt := 112) hE dX6_sumFor_105 (by decide) (fun c105 => ?_) (fun c105 => ?_)
            · have c105 : ¬ op (top - 1) = 0 := fun q => c105 ((lg_cmp_eq _ _).mpr q)
              refine rx_iconst hE dX6_sumFor_112 (v := 0) (by decide) ?_
              refine rx_call0 (rx_callS (av := [.int _]) hE dX6_sumFor_113 lk_X6_23 (c_X6_truth _) np_X6_truth rfl rfl (by decide) (Nat.le_of_ble_eq_true rfl) rfl ?_)
              rintro v M' ⟨rfl, rfl⟩
              refine rx_lastN hE dX6_sumFor_116 (rb_at hr0 hd 2 (by decide)) (by omega) (by decide) ?_
              refine rx_mem (rb_up hd) ?_
              refine rx_goto (tgt := 224) hE dX6_sumFor_117 (by decide) ?_
              refine rx_iinc_5 hE dX6_sumFor_224 (v := 1) (by decide) (by decide) rfl ?_
              rw [nI_1]
              refine rx_goto (tgt := 6) hE dX6_sumFor_227 (by decide) ?_
              exact ih (k + 1) _ _ _ (by omega) (by omega) (by rw [← hF]; clear hF ih; first | (simp [jsfF, j_tr, *]; done) | (simp_all [jsfF, j_tr]; done))
            · have c105 : op (top - 1) = 0 := (lg_cmp_eq _ _).mp c105
              refine rx_iconst hE dX6_sumFor_108 (v := 1) (by decide) ?_
              refine rx_goto (tgt := 113) hE dX6_sumFor_109 (by decide) ?_
              refine rx_call0 (rx_callS (av := [.int _]) hE dX6_sumFor_113 lk_X6_23 (c_X6_truth _) np_X6_truth rfl rfl (by decide) (Nat.le_of_ble_eq_true rfl) rfl ?_)
              rintro v M' ⟨rfl, rfl⟩
              refine rx_lastN hE dX6_sumFor_116 (rb_at hr0 hd 2 (by decide)) (by omega) (by decide) ?_
              refine rx_mem (rb_up hd) ?_
              refine rx_goto (tgt := 224) hE dX6_sumFor_117 (by decide) ?_
              refine rx_iinc_5 hE dX6_sumFor_224 (v := 1) (by decide) (by decide) rfl ?_
              rw [nI_1]
              refine rx_goto (tgt := 6) hE dX6_sumFor_227 (by decide) ?_
              exact ih (k + 1) _ _ _ (by omega) (by omega) (by rw [← hF]; clear hF ih; first | (simp [jsfF, j_tr, *]; done) | (simp_all [jsfF, j_tr]; done))
      · refine rx_iload hE dX6_sumFor_32 rfl ?_
        refine rx_bipush hE dX6_sumFor_34 (v := 32) (by decide) ?_
        refine rx_icmp_ge (tgt := 224) hE dX6_sumFor_36 (by decide) (fun c36 => ?_) (fun c36 => ?_)
        · have h36 : ¬ top < 32 := fun q => absurd c36 (nI_ge (b := 32) (by omega) (by omega))
          refine rx_iinc_5 hE dX6_sumFor_224 (v := 1) (by decide) (by decide) rfl ?_
          rw [nI_1]
          refine rx_goto (tgt := 6) hE dX6_sumFor_227 (by decide) ?_
          exact ih (k + 1) _ _ _ (by omega) (by omega) (by rw [← hF]; clear hF ih; first | (simp [jsfF, j_tr, *]; done) | (simp_all [jsfF, j_tr]; done))
        · have h36 : top < 32 := Nat.lt_of_not_le (fun q => c36 (nI_le (a := 32) q (by omega)))
          refine rx_aload_n hE dX6_sumFor_39 (i := 0) rfl rfl ?_
          refine rx_getf hE dX6_sumFor_40 fl_X6_9_6 (rb_at hr0 hd 0 (by decide)) rfl ?_
          refine rx_iload hE dX6_sumFor_43 rfl ?_
          refine rx_iload hE dX6_sumFor_45 rfl ?_
          refine rx_if_lt (tgt := 56) hE dX6_sumFor_47 (by decide) (fun c47 => ?_) (fun c47 => ?_)
          · refine rx_aload_n hE dX6_sumFor_56 (i := 1) rfl rfl ?_
            refine rx_bipush hE dX6_sumFor_57 (v := -2) (by decide) ?_
            refine rx_iload hE dX6_sumFor_59 rfl ?_
            refine rx_isub hE dX6_sumFor_61 ?_
            refine rx_iload_n hE dX6_sumFor_62 (i := 2) rfl rfl ?_
            refine rx_iload_n hE dX6_sumFor_63 (i := 3) rfl rfl ?_
            refine rx_call0 (rx_callV (av := [.int _, .int (nI r), .int _]) hE dX6_sumFor_64 lk_X6_17 (c_X2_wordFor _ _ hb hR hR6 hp hbb hb12 hr) (jp_o hb) np_X2_wordFor rfl rfl (by decide) (Nat.le_of_ble_eq_true rfl) rfl ?_)
            rintro v M' ⟨rfl, rfl⟩
            refine rx_lastN hE dX6_sumFor_67 (rb_at hr0 hd 2 (by decide)) h36 (by decide) ?_
            refine rx_mem (rb_up hd) ?_
            refine rx_iinc_4 hE dX6_sumFor_68 (v := 1) (by decide) (by decide) rfl ?_
            rw [nI_1]
            refine rx_goto (tgt := 224) hE dX6_sumFor_71 (by decide) ?_
            refine rx_iinc_5 hE dX6_sumFor_224 (v := 1) (by decide) (by decide) rfl ?_
            rw [nI_1]
            refine rx_goto (tgt := 6) hE dX6_sumFor_227 (by decide) ?_
            exact ih (k + 1) _ _ _ (by omega) (by omega) (by rw [← hF]; clear hF ih; first | (simp [jsfF, j_tr, *]; done) | (simp_all [jsfF, j_tr]; done))
          · refine rx_iload hE dX6_sumFor_50 rfl ?_
            refine rx_i2l hE dX6_sumFor_52 ?_
            refine rx_goto (tgt := 67) hE dX6_sumFor_53 (by decide) ?_
            refine rx_lastN hE dX6_sumFor_67 (rb_at hr0 hd 2 (by decide)) h36 (by decide) ?_
            refine rx_mem (rb_up hd) ?_
            refine rx_iinc_4 hE dX6_sumFor_68 (v := 1) (by decide) (by decide) rfl ?_
            rw [nI_1]
            refine rx_goto (tgt := 224) hE dX6_sumFor_71 (by decide) ?_
            refine rx_iinc_5 hE dX6_sumFor_224 (v := 1) (by decide) (by decide) rfl ?_
            rw [nI_1]
            refine rx_goto (tgt := 6) hE dX6_sumFor_227 (by decide) ?_
            exact ih (k + 1) _ _ _ (by omega) (by omega) (by rw [← hF]; clear hF ih; first | (simp [jsfF, j_tr, *]; done) | (simp_all [jsfF, j_tr]; done))
  refine rx_iconst hE dX6_sumFor_0 (v := 0) (by decide) ?_
  refine rx_istore_4 hE dX6_sumFor_1 (by decide) rfl ?_
  refine rx_iconst hE dX6_sumFor_3 (v := 0) (by decide) ?_
  refine rx_istore_5 hE dX6_sumFor_4 (by decide) rfl ?_
  exact loop n 0 0 g none (by omega) (by omega) rfl
