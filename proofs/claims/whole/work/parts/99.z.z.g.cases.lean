/-! ===== the law: rows of its own, a case a row ===== -/
def mL (nm : String) : gMi := (⟨RL, nm, "([I)Z"⟩, cL_law, 4, ret)
abbrev lcl (k : Nat) : List (Option Value) := [some (.ref 0), some (.ref 16), some (.ref 384), some (.int (nI k))]
def g_X0 (L : Nat) (xs : Nat → Int32) (E : gE) : Prop := match E with
  | (_, _, _, R, s, _, args, below, _, _, Q, g) => va_X (g.2.2.2 0) L xs s s.heap ∧ g.2.2.1 = s.heap.size ∧ R = room_1 ∧ ∃ b : Nat, args = #[Value.ref b] ∧ Q = lw_Z below #[Value.ref b] s
theorem isM.at16 {M : gM} (h : isM M) : ∃ fs, g_at M 16 (.inr (9, fs)) := by
  obtain ⟨n, X, O, Q, G, S, L, hn, rfl⟩ := h
  exact ⟨_, xa_0 hn⟩
theorem isM.at384 {M : gM} (h : isM M) : ∃ fs, g_at M 384 (.inr (10, fs)) := by
  obtain ⟨n, X, O, Q, G, S, L, hn, rfl⟩ := h
  have := kp_o (M := xm n X O Q G S L) (S := S) (L := L) hn
  rw [kp_xm] at this
  exact ⟨_, this⟩
section LAW
variable {d nL a b pc : Nat} {mi : gMi} {E : gE} {ls : List (Option Value)} {st : List Value} {M : gM} {L : Nat} {xs : Nat → Int32}
theorem rx_ild0 (hE : g_E d mi E) (hX : g_X0 L xs E) {i : Int32} (hd : decode mi.2.1 pc = .ok (.iaload, 1)) (hin : vp_in i L) (kk : RX E nL a b (pc + 1) ls (.int (xs i.toNatClampNeg) :: st) M) : RX E nL a b pc ls (.int i :: .ref 0 :: st) M := by
  obtain ⟨p, l, e, R, s, m, args, below, meth, c, Q, g⟩ := E
  intro H locs arr cells slots hR hS hL hc hs
  have hp := hE.2.2.2.2.2.1.2.1 0 (by decide)
  exact va_sld (b := g.2.2.2 0) hE.1 hE.2.1 hX.1 (Nat.lt_of_lt_of_le hp hE.2.2.2.2.2.1.2.2.1) (Nat.not_le.mpr hp) hS hin hd (kk H locs arr cells slots hR hS hL hc hs)
theorem rx_len0 (hE : g_E d mi E) (hX : g_X0 L xs E) (hd : decode mi.2.1 pc = .ok (.arraylength, 1)) (kk : RX E nL a b (pc + 1) ls (.int (nI L) :: st) M) : RX E nL a b pc ls (.ref 0 :: st) M := by
  obtain ⟨p, l, e, R, s, m, args, below, meth, c, Q, g⟩ := E
  intro H locs arr cells slots hR hS hL hc hs
  have hp := hE.2.2.2.2.2.1.2.1 0 (by decide)
  exact va_slen (b := g.2.2.2 0) hE.1 hE.2.1 hX.1 (Nat.lt_of_lt_of_le hp hE.2.2.2.2.2.1.2.2.1) (Nat.not_le.mpr hp) hS hd (kk H locs arr cells slots hR hS hL hc hs)
theorem rx_scr (hE : g_E d mi E) (hX : g_X0 L xs E) (hL : L ≤ 3072) {k j : Nat} {z : Int} (h0 : decode mi.2.1 pc = .ok (.aload_n 0, 1)) (h1 : decode mi.2.1 (pc + 1) = .ok (.iload_n 3, 1)) (h2 : decode mi.2.1 (pc + 2) = .ok (.iconst z, 1)) (h3 : decode mi.2.1 (pc + 3) = .ok (.iadd, 1)) (h4 : decode mi.2.1 (pc + 4) = .ok (.iaload, 1)) (hz : Int32.ofInt z = nI j) (hk : k + j < L) (kk : RX E nL a b (pc + 5) (lcl k) (.int (xs (k + j)) :: st) M) : RX E nL a b pc (lcl k) st M := by
  refine rx_aload_n hE h0 (i := 0) rfl rfl ?_
  refine rx_iload_n hE h1 (i := 3) rfl rfl ?_
  refine rx_iconst hE h2 hz ?_
  refine rx_iadd hE h3 ?_
  rw [nI_add]
  refine rx_ild0 hE hX h4 (vp_in_nI hk (by omega)) ?_
  rw [nI_clamp (by omega)]
  exact kk
/-- the law's own end -/
theorem rx_wret {nm : String} (hE : g_E d (mL nm) E) (hX : g_X0 L xs E) (hd : decode cL_law pc = .ok (.ireturn, 1)) : RX E nL a b pc ls [.int 1] M := by
  obtain ⟨p, l, e, R, s, m, args, below, meth, c, Q, g⟩ := E
  intro H locs arr cells slots hR hS hL hc hs
  obtain ⟨hX1, hg, rfl, b0, rfl, rfl⟩ := hX
  have hc1 : cells + a = 600000 := hc.2
  have hs1 : slots + b ≤ 7302250 := hs
  refine va_forget (fun q hq => ?_) ?_
  · have := hS.2.2 q hq
    rw [← hg]
    exact this
  · refine W.widen (k := 600000) (n := 7302250) (by omega) (by omega) ?_
    exact lw_ret hE.1 hE.2.1 hE.2.2.2.2.2.2.2.1 hE.2.2.2.2.2.2.1 hd
end LAW
theorem lc_feed {d : Nat} {nm : String} {E : gE} {L : Nat} {xs : Nat → Int32} {a b k : Nat} {M : gM} (hE : g_E d (mL nm) E) (hd : 40 ≤ d) (hX : g_X0 L xs E) (hk : k + 6 ≤ L) (hL : L ≤ 3072) (ha : 3 ≤ a) (hb : 500 ≤ b) (h : ST M) (kk : ∀ (a1 b1 : Nat) (M1 : gM), a ≤ a1 + 3 → b ≤ b1 + 500 → ST M1 → RX E 4 a1 b1 1183 (lcl k) [] M1) : RX E 4 a b 188 (lcl k) [] M := by
  obtain ⟨d1, hd1, hS⟩ := pr_feed h (xs (k + 1)) (xs (k + 2)) (xs (k + 3)) (xs (k + 4)) (xs (k + 5))
  obtain ⟨fs, hat⟩ := h.isM.at16
  refine rx_aload_n hE dL_law_188 (i := 1) rfl rfl ?_
  refine rx_scr hE hX hL (k := k) (j := 1) dL_law_189 dL_law_190 dL_law_191 dL_law_192 dL_law_193 rfl (by omega) ?_
  refine rx_scr hE hX hL (k := k) (j := 2) dL_law_194 dL_law_195 dL_law_196 dL_law_197 dL_law_198 rfl (by omega) ?_
  refine rx_scr hE hX hL (k := k) (j := 3) dL_law_199 dL_law_200 dL_law_201 dL_law_202 dL_law_203 rfl (by omega) ?_
  refine rx_scr hE hX hL (k := k) (j := 4) dL_law_204 dL_law_205 dL_law_206 dL_law_207 dL_law_208 rfl (by omega) ?_
  refine rx_scr hE hX hL (k := k) (j := 5) dL_law_209 dL_law_210 dL_law_211 dL_law_212 dL_law_213 rfl (by omega) ?_
  refine rx_call0 (rx_callV (av := [.int (xs (k + 1)), .int (xs (k + 2)), .int (xs (k + 3)), .int (xs (k + 4)), .int (xs (k + 5))]) hE dL_law_214 lk_L_13 hS hat np_X10_feed rfl rfl (by omega) (Nat.le_of_ble_eq_true rfl) rfl ?_)
  rintro v M1 ⟨w, d2, hd2, rfl, hm, hS2⟩
  obtain ⟨fs2, hat2⟩ := hm.at384
  refine rx_aload_n hE dL_law_217 (i := 2) rfl rfl ?_
  refine rx_scr hE hX hL (k := k) (j := 1) dL_law_218 dL_law_219 dL_law_220 dL_law_221 dL_law_222 rfl (by omega) ?_
  refine rx_scr hE hX hL (k := k) (j := 2) dL_law_223 dL_law_224 dL_law_225 dL_law_226 dL_law_227 rfl (by omega) ?_
  refine rx_scr hE hX hL (k := k) (j := 3) dL_law_228 dL_law_229 dL_law_230 dL_law_231 dL_law_232 rfl (by omega) ?_
  refine rx_scr hE hX hL (k := k) (j := 4) dL_law_233 dL_law_234 dL_law_235 dL_law_236 dL_law_237 rfl (by omega) ?_
  refine rx_scr hE hX hL (k := k) (j := 5) dL_law_238 dL_law_239 dL_law_240 dL_law_241 dL_law_242 rfl (by omega) ?_
  refine rx_call0 (rx_callV (av := [.int (xs (k + 1)), .int (xs (k + 2)), .int (xs (k + 3)), .int (xs (k + 4)), .int (xs (k + 5))]) hE dL_law_243 lk_L_17 hS2 hat2 np_X11_feed rfl rfl (by omega) (Nat.le_of_ble_eq_true rfl) rfl ?_)
  rintro v M2 ⟨rfl, hst⟩
  exact rx_icmp_eq (tgt := 1183) hE dL_law_246 (by decide) (fun _ => kk a b M2 (by omega) (by omega) hst) (fun q => absurd rfl q)
theorem lc_end {d : Nat} {nm : String} {E : gE} {L : Nat} {xs : Nat → Int32} {a b k : Nat} {M : gM} (hE : g_E d (mL nm) E) (hd : 40 ≤ d) (hX : g_X0 L xs E) (hk : k + 6 ≤ L) (hL : L ≤ 3072) (ha : 3 ≤ a) (hb : 500 ≤ b) (h : ST M) (kk : ∀ (a1 b1 : Nat) (M1 : gM), a ≤ a1 + 3 → b ≤ b1 + 500 → ST M1 → RX E 4 a1 b1 1183 (lcl k) [] M1) : RX E 4 a b 251 (lcl k) [] M := by
  obtain ⟨d1, hd1, hS⟩ := pr_end h (xs (k + 1))
  obtain ⟨fs, hat⟩ := h.isM.at16
  refine rx_aload_n hE dL_law_251 (i := 1) rfl rfl ?_
  refine rx_scr hE hX hL (k := k) (j := 1) dL_law_252 dL_law_253 dL_law_254 dL_law_255 dL_law_256 rfl (by omega) ?_
  refine rx_call0 (rx_callV (av := [.int (xs (k + 1))]) hE dL_law_257 lk_L_18 hS hat np_X10_end rfl rfl (by omega) (Nat.le_of_ble_eq_true rfl) rfl ?_)
  rintro v M1 ⟨w, d2, hd2, rfl, hm, hS2⟩
  obtain ⟨fs2, hat2⟩ := hm.at384
  refine rx_aload_n hE dL_law_260 (i := 2) rfl rfl ?_
  refine rx_scr hE hX hL (k := k) (j := 1) dL_law_261 dL_law_262 dL_law_263 dL_law_264 dL_law_265 rfl (by omega) ?_
  refine rx_call0 (rx_callV (av := [.int (xs (k + 1))]) hE dL_law_266 lk_L_22 hS2 hat2 np_X11_end rfl rfl (by omega) (Nat.le_of_ble_eq_true rfl) rfl ?_)
  rintro v M2 ⟨rfl, hst⟩
  exact rx_icmp_eq (tgt := 1183) hE dL_law_269 (by decide) (fun _ => kk a b M2 (by omega) (by omega) hst) (fun q => absurd rfl q)
theorem lc_junction {d : Nat} {nm : String} {E : gE} {L : Nat} {xs : Nat → Int32} {a b k : Nat} {M : gM} (hE : g_E d (mL nm) E) (hd : 40 ≤ d) (hX : g_X0 L xs E) (hk : k + 6 ≤ L) (hL : L ≤ 3072) (ha : 3 ≤ a) (hb : 500 ≤ b) (h : ST M) (kk : ∀ (a1 b1 : Nat) (M1 : gM), a ≤ a1 + 3 → b ≤ b1 + 500 → ST M1 → RX E 4 a1 b1 1183 (lcl k) [] M1) : RX E 4 a b 274 (lcl k) [] M := by
  obtain ⟨d1, hd1, hS⟩ := pr_junction h
  obtain ⟨fs, hat⟩ := h.isM.at16
  refine rx_aload_n hE dL_law_274 (i := 1) rfl rfl ?_
  refine rx_call0 (rx_callV (av := []) hE dL_law_275 lk_L_23 hS hat np_X10_junction rfl rfl (by omega) (Nat.le_of_ble_eq_true rfl) rfl ?_)
  rintro v M1 ⟨w, d2, hd2, rfl, hm, hS2⟩
  obtain ⟨fs2, hat2⟩ := hm.at384
  refine rx_aload_n hE dL_law_278 (i := 2) rfl rfl ?_
  refine rx_call0 (rx_callV (av := []) hE dL_law_279 lk_L_27 hS2 hat2 np_X11_junction rfl rfl (by omega) (Nat.le_of_ble_eq_true rfl) rfl ?_)
  rintro v M2 ⟨rfl, hst⟩
  exact rx_icmp_eq (tgt := 1183) hE dL_law_282 (by decide) (fun _ => kk a b M2 (by omega) (by omega) hst) (fun q => absurd rfl q)
theorem lc_rule {d : Nat} {nm : String} {E : gE} {L : Nat} {xs : Nat → Int32} {a b k : Nat} {M : gM} (hE : g_E d (mL nm) E) (hd : 40 ≤ d) (hX : g_X0 L xs E) (hk : k + 6 ≤ L) (hL : L ≤ 3072) (ha : 3 ≤ a) (hb : 500 ≤ b) (h : ST M) (kk : ∀ (a1 b1 : Nat) (M1 : gM), a ≤ a1 + 3 → b ≤ b1 + 500 → ST M1 → RX E 4 a1 b1 1183 (lcl k) [] M1) : RX E 4 a b 287 (lcl k) [] M := by
  obtain ⟨fs, hat⟩ := h.isM.at16
  refine rx_aload_n hE dL_law_287 (i := 1) rfl rfl ?_
  rcases pr_rule h with ⟨d1, hd1, hS⟩ | ⟨b3, hb3, d1, hd1, hS⟩
  · refine rx_call0 (rx_callV (av := []) hE dL_law_288 lk_L_28 hS hat np_X10_rule rfl rfl (by omega) (Nat.le_of_ble_eq_true rfl) rfl ?_)
    rintro v M1 ⟨w, d2, hd2, rfl, hm, hS2⟩
    obtain ⟨fs2, hat2⟩ := hm.at384
    refine rx_aload_n hE dL_law_291 (i := 2) rfl rfl ?_
    refine rx_call0 (rx_callV (av := []) hE dL_law_292 lk_L_31 hS2 hat2 np_X11_rule rfl rfl (by omega) (Nat.le_of_ble_eq_true rfl) rfl ?_)
    rintro v M2 ⟨rfl, hst⟩
    exact rx_icmp_eq (tgt := 1183) hE dL_law_295 (by decide) (fun _ => kk a b M2 (by omega) (by omega) hst) (fun q => absurd rfl q)
  · obtain ⟨a3, rfl⟩ : ∃ a3, a = a3 + 3 := ⟨a - 3, by omega⟩
    obtain ⟨b4, rfl⟩ : ∃ b4, b = b4 + b3 := ⟨b - b3, by omega⟩
    refine rx_callV (av := []) hE dL_law_288 lk_L_28 hS hat np_X10_rule rfl rfl (by omega) (Nat.le_of_ble_eq_true rfl) rfl ?_
    rintro v M1 ⟨w, d2, hd2, rfl, hm, hS2⟩
    obtain ⟨fs2, hat2⟩ := hm.at384
    refine rx_aload_n hE dL_law_291 (i := 2) rfl rfl ?_
    refine rx_call0 (rx_callV (av := []) hE dL_law_292 lk_L_31 hS2 hat2 np_X11_rule rfl rfl (by omega) (Nat.le_of_ble_eq_true rfl) rfl ?_)
    rintro v M2 ⟨rfl, hst⟩
    exact rx_icmp_eq (tgt := 1183) hE dL_law_295 (by decide) (fun _ => kk a3 b4 M2 (by omega) (by omega) hst) (fun q => absurd rfl q)
theorem lc_force {d : Nat} {nm : String} {E : gE} {L : Nat} {xs : Nat → Int32} {a b k : Nat} {M : gM} (hE : g_E d (mL nm) E) (hd : 40 ≤ d) (hX : g_X0 L xs E) (hk : k + 6 ≤ L) (hL : L ≤ 3072) (ha : 3 ≤ a) (hb : 500 ≤ b) (h : ST M) (kk : ∀ (a1 b1 : Nat) (M1 : gM), a ≤ a1 + 3 → b ≤ b1 + 500 → ST M1 → RX E 4 a1 b1 1183 (lcl k) [] M1) : RX E 4 a b 300 (lcl k) [] M := by
  obtain ⟨d1, hd1, hS⟩ := pr_force h (xs (k + 1))
  obtain ⟨fs, hat⟩ := h.isM.at16
  refine rx_aload_n hE dL_law_300 (i := 1) rfl rfl ?_
  refine rx_scr hE hX hL (k := k) (j := 1) dL_law_301 dL_law_302 dL_law_303 dL_law_304 dL_law_305 rfl (by omega) ?_
  refine rx_call0 (rx_callV (av := [.int (xs (k + 1))]) hE dL_law_306 lk_L_32 hS hat np_X10_force rfl rfl (by omega) (Nat.le_of_ble_eq_true rfl) rfl ?_)
  rintro v M1 ⟨w, d2, hd2, rfl, hm, hS2⟩
  obtain ⟨fs2, hat2⟩ := hm.at384
  refine rx_aload_n hE dL_law_309 (i := 2) rfl rfl ?_
  refine rx_scr hE hX hL (k := k) (j := 1) dL_law_310 dL_law_311 dL_law_312 dL_law_313 dL_law_314 rfl (by omega) ?_
  refine rx_call0 (rx_callV (av := [.int (xs (k + 1))]) hE dL_law_315 lk_L_35 hS2 hat2 np_X11_force rfl rfl (by omega) (Nat.le_of_ble_eq_true rfl) rfl ?_)
  rintro v M2 ⟨rfl, hst⟩
  exact rx_icmp_eq (tgt := 1183) hE dL_law_318 (by decide) (fun _ => kk a b M2 (by omega) (by omega) hst) (fun q => absurd rfl q)
theorem lc_road {d : Nat} {nm : String} {E : gE} {L : Nat} {xs : Nat → Int32} {a b k : Nat} {M : gM} (hE : g_E d (mL nm) E) (hd : 40 ≤ d) (hX : g_X0 L xs E) (hk : k + 6 ≤ L) (hL : L ≤ 3072) (ha : 3 ≤ a) (hb : 500 ≤ b) (h : ST M) (kk : ∀ (a1 b1 : Nat) (M1 : gM), a ≤ a1 + 3 → b ≤ b1 + 500 → ST M1 → RX E 4 a1 b1 1183 (lcl k) [] M1) : RX E 4 a b 323 (lcl k) [] M := by
  obtain ⟨d1, hd1, hS⟩ := pr_road h (xs (k + 1)) (xs (k + 2))
  obtain ⟨fs, hat⟩ := h.isM.at16
  refine rx_aload_n hE dL_law_323 (i := 1) rfl rfl ?_
  refine rx_scr hE hX hL (k := k) (j := 1) dL_law_324 dL_law_325 dL_law_326 dL_law_327 dL_law_328 rfl (by omega) ?_
  refine rx_scr hE hX hL (k := k) (j := 2) dL_law_329 dL_law_330 dL_law_331 dL_law_332 dL_law_333 rfl (by omega) ?_
  refine rx_call0 (rx_callV (av := [.int (xs (k + 1)), .int (xs (k + 2))]) hE dL_law_334 lk_L_36 hS hat np_X10_road rfl rfl (by omega) (Nat.le_of_ble_eq_true rfl) rfl ?_)
  rintro v M1 ⟨w, d2, hd2, rfl, hm, hS2⟩
  obtain ⟨fs2, hat2⟩ := hm.at384
  refine rx_aload_n hE dL_law_337 (i := 2) rfl rfl ?_
  refine rx_scr hE hX hL (k := k) (j := 1) dL_law_338 dL_law_339 dL_law_340 dL_law_341 dL_law_342 rfl (by omega) ?_
  refine rx_scr hE hX hL (k := k) (j := 2) dL_law_343 dL_law_344 dL_law_345 dL_law_346 dL_law_347 rfl (by omega) ?_
  refine rx_call0 (rx_callV (av := [.int (xs (k + 1)), .int (xs (k + 2))]) hE dL_law_348 lk_L_40 hS2 hat2 np_X11_road rfl rfl (by omega) (Nat.le_of_ble_eq_true rfl) rfl ?_)
  rintro v M2 ⟨rfl, hst⟩
  exact rx_icmp_eq (tgt := 1183) hE dL_law_351 (by decide) (fun _ => kk a b M2 (by omega) (by omega) hst) (fun q => absurd rfl q)
theorem lc_scored {d : Nat} {nm : String} {E : gE} {L : Nat} {xs : Nat → Int32} {a b k : Nat} {M : gM} (hE : g_E d (mL nm) E) (hd : 40 ≤ d) (hX : g_X0 L xs E) (hk : k + 6 ≤ L) (hL : L ≤ 3072) (ha : 3 ≤ a) (hb : 500 ≤ b) (h : ST M) (kk : ∀ (a1 b1 : Nat) (M1 : gM), a ≤ a1 + 3 → b ≤ b1 + 500 → ST M1 → RX E 4 a1 b1 1183 (lcl k) [] M1) : RX E 4 a b 356 (lcl k) [] M := by
  obtain ⟨d1, hd1, hS⟩ := pr_scored h (xs (k + 1))
  obtain ⟨fs, hat⟩ := h.isM.at16
  refine rx_aload_n hE dL_law_356 (i := 1) rfl rfl ?_
  refine rx_scr hE hX hL (k := k) (j := 1) dL_law_357 dL_law_358 dL_law_359 dL_law_360 dL_law_361 rfl (by omega) ?_
  refine rx_call0 (rx_callV (av := [.int (xs (k + 1))]) hE dL_law_362 lk_L_41 hS hat np_X10_scored rfl rfl (by omega) (Nat.le_of_ble_eq_true rfl) rfl ?_)
  rintro v M1 ⟨w, d2, hd2, rfl, hm, hS2⟩
  obtain ⟨fs2, hat2⟩ := hm.at384
  refine rx_aload_n hE dL_law_365 (i := 2) rfl rfl ?_
  refine rx_scr hE hX hL (k := k) (j := 1) dL_law_366 dL_law_367 dL_law_368 dL_law_369 dL_law_370 rfl (by omega) ?_
  refine rx_call0 (rx_callV (av := [.int (xs (k + 1))]) hE dL_law_371 lk_L_44 hS2 hat2 np_X11_scored rfl rfl (by omega) (Nat.le_of_ble_eq_true rfl) rfl ?_)
  rintro v M2 ⟨rfl, hst⟩
  exact rx_icmp_eq (tgt := 1183) hE dL_law_374 (by decide) (fun _ => kk a b M2 (by omega) (by omega) hst) (fun q => absurd rfl q)
theorem lc_beat {d : Nat} {nm : String} {E : gE} {L : Nat} {xs : Nat → Int32} {a b k : Nat} {M : gM} (hE : g_E d (mL nm) E) (hd : 40 ≤ d) (hX : g_X0 L xs E) (hk : k + 6 ≤ L) (hL : L ≤ 3072) (ha : 3 ≤ a) (hb : 500 ≤ b) (h : ST M) (kk : ∀ (a1 b1 : Nat) (M1 : gM), a ≤ a1 + 3 → b ≤ b1 + 500 → ST M1 → RX E 4 a1 b1 1183 (lcl k) [] M1) : RX E 4 a b 379 (lcl k) [] M := by
  obtain ⟨d1, hd1, hS⟩ := pr_beat h
  obtain ⟨fs, hat⟩ := h.isM.at16
  refine rx_aload_n hE dL_law_379 (i := 1) rfl rfl ?_
  refine rx_call0 (rx_callV (av := []) hE dL_law_380 lk_L_45 hS hat np_X10_beat rfl rfl (by omega) (Nat.le_of_ble_eq_true rfl) rfl ?_)
  rintro v M1 ⟨w, d2, hd2, rfl, hm, hS2⟩
  obtain ⟨fs2, hat2⟩ := hm.at384
  refine rx_aload_n hE dL_law_383 (i := 2) rfl rfl ?_
  refine rx_call0 (rx_callV (av := []) hE dL_law_384 lk_L_48 hS2 hat2 np_X11_beat rfl rfl (by omega) (Nat.le_of_ble_eq_true rfl) rfl ?_)
  rintro v M2 ⟨rfl, hst⟩
  exact rx_icmp_eq (tgt := 1183) hE dL_law_387 (by decide) (fun _ => kk a b M2 (by omega) (by omega) hst) (fun q => absurd rfl q)
theorem lc_come {d : Nat} {nm : String} {E : gE} {L : Nat} {xs : Nat → Int32} {a b k : Nat} {M : gM} (hE : g_E d (mL nm) E) (hd : 40 ≤ d) (hX : g_X0 L xs E) (hk : k + 6 ≤ L) (hL : L ≤ 3072) (ha : 3 ≤ a) (hb : 500 ≤ b) (h : ST M) (kk : ∀ (a1 b1 : Nat) (M1 : gM), a ≤ a1 + 3 → b ≤ b1 + 500 → ST M1 → RX E 4 a1 b1 1183 (lcl k) [] M1) : RX E 4 a b 392 (lcl k) [] M := by
  obtain ⟨d1, hd1, hS⟩ := pr_come h (xs (k + 1)) (xs (k + 2))
  obtain ⟨fs, hat⟩ := h.isM.at16
  refine rx_aload_n hE dL_law_392 (i := 1) rfl rfl ?_
  refine rx_scr hE hX hL (k := k) (j := 1) dL_law_393 dL_law_394 dL_law_395 dL_law_396 dL_law_397 rfl (by omega) ?_
  refine rx_scr hE hX hL (k := k) (j := 2) dL_law_398 dL_law_399 dL_law_400 dL_law_401 dL_law_402 rfl (by omega) ?_
  refine rx_call0 (rx_callV (av := [.int (xs (k + 1)), .int (xs (k + 2))]) hE dL_law_403 lk_L_49 hS hat np_X10_come rfl rfl (by omega) (Nat.le_of_ble_eq_true rfl) rfl ?_)
  rintro v M1 ⟨w, d2, hd2, rfl, hm, hS2⟩
  obtain ⟨fs2, hat2⟩ := hm.at384
  refine rx_aload_n hE dL_law_406 (i := 2) rfl rfl ?_
  refine rx_scr hE hX hL (k := k) (j := 1) dL_law_407 dL_law_408 dL_law_409 dL_law_410 dL_law_411 rfl (by omega) ?_
  refine rx_scr hE hX hL (k := k) (j := 2) dL_law_412 dL_law_413 dL_law_414 dL_law_415 dL_law_416 rfl (by omega) ?_
  refine rx_call0 (rx_callV (av := [.int (xs (k + 1)), .int (xs (k + 2))]) hE dL_law_417 lk_L_52 hS2 hat2 np_X11_come rfl rfl (by omega) (Nat.le_of_ble_eq_true rfl) rfl ?_)
  rintro v M2 ⟨rfl, hst⟩
  exact rx_icmp_eq (tgt := 1183) hE dL_law_420 (by decide) (fun _ => kk a b M2 (by omega) (by omega) hst) (fun q => absurd rfl q)
theorem lc_wave {d : Nat} {nm : String} {E : gE} {L : Nat} {xs : Nat → Int32} {a b k : Nat} {M : gM} (hE : g_E d (mL nm) E) (hd : 40 ≤ d) (hX : g_X0 L xs E) (hk : k + 6 ≤ L) (hL : L ≤ 3072) (ha : 3 ≤ a) (hb : 500 ≤ b) (h : ST M) (kk : ∀ (a1 b1 : Nat) (M1 : gM), a ≤ a1 + 3 → b ≤ b1 + 500 → ST M1 → RX E 4 a1 b1 1183 (lcl k) [] M1) : RX E 4 a b 425 (lcl k) [] M := by
  obtain ⟨d1, hd1, hS⟩ := pr_wave h (xs (k + 1))
  obtain ⟨fs, hat⟩ := h.isM.at16
  refine rx_aload_n hE dL_law_425 (i := 1) rfl rfl ?_
  refine rx_scr hE hX hL (k := k) (j := 1) dL_law_426 dL_law_427 dL_law_428 dL_law_429 dL_law_430 rfl (by omega) ?_
  refine rx_call0 (rx_callV (av := [.int (xs (k + 1))]) hE dL_law_431 lk_L_53 hS hat np_X10_wave rfl rfl (by omega) (Nat.le_of_ble_eq_true rfl) rfl ?_)
  rintro v M1 ⟨w, d2, hd2, rfl, hm, hS2⟩
  obtain ⟨fs2, hat2⟩ := hm.at384
  refine rx_aload_n hE dL_law_434 (i := 2) rfl rfl ?_
  refine rx_scr hE hX hL (k := k) (j := 1) dL_law_435 dL_law_436 dL_law_437 dL_law_438 dL_law_439 rfl (by omega) ?_
  refine rx_call0 (rx_callV (av := [.int (xs (k + 1))]) hE dL_law_440 lk_L_56 hS2 hat2 np_X11_wave rfl rfl (by omega) (Nat.le_of_ble_eq_true rfl) rfl ?_)
  rintro v M2 ⟨rfl, hst⟩
  exact rx_icmp_eq (tgt := 1183) hE dL_law_443 (by decide) (fun _ => kk a b M2 (by omega) (by omega) hst) (fun q => absurd rfl q)
theorem lc_score {d : Nat} {nm : String} {E : gE} {L : Nat} {xs : Nat → Int32} {a b k : Nat} {M : gM} (hE : g_E d (mL nm) E) (hd : 40 ≤ d) (hX : g_X0 L xs E) (hk : k + 6 ≤ L) (hL : L ≤ 3072) (ha : 3 ≤ a) (hb : 500 ≤ b) (h : ST M) (kk : ∀ (a1 b1 : Nat) (M1 : gM), a ≤ a1 + 3 → b ≤ b1 + 500 → ST M1 → RX E 4 a1 b1 1183 (lcl k) [] M1) : RX E 4 a b 448 (lcl k) [] M := by
  obtain ⟨d1, hd1, hS⟩ := pr_score h (xs (k + 1)) (xs (k + 2))
  obtain ⟨fs, hat⟩ := h.isM.at16
  refine rx_aload_n hE dL_law_448 (i := 1) rfl rfl ?_
  refine rx_scr hE hX hL (k := k) (j := 1) dL_law_449 dL_law_450 dL_law_451 dL_law_452 dL_law_453 rfl (by omega) ?_
  refine rx_scr hE hX hL (k := k) (j := 2) dL_law_454 dL_law_455 dL_law_456 dL_law_457 dL_law_458 rfl (by omega) ?_
  refine rx_call0 (rx_callV (av := [.int (xs (k + 1)), .int (xs (k + 2))]) hE dL_law_459 lk_L_57 hS hat np_X10_score rfl rfl (by omega) (Nat.le_of_ble_eq_true rfl) rfl ?_)
  rintro v M1 ⟨w, d2, hd2, rfl, hm, hS2⟩
  obtain ⟨fs2, hat2⟩ := hm.at384
  refine rx_aload_n hE dL_law_462 (i := 2) rfl rfl ?_
  refine rx_scr hE hX hL (k := k) (j := 1) dL_law_463 dL_law_464 dL_law_465 dL_law_466 dL_law_467 rfl (by omega) ?_
  refine rx_scr hE hX hL (k := k) (j := 2) dL_law_468 dL_law_469 dL_law_470 dL_law_471 dL_law_472 rfl (by omega) ?_
  refine rx_call0 (rx_callV (av := [.int (xs (k + 1)), .int (xs (k + 2))]) hE dL_law_473 lk_L_60 hS2 hat2 np_X11_score rfl rfl (by omega) (Nat.le_of_ble_eq_true rfl) rfl ?_)
  rintro v M2 ⟨rfl, hst⟩
  exact rx_icmp_eq (tgt := 1183) hE dL_law_476 (by decide) (fun _ => kk a b M2 (by omega) (by omega) hst) (fun q => absurd rfl q)
theorem lc_tune {d : Nat} {nm : String} {E : gE} {L : Nat} {xs : Nat → Int32} {a b k : Nat} {M : gM} (hE : g_E d (mL nm) E) (hd : 40 ≤ d) (hX : g_X0 L xs E) (hk : k + 6 ≤ L) (hL : L ≤ 3072) (ha : 3 ≤ a) (hb : 500 ≤ b) (h : ST M) (kk : ∀ (a1 b1 : Nat) (M1 : gM), a ≤ a1 + 3 → b ≤ b1 + 500 → ST M1 → RX E 4 a1 b1 1183 (lcl k) [] M1) : RX E 4 a b 481 (lcl k) [] M := by
  obtain ⟨d1, hd1, hS⟩ := pr_tune h (xs (k + 1)) (xs (k + 2))
  obtain ⟨fs, hat⟩ := h.isM.at16
  refine rx_aload_n hE dL_law_481 (i := 1) rfl rfl ?_
  refine rx_scr hE hX hL (k := k) (j := 1) dL_law_482 dL_law_483 dL_law_484 dL_law_485 dL_law_486 rfl (by omega) ?_
  refine rx_scr hE hX hL (k := k) (j := 2) dL_law_487 dL_law_488 dL_law_489 dL_law_490 dL_law_491 rfl (by omega) ?_
  refine rx_call0 (rx_callV (av := [.int (xs (k + 1)), .int (xs (k + 2))]) hE dL_law_492 lk_L_61 hS hat np_X10_tune rfl rfl (by omega) (Nat.le_of_ble_eq_true rfl) rfl ?_)
  rintro v M1 ⟨w, d2, hd2, rfl, hm, hS2⟩
  obtain ⟨fs2, hat2⟩ := hm.at384
  refine rx_aload_n hE dL_law_495 (i := 2) rfl rfl ?_
  refine rx_scr hE hX hL (k := k) (j := 1) dL_law_496 dL_law_497 dL_law_498 dL_law_499 dL_law_500 rfl (by omega) ?_
  refine rx_scr hE hX hL (k := k) (j := 2) dL_law_501 dL_law_502 dL_law_503 dL_law_504 dL_law_505 rfl (by omega) ?_
  refine rx_call0 (rx_callV (av := [.int (xs (k + 1)), .int (xs (k + 2))]) hE dL_law_506 lk_L_64 hS2 hat2 np_X11_tune rfl rfl (by omega) (Nat.le_of_ble_eq_true rfl) rfl ?_)
  rintro v M2 ⟨rfl, hst⟩
  exact rx_icmp_eq (tgt := 1183) hE dL_law_509 (by decide) (fun _ => kk a b M2 (by omega) (by omega) hst) (fun q => absurd rfl q)
theorem lc_undo {d : Nat} {nm : String} {E : gE} {L : Nat} {xs : Nat → Int32} {a b k : Nat} {M : gM} (hE : g_E d (mL nm) E) (hd : 40 ≤ d) (hX : g_X0 L xs E) (hk : k + 6 ≤ L) (hL : L ≤ 3072) (ha : 3 ≤ a) (hb : 500 ≤ b) (h : ST M) (kk : ∀ (a1 b1 : Nat) (M1 : gM), a ≤ a1 + 3 → b ≤ b1 + 500 → ST M1 → RX E 4 a1 b1 1183 (lcl k) [] M1) : RX E 4 a b 514 (lcl k) [] M := by
  obtain ⟨d1, hd1, hS⟩ := pr_undo h
  obtain ⟨fs, hat⟩ := h.isM.at16
  refine rx_aload_n hE dL_law_514 (i := 1) rfl rfl ?_
  refine rx_call0 (rx_callV (av := []) hE dL_law_515 lk_L_65 hS hat np_X10_undo rfl rfl (by omega) (Nat.le_of_ble_eq_true rfl) rfl ?_)
  rintro v M1 ⟨w, d2, hd2, rfl, hm, hS2⟩
  obtain ⟨fs2, hat2⟩ := hm.at384
  refine rx_aload_n hE dL_law_518 (i := 2) rfl rfl ?_
  refine rx_call0 (rx_callV (av := []) hE dL_law_519 lk_L_68 hS2 hat2 np_X11_undo rfl rfl (by omega) (Nat.le_of_ble_eq_true rfl) rfl ?_)
  rintro v M2 ⟨rfl, hst⟩
  exact rx_icmp_eq (tgt := 1183) hE dL_law_522 (by decide) (fun _ => kk a b M2 (by omega) (by omega) hst) (fun q => absurd rfl q)
theorem lc_ahead {d : Nat} {nm : String} {E : gE} {L : Nat} {xs : Nat → Int32} {a b k : Nat} {M : gM} (hE : g_E d (mL nm) E) (hd : 40 ≤ d) (hX : g_X0 L xs E) (hk : k + 6 ≤ L) (hL : L ≤ 3072) (ha : 3 ≤ a) (hb : 500 ≤ b) (h : ST M) (kk : ∀ (a1 b1 : Nat) (M1 : gM), a ≤ a1 + 3 → b ≤ b1 + 500 → ST M1 → RX E 4 a1 b1 1183 (lcl k) [] M1) : RX E 4 a b 527 (lcl k) [] M := by
  obtain ⟨d1, hd1, hS⟩ := pr_ahead h (xs (k + 1)) (xs (k + 2)) (xs (k + 3))
  obtain ⟨fs, hat⟩ := h.isM.at16
  refine rx_aload_n hE dL_law_527 (i := 1) rfl rfl ?_
  refine rx_scr hE hX hL (k := k) (j := 1) dL_law_528 dL_law_529 dL_law_530 dL_law_531 dL_law_532 rfl (by omega) ?_
  refine rx_scr hE hX hL (k := k) (j := 2) dL_law_533 dL_law_534 dL_law_535 dL_law_536 dL_law_537 rfl (by omega) ?_
  refine rx_scr hE hX hL (k := k) (j := 3) dL_law_538 dL_law_539 dL_law_540 dL_law_541 dL_law_542 rfl (by omega) ?_
  refine rx_call0 (rx_callV (av := [.int (xs (k + 1)), .int (xs (k + 2)), .int (xs (k + 3))]) hE dL_law_543 lk_L_69 hS hat np_X10_ahead rfl rfl (by omega) (Nat.le_of_ble_eq_true rfl) rfl ?_)
  rintro v M1 ⟨w, d2, hd2, rfl, hm, hS2⟩
  obtain ⟨fs2, hat2⟩ := hm.at384
  refine rx_aload_n hE dL_law_546 (i := 2) rfl rfl ?_
  refine rx_scr hE hX hL (k := k) (j := 1) dL_law_547 dL_law_548 dL_law_549 dL_law_550 dL_law_551 rfl (by omega) ?_
  refine rx_scr hE hX hL (k := k) (j := 2) dL_law_552 dL_law_553 dL_law_554 dL_law_555 dL_law_556 rfl (by omega) ?_
  refine rx_scr hE hX hL (k := k) (j := 3) dL_law_557 dL_law_558 dL_law_559 dL_law_560 dL_law_561 rfl (by omega) ?_
  refine rx_call0 (rx_callV (av := [.int (xs (k + 1)), .int (xs (k + 2)), .int (xs (k + 3))]) hE dL_law_562 lk_L_73 hS2 hat2 np_X11_ahead rfl rfl (by omega) (Nat.le_of_ble_eq_true rfl) rfl ?_)
  rintro v M2 ⟨rfl, hst⟩
  exact rx_icmp_eq (tgt := 1183) hE dL_law_565 (by decide) (fun _ => kk a b M2 (by omega) (by omega) hst) (fun q => absurd rfl q)
theorem lc_clear {d : Nat} {nm : String} {E : gE} {L : Nat} {xs : Nat → Int32} {a b k : Nat} {M : gM} (hE : g_E d (mL nm) E) (hd : 40 ≤ d) (hX : g_X0 L xs E) (hk : k + 6 ≤ L) (hL : L ≤ 3072) (ha : 3 ≤ a) (hb : 500 ≤ b) (h : ST M) (kk : ∀ (a1 b1 : Nat) (M1 : gM), a ≤ a1 + 3 → b ≤ b1 + 500 → ST M1 → RX E 4 a1 b1 1183 (lcl k) [] M1) : RX E 4 a b 570 (lcl k) [] M := by
  obtain ⟨d1, hd1, hS⟩ := pr_clear h (xs (k + 1))
  obtain ⟨fs, hat⟩ := h.isM.at16
  refine rx_aload_n hE dL_law_570 (i := 1) rfl rfl ?_
  refine rx_scr hE hX hL (k := k) (j := 1) dL_law_571 dL_law_572 dL_law_573 dL_law_574 dL_law_575 rfl (by omega) ?_
  refine rx_call0 (rx_callV (av := [.int (xs (k + 1))]) hE dL_law_576 lk_L_74 hS hat np_X10_clear rfl rfl (by omega) (Nat.le_of_ble_eq_true rfl) rfl ?_)
  rintro v M1 ⟨w, d2, hd2, rfl, hm, hS2⟩
  obtain ⟨fs2, hat2⟩ := hm.at384
  refine rx_aload_n hE dL_law_579 (i := 2) rfl rfl ?_
  refine rx_scr hE hX hL (k := k) (j := 1) dL_law_580 dL_law_581 dL_law_582 dL_law_583 dL_law_584 rfl (by omega) ?_
  refine rx_call0 (rx_callV (av := [.int (xs (k + 1))]) hE dL_law_585 lk_L_77 hS2 hat2 np_X11_clear rfl rfl (by omega) (Nat.le_of_ble_eq_true rfl) rfl ?_)
  rintro v M2 ⟨rfl, hst⟩
  exact rx_icmp_eq (tgt := 1183) hE dL_law_588 (by decide) (fun _ => kk a b M2 (by omega) (by omega) hst) (fun q => absurd rfl q)
theorem lc_chord {d : Nat} {nm : String} {E : gE} {L : Nat} {xs : Nat → Int32} {a b k : Nat} {M : gM} (hE : g_E d (mL nm) E) (hd : 40 ≤ d) (hX : g_X0 L xs E) (hk : k + 6 ≤ L) (hL : L ≤ 3072) (ha : 3 ≤ a) (hb : 500 ≤ b) (h : ST M) (kk : ∀ (a1 b1 : Nat) (M1 : gM), a ≤ a1 + 3 → b ≤ b1 + 500 → ST M1 → RX E 4 a1 b1 1183 (lcl k) [] M1) : RX E 4 a b 593 (lcl k) [] M := by
  obtain ⟨d1, hd1, hS⟩ := pr_chord h (xs (k + 1))
  obtain ⟨fs, hat⟩ := h.isM.at16
  refine rx_aload_n hE dL_law_593 (i := 1) rfl rfl ?_
  refine rx_scr hE hX hL (k := k) (j := 1) dL_law_594 dL_law_595 dL_law_596 dL_law_597 dL_law_598 rfl (by omega) ?_
  refine rx_call0 (rx_callV (av := [.int (xs (k + 1))]) hE dL_law_599 lk_L_78 hS hat np_X10_chord rfl rfl (by omega) (Nat.le_of_ble_eq_true rfl) rfl ?_)
  rintro v M1 ⟨w, d2, hd2, rfl, hm, hS2⟩
  obtain ⟨fs2, hat2⟩ := hm.at384
  refine rx_aload_n hE dL_law_602 (i := 2) rfl rfl ?_
  refine rx_scr hE hX hL (k := k) (j := 1) dL_law_603 dL_law_604 dL_law_605 dL_law_606 dL_law_607 rfl (by omega) ?_
  refine rx_call0 (rx_callV (av := [.int (xs (k + 1))]) hE dL_law_608 lk_L_81 hS2 hat2 np_X11_chord rfl rfl (by omega) (Nat.le_of_ble_eq_true rfl) rfl ?_)
  rintro v M2 ⟨rfl, hst⟩
  exact rx_icmp_eq (tgt := 1183) hE dL_law_611 (by decide) (fun _ => kk a b M2 (by omega) (by omega) hst) (fun q => absurd rfl q)
theorem lc_beats {d : Nat} {nm : String} {E : gE} {L : Nat} {xs : Nat → Int32} {a b k : Nat} {M : gM} (hE : g_E d (mL nm) E) (hd : 40 ≤ d) (hX : g_X0 L xs E) (hk : k + 6 ≤ L) (hL : L ≤ 3072) (ha : 3 ≤ a) (hb : 500 ≤ b) (h : ST M) (kk : ∀ (a1 b1 : Nat) (M1 : gM), a ≤ a1 + 3 → b ≤ b1 + 500 → ST M1 → RX E 4 a1 b1 1183 (lcl k) [] M1) : RX E 4 a b 616 (lcl k) [] M := by
  obtain ⟨d1, hd1, hS⟩ := pr_beats h (xs (k + 1))
  obtain ⟨fs, hat⟩ := h.isM.at16
  refine rx_aload_n hE dL_law_616 (i := 1) rfl rfl ?_
  refine rx_scr hE hX hL (k := k) (j := 1) dL_law_617 dL_law_618 dL_law_619 dL_law_620 dL_law_621 rfl (by omega) ?_
  refine rx_call0 (rx_callV (av := [.int (xs (k + 1))]) hE dL_law_622 lk_L_82 hS hat np_X10_beats rfl rfl (by omega) (Nat.le_of_ble_eq_true rfl) rfl ?_)
  rintro v M1 ⟨w, d2, hd2, rfl, hm, hS2⟩
  obtain ⟨fs2, hat2⟩ := hm.at384
  refine rx_aload_n hE dL_law_625 (i := 2) rfl rfl ?_
  refine rx_scr hE hX hL (k := k) (j := 1) dL_law_626 dL_law_627 dL_law_628 dL_law_629 dL_law_630 rfl (by omega) ?_
  refine rx_call0 (rx_callV (av := [.int (xs (k + 1))]) hE dL_law_631 lk_L_85 hS2 hat2 np_X11_beats rfl rfl (by omega) (Nat.le_of_ble_eq_true rfl) rfl ?_)
  rintro v M2 ⟨rfl, hst⟩
  exact rx_icmp_eq (tgt := 1183) hE dL_law_634 (by decide) (fun _ => kk a b M2 (by omega) (by omega) hst) (fun q => absurd rfl q)
theorem lc_bestScore {d : Nat} {nm : String} {E : gE} {L : Nat} {xs : Nat → Int32} {a b k : Nat} {M : gM} (hE : g_E d (mL nm) E) (hd : 40 ≤ d) (hX : g_X0 L xs E) (hk : k + 6 ≤ L) (hL : L ≤ 3072) (ha : 3 ≤ a) (hb : 500 ≤ b) (h : ST M) (kk : ∀ (a1 b1 : Nat) (M1 : gM), a ≤ a1 + 3 → b ≤ b1 + 500 → ST M1 → RX E 4 a1 b1 1183 (lcl k) [] M1) : RX E 4 a b 639 (lcl k) [] M := by
  obtain ⟨d1, hd1, hS⟩ := pr_bestScore h (xs (k + 1)) (xs (k + 2))
  obtain ⟨fs, hat⟩ := h.isM.at16
  refine rx_aload_n hE dL_law_639 (i := 1) rfl rfl ?_
  refine rx_scr hE hX hL (k := k) (j := 1) dL_law_640 dL_law_641 dL_law_642 dL_law_643 dL_law_644 rfl (by omega) ?_
  refine rx_scr hE hX hL (k := k) (j := 2) dL_law_645 dL_law_646 dL_law_647 dL_law_648 dL_law_649 rfl (by omega) ?_
  refine rx_call0 (rx_callV (av := [.int (xs (k + 1)), .int (xs (k + 2))]) hE dL_law_650 lk_L_86 hS hat np_X10_bestScore rfl rfl (by omega) (Nat.le_of_ble_eq_true rfl) rfl ?_)
  rintro v M1 ⟨w, d2, hd2, rfl, hm, hS2⟩
  obtain ⟨fs2, hat2⟩ := hm.at384
  refine rx_aload_n hE dL_law_653 (i := 2) rfl rfl ?_
  refine rx_scr hE hX hL (k := k) (j := 1) dL_law_654 dL_law_655 dL_law_656 dL_law_657 dL_law_658 rfl (by omega) ?_
  refine rx_scr hE hX hL (k := k) (j := 2) dL_law_659 dL_law_660 dL_law_661 dL_law_662 dL_law_663 rfl (by omega) ?_
  refine rx_call0 (rx_callV (av := [.int (xs (k + 1)), .int (xs (k + 2))]) hE dL_law_664 lk_L_89 hS2 hat2 np_X11_bestScore rfl rfl (by omega) (Nat.le_of_ble_eq_true rfl) rfl ?_)
  rintro v M2 ⟨rfl, hst⟩
  exact rx_icmp_eq (tgt := 1183) hE dL_law_667 (by decide) (fun _ => kk a b M2 (by omega) (by omega) hst) (fun q => absurd rfl q)
theorem lc_row {d : Nat} {nm : String} {E : gE} {L : Nat} {xs : Nat → Int32} {a b k : Nat} {M : gM} (hE : g_E d (mL nm) E) (hd : 40 ≤ d) (hX : g_X0 L xs E) (hk : k + 6 ≤ L) (hL : L ≤ 3072) (ha : 3 ≤ a) (hb : 500 ≤ b) (h : ST M) (kk : ∀ (a1 b1 : Nat) (M1 : gM), a ≤ a1 + 3 → b ≤ b1 + 500 → ST M1 → RX E 4 a1 b1 1183 (lcl k) [] M1) : RX E 4 a b 672 (lcl k) [] M := by
  obtain ⟨d1, hd1, hS⟩ := pr_row h (xs (k + 1)) (xs (k + 2))
  obtain ⟨fs, hat⟩ := h.isM.at16
  refine rx_aload_n hE dL_law_672 (i := 1) rfl rfl ?_
  refine rx_scr hE hX hL (k := k) (j := 1) dL_law_673 dL_law_674 dL_law_675 dL_law_676 dL_law_677 rfl (by omega) ?_
  refine rx_scr hE hX hL (k := k) (j := 2) dL_law_678 dL_law_679 dL_law_680 dL_law_681 dL_law_682 rfl (by omega) ?_
  refine rx_call0 (rx_callV (av := [.int (xs (k + 1)), .int (xs (k + 2))]) hE dL_law_683 lk_L_90 hS hat np_X10_row rfl rfl (by omega) (Nat.le_of_ble_eq_true rfl) rfl ?_)
  rintro v M1 ⟨w, d2, hd2, rfl, hm, hS2⟩
  obtain ⟨fs2, hat2⟩ := hm.at384
  refine rx_aload_n hE dL_law_686 (i := 2) rfl rfl ?_
  refine rx_scr hE hX hL (k := k) (j := 1) dL_law_687 dL_law_688 dL_law_689 dL_law_690 dL_law_691 rfl (by omega) ?_
  refine rx_scr hE hX hL (k := k) (j := 2) dL_law_692 dL_law_693 dL_law_694 dL_law_695 dL_law_696 rfl (by omega) ?_
  refine rx_call0 (rx_callV (av := [.int (xs (k + 1)), .int (xs (k + 2))]) hE dL_law_697 lk_L_93 hS2 hat2 np_X11_row rfl rfl (by omega) (Nat.le_of_ble_eq_true rfl) rfl ?_)
  rintro v M2 ⟨rfl, hst⟩
  exact rx_icmp_eq (tgt := 1183) hE dL_law_700 (by decide) (fun _ => kk a b M2 (by omega) (by omega) hst) (fun q => absurd rfl q)
theorem lc_leastRoom {d : Nat} {nm : String} {E : gE} {L : Nat} {xs : Nat → Int32} {a b k : Nat} {M : gM} (hE : g_E d (mL nm) E) (hd : 40 ≤ d) (hX : g_X0 L xs E) (hk : k + 6 ≤ L) (hL : L ≤ 3072) (ha : 3 ≤ a) (hb : 500 ≤ b) (h : ST M) (kk : ∀ (a1 b1 : Nat) (M1 : gM), a ≤ a1 + 3 → b ≤ b1 + 500 → ST M1 → RX E 4 a1 b1 1183 (lcl k) [] M1) : RX E 4 a b 705 (lcl k) [] M := by
  obtain ⟨d1, hd1, hS⟩ := pr_leastRoom h (xs (k + 1))
  obtain ⟨fs, hat⟩ := h.isM.at16
  refine rx_aload_n hE dL_law_705 (i := 1) rfl rfl ?_
  refine rx_scr hE hX hL (k := k) (j := 1) dL_law_706 dL_law_707 dL_law_708 dL_law_709 dL_law_710 rfl (by omega) ?_
  refine rx_call0 (rx_callV (av := [.int (xs (k + 1))]) hE dL_law_711 lk_L_94 hS hat np_X10_leastRoom rfl rfl (by omega) (Nat.le_of_ble_eq_true rfl) rfl ?_)
  rintro v M1 ⟨w, d2, hd2, rfl, hm, hS2⟩
  obtain ⟨fs2, hat2⟩ := hm.at384
  refine rx_aload_n hE dL_law_714 (i := 2) rfl rfl ?_
  refine rx_scr hE hX hL (k := k) (j := 1) dL_law_715 dL_law_716 dL_law_717 dL_law_718 dL_law_719 rfl (by omega) ?_
  refine rx_call0 (rx_callV (av := [.int (xs (k + 1))]) hE dL_law_720 lk_L_97 hS2 hat2 np_X11_leastRoom rfl rfl (by omega) (Nat.le_of_ble_eq_true rfl) rfl ?_)
  rintro v M2 ⟨rfl, hst⟩
  exact rx_icmp_eq (tgt := 1183) hE dL_law_723 (by decide) (fun _ => kk a b M2 (by omega) (by omega) hst) (fun q => absurd rfl q)
theorem lc_shut {d : Nat} {nm : String} {E : gE} {L : Nat} {xs : Nat → Int32} {a b k : Nat} {M : gM} (hE : g_E d (mL nm) E) (hd : 40 ≤ d) (hX : g_X0 L xs E) (hk : k + 6 ≤ L) (hL : L ≤ 3072) (ha : 3 ≤ a) (hb : 500 ≤ b) (h : ST M) (kk : ∀ (a1 b1 : Nat) (M1 : gM), a ≤ a1 + 3 → b ≤ b1 + 500 → ST M1 → RX E 4 a1 b1 1183 (lcl k) [] M1) : RX E 4 a b 728 (lcl k) [] M := by
  obtain ⟨d1, hd1, hS⟩ := pr_shut h (xs (k + 1)) (xs (k + 2))
  obtain ⟨fs, hat⟩ := h.isM.at16
  refine rx_aload_n hE dL_law_728 (i := 1) rfl rfl ?_
  refine rx_scr hE hX hL (k := k) (j := 1) dL_law_729 dL_law_730 dL_law_731 dL_law_732 dL_law_733 rfl (by omega) ?_
  refine rx_scr hE hX hL (k := k) (j := 2) dL_law_734 dL_law_735 dL_law_736 dL_law_737 dL_law_738 rfl (by omega) ?_
  refine rx_call0 (rx_callV (av := [.int (xs (k + 1)), .int (xs (k + 2))]) hE dL_law_739 lk_L_98 hS hat np_X10_shut rfl rfl (by omega) (Nat.le_of_ble_eq_true rfl) rfl ?_)
  rintro v M1 ⟨w, d2, hd2, rfl, hm, hS2⟩
  obtain ⟨fs2, hat2⟩ := hm.at384
  refine rx_aload_n hE dL_law_742 (i := 2) rfl rfl ?_
  refine rx_scr hE hX hL (k := k) (j := 1) dL_law_743 dL_law_744 dL_law_745 dL_law_746 dL_law_747 rfl (by omega) ?_
  refine rx_scr hE hX hL (k := k) (j := 2) dL_law_748 dL_law_749 dL_law_750 dL_law_751 dL_law_752 rfl (by omega) ?_
  refine rx_call0 (rx_callV (av := [.int (xs (k + 1)), .int (xs (k + 2))]) hE dL_law_753 lk_L_101 hS2 hat2 np_X11_shut rfl rfl (by omega) (Nat.le_of_ble_eq_true rfl) rfl ?_)
  rintro v M2 ⟨rfl, hst⟩
  exact rx_icmp_eq (tgt := 1183) hE dL_law_756 (by decide) (fun _ => kk a b M2 (by omega) (by omega) hst) (fun q => absurd rfl q)
theorem lc_longest {d : Nat} {nm : String} {E : gE} {L : Nat} {xs : Nat → Int32} {a b k : Nat} {M : gM} (hE : g_E d (mL nm) E) (hd : 40 ≤ d) (hX : g_X0 L xs E) (hk : k + 6 ≤ L) (hL : L ≤ 3072) (ha : 3 ≤ a) (hb : 500 ≤ b) (h : ST M) (kk : ∀ (a1 b1 : Nat) (M1 : gM), a ≤ a1 + 3 → b ≤ b1 + 500 → ST M1 → RX E 4 a1 b1 1183 (lcl k) [] M1) : RX E 4 a b 761 (lcl k) [] M := by
  obtain ⟨d1, hd1, hS⟩ := pr_longest h (xs (k + 1)) (xs (k + 2))
  obtain ⟨fs, hat⟩ := h.isM.at16
  refine rx_aload_n hE dL_law_761 (i := 1) rfl rfl ?_
  refine rx_scr hE hX hL (k := k) (j := 1) dL_law_762 dL_law_763 dL_law_764 dL_law_765 dL_law_766 rfl (by omega) ?_
  refine rx_scr hE hX hL (k := k) (j := 2) dL_law_767 dL_law_768 dL_law_769 dL_law_770 dL_law_771 rfl (by omega) ?_
  refine rx_call0 (rx_callV (av := [.int (xs (k + 1)), .int (xs (k + 2))]) hE dL_law_772 lk_L_102 hS hat np_X10_longest rfl rfl (by omega) (Nat.le_of_ble_eq_true rfl) rfl ?_)
  rintro v M1 ⟨w, d2, hd2, rfl, hm, hS2⟩
  obtain ⟨fs2, hat2⟩ := hm.at384
  refine rx_aload_n hE dL_law_775 (i := 2) rfl rfl ?_
  refine rx_scr hE hX hL (k := k) (j := 1) dL_law_776 dL_law_777 dL_law_778 dL_law_779 dL_law_780 rfl (by omega) ?_
  refine rx_scr hE hX hL (k := k) (j := 2) dL_law_781 dL_law_782 dL_law_783 dL_law_784 dL_law_785 rfl (by omega) ?_
  refine rx_call0 (rx_callV (av := [.int (xs (k + 1)), .int (xs (k + 2))]) hE dL_law_786 lk_L_105 hS2 hat2 np_X11_longest rfl rfl (by omega) (Nat.le_of_ble_eq_true rfl) rfl ?_)
  rintro v M2 ⟨rfl, hst⟩
  exact rx_icmp_eq (tgt := 1183) hE dL_law_789 (by decide) (fun _ => kk a b M2 (by omega) (by omega) hst) (fun q => absurd rfl q)
theorem lc_cadenza {d : Nat} {nm : String} {E : gE} {L : Nat} {xs : Nat → Int32} {a b k : Nat} {M : gM} (hE : g_E d (mL nm) E) (hd : 40 ≤ d) (hX : g_X0 L xs E) (hk : k + 6 ≤ L) (hL : L ≤ 3072) (ha : 3 ≤ a) (hb : 500 ≤ b) (h : ST M) (kk : ∀ (a1 b1 : Nat) (M1 : gM), a ≤ a1 + 3 → b ≤ b1 + 500 → ST M1 → RX E 4 a1 b1 1183 (lcl k) [] M1) : RX E 4 a b 794 (lcl k) [] M := by
  obtain ⟨d1, hd1, hS⟩ := pr_cadenza h (xs (k + 1))
  obtain ⟨fs, hat⟩ := h.isM.at16
  refine rx_aload_n hE dL_law_794 (i := 1) rfl rfl ?_
  refine rx_scr hE hX hL (k := k) (j := 1) dL_law_795 dL_law_796 dL_law_797 dL_law_798 dL_law_799 rfl (by omega) ?_
  refine rx_call0 (rx_callV (av := [.int (xs (k + 1))]) hE dL_law_800 lk_L_106 hS hat np_X10_cadenza rfl rfl (by omega) (Nat.le_of_ble_eq_true rfl) rfl ?_)
  rintro v M1 ⟨w, d2, hd2, rfl, hm, hS2⟩
  obtain ⟨fs2, hat2⟩ := hm.at384
  refine rx_aload_n hE dL_law_803 (i := 2) rfl rfl ?_
  refine rx_scr hE hX hL (k := k) (j := 1) dL_law_804 dL_law_805 dL_law_806 dL_law_807 dL_law_808 rfl (by omega) ?_
  refine rx_call0 (rx_callV (av := [.int (xs (k + 1))]) hE dL_law_809 lk_L_109 hS2 hat2 np_X11_cadenza rfl rfl (by omega) (Nat.le_of_ble_eq_true rfl) rfl ?_)
  rintro v M2 ⟨rfl, hst⟩
  exact rx_icmp_eq (tgt := 1183) hE dL_law_812 (by decide) (fun _ => kk a b M2 (by omega) (by omega) hst) (fun q => absurd rfl q)
theorem lc_rests {d : Nat} {nm : String} {E : gE} {L : Nat} {xs : Nat → Int32} {a b k : Nat} {M : gM} (hE : g_E d (mL nm) E) (hd : 40 ≤ d) (hX : g_X0 L xs E) (hk : k + 6 ≤ L) (hL : L ≤ 3072) (ha : 3 ≤ a) (hb : 500 ≤ b) (h : ST M) (kk : ∀ (a1 b1 : Nat) (M1 : gM), a ≤ a1 + 3 → b ≤ b1 + 500 → ST M1 → RX E 4 a1 b1 1183 (lcl k) [] M1) : RX E 4 a b 817 (lcl k) [] M := by
  obtain ⟨d1, hd1, hS⟩ := pr_rests h (xs (k + 1)) (xs (k + 2)) (xs (k + 3)) (xs (k + 4))
  obtain ⟨fs, hat⟩ := h.isM.at16
  refine rx_aload_n hE dL_law_817 (i := 1) rfl rfl ?_
  refine rx_scr hE hX hL (k := k) (j := 1) dL_law_818 dL_law_819 dL_law_820 dL_law_821 dL_law_822 rfl (by omega) ?_
  refine rx_scr hE hX hL (k := k) (j := 2) dL_law_823 dL_law_824 dL_law_825 dL_law_826 dL_law_827 rfl (by omega) ?_
  refine rx_scr hE hX hL (k := k) (j := 3) dL_law_828 dL_law_829 dL_law_830 dL_law_831 dL_law_832 rfl (by omega) ?_
  refine rx_scr hE hX hL (k := k) (j := 4) dL_law_833 dL_law_834 dL_law_835 dL_law_836 dL_law_837 rfl (by omega) ?_
  refine rx_call0 (rx_callV (av := [.int (xs (k + 1)), .int (xs (k + 2)), .int (xs (k + 3)), .int (xs (k + 4))]) hE dL_law_838 lk_L_110 hS hat np_X10_rests rfl rfl (by omega) (Nat.le_of_ble_eq_true rfl) rfl ?_)
  rintro v M1 ⟨w, d2, hd2, rfl, hm, hS2⟩
  obtain ⟨fs2, hat2⟩ := hm.at384
  refine rx_aload_n hE dL_law_841 (i := 2) rfl rfl ?_
  refine rx_scr hE hX hL (k := k) (j := 1) dL_law_842 dL_law_843 dL_law_844 dL_law_845 dL_law_846 rfl (by omega) ?_
  refine rx_scr hE hX hL (k := k) (j := 2) dL_law_847 dL_law_848 dL_law_849 dL_law_850 dL_law_851 rfl (by omega) ?_
  refine rx_scr hE hX hL (k := k) (j := 3) dL_law_852 dL_law_853 dL_law_854 dL_law_855 dL_law_856 rfl (by omega) ?_
  refine rx_scr hE hX hL (k := k) (j := 4) dL_law_857 dL_law_858 dL_law_859 dL_law_860 dL_law_861 rfl (by omega) ?_
  refine rx_call0 (rx_callV (av := [.int (xs (k + 1)), .int (xs (k + 2)), .int (xs (k + 3)), .int (xs (k + 4))]) hE dL_law_862 lk_L_114 hS2 hat2 np_X11_rests rfl rfl (by omega) (Nat.le_of_ble_eq_true rfl) rfl ?_)
  rintro v M2 ⟨rfl, hst⟩
  exact rx_icmp_eq (tgt := 1183) hE dL_law_865 (by decide) (fun _ => kk a b M2 (by omega) (by omega) hst) (fun q => absurd rfl q)
theorem lc_ring {d : Nat} {nm : String} {E : gE} {L : Nat} {xs : Nat → Int32} {a b k : Nat} {M : gM} (hE : g_E d (mL nm) E) (hd : 40 ≤ d) (hX : g_X0 L xs E) (hk : k + 6 ≤ L) (hL : L ≤ 3072) (ha : 3 ≤ a) (hb : 500 ≤ b) (h : ST M) (kk : ∀ (a1 b1 : Nat) (M1 : gM), a ≤ a1 + 3 → b ≤ b1 + 500 → ST M1 → RX E 4 a1 b1 1183 (lcl k) [] M1) : RX E 4 a b 870 (lcl k) [] M := by
  obtain ⟨d1, hd1, hS⟩ := pr_ring h (xs (k + 1))
  obtain ⟨fs, hat⟩ := h.isM.at16
  refine rx_aload_n hE dL_law_870 (i := 1) rfl rfl ?_
  refine rx_scr hE hX hL (k := k) (j := 1) dL_law_871 dL_law_872 dL_law_873 dL_law_874 dL_law_875 rfl (by omega) ?_
  refine rx_call0 (rx_callV (av := [.int (xs (k + 1))]) hE dL_law_876 lk_L_115 hS hat np_X10_ring rfl rfl (by omega) (Nat.le_of_ble_eq_true rfl) rfl ?_)
  rintro v M1 ⟨w, d2, hd2, rfl, hm, hS2⟩
  obtain ⟨fs2, hat2⟩ := hm.at384
  refine rx_aload_n hE dL_law_879 (i := 2) rfl rfl ?_
  refine rx_scr hE hX hL (k := k) (j := 1) dL_law_880 dL_law_881 dL_law_882 dL_law_883 dL_law_884 rfl (by omega) ?_
  refine rx_call0 (rx_callV (av := [.int (xs (k + 1))]) hE dL_law_885 lk_L_118 hS2 hat2 np_X11_ring rfl rfl (by omega) (Nat.le_of_ble_eq_true rfl) rfl ?_)
  rintro v M2 ⟨rfl, hst⟩
  exact rx_icmp_eq (tgt := 1183) hE dL_law_888 (by decide) (fun _ => kk a b M2 (by omega) (by omega) hst) (fun q => absurd rfl q)
theorem lc_pence {d : Nat} {nm : String} {E : gE} {L : Nat} {xs : Nat → Int32} {a b k : Nat} {M : gM} (hE : g_E d (mL nm) E) (hd : 40 ≤ d) (hX : g_X0 L xs E) (hk : k + 6 ≤ L) (hL : L ≤ 3072) (ha : 3 ≤ a) (hb : 500 ≤ b) (h : ST M) (kk : ∀ (a1 b1 : Nat) (M1 : gM), a ≤ a1 + 3 → b ≤ b1 + 500 → ST M1 → RX E 4 a1 b1 1183 (lcl k) [] M1) : RX E 4 a b 893 (lcl k) [] M := by
  obtain ⟨d1, hd1, hS⟩ := pr_pence h (xs (k + 1)) (xs (k + 2))
  obtain ⟨fs, hat⟩ := h.isM.at16
  refine rx_aload_n hE dL_law_893 (i := 1) rfl rfl ?_
  refine rx_scr hE hX hL (k := k) (j := 1) dL_law_894 dL_law_895 dL_law_896 dL_law_897 dL_law_898 rfl (by omega) ?_
  refine rx_scr hE hX hL (k := k) (j := 2) dL_law_899 dL_law_900 dL_law_901 dL_law_902 dL_law_903 rfl (by omega) ?_
  refine rx_call0 (rx_callV (av := [.int (xs (k + 1)), .int (xs (k + 2))]) hE dL_law_904 lk_L_119 hS hat np_X10_pence rfl rfl (by omega) (Nat.le_of_ble_eq_true rfl) rfl ?_)
  rintro v M1 ⟨w, d2, hd2, rfl, hm, hS2⟩
  obtain ⟨fs2, hat2⟩ := hm.at384
  refine rx_aload_n hE dL_law_907 (i := 2) rfl rfl ?_
  refine rx_scr hE hX hL (k := k) (j := 1) dL_law_908 dL_law_909 dL_law_910 dL_law_911 dL_law_912 rfl (by omega) ?_
  refine rx_scr hE hX hL (k := k) (j := 2) dL_law_913 dL_law_914 dL_law_915 dL_law_916 dL_law_917 rfl (by omega) ?_
  refine rx_call0 (rx_callV (av := [.int (xs (k + 1)), .int (xs (k + 2))]) hE dL_law_918 lk_L_122 hS2 hat2 np_X11_pence rfl rfl (by omega) (Nat.le_of_ble_eq_true rfl) rfl ?_)
  rintro v M2 ⟨rfl, hst⟩
  exact rx_icmp_eq (tgt := 1183) hE dL_law_921 (by decide) (fun _ => kk a b M2 (by omega) (by omega) hst) (fun q => absurd rfl q)
theorem lc_note {d : Nat} {nm : String} {E : gE} {L : Nat} {xs : Nat → Int32} {a b k : Nat} {M : gM} (hE : g_E d (mL nm) E) (hd : 40 ≤ d) (hX : g_X0 L xs E) (hk : k + 6 ≤ L) (hL : L ≤ 3072) (ha : 3 ≤ a) (hb : 500 ≤ b) (h : ST M) (kk : ∀ (a1 b1 : Nat) (M1 : gM), a ≤ a1 + 3 → b ≤ b1 + 500 → ST M1 → RX E 4 a1 b1 1183 (lcl k) [] M1) : RX E 4 a b 926 (lcl k) [] M := by
  obtain ⟨d1, hd1, hS⟩ := pr_note h (xs (k + 1)) (xs (k + 2)) (xs (k + 3))
  obtain ⟨fs, hat⟩ := h.isM.at16
  refine rx_aload_n hE dL_law_926 (i := 1) rfl rfl ?_
  refine rx_scr hE hX hL (k := k) (j := 1) dL_law_927 dL_law_928 dL_law_929 dL_law_930 dL_law_931 rfl (by omega) ?_
  refine rx_scr hE hX hL (k := k) (j := 2) dL_law_932 dL_law_933 dL_law_934 dL_law_935 dL_law_936 rfl (by omega) ?_
  refine rx_scr hE hX hL (k := k) (j := 3) dL_law_937 dL_law_938 dL_law_939 dL_law_940 dL_law_941 rfl (by omega) ?_
  refine rx_call0 (rx_callV (av := [.int (xs (k + 1)), .int (xs (k + 2)), .int (xs (k + 3))]) hE dL_law_942 lk_L_123 hS hat np_X10_note rfl rfl (by omega) (Nat.le_of_ble_eq_true rfl) rfl ?_)
  rintro v M1 ⟨w, d2, hd2, rfl, hm, hS2⟩
  obtain ⟨fs2, hat2⟩ := hm.at384
  refine rx_aload_n hE dL_law_945 (i := 2) rfl rfl ?_
  refine rx_scr hE hX hL (k := k) (j := 1) dL_law_946 dL_law_947 dL_law_948 dL_law_949 dL_law_950 rfl (by omega) ?_
  refine rx_scr hE hX hL (k := k) (j := 2) dL_law_951 dL_law_952 dL_law_953 dL_law_954 dL_law_955 rfl (by omega) ?_
  refine rx_scr hE hX hL (k := k) (j := 3) dL_law_956 dL_law_957 dL_law_958 dL_law_959 dL_law_960 rfl (by omega) ?_
  refine rx_call0 (rx_callV (av := [.int (xs (k + 1)), .int (xs (k + 2)), .int (xs (k + 3))]) hE dL_law_961 lk_L_126 hS2 hat2 np_X11_note rfl rfl (by omega) (Nat.le_of_ble_eq_true rfl) rfl ?_)
  rintro v M2 ⟨rfl, hst⟩
  exact rx_icmp_eq (tgt := 1183) hE dL_law_964 (by decide) (fun _ => kk a b M2 (by omega) (by omega) hst) (fun q => absurd rfl q)
theorem lc_ruled {d : Nat} {nm : String} {E : gE} {L : Nat} {xs : Nat → Int32} {a b k : Nat} {M : gM} (hE : g_E d (mL nm) E) (hd : 40 ≤ d) (hX : g_X0 L xs E) (hk : k + 6 ≤ L) (hL : L ≤ 3072) (ha : 3 ≤ a) (hb : 500 ≤ b) (h : ST M) (kk : ∀ (a1 b1 : Nat) (M1 : gM), a ≤ a1 + 3 → b ≤ b1 + 500 → ST M1 → RX E 4 a1 b1 1183 (lcl k) [] M1) : RX E 4 a b 969 (lcl k) [] M := by
  obtain ⟨d1, hd1, hS⟩ := pr_ruled h (xs (k + 1))
  obtain ⟨fs, hat⟩ := h.isM.at16
  refine rx_aload_n hE dL_law_969 (i := 1) rfl rfl ?_
  refine rx_scr hE hX hL (k := k) (j := 1) dL_law_970 dL_law_971 dL_law_972 dL_law_973 dL_law_974 rfl (by omega) ?_
  refine rx_call0 (rx_callV (av := [.int (xs (k + 1))]) hE dL_law_975 lk_L_127 hS hat np_X10_ruled rfl rfl (by omega) (Nat.le_of_ble_eq_true rfl) rfl ?_)
  rintro v M1 ⟨w, d2, hd2, rfl, hm, hS2⟩
  obtain ⟨fs2, hat2⟩ := hm.at384
  refine rx_aload_n hE dL_law_978 (i := 2) rfl rfl ?_
  refine rx_scr hE hX hL (k := k) (j := 1) dL_law_979 dL_law_980 dL_law_981 dL_law_982 dL_law_983 rfl (by omega) ?_
  refine rx_call0 (rx_callV (av := [.int (xs (k + 1))]) hE dL_law_984 lk_L_130 hS2 hat2 np_X11_ruled rfl rfl (by omega) (Nat.le_of_ble_eq_true rfl) rfl ?_)
  rintro v M2 ⟨rfl, hst⟩
  exact rx_icmp_eq (tgt := 1183) hE dL_law_987 (by decide) (fun _ => kk a b M2 (by omega) (by omega) hst) (fun q => absurd rfl q)
theorem lc_look {d : Nat} {nm : String} {E : gE} {L : Nat} {xs : Nat → Int32} {a b k : Nat} {M : gM} (hE : g_E d (mL nm) E) (hd : 40 ≤ d) (hX : g_X0 L xs E) (hk : k + 6 ≤ L) (hL : L ≤ 3072) (ha : 3 ≤ a) (hb : 500 ≤ b) (h : ST M) (kk : ∀ (a1 b1 : Nat) (M1 : gM), a ≤ a1 + 3 → b ≤ b1 + 500 → ST M1 → RX E 4 a1 b1 1183 (lcl k) [] M1) : RX E 4 a b 992 (lcl k) [] M := by
  obtain ⟨d1, hd1, hS⟩ := pr_look h (xs (k + 1)) (xs (k + 2))
  obtain ⟨fs, hat⟩ := h.isM.at16
  refine rx_aload_n hE dL_law_992 (i := 1) rfl rfl ?_
  refine rx_scr hE hX hL (k := k) (j := 1) dL_law_993 dL_law_994 dL_law_995 dL_law_996 dL_law_997 rfl (by omega) ?_
  refine rx_scr hE hX hL (k := k) (j := 2) dL_law_998 dL_law_999 dL_law_1000 dL_law_1001 dL_law_1002 rfl (by omega) ?_
  refine rx_call0 (rx_callV (av := [.int (xs (k + 1)), .int (xs (k + 2))]) hE dL_law_1003 lk_L_131 hS hat np_X10_look rfl rfl (by omega) (Nat.le_of_ble_eq_true rfl) rfl ?_)
  rintro v M1 ⟨w, d2, hd2, rfl, hm, hS2⟩
  obtain ⟨fs2, hat2⟩ := hm.at384
  refine rx_aload_n hE dL_law_1006 (i := 2) rfl rfl ?_
  refine rx_scr hE hX hL (k := k) (j := 1) dL_law_1007 dL_law_1008 dL_law_1009 dL_law_1010 dL_law_1011 rfl (by omega) ?_
  refine rx_scr hE hX hL (k := k) (j := 2) dL_law_1012 dL_law_1013 dL_law_1014 dL_law_1015 dL_law_1016 rfl (by omega) ?_
  refine rx_call0 (rx_callV (av := [.int (xs (k + 1)), .int (xs (k + 2))]) hE dL_law_1017 lk_L_134 hS2 hat2 np_X11_look rfl rfl (by omega) (Nat.le_of_ble_eq_true rfl) rfl ?_)
  rintro v M2 ⟨rfl, hst⟩
  exact rx_icmp_eq (tgt := 1183) hE dL_law_1020 (by decide) (fun _ => kk a b M2 (by omega) (by omega) hst) (fun q => absurd rfl q)
theorem lc_seed {d : Nat} {nm : String} {E : gE} {L : Nat} {xs : Nat → Int32} {a b k : Nat} {M : gM} (hE : g_E d (mL nm) E) (hd : 40 ≤ d) (hX : g_X0 L xs E) (hk : k + 6 ≤ L) (hL : L ≤ 3072) (ha : 3 ≤ a) (hb : 500 ≤ b) (h : ST M) (kk : ∀ (a1 b1 : Nat) (M1 : gM), a ≤ a1 + 3 → b ≤ b1 + 500 → ST M1 → RX E 4 a1 b1 1183 (lcl k) [] M1) : RX E 4 a b 1025 (lcl k) [] M := by
  obtain ⟨d1, hd1, hS⟩ := pr_seed h (xs (k + 1))
  obtain ⟨fs, hat⟩ := h.isM.at16
  refine rx_aload_n hE dL_law_1025 (i := 1) rfl rfl ?_
  refine rx_scr hE hX hL (k := k) (j := 1) dL_law_1026 dL_law_1027 dL_law_1028 dL_law_1029 dL_law_1030 rfl (by omega) ?_
  refine rx_call0 (rx_callV (av := [.int (xs (k + 1))]) hE dL_law_1031 lk_L_135 hS hat np_X10_seed rfl rfl (by omega) (Nat.le_of_ble_eq_true rfl) rfl ?_)
  rintro v M1 ⟨w, d2, hd2, rfl, hm, hS2⟩
  obtain ⟨fs2, hat2⟩ := hm.at384
  refine rx_aload_n hE dL_law_1034 (i := 2) rfl rfl ?_
  refine rx_scr hE hX hL (k := k) (j := 1) dL_law_1035 dL_law_1036 dL_law_1037 dL_law_1038 dL_law_1039 rfl (by omega) ?_
  refine rx_call0 (rx_callV (av := [.int (xs (k + 1))]) hE dL_law_1040 lk_L_138 hS2 hat2 np_X11_seed rfl rfl (by omega) (Nat.le_of_ble_eq_true rfl) rfl ?_)
  rintro v M2 ⟨rfl, hst⟩
  exact rx_icmp_eq (tgt := 1183) hE dL_law_1043 (by decide) (fun _ => kk a b M2 (by omega) (by omega) hst) (fun q => absurd rfl q)
theorem lc_mornings {d : Nat} {nm : String} {E : gE} {L : Nat} {xs : Nat → Int32} {a b k : Nat} {M : gM} (hE : g_E d (mL nm) E) (hd : 40 ≤ d) (hX : g_X0 L xs E) (hk : k + 6 ≤ L) (hL : L ≤ 3072) (ha : 3 ≤ a) (hb : 500 ≤ b) (h : ST M) (kk : ∀ (a1 b1 : Nat) (M1 : gM), a ≤ a1 + 3 → b ≤ b1 + 500 → ST M1 → RX E 4 a1 b1 1183 (lcl k) [] M1) : RX E 4 a b 1048 (lcl k) [] M := by
  obtain ⟨d1, hd1, hS⟩ := pr_mornings h (xs (k + 1)) (xs (k + 2)) (xs (k + 3)) (xs (k + 4))
  obtain ⟨fs, hat⟩ := h.isM.at16
  refine rx_aload_n hE dL_law_1048 (i := 1) rfl rfl ?_
  refine rx_scr hE hX hL (k := k) (j := 1) dL_law_1049 dL_law_1050 dL_law_1051 dL_law_1052 dL_law_1053 rfl (by omega) ?_
  refine rx_scr hE hX hL (k := k) (j := 2) dL_law_1054 dL_law_1055 dL_law_1056 dL_law_1057 dL_law_1058 rfl (by omega) ?_
  refine rx_scr hE hX hL (k := k) (j := 3) dL_law_1059 dL_law_1060 dL_law_1061 dL_law_1062 dL_law_1063 rfl (by omega) ?_
  refine rx_scr hE hX hL (k := k) (j := 4) dL_law_1064 dL_law_1065 dL_law_1066 dL_law_1067 dL_law_1068 rfl (by omega) ?_
  refine rx_call0 (rx_callV (av := [.int (xs (k + 1)), .int (xs (k + 2)), .int (xs (k + 3)), .int (xs (k + 4))]) hE dL_law_1069 lk_L_139 hS hat np_X10_mornings rfl rfl (by omega) (Nat.le_of_ble_eq_true rfl) rfl ?_)
  rintro v M1 ⟨w, d2, hd2, rfl, hm, hS2⟩
  obtain ⟨fs2, hat2⟩ := hm.at384
  refine rx_aload_n hE dL_law_1072 (i := 2) rfl rfl ?_
  refine rx_scr hE hX hL (k := k) (j := 1) dL_law_1073 dL_law_1074 dL_law_1075 dL_law_1076 dL_law_1077 rfl (by omega) ?_
  refine rx_scr hE hX hL (k := k) (j := 2) dL_law_1078 dL_law_1079 dL_law_1080 dL_law_1081 dL_law_1082 rfl (by omega) ?_
  refine rx_scr hE hX hL (k := k) (j := 3) dL_law_1083 dL_law_1084 dL_law_1085 dL_law_1086 dL_law_1087 rfl (by omega) ?_
  refine rx_scr hE hX hL (k := k) (j := 4) dL_law_1088 dL_law_1089 dL_law_1090 dL_law_1091 dL_law_1092 rfl (by omega) ?_
  refine rx_call0 (rx_callV (av := [.int (xs (k + 1)), .int (xs (k + 2)), .int (xs (k + 3)), .int (xs (k + 4))]) hE dL_law_1093 lk_L_142 hS2 hat2 np_X11_mornings rfl rfl (by omega) (Nat.le_of_ble_eq_true rfl) rfl ?_)
  rintro v M2 ⟨rfl, hst⟩
  exact rx_icmp_eq (tgt := 1183) hE dL_law_1096 (by decide) (fun _ => kk a b M2 (by omega) (by omega) hst) (fun q => absurd rfl q)
theorem lc_count {d : Nat} {nm : String} {E : gE} {L : Nat} {xs : Nat → Int32} {a b k : Nat} {M : gM} (hE : g_E d (mL nm) E) (hd : 40 ≤ d) (hX : g_X0 L xs E) (hk : k + 6 ≤ L) (hL : L ≤ 3072) (ha : 3 ≤ a) (hb : 500 ≤ b) (h : ST M) (kk : ∀ (a1 b1 : Nat) (M1 : gM), a ≤ a1 + 3 → b ≤ b1 + 500 → ST M1 → RX E 4 a1 b1 1183 (lcl k) [] M1) : RX E 4 a b 1101 (lcl k) [] M := by
  obtain ⟨d1, hd1, hS⟩ := pr_count h (xs (k + 1))
  obtain ⟨fs, hat⟩ := h.isM.at16
  refine rx_aload_n hE dL_law_1101 (i := 1) rfl rfl ?_
  refine rx_scr hE hX hL (k := k) (j := 1) dL_law_1102 dL_law_1103 dL_law_1104 dL_law_1105 dL_law_1106 rfl (by omega) ?_
  refine rx_call0 (rx_callV (av := [.int (xs (k + 1))]) hE dL_law_1107 lk_L_143 hS hat np_X10_count rfl rfl (by omega) (Nat.le_of_ble_eq_true rfl) rfl ?_)
  rintro v M1 ⟨w, d2, hd2, rfl, hm, hS2⟩
  obtain ⟨fs2, hat2⟩ := hm.at384
  refine rx_aload_n hE dL_law_1110 (i := 2) rfl rfl ?_
  refine rx_scr hE hX hL (k := k) (j := 1) dL_law_1111 dL_law_1112 dL_law_1113 dL_law_1114 dL_law_1115 rfl (by omega) ?_
  refine rx_call0 (rx_callV (av := [.int (xs (k + 1))]) hE dL_law_1116 lk_L_146 hS2 hat2 np_X11_count rfl rfl (by omega) (Nat.le_of_ble_eq_true rfl) rfl ?_)
  rintro v M2 ⟨rfl, hst⟩
  exact rx_icmp_eq (tgt := 1183) hE dL_law_1119 (by decide) (fun _ => kk a b M2 (by omega) (by omega) hst) (fun q => absurd rfl q)
theorem lc_heard {d : Nat} {nm : String} {E : gE} {L : Nat} {xs : Nat → Int32} {a b k : Nat} {M : gM} (hE : g_E d (mL nm) E) (hd : 40 ≤ d) (hX : g_X0 L xs E) (hk : k + 6 ≤ L) (hL : L ≤ 3072) (ha : 3 ≤ a) (hb : 500 ≤ b) (h : ST M) (kk : ∀ (a1 b1 : Nat) (M1 : gM), a ≤ a1 + 3 → b ≤ b1 + 500 → ST M1 → RX E 4 a1 b1 1183 (lcl k) [] M1) : RX E 4 a b 1124 (lcl k) [] M := by
  obtain ⟨d1, hd1, hS⟩ := pr_heard h
  obtain ⟨fs, hat⟩ := h.isM.at16
  refine rx_aload_n hE dL_law_1124 (i := 1) rfl rfl ?_
  refine rx_call0 (rx_callV (av := []) hE dL_law_1125 lk_L_147 hS hat np_X10_heard rfl rfl (by omega) (Nat.le_of_ble_eq_true rfl) rfl ?_)
  rintro v M1 ⟨w, d2, hd2, rfl, hm, hS2⟩
  obtain ⟨fs2, hat2⟩ := hm.at384
  refine rx_aload_n hE dL_law_1128 (i := 2) rfl rfl ?_
  refine rx_call0 (rx_callV (av := []) hE dL_law_1129 lk_L_150 hS2 hat2 np_X11_heard rfl rfl (by omega) (Nat.le_of_ble_eq_true rfl) rfl ?_)
  rintro v M2 ⟨rfl, hst⟩
  exact rx_icmp_eq (tgt := 1183) hE dL_law_1132 (by decide) (fun _ => kk a b M2 (by omega) (by omega) hst) (fun q => absurd rfl q)
theorem lc_image {d : Nat} {nm : String} {E : gE} {L : Nat} {xs : Nat → Int32} {a b k : Nat} {M : gM} (hE : g_E d (mL nm) E) (hd : 40 ≤ d) (hX : g_X0 L xs E) (hk : k + 6 ≤ L) (hL : L ≤ 3072) (ha : 3 ≤ a) (hb : 500 ≤ b) (h : ST M) (kk : ∀ (a1 b1 : Nat) (M1 : gM), a ≤ a1 + 3 → b ≤ b1 + 500 → ST M1 → RX E 4 a1 b1 1183 (lcl k) [] M1) : RX E 4 a b 1137 (lcl k) [] M := by
  obtain ⟨d1, hd1, hS⟩ := pr_image h (xs (k + 1))
  obtain ⟨fs, hat⟩ := h.isM.at16
  refine rx_aload_n hE dL_law_1137 (i := 1) rfl rfl ?_
  refine rx_scr hE hX hL (k := k) (j := 1) dL_law_1138 dL_law_1139 dL_law_1140 dL_law_1141 dL_law_1142 rfl (by omega) ?_
  refine rx_call0 (rx_callV (av := [.int (xs (k + 1))]) hE dL_law_1143 lk_L_151 hS hat np_X10_image rfl rfl (by omega) (Nat.le_of_ble_eq_true rfl) rfl ?_)
  rintro v M1 ⟨w, d2, hd2, rfl, hm, hS2⟩
  obtain ⟨fs2, hat2⟩ := hm.at384
  refine rx_aload_n hE dL_law_1146 (i := 2) rfl rfl ?_
  refine rx_scr hE hX hL (k := k) (j := 1) dL_law_1147 dL_law_1148 dL_law_1149 dL_law_1150 dL_law_1151 rfl (by omega) ?_
  refine rx_call0 (rx_callV (av := [.int (xs (k + 1))]) hE dL_law_1152 lk_L_154 hS2 hat2 np_X11_image rfl rfl (by omega) (Nat.le_of_ble_eq_true rfl) rfl ?_)
  rintro v M2 ⟨rfl, hst⟩
  exact rx_icmp_eq (tgt := 1183) hE dL_law_1155 (by decide) (fun _ => kk a b M2 (by omega) (by omega) hst) (fun q => absurd rfl q)
theorem lc_back {d : Nat} {nm : String} {E : gE} {L : Nat} {xs : Nat → Int32} {a b k : Nat} {M : gM} (hE : g_E d (mL nm) E) (hd : 40 ≤ d) (hX : g_X0 L xs E) (hk : k + 6 ≤ L) (hL : L ≤ 3072) (ha : 3 ≤ a) (hb : 500 ≤ b) (h : ST M) (kk : ∀ (a1 b1 : Nat) (M1 : gM), a ≤ a1 + 3 → b ≤ b1 + 500 → ST M1 → RX E 4 a1 b1 1183 (lcl k) [] M1) : RX E 4 a b 1160 (lcl k) [] M := by
  obtain ⟨d1, hd1, hS⟩ := pr_back h (xs (k + 1))
  obtain ⟨fs, hat⟩ := h.isM.at16
  refine rx_aload_n hE dL_law_1160 (i := 1) rfl rfl ?_
  refine rx_scr hE hX hL (k := k) (j := 1) dL_law_1161 dL_law_1162 dL_law_1163 dL_law_1164 dL_law_1165 rfl (by omega) ?_
  refine rx_call0 (rx_callV (av := [.int (xs (k + 1))]) hE dL_law_1166 lk_L_155 hS hat np_X10_back rfl rfl (by omega) (Nat.le_of_ble_eq_true rfl) rfl ?_)
  rintro v M1 ⟨w, d2, hd2, rfl, hm, hS2⟩
  obtain ⟨fs2, hat2⟩ := hm.at384
  refine rx_aload_n hE dL_law_1169 (i := 2) rfl rfl ?_
  refine rx_scr hE hX hL (k := k) (j := 1) dL_law_1170 dL_law_1171 dL_law_1172 dL_law_1173 dL_law_1174 rfl (by omega) ?_
  refine rx_call0 (rx_callV (av := [.int (xs (k + 1))]) hE dL_law_1175 lk_L_158 hS2 hat2 np_X11_back rfl rfl (by omega) (Nat.le_of_ble_eq_true rfl) rfl ?_)
  rintro v M2 ⟨rfl, hst⟩
  exact rx_icmp_eq (tgt := 1183) hE dL_law_1178 (by decide) (fun _ => kk a b M2 (by omega) (by omega) hst) (fun q => absurd rfl q)
