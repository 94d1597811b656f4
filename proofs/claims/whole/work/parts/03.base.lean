/-! ===== the abstract memory: addresses from 16 on are cells of ours, in the order they were made; those below are cells that were there ===== -/
abbrev gM : Type := Nat × (Nat → va_E)
abbrev gG : Type := va_G × (Nat → ClassId) × Nat × (Nat → Nat)
abbrev gMi : Type := MethodName × ByteArray × Nat × Option FieldType
abbrev gE : Type := Program × Launch × Env × Room × State × MethodId × Array Value × List Frame × Method × Code × (State → Prop) × gG
def g_ad (g : gG) (k : Nat) : Nat := if k < 16 then g.2.2.2 k else g.2.2.1 + (k - 16)
theorem g_ad_hi (g : gG) {k : Nat} (h : 16 ≤ k) : g_ad g k = g.2.2.1 + (k - 16) := if_neg (Nat.not_lt.mpr h)
theorem g_ad_lo (g : gG) {k : Nat} (h : k < 16) : g_ad g k = g.2.2.2 k := if_pos h
def g_v (g : gG) (v : Value) : Value := match v with
  | .ref k => .ref (g_ad g k)
  | v => v
def g_e (g : gG) (e : va_E) : va_E := match e with
  | .inl (t, n, .inl f) => .inl (g.2.1 t, n, .inl f)
  | .inl (t, n, .inr (.inl f)) => .inl (g.2.1 t, n, .inr (.inl f))
  | .inl (t, n, .inr (.inr (.inl f))) => .inl (g.2.1 t, n, .inr (.inr (.inl f)))
  | .inl (t, n, .inr (.inr (.inr (.inl f)))) => .inl (g.2.1 t, n, .inr (.inr (.inr (.inl f))))
  | .inl (t, n, .inr (.inr (.inr (.inr f)))) => .inl (g.2.1 t, n, .inr (.inr (.inr (.inr (fun i => (f i).map (g_ad g))))))
  | .inr (ci, fs) => .inr (ci, fs.map (g_v g))
def g_ws (g : gG) (M : gM) : va_W := (List.range (M.1 - 16)).map (fun k => (g.2.2.1 + k, g_e g (M.2 (k + 16))))
def g_R (g : gG) (M : gM) (H : Heap) : Prop := 16 ≤ M.1 ∧ H.size = g.2.2.1 + (M.1 - 16) ∧ va_P g.1 vwCl (g_ws g M) H
def g_ty (t : Nat) : FieldType := match t with
  | 0 => .int
  | 1 => .byte
  | 2 => .long
  | 3 => .boolean
  | 4 => .object "DutyBeats$Rule"
  | 5 => .object "DutyBeats$Junction"
  | 6 => .object "DutyBeats$Image"
  | _ => .array .int
def g_tys (g : gG) : List (ClassId × FieldType) := (List.range 8).map (fun t => (g.2.1 t, g_ty t))
theorem g_tys_at (g : gG) {t : Nat} (h : t < 8) : (g_tys g)[t]? = some (g.2.1 t, g_ty t) := by
  unfold g_tys
  rw [List.getElem?_map, List.getElem?_range h]
  rfl
/-- a cell of ours holds e -/
def g_at (M : gM) (k : Nat) (e : va_E) : Prop := 16 ≤ k ∧ k < M.1 ∧ M.2 k = e
def g_up (M : gM) (k : Nat) (e : va_E) : gM := (M.1, fun q => if q = k then e else M.2 q)
def g_nw (M : gM) (e : va_E) : gM := (M.1 + 1, fun q => if q = M.1 then e else M.2 q)
theorem g_ws_at (g : gG) {M : gM} {k : Nat} {e : va_E} (h : g_at M k e) : (g_ws g M)[k - 16]? = some (g_ad g k, g_e g e) := by
  obtain ⟨h1, h2, h3⟩ := h
  unfold g_ws
  rw [List.getElem?_map, List.getElem?_range (by omega)]
  show some (g.2.2.1 + (k - 16), g_e g (M.2 (k - 16 + 16))) = _
  rw [show k - 16 + 16 = k by omega, h3, g_ad_hi g h1]
theorem g_ws_len (g : gG) (M : gM) : (g_ws g M).length = M.1 - 16 := by
  unfold g_ws
  rw [List.length_map, List.length_range]
theorem g_ws_get (g : gG) (M : gM) {k : Nat} (h : k < M.1 - 16) : (g_ws g M)[k]? = some (g.2.2.1 + k, g_e g (M.2 (k + 16))) := by
  unfold g_ws
  rw [List.getElem?_map, List.getElem?_range h]
  rfl
theorem g_ws_up (g : gG) {M : gM} {k : Nat} (h1 : 16 ≤ k) (e : va_E) : g_ws g (g_up M k e) = (g_ws g M).set (k - 16) (g_ad g k, g_e g e) := by
  apply List.ext_getElem?
  intro i
  by_cases hi : i < M.1 - 16
  · rw [g_ws_get g (g_up M k e) hi]
    by_cases hk : i = k - 16
    · subst hk
      rw [List.getElem?_set_self (by rw [g_ws_len]; exact hi), g_ad_hi g h1]
      show some (_, g_e g (if k - 16 + 16 = k then e else M.2 (k - 16 + 16))) = _
      rw [if_pos (by omega)]
    · rw [List.getElem?_set_ne (fun q => hk q.symm), g_ws_get g M hi]
      show some (_, g_e g (if i + 16 = k then e else M.2 (i + 16))) = _
      rw [if_neg (by omega)]
  · rw [List.getElem?_eq_none (by rw [g_ws_len]; exact Nat.not_lt.mp hi), List.getElem?_eq_none (by rw [List.length_set, g_ws_len]; exact Nat.not_lt.mp hi)]
theorem g_ws_nw (g : gG) {M : gM} (h1 : 16 ≤ M.1) (e : va_E) : g_ws g (g_nw M e) = g_ws g M ++ [(g_ad g M.1, g_e g e)] := by
  unfold g_ws
  show (List.range (M.1 + 1 - 16)).map _ = _
  rw [show M.1 + 1 - 16 = (M.1 - 16) + 1 by omega, List.range_succ, List.map_append]
  congr 1
  · apply List.map_congr_left
    intro k hk
    have := List.mem_range.mp hk
    show (_, g_e g (if k + 16 = M.1 then e else M.2 (k + 16))) = _
    rw [if_neg (by omega)]
  · show [(g.2.2.1 + (M.1 - 16), g_e g (if M.1 - 16 + 16 = M.1 then e else M.2 (M.1 - 16 + 16)))] = _
    rw [if_pos (by omega), g_ad_hi g h1]
def g_A (g : gG) : Nat → Prop := fun q => g.2.2.1 ≤ q
theorem g_D (g : gG) (M : gM) : va_D (g_A g) (g_ws g M) := by
  have key : ∀ (k : Nat) (q : Nat × va_E), (g_ws g M)[k]? = some q → q.1 = g.2.2.1 + k := by
    intro k q h
    by_cases hk : k < M.1 - 16
    · rw [g_ws_get g M hk] at h
      cases h
      rfl
    · rw [List.getElem?_eq_none (by rw [g_ws_len]; exact Nat.not_lt.mp hk)] at h
      cases h
  refine ⟨fun i j p q hi hj hpq => ?_, fun k q h => ?_⟩
  · have := key i p hi
    have := key j q hj
    omega
  · have := key k q h
    show g.2.2.1 ≤ q.1
    omega
theorem g_R.at {g : gG} {M : gM} {H : Heap} (h : g_R g M H) : 16 ≤ M.1 := h.1
/-- what is known of the tables and of the cells that were there: the static rows, the texts -/
def g_rests (k : Nat) : Int32 := match k with
  | 0 => 1
  | 1 => 3
  | 2 => 5
  | 3 => 7
  | _ => 9
def g_sounds (k : Nat) : Int32 := match k with
  | 0 => 0
  | 1 => -3
  | 2 => -1
  | 3 => 2
  | 4 => 3
  | 5 => 2
  | 6 => -2
  | 7 => 3
  | 8 => 1
  | 9 => 1
  | 10 => -1
  | _ => -3

def g_txt (i : Nat) : String × Nat × String := match i with
  | 0 => (RX3, 19, "junction road clash score")
  | 1 => (RX7, 43, "let")
  | 2 => (RX7, 65, "if")
  | 3 => (RX7, 76, "and or")
  | 4 => (RX7, 78, "not")
  | _ => (RX7, 104, "road wait every part scored let sound since went all beat hour")
def g_byt : List (List Int32) := [[106, 117, 110, 99, 116, 105, 111, 110, 32, 114, 111, 97, 100, 32, 99, 108, 97, 115, 104, 32, 115, 99, 111, 114, 101], [108, 101, 116], [105, 102], [97, 110, 100, 32, 111, 114], [110, 111, 116], [114, 111, 97, 100, 32, 119, 97, 105, 116, 32, 101, 118, 101, 114, 121, 32, 112, 97, 114, 116, 32, 115, 99, 111, 114, 101, 100, 32, 108, 101, 116, 32, 115, 111, 117, 110, 100, 32, 115, 105, 110, 99, 101, 32, 119, 101, 110, 116, 32, 97, 108, 108, 32, 98, 101, 97, 116, 32, 104, 111, 117, 114]]
def g_len : List Nat := [25, 3, 2, 6, 3, 62]
def g_S (g : gG) (U : State) (H : Heap) : Prop := vk_S 6 g_len g_byt (fun i => g.2.2.2 (3 + i)) (fun i => g.2.2.2 (9 + i)) (g_A g) U H ∧ (∀ i, i < 6 → vk_R (g_txt i).1 (g_txt i).2.1 (g_txt i).2.2 (g.2.2.2 (3 + i)) U) ∧ va_Z "java/lang/String" "COMPACT_STRINGS" "Z" (.int 1) (g_A g) U H ∧ ∃ w : Value, (w = .null ∨ ∃ q : Nat, w = .ref q) ∧ va_Z "jdk/internal/util/Preconditions" "SIOOBE_FORMATTER" "Ljava/util/function/BiFunction;" (g_v g w) (g_A g) U H
def g_N (U : State) : Prop := (∀ a i b n d h, Cond.fieldLinkNest a i b n d h ∈ lw_tbl → va_Nw (.fieldLinkNest a i b n d h) U) ∧ (∀ a i x h, Cond.methodLinkNest a i x h ∈ lw_tbl → va_Nw (.methodLinkNest a i x h) U) ∧ (∀ x, Cond.declares x ∈ lw_tbl → va_Nw (.declares x) U) ∧ (∀ C, Cond.arrayOver (.object C) ∈ lw_tbl → va_AO C U) ∧ (Cond.arrayOver (.array .int)).before #[] U = true
theorem g_N.warm {s U : State} (hW : s.WarmedH U.vm) (h : g_N s) : g_N U := ⟨fun a i b n d x hx => va_Nw.warmF hW (h.1 a i b n d x hx), fun a i x y hx => va_Nw.warmM hW (h.2.1 a i x y hx), fun x hx => va_Nw.warmD hW (h.2.2.1 x hx), fun C hx => va_AO.moved hW.alike (h.2.2.2.1 C hx), Jvm.Stand.arrayOver_alikeB hW.alike h.2.2.2.2⟩
theorem g_N.same {s U : State} (hv : U.vm = s.vm) (h : g_N s) : g_N U := ⟨fun a i b n d x hx => va_Nw.same rfl hv.symm (h.1 a i b n d x hx), fun a i x y hx => va_Nw.same rfl hv.symm (h.2.1 a i x y hx), fun x hx => va_Nw.same rfl hv.symm (h.2.2.1 x hx), fun C hx => va_AO.moved (by rw [hv]; exact Vm.Alike.refl s.vm) (h.2.2.2.1 C hx), Jvm.Stand.arrayOver_alikeB (by rw [hv]; exact Vm.Alike.refl s.vm) h.2.2.2.2⟩
def g_K (g : gG) (U : State) (H : Heap) : Prop :=
  va_K g.1 vwCl (g_tys g) U ∧ (∀ k, k < 16 → g.2.2.2 k < g.2.2.1) ∧ g.2.2.1 ≤ H.size ∧ va_Z "DutyBeats" "RESTS" "[I" (.ref (g.2.2.2 1)) (g_A g) U H ∧ va_Z "DutyBeats$Junction" "SOUNDS" "[I" (.ref (g.2.2.2 2)) (g_A g) U H ∧ va_X (g.2.2.2 1) 5 g_rests U H ∧ va_X (g.2.2.2 2) 12 g_sounds U H ∧ g_S g U H ∧ g_N U
theorem g_K.warm {g : gG} {s U : State} {H : Heap} (hW : s.WarmedH U.vm) (h : g_K g s H) : g_K g U H := by
  obtain ⟨h1, h2, h3, h4, h5, h6, h7, ⟨h8, h9, h10, w, hw, h12⟩, h11⟩ := h
  exact ⟨va_K.moved hW.alike h1, h2, h3, va_Z.moved hW.alike h4, va_Z.moved hW.alike h5, va_X.moved hW.alike h6, va_X.moved hW.alike h7, ⟨vk_S.moved hW.alike h8, fun i hi => vk_R.warm hW (h9 i hi), va_Z.moved hW.alike h10, w, hw, va_Z.moved hW.alike h12⟩, h11.warm hW⟩
theorem g_K.same {g : gG} {s U : State} {H : Heap} (hv : U.vm = s.vm) (h : g_K g s H) : g_K g U H := by
  obtain ⟨h1, h2, h3, h4, h5, h6, h7, ⟨h8, h9, h10, w, hw, h12⟩, h11⟩ := h
  have hA : s.vm.Alike U.vm := by rw [hv]; exact Vm.Alike.refl s.vm
  exact ⟨va_K.moved hA h1, h2, h3, va_Z.moved hA h4, va_Z.moved hA h5, va_X.moved hA h6, va_X.moved hA h7, ⟨vk_S.moved hA h8, fun i hi => vk_R.same hv (h9 i hi), va_Z.moved hA h10, w, hw, va_Z.moved hA h12⟩, h11.same hv⟩
theorem g_K.kept {g : gG} {U : State} {H H1 : Heap} (hz : H.size ≤ H1.size) (hq : ∀ q : Nat, q < H.size → ¬ g_A g q → H1[q]? = H[q]?) (h : g_K g U H) : g_K g U H1 := by
  obtain ⟨h1, h2, h3, h4, h5, h6, h7, ⟨h8, h9, h10, w, hw, h12⟩, h11⟩ := h
  have hp : ∀ k, k < 16 → H1[g.2.2.2 k]? = H[g.2.2.2 k]? := fun k hk => hq _ (Nat.lt_of_lt_of_le (h2 k hk) h3) (Nat.not_le.mpr (h2 k hk))
  exact ⟨h1, h2, Nat.le_trans h3 hz, h4.kept hq, h5.kept hq, h6.kept (hp 1 (by decide)), h7.kept (hp 2 (by decide)), ⟨h8.kept hq, h9, h10.kept hq, w, hw, h12.kept hq⟩, h11⟩
/-! ===== locals, room, words, contracts ===== -/
def g_lv (g : gG) : Nat → List (Option Value) → List (Nat × Value)
  | _, [] => []
  | i, none :: t => g_lv g (i + 1) t
  | i, some v :: t => (i, g_v g v) :: g_lv g (i + 1) t
theorem g_lv_mem (g : gG) : ∀ (ls : List (Option Value)) (i j : Nat) (w : Value), (j, w) ∈ g_lv g i ls ↔ ∃ (k : Nat) (v : Value), j = i + k ∧ ls[k]? = some (some v) ∧ w = g_v g v
  | [], i, j, w => by simp [g_lv]
  | none :: t, i, j, w => by
    rw [show g_lv g i (none :: t) = g_lv g (i + 1) t from rfl, g_lv_mem g t (i + 1) j w]
    constructor
    · rintro ⟨k, v, h1, h2, h3⟩
      exact ⟨k + 1, v, by omega, by simpa using h2, h3⟩
    · rintro ⟨k, v, h1, h2, h3⟩
      cases k with
      | zero => simp at h2
      | succ k => exact ⟨k, v, by omega, by simpa using h2, h3⟩
  | some u :: t, i, j, w => by
    rw [show g_lv g i (some u :: t) = (i, g_v g u) :: g_lv g (i + 1) t from rfl, List.mem_cons, g_lv_mem g t (i + 1) j w]
    constructor
    · rintro (h | ⟨k, v, h1, h2, h3⟩)
      · cases h
        exact ⟨0, u, by omega, rfl, rfl⟩
      · exact ⟨k + 1, v, by omega, by simpa using h2, h3⟩
    · rintro ⟨k, v, h1, h2, h3⟩
      cases k with
      | zero =>
        left
        have : u = v := by simpa using h2
        subst this
        rw [h1, h3]
        rfl
      | succ k => exact Or.inr ⟨k, v, by omega, by simpa using h2, h3⟩
def g_L (g : gG) (nL : Nat) (ls : List (Option Value)) (arr : Array Slot) : Prop := lv_has arr nL (g_lv g 0 ls)
theorem g_L.get {g : gG} {nL : Nat} {ls : List (Option Value)} {arr : Array Slot} (h : g_L g nL ls arr) {i : Nat} {v : Value} (hi : ls[i]? = some (some v)) : arr[i]? = some (.val (g_v g v)) := h.2.2 (i, g_v g v) ((g_lv_mem g ls 0 i (g_v g v)).mpr ⟨i, v, by omega, hi, rfl⟩)
def g_c1 (o : Option Value) : Bool := match o with
  | some v => v.category == 1
  | none => true
def g_room (d a b : Nat) : Room := { frames := d, cells := a, slots := b, locals := 40 * d }
def g_tb : List Cond := lw_tbl.filter goodWord
theorem g_tb_mem {w : Cond} (i : Nat) (h : lw_tbl[i]? = some w) (hg : goodWord w = true) : w ∈ g_tb := List.mem_filter.mpr ⟨List.mem_of_getElem? h, hg⟩
theorem g_tb_mems (ws : List Cond) (ps : List Nat) (hp : ws = ps.filterMap (fun i => lw_tbl[i]?)) (hg : ws.all goodWord = true) : ∀ w ∈ ws, w ∈ g_tb := by
  intro w hw
  have h1 := List.all_eq_true.mp hg w hw
  rw [hp] at hw
  obtain ⟨i, -, hi⟩ := List.mem_filterMap.mp hw
  exact g_tb_mem i hi h1
def g_wsm (mi : gMi) : List Cond := .code mi.1 mi.2.1 mi.2.2.1 mi.2.2.2 :: g_tb
def g_Pc (g : gG) (av : List Value) (M : gM) : Array Value → State → Prop := va_Pc (av.map (g_v g)) (fun U => g_R g M U.heap ∧ g_K g U U.heap)
def g_Qc (g : gG) (a : Nat) (Post : Option Value → gM → Prop) : Array Value → State → Outcome → State → Prop := fun _ st o t => (∃ (r : Option Value) (M' : gM), o = .returned (r.map (g_v g)) ∧ Post r M' ∧ g_R g M' t.heap ∧ t.heap.size = st.heap.size + a) ∧ va_F (g_A g) st t
/-- the method mi, called with av over M, ends within d frames, a cells, b slots, with Post -/
def SX (d a b : Nat) (mi : gMi) (av : List Value) (M : gM) (Post : Option Value → gM → Prop) : Prop := ∀ (l : Launch) (g : gG), Met l mi.1 (g_wsm mi) (g_room d a b) (g_Pc g av M) (g_Qc g a Post) a b (g_A g)
/-- what a frame of mi stands on -/
def g_E (d : Nat) (mi : gMi) (E : gE) : Prop := match E with
  | (p, _, _, R, s, m, args, _, meth, c, _, g) => p.tables.exec = Jvm.exec ∧ c.code = mi.2.1 ∧ c.maxLocals = mi.2.2.1 ∧ s.vm.findClass mi.1.cls = some m.cls ∧ (∀ w ∈ g_tb, w.before args s = true) ∧ g_K g s s.heap ∧ meth.locks = false ∧ meth.sig.returnType = mi.2.2.2 ∧ meth.name = mi.1.name ∧ d ≤ R.frames ∧ 40 * d ≤ R.locals
def g_Q (a b : Nat) (Post : Option Value → gM → Prop) (E : gE) : Prop := match E with
  | (_, _, _, R, s, _, args, below, _, _, Q, g) => R.cells = a ∧ R.slots = b ∧ Q = MQ below (g_Qc g a Post) args s a b (g_A g)
/-- the frame at pc, with locals ls, stack st, memory M, and a cells of b slots yet to be made, comes to its end -/
def RX (E : gE) (nL a b pc : Nat) (ls : List (Option Value)) (st : List Value) (M : gM) : Prop := match E with
  | (p, l, e, R, s, m, args, below, meth, c, Q, g) => ∀ (H : Heap) (locs : List Loc) (arr : Array Slot) (cells slots : Nat), g_R g M H → va_S (g_A g) s.heap H locs → g_L g nL ls arr → (H.size = s.heap.size + cells ∧ cells + a = R.cells) → slots + b ≤ R.slots → W p l e R s m args below meth c H locs cells slots Q (F0 m pc arr (st.map (g_v g)))
def g_l0 : List Value → List (Option Value)
  | [] => []
  | v :: t => if v.category = 2 then some v :: none :: g_l0 t else some v :: g_l0 t
theorem g_v_cat (g : gG) (v : Value) : (g_v g v).category = v.category := by cases v <;> rfl
theorem g_l0_args (g : gG) : ∀ (av : List Value) (i : Nat), g_lv g i (g_l0 av) = lv_args i (av.map (g_v g))
  | [], i => rfl
  | v :: t, i => by
    by_cases hc : v.category = 2
    · rw [show g_l0 (v :: t) = some v :: none :: g_l0 t from if_pos hc]
      show (i, g_v g v) :: g_lv g (i + 1 + 1) (g_l0 t) = lv_args i (g_v g v :: t.map (g_v g))
      rw [g_l0_args g t (i + 1 + 1)]
      simp [lv_args, g_v_cat, hc]
    · rw [show g_l0 (v :: t) = some v :: g_l0 t from if_neg hc]
      show (i, g_v g v) :: g_lv g (i + 1) (g_l0 t) = lv_args i (g_v g v :: t.map (g_v g))
      rw [g_l0_args g t (i + 1)]
      have h1 := (lv_cat v).resolve_right hc
      simp [lv_args, g_v_cat, h1]
