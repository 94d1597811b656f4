/-! ===== by which rules the notes are so: the class ===== -/
def qz0 (x : Int32) : Int32 := (x ^^^ (-1)) &&& (x - 1)
def qzA (i n : Int32) : Int32 := n + j_us i 1
def qzB (i n : Int32) : Int32 := if i ≤ 4 then qzA i n else qzA (j_us i 2) (n + 2)
def qzC (i n : Int32) : Int32 := if i ≤ 16 then qzB i n else qzB (j_us i 4) (n + 4)
def qzD (i n : Int32) : Int32 := if i ≤ 256 then qzC i n else qzC (j_us i 8) (n + 8)
def qzE (i n : Int32) : Int32 := if i ≤ 65536 then qzD i n else qzD (j_us i 16) (n + 16)
def q_ntz (x : Int32) : Int32 := if 0 < qz0 x then qzE (qz0 x) 1 else qz0 x &&& 32
set_option maxRecDepth 100000 in
set_option maxHeartbeats 1000000 in
theorem c_ntz {M : gM} (x : Int32) : SX 0 0 0 mJ6_numberOfTrailingZeros_0f7a4 [.int x] (M) (fun v M' => v = some (.int (q_ntz x)) ∧ M' = M) := by
  refine SX.intro [some (.int x), none] (by decide +kernel) (Nat.le_of_ble_eq_true rfl) rfl (fun E hE hQ => ?_)
  refine rx_iload_n hE dJ6_numberOfTrailingZeros_0f7a4_0 (i := 0) rfl rfl ?_
  refine rx_iconst hE dJ6_numberOfTrailingZeros_0f7a4_1 (v := -1) (by decide) ?_
  refine rx_ixor hE dJ6_numberOfTrailingZeros_0f7a4_2 ?_
  refine rx_iload_n hE dJ6_numberOfTrailingZeros_0f7a4_3 (i := 0) rfl rfl ?_
  refine rx_iconst hE dJ6_numberOfTrailingZeros_0f7a4_4 (v := 1) (by decide) ?_
  refine rx_isub hE dJ6_numberOfTrailingZeros_0f7a4_5 ?_
  refine rx_iand hE dJ6_numberOfTrailingZeros_0f7a4_6 ?_
  refine rx_int _ (qz0 x) rfl ?_
  refine rx_istore_n_0 hE dJ6_numberOfTrailingZeros_0f7a4_7 (by decide) ?_
  refine rx_iload_n hE dJ6_numberOfTrailingZeros_0f7a4_8 (i := 0) rfl rfl ?_
  refine rx_if_gt (tgt := 17) hE dJ6_numberOfTrailingZeros_0f7a4_9 (by decide) (fun c9 => ?_) (fun c9 => ?_)
  · refine rx_iconst hE dJ6_numberOfTrailingZeros_0f7a4_17 (v := 1) (by decide) ?_
    refine rx_istore_n_1 hE dJ6_numberOfTrailingZeros_0f7a4_18 (by decide) rfl ?_
    refine rx_iload_n hE dJ6_numberOfTrailingZeros_0f7a4_19 (i := 0) rfl rfl ?_
    refine rx_ldcw hE dJ6_numberOfTrailingZeros_0f7a4_20 k_J6_264 ?_
    refine rx_icmp_le (tgt := 34) hE dJ6_numberOfTrailingZeros_0f7a4_23 (by decide) (fun c23 => ?_) (fun c23 => ?_)
    · refine rx_iload_n hE dJ6_numberOfTrailingZeros_0f7a4_34 (i := 0) rfl rfl ?_
      refine rx_sipush hE dJ6_numberOfTrailingZeros_0f7a4_35 (v := 256) (by decide) ?_
      refine rx_icmp_le (tgt := 49) hE dJ6_numberOfTrailingZeros_0f7a4_38 (by decide) (fun c38 => ?_) (fun c38 => ?_)
      · refine rx_iload_n hE dJ6_numberOfTrailingZeros_0f7a4_49 (i := 0) rfl rfl ?_
        refine rx_bipush hE dJ6_numberOfTrailingZeros_0f7a4_50 (v := 16) (by decide) ?_
        refine rx_icmp_le (tgt := 62) hE dJ6_numberOfTrailingZeros_0f7a4_52 (by decide) (fun c52 => ?_) (fun c52 => ?_)
        · refine rx_iload_n hE dJ6_numberOfTrailingZeros_0f7a4_62 (i := 0) rfl rfl ?_
          refine rx_iconst hE dJ6_numberOfTrailingZeros_0f7a4_63 (v := 4) (by decide) ?_
          refine rx_icmp_le (tgt := 74) hE dJ6_numberOfTrailingZeros_0f7a4_64 (by decide) (fun c64 => ?_) (fun c64 => ?_)
          · refine rx_iload_n hE dJ6_numberOfTrailingZeros_0f7a4_74 (i := 1) rfl rfl ?_
            refine rx_iload_n hE dJ6_numberOfTrailingZeros_0f7a4_75 (i := 0) rfl rfl ?_
            refine rx_iconst hE dJ6_numberOfTrailingZeros_0f7a4_76 (v := 1) (by decide) ?_
            refine rx_iushr hE dJ6_numberOfTrailingZeros_0f7a4_77 rfl ?_
            refine rx_iadd hE dJ6_numberOfTrailingZeros_0f7a4_78 ?_
            exact rx_iret hE hQ rfl dJ6_numberOfTrailingZeros_0f7a4_79 ⟨by unfold q_ntz; rw [if_pos c9]; unfold qzE; rw [if_pos c23]; unfold qzD; rw [if_pos c38]; unfold qzC; rw [if_pos c52]; unfold qzB; rw [if_pos c64]; rfl, rfl⟩
          · refine rx_iinc_1 hE dJ6_numberOfTrailingZeros_0f7a4_67 (v := 2) (by decide) (by decide) rfl ?_
            refine rx_iload_n hE dJ6_numberOfTrailingZeros_0f7a4_70 (i := 0) rfl rfl ?_
            refine rx_iconst hE dJ6_numberOfTrailingZeros_0f7a4_71 (v := 2) (by decide) ?_
            refine rx_iushr hE dJ6_numberOfTrailingZeros_0f7a4_72 rfl ?_
            refine rx_int _ (j_us _ 2) rfl ?_
            refine rx_istore_n_0 hE dJ6_numberOfTrailingZeros_0f7a4_73 (by decide) ?_
            refine rx_iload_n hE dJ6_numberOfTrailingZeros_0f7a4_74 (i := 1) rfl rfl ?_
            refine rx_iload_n hE dJ6_numberOfTrailingZeros_0f7a4_75 (i := 0) rfl rfl ?_
            refine rx_iconst hE dJ6_numberOfTrailingZeros_0f7a4_76 (v := 1) (by decide) ?_
            refine rx_iushr hE dJ6_numberOfTrailingZeros_0f7a4_77 rfl ?_
            refine rx_iadd hE dJ6_numberOfTrailingZeros_0f7a4_78 ?_
            exact rx_iret hE hQ rfl dJ6_numberOfTrailingZeros_0f7a4_79 ⟨by unfold q_ntz; rw [if_pos c9]; unfold qzE; rw [if_pos c23]; unfold qzD; rw [if_pos c38]; unfold qzC; rw [if_pos c52]; unfold qzB; rw [if_neg c64]; rfl, rfl⟩
        · refine rx_iinc_1 hE dJ6_numberOfTrailingZeros_0f7a4_55 (v := 4) (by decide) (by decide) rfl ?_
          refine rx_iload_n hE dJ6_numberOfTrailingZeros_0f7a4_58 (i := 0) rfl rfl ?_
          refine rx_iconst hE dJ6_numberOfTrailingZeros_0f7a4_59 (v := 4) (by decide) ?_
          refine rx_iushr hE dJ6_numberOfTrailingZeros_0f7a4_60 rfl ?_
          refine rx_int _ (j_us _ 4) rfl ?_
          refine rx_istore_n_0 hE dJ6_numberOfTrailingZeros_0f7a4_61 (by decide) ?_
          refine rx_iload_n hE dJ6_numberOfTrailingZeros_0f7a4_62 (i := 0) rfl rfl ?_
          refine rx_iconst hE dJ6_numberOfTrailingZeros_0f7a4_63 (v := 4) (by decide) ?_
          refine rx_icmp_le (tgt := 74) hE dJ6_numberOfTrailingZeros_0f7a4_64 (by decide) (fun c64 => ?_) (fun c64 => ?_)
          · refine rx_iload_n hE dJ6_numberOfTrailingZeros_0f7a4_74 (i := 1) rfl rfl ?_
            refine rx_iload_n hE dJ6_numberOfTrailingZeros_0f7a4_75 (i := 0) rfl rfl ?_
            refine rx_iconst hE dJ6_numberOfTrailingZeros_0f7a4_76 (v := 1) (by decide) ?_
            refine rx_iushr hE dJ6_numberOfTrailingZeros_0f7a4_77 rfl ?_
            refine rx_iadd hE dJ6_numberOfTrailingZeros_0f7a4_78 ?_
            exact rx_iret hE hQ rfl dJ6_numberOfTrailingZeros_0f7a4_79 ⟨by unfold q_ntz; rw [if_pos c9]; unfold qzE; rw [if_pos c23]; unfold qzD; rw [if_pos c38]; unfold qzC; rw [if_neg c52]; unfold qzB; rw [if_pos c64]; rfl, rfl⟩
          · refine rx_iinc_1 hE dJ6_numberOfTrailingZeros_0f7a4_67 (v := 2) (by decide) (by decide) rfl ?_
            refine rx_iload_n hE dJ6_numberOfTrailingZeros_0f7a4_70 (i := 0) rfl rfl ?_
            refine rx_iconst hE dJ6_numberOfTrailingZeros_0f7a4_71 (v := 2) (by decide) ?_
            refine rx_iushr hE dJ6_numberOfTrailingZeros_0f7a4_72 rfl ?_
            refine rx_int _ (j_us _ 2) rfl ?_
            refine rx_istore_n_0 hE dJ6_numberOfTrailingZeros_0f7a4_73 (by decide) ?_
            refine rx_iload_n hE dJ6_numberOfTrailingZeros_0f7a4_74 (i := 1) rfl rfl ?_
            refine rx_iload_n hE dJ6_numberOfTrailingZeros_0f7a4_75 (i := 0) rfl rfl ?_
            refine rx_iconst hE dJ6_numberOfTrailingZeros_0f7a4_76 (v := 1) (by decide) ?_
            refine rx_iushr hE dJ6_numberOfTrailingZeros_0f7a4_77 rfl ?_
            refine rx_iadd hE dJ6_numberOfTrailingZeros_0f7a4_78 ?_
            exact rx_iret hE hQ rfl dJ6_numberOfTrailingZeros_0f7a4_79 ⟨by unfold q_ntz; rw [if_pos c9]; unfold qzE; rw [if_pos c23]; unfold qzD; rw [if_pos c38]; unfold qzC; rw [if_neg c52]; unfold qzB; rw [if_neg c64]; rfl, rfl⟩
      · refine rx_iinc_1 hE dJ6_numberOfTrailingZeros_0f7a4_41 (v := 8) (by decide) (by decide) rfl ?_
        refine rx_iload_n hE dJ6_numberOfTrailingZeros_0f7a4_44 (i := 0) rfl rfl ?_
        refine rx_bipush hE dJ6_numberOfTrailingZeros_0f7a4_45 (v := 8) (by decide) ?_
        refine rx_iushr hE dJ6_numberOfTrailingZeros_0f7a4_47 rfl ?_
        refine rx_int _ (j_us _ 8) rfl ?_
        refine rx_istore_n_0 hE dJ6_numberOfTrailingZeros_0f7a4_48 (by decide) ?_
        refine rx_iload_n hE dJ6_numberOfTrailingZeros_0f7a4_49 (i := 0) rfl rfl ?_
        refine rx_bipush hE dJ6_numberOfTrailingZeros_0f7a4_50 (v := 16) (by decide) ?_
        refine rx_icmp_le (tgt := 62) hE dJ6_numberOfTrailingZeros_0f7a4_52 (by decide) (fun c52 => ?_) (fun c52 => ?_)
        · refine rx_iload_n hE dJ6_numberOfTrailingZeros_0f7a4_62 (i := 0) rfl rfl ?_
          refine rx_iconst hE dJ6_numberOfTrailingZeros_0f7a4_63 (v := 4) (by decide) ?_
          refine rx_icmp_le (tgt := 74) hE dJ6_numberOfTrailingZeros_0f7a4_64 (by decide) (fun c64 => ?_) (fun c64 => ?_)
          · refine rx_iload_n hE dJ6_numberOfTrailingZeros_0f7a4_74 (i := 1) rfl rfl ?_
            refine rx_iload_n hE dJ6_numberOfTrailingZeros_0f7a4_75 (i := 0) rfl rfl ?_
            refine rx_iconst hE dJ6_numberOfTrailingZeros_0f7a4_76 (v := 1) (by decide) ?_
            refine rx_iushr hE dJ6_numberOfTrailingZeros_0f7a4_77 rfl ?_
            refine rx_iadd hE dJ6_numberOfTrailingZeros_0f7a4_78 ?_
            exact rx_iret hE hQ rfl dJ6_numberOfTrailingZeros_0f7a4_79 ⟨by unfold q_ntz; rw [if_pos c9]; unfold qzE; rw [if_pos c23]; unfold qzD; rw [if_neg c38]; unfold qzC; rw [if_pos c52]; unfold qzB; rw [if_pos c64]; rfl, rfl⟩
          · refine rx_iinc_1 hE dJ6_numberOfTrailingZeros_0f7a4_67 (v := 2) (by decide) (by decide) rfl ?_
            refine rx_iload_n hE dJ6_numberOfTrailingZeros_0f7a4_70 (i := 0) rfl rfl ?_
            refine rx_iconst hE dJ6_numberOfTrailingZeros_0f7a4_71 (v := 2) (by decide) ?_
            refine rx_iushr hE dJ6_numberOfTrailingZeros_0f7a4_72 rfl ?_
            refine rx_int _ (j_us _ 2) rfl ?_
            refine rx_istore_n_0 hE dJ6_numberOfTrailingZeros_0f7a4_73 (by decide) ?_
            refine rx_iload_n hE dJ6_numberOfTrailingZeros_0f7a4_74 (i := 1) rfl rfl ?_
            refine rx_iload_n hE dJ6_numberOfTrailingZeros_0f7a4_75 (i := 0) rfl rfl ?_
            refine rx_iconst hE dJ6_numberOfTrailingZeros_0f7a4_76 (v := 1) (by decide) ?_
            refine rx_iushr hE dJ6_numberOfTrailingZeros_0f7a4_77 rfl ?_
            refine rx_iadd hE dJ6_numberOfTrailingZeros_0f7a4_78 ?_
            exact rx_iret hE hQ rfl dJ6_numberOfTrailingZeros_0f7a4_79 ⟨by unfold q_ntz; rw [if_pos c9]; unfold qzE; rw [if_pos c23]; unfold qzD; rw [if_neg c38]; unfold qzC; rw [if_pos c52]; unfold qzB; rw [if_neg c64]; rfl, rfl⟩
        · refine rx_iinc_1 hE dJ6_numberOfTrailingZeros_0f7a4_55 (v := 4) (by decide) (by decide) rfl ?_
          refine rx_iload_n hE dJ6_numberOfTrailingZeros_0f7a4_58 (i := 0) rfl rfl ?_
          refine rx_iconst hE dJ6_numberOfTrailingZeros_0f7a4_59 (v := 4) (by decide) ?_
          refine rx_iushr hE dJ6_numberOfTrailingZeros_0f7a4_60 rfl ?_
          refine rx_int _ (j_us _ 4) rfl ?_
          refine rx_istore_n_0 hE dJ6_numberOfTrailingZeros_0f7a4_61 (by decide) ?_
          refine rx_iload_n hE dJ6_numberOfTrailingZeros_0f7a4_62 (i := 0) rfl rfl ?_
          refine rx_iconst hE dJ6_numberOfTrailingZeros_0f7a4_63 (v := 4) (by decide) ?_
          refine rx_icmp_le (tgt := 74) hE dJ6_numberOfTrailingZeros_0f7a4_64 (by decide) (fun c64 => ?_) (fun c64 => ?_)
          · refine rx_iload_n hE dJ6_numberOfTrailingZeros_0f7a4_74 (i := 1) rfl rfl ?_
            refine rx_iload_n hE dJ6_numberOfTrailingZeros_0f7a4_75 (i := 0) rfl rfl ?_
            refine rx_iconst hE dJ6_numberOfTrailingZeros_0f7a4_76 (v := 1) (by decide) ?_
            refine rx_iushr hE dJ6_numberOfTrailingZeros_0f7a4_77 rfl ?_
            refine rx_iadd hE dJ6_numberOfTrailingZeros_0f7a4_78 ?_
            exact rx_iret hE hQ rfl dJ6_numberOfTrailingZeros_0f7a4_79 ⟨by unfold q_ntz; rw [if_pos c9]; unfold qzE; rw [if_pos c23]; unfold qzD; rw [if_neg c38]; unfold qzC; rw [if_neg c52]; unfold qzB; rw [if_pos c64]; rfl, rfl⟩
          · refine rx_iinc_1 hE dJ6_numberOfTrailingZeros_0f7a4_67 (v := 2) (by decide) (by decide) rfl ?_
            refine rx_iload_n hE dJ6_numberOfTrailingZeros_0f7a4_70 (i := 0) rfl rfl ?_
            refine rx_iconst hE dJ6_numberOfTrailingZeros_0f7a4_71 (v := 2) (by decide) ?_
            refine rx_iushr hE dJ6_numberOfTrailingZeros_0f7a4_72 rfl ?_
            refine rx_int _ (j_us _ 2) rfl ?_
            refine rx_istore_n_0 hE dJ6_numberOfTrailingZeros_0f7a4_73 (by decide) ?_
            refine rx_iload_n hE dJ6_numberOfTrailingZeros_0f7a4_74 (i := 1) rfl rfl ?_
            refine rx_iload_n hE dJ6_numberOfTrailingZeros_0f7a4_75 (i := 0) rfl rfl ?_
            refine rx_iconst hE dJ6_numberOfTrailingZeros_0f7a4_76 (v := 1) (by decide) ?_
            refine rx_iushr hE dJ6_numberOfTrailingZeros_0f7a4_77 rfl ?_
            refine rx_iadd hE dJ6_numberOfTrailingZeros_0f7a4_78 ?_
            exact rx_iret hE hQ rfl dJ6_numberOfTrailingZeros_0f7a4_79 ⟨by unfold q_ntz; rw [if_pos c9]; unfold qzE; rw [if_pos c23]; unfold qzD; rw [if_neg c38]; unfold qzC; rw [if_neg c52]; unfold qzB; rw [if_neg c64]; rfl, rfl⟩
    · refine rx_iinc_1 hE dJ6_numberOfTrailingZeros_0f7a4_26 (v := 16) (by decide) (by decide) rfl ?_
      refine rx_iload_n hE dJ6_numberOfTrailingZeros_0f7a4_29 (i := 0) rfl rfl ?_
      refine rx_bipush hE dJ6_numberOfTrailingZeros_0f7a4_30 (v := 16) (by decide) ?_
      refine rx_iushr hE dJ6_numberOfTrailingZeros_0f7a4_32 rfl ?_
      refine rx_int _ (j_us _ 16) rfl ?_
      refine rx_istore_n_0 hE dJ6_numberOfTrailingZeros_0f7a4_33 (by decide) ?_
      refine rx_iload_n hE dJ6_numberOfTrailingZeros_0f7a4_34 (i := 0) rfl rfl ?_
      refine rx_sipush hE dJ6_numberOfTrailingZeros_0f7a4_35 (v := 256) (by decide) ?_
      refine rx_icmp_le (tgt := 49) hE dJ6_numberOfTrailingZeros_0f7a4_38 (by decide) (fun c38 => ?_) (fun c38 => ?_)
      · refine rx_iload_n hE dJ6_numberOfTrailingZeros_0f7a4_49 (i := 0) rfl rfl ?_
        refine rx_bipush hE dJ6_numberOfTrailingZeros_0f7a4_50 (v := 16) (by decide) ?_
        refine rx_icmp_le (tgt := 62) hE dJ6_numberOfTrailingZeros_0f7a4_52 (by decide) (fun c52 => ?_) (fun c52 => ?_)
        · refine rx_iload_n hE dJ6_numberOfTrailingZeros_0f7a4_62 (i := 0) rfl rfl ?_
          refine rx_iconst hE dJ6_numberOfTrailingZeros_0f7a4_63 (v := 4) (by decide) ?_
          refine rx_icmp_le (tgt := 74) hE dJ6_numberOfTrailingZeros_0f7a4_64 (by decide) (fun c64 => ?_) (fun c64 => ?_)
          · refine rx_iload_n hE dJ6_numberOfTrailingZeros_0f7a4_74 (i := 1) rfl rfl ?_
            refine rx_iload_n hE dJ6_numberOfTrailingZeros_0f7a4_75 (i := 0) rfl rfl ?_
            refine rx_iconst hE dJ6_numberOfTrailingZeros_0f7a4_76 (v := 1) (by decide) ?_
            refine rx_iushr hE dJ6_numberOfTrailingZeros_0f7a4_77 rfl ?_
            refine rx_iadd hE dJ6_numberOfTrailingZeros_0f7a4_78 ?_
            exact rx_iret hE hQ rfl dJ6_numberOfTrailingZeros_0f7a4_79 ⟨by unfold q_ntz; rw [if_pos c9]; unfold qzE; rw [if_neg c23]; unfold qzD; rw [if_pos c38]; unfold qzC; rw [if_pos c52]; unfold qzB; rw [if_pos c64]; rfl, rfl⟩
          · refine rx_iinc_1 hE dJ6_numberOfTrailingZeros_0f7a4_67 (v := 2) (by decide) (by decide) rfl ?_
            refine rx_iload_n hE dJ6_numberOfTrailingZeros_0f7a4_70 (i := 0) rfl rfl ?_
            refine rx_iconst hE dJ6_numberOfTrailingZeros_0f7a4_71 (v := 2) (by decide) ?_
            refine rx_iushr hE dJ6_numberOfTrailingZeros_0f7a4_72 rfl ?_
            refine rx_int _ (j_us _ 2) rfl ?_
            refine rx_istore_n_0 hE dJ6_numberOfTrailingZeros_0f7a4_73 (by decide) ?_
            refine rx_iload_n hE dJ6_numberOfTrailingZeros_0f7a4_74 (i := 1) rfl rfl ?_
            refine rx_iload_n hE dJ6_numberOfTrailingZeros_0f7a4_75 (i := 0) rfl rfl ?_
            refine rx_iconst hE dJ6_numberOfTrailingZeros_0f7a4_76 (v := 1) (by decide) ?_
            refine rx_iushr hE dJ6_numberOfTrailingZeros_0f7a4_77 rfl ?_
            refine rx_iadd hE dJ6_numberOfTrailingZeros_0f7a4_78 ?_
            exact rx_iret hE hQ rfl dJ6_numberOfTrailingZeros_0f7a4_79 ⟨by unfold q_ntz; rw [if_pos c9]; unfold qzE; rw [if_neg c23]; unfold qzD; rw [if_pos c38]; unfold qzC; rw [if_pos c52]; unfold qzB; rw [if_neg c64]; rfl, rfl⟩
        · refine rx_iinc_1 hE dJ6_numberOfTrailingZeros_0f7a4_55 (v := 4) (by decide) (by decide) rfl ?_
          refine rx_iload_n hE dJ6_numberOfTrailingZeros_0f7a4_58 (i := 0) rfl rfl ?_
          refine rx_iconst hE dJ6_numberOfTrailingZeros_0f7a4_59 (v := 4) (by decide) ?_
          refine rx_iushr hE dJ6_numberOfTrailingZeros_0f7a4_60 rfl ?_
          refine rx_int _ (j_us _ 4) rfl ?_
          refine rx_istore_n_0 hE dJ6_numberOfTrailingZeros_0f7a4_61 (by decide) ?_
          refine rx_iload_n hE dJ6_numberOfTrailingZeros_0f7a4_62 (i := 0) rfl rfl ?_
          refine rx_iconst hE dJ6_numberOfTrailingZeros_0f7a4_63 (v := 4) (by decide) ?_
          refine rx_icmp_le (tgt := 74) hE dJ6_numberOfTrailingZeros_0f7a4_64 (by decide) (fun c64 => ?_) (fun c64 => ?_)
          · refine rx_iload_n hE dJ6_numberOfTrailingZeros_0f7a4_74 (i := 1) rfl rfl ?_
            refine rx_iload_n hE dJ6_numberOfTrailingZeros_0f7a4_75 (i := 0) rfl rfl ?_
            refine rx_iconst hE dJ6_numberOfTrailingZeros_0f7a4_76 (v := 1) (by decide) ?_
            refine rx_iushr hE dJ6_numberOfTrailingZeros_0f7a4_77 rfl ?_
            refine rx_iadd hE dJ6_numberOfTrailingZeros_0f7a4_78 ?_
            exact rx_iret hE hQ rfl dJ6_numberOfTrailingZeros_0f7a4_79 ⟨by unfold q_ntz; rw [if_pos c9]; unfold qzE; rw [if_neg c23]; unfold qzD; rw [if_pos c38]; unfold qzC; rw [if_neg c52]; unfold qzB; rw [if_pos c64]; rfl, rfl⟩
          · refine rx_iinc_1 hE dJ6_numberOfTrailingZeros_0f7a4_67 (v := 2) (by decide) (by decide) rfl ?_
            refine rx_iload_n hE dJ6_numberOfTrailingZeros_0f7a4_70 (i := 0) rfl rfl ?_
            refine rx_iconst hE dJ6_numberOfTrailingZeros_0f7a4_71 (v := 2) (by decide) ?_
            refine rx_iushr hE dJ6_numberOfTrailingZeros_0f7a4_72 rfl ?_
            refine rx_int _ (j_us _ 2) rfl ?_
            refine rx_istore_n_0 hE dJ6_numberOfTrailingZeros_0f7a4_73 (by decide) ?_
            refine rx_iload_n hE dJ6_numberOfTrailingZeros_0f7a4_74 (i := 1) rfl rfl ?_
            refine rx_iload_n hE dJ6_numberOfTrailingZeros_0f7a4_75 (i := 0) rfl rfl ?_
            refine rx_iconst hE dJ6_numberOfTrailingZeros_0f7a4_76 (v := 1) (by decide) ?_
            refine rx_iushr hE dJ6_numberOfTrailingZeros_0f7a4_77 rfl ?_
            refine rx_iadd hE dJ6_numberOfTrailingZeros_0f7a4_78 ?_
            exact rx_iret hE hQ rfl dJ6_numberOfTrailingZeros_0f7a4_79 ⟨by unfold q_ntz; rw [if_pos c9]; unfold qzE; rw [if_neg c23]; unfold qzD; rw [if_pos c38]; unfold qzC; rw [if_neg c52]; unfold qzB; rw [if_neg c64]; rfl, rfl⟩
      · refine rx_iinc_1 hE dJ6_numberOfTrailingZeros_0f7a4_41 (v := 8) (by decide) (by decide) rfl ?_
        refine rx_iload_n hE dJ6_numberOfTrailingZeros_0f7a4_44 (i := 0) rfl rfl ?_
        refine rx_bipush hE dJ6_numberOfTrailingZeros_0f7a4_45 (v := 8) (by decide) ?_
        refine rx_iushr hE dJ6_numberOfTrailingZeros_0f7a4_47 rfl ?_
        refine rx_int _ (j_us _ 8) rfl ?_
        refine rx_istore_n_0 hE dJ6_numberOfTrailingZeros_0f7a4_48 (by decide) ?_
        refine rx_iload_n hE dJ6_numberOfTrailingZeros_0f7a4_49 (i := 0) rfl rfl ?_
        refine rx_bipush hE dJ6_numberOfTrailingZeros_0f7a4_50 (v := 16) (by decide) ?_
        refine rx_icmp_le (tgt := 62) hE dJ6_numberOfTrailingZeros_0f7a4_52 (by decide) (fun c52 => ?_) (fun c52 => ?_)
        · refine rx_iload_n hE dJ6_numberOfTrailingZeros_0f7a4_62 (i := 0) rfl rfl ?_
          refine rx_iconst hE dJ6_numberOfTrailingZeros_0f7a4_63 (v := 4) (by decide) ?_
          refine rx_icmp_le (tgt := 74) hE dJ6_numberOfTrailingZeros_0f7a4_64 (by decide) (fun c64 => ?_) (fun c64 => ?_)
          · refine rx_iload_n hE dJ6_numberOfTrailingZeros_0f7a4_74 (i := 1) rfl rfl ?_
            refine rx_iload_n hE dJ6_numberOfTrailingZeros_0f7a4_75 (i := 0) rfl rfl ?_
            refine rx_iconst hE dJ6_numberOfTrailingZeros_0f7a4_76 (v := 1) (by decide) ?_
            refine rx_iushr hE dJ6_numberOfTrailingZeros_0f7a4_77 rfl ?_
            refine rx_iadd hE dJ6_numberOfTrailingZeros_0f7a4_78 ?_
            exact rx_iret hE hQ rfl dJ6_numberOfTrailingZeros_0f7a4_79 ⟨by unfold q_ntz; rw [if_pos c9]; unfold qzE; rw [if_neg c23]; unfold qzD; rw [if_neg c38]; unfold qzC; rw [if_pos c52]; unfold qzB; rw [if_pos c64]; rfl, rfl⟩
          · refine rx_iinc_1 hE dJ6_numberOfTrailingZeros_0f7a4_67 (v := 2) (by decide) (by decide) rfl ?_
            refine rx_iload_n hE dJ6_numberOfTrailingZeros_0f7a4_70 (i := 0) rfl rfl ?_
            refine rx_iconst hE dJ6_numberOfTrailingZeros_0f7a4_71 (v := 2) (by decide) ?_
            refine rx_iushr hE dJ6_numberOfTrailingZeros_0f7a4_72 rfl ?_
            refine rx_int _ (j_us _ 2) rfl ?_
            refine rx_istore_n_0 hE dJ6_numberOfTrailingZeros_0f7a4_73 (by decide) ?_
            refine rx_iload_n hE dJ6_numberOfTrailingZeros_0f7a4_74 (i := 1) rfl rfl ?_
            refine rx_iload_n hE dJ6_numberOfTrailingZeros_0f7a4_75 (i := 0) rfl rfl ?_
            refine rx_iconst hE dJ6_numberOfTrailingZeros_0f7a4_76 (v := 1) (by decide) ?_
            refine rx_iushr hE dJ6_numberOfTrailingZeros_0f7a4_77 rfl ?_
            refine rx_iadd hE dJ6_numberOfTrailingZeros_0f7a4_78 ?_
            exact rx_iret hE hQ rfl dJ6_numberOfTrailingZeros_0f7a4_79 ⟨by unfold q_ntz; rw [if_pos c9]; unfold qzE; rw [if_neg c23]; unfold qzD; rw [if_neg c38]; unfold qzC; rw [if_pos c52]; unfold qzB; rw [if_neg c64]; rfl, rfl⟩
        · refine rx_iinc_1 hE dJ6_numberOfTrailingZeros_0f7a4_55 (v := 4) (by decide) (by decide) rfl ?_
          refine rx_iload_n hE dJ6_numberOfTrailingZeros_0f7a4_58 (i := 0) rfl rfl ?_
          refine rx_iconst hE dJ6_numberOfTrailingZeros_0f7a4_59 (v := 4) (by decide) ?_
          refine rx_iushr hE dJ6_numberOfTrailingZeros_0f7a4_60 rfl ?_
          refine rx_int _ (j_us _ 4) rfl ?_
          refine rx_istore_n_0 hE dJ6_numberOfTrailingZeros_0f7a4_61 (by decide) ?_
          refine rx_iload_n hE dJ6_numberOfTrailingZeros_0f7a4_62 (i := 0) rfl rfl ?_
          refine rx_iconst hE dJ6_numberOfTrailingZeros_0f7a4_63 (v := 4) (by decide) ?_
          refine rx_icmp_le (tgt := 74) hE dJ6_numberOfTrailingZeros_0f7a4_64 (by decide) (fun c64 => ?_) (fun c64 => ?_)
          · refine rx_iload_n hE dJ6_numberOfTrailingZeros_0f7a4_74 (i := 1) rfl rfl ?_
            refine rx_iload_n hE dJ6_numberOfTrailingZeros_0f7a4_75 (i := 0) rfl rfl ?_
            refine rx_iconst hE dJ6_numberOfTrailingZeros_0f7a4_76 (v := 1) (by decide) ?_
            refine rx_iushr hE dJ6_numberOfTrailingZeros_0f7a4_77 rfl ?_
            refine rx_iadd hE dJ6_numberOfTrailingZeros_0f7a4_78 ?_
            exact rx_iret hE hQ rfl dJ6_numberOfTrailingZeros_0f7a4_79 ⟨by unfold q_ntz; rw [if_pos c9]; unfold qzE; rw [if_neg c23]; unfold qzD; rw [if_neg c38]; unfold qzC; rw [if_neg c52]; unfold qzB; rw [if_pos c64]; rfl, rfl⟩
          · refine rx_iinc_1 hE dJ6_numberOfTrailingZeros_0f7a4_67 (v := 2) (by decide) (by decide) rfl ?_
            refine rx_iload_n hE dJ6_numberOfTrailingZeros_0f7a4_70 (i := 0) rfl rfl ?_
            refine rx_iconst hE dJ6_numberOfTrailingZeros_0f7a4_71 (v := 2) (by decide) ?_
            refine rx_iushr hE dJ6_numberOfTrailingZeros_0f7a4_72 rfl ?_
            refine rx_int _ (j_us _ 2) rfl ?_
            refine rx_istore_n_0 hE dJ6_numberOfTrailingZeros_0f7a4_73 (by decide) ?_
            refine rx_iload_n hE dJ6_numberOfTrailingZeros_0f7a4_74 (i := 1) rfl rfl ?_
            refine rx_iload_n hE dJ6_numberOfTrailingZeros_0f7a4_75 (i := 0) rfl rfl ?_
            refine rx_iconst hE dJ6_numberOfTrailingZeros_0f7a4_76 (v := 1) (by decide) ?_
            refine rx_iushr hE dJ6_numberOfTrailingZeros_0f7a4_77 rfl ?_
            refine rx_iadd hE dJ6_numberOfTrailingZeros_0f7a4_78 ?_
            exact rx_iret hE hQ rfl dJ6_numberOfTrailingZeros_0f7a4_79 ⟨by unfold q_ntz; rw [if_pos c9]; unfold qzE; rw [if_neg c23]; unfold qzD; rw [if_neg c38]; unfold qzC; rw [if_neg c52]; unfold qzB; rw [if_neg c64]; rfl, rfl⟩
  · refine rx_iload_n hE dJ6_numberOfTrailingZeros_0f7a4_12 (i := 0) rfl rfl ?_
    refine rx_bipush hE dJ6_numberOfTrailingZeros_0f7a4_13 (v := 32) (by decide) ?_
    refine rx_iand hE dJ6_numberOfTrailingZeros_0f7a4_15 ?_
    exact rx_iret hE hQ rfl dJ6_numberOfTrailingZeros_0f7a4_16 ⟨by unfold q_ntz; rw [if_neg c9], rfl⟩
def kbm (f : Nat → Int32) : Nat → Nat
  | 0 => 0
  | n + 1 => if f n = 0 then kbm f n else kbm f n + 2 ^ n
theorem kbm_lt (f : Nat → Int32) : ∀ n, kbm f n < 2 ^ n
  | 0 => by
    show 0 < 2 ^ 0
    decide
  | n + 1 => by
    have := kbm_lt f n
    show (if f n = 0 then kbm f n else kbm f n + 2 ^ n) < 2 ^ (n + 1)
    rw [Nat.pow_succ]
    split <;> omega
theorem kbm_tab : ∀ n, n < 7 → ∀ m, m < 2 ^ n → nI m ||| (1 : Int32) <<< (nI n &&& 31) = nI (m + 2 ^ n) ∧ j_bc (nI (m + 2 ^ n)) = j_bc (nI m) + 1 ∧ (m = 0 → q_ntz (nI (m + 2 ^ n)) = nI n) ∧ (m ≠ 0 → q_ntz (nI (m + 2 ^ n)) = q_ntz (nI m) ∧ ¬ q_ntz (nI m) - 1 = -2) := by decide +kernel
theorem kbm_bit : ∀ n, n < 7 → ∀ m, m < 2 ^ n → (∀ i, i < n → jbit (nI (m + 2 ^ n)) i = jbit (nI m) i) ∧ jbit (nI (m + 2 ^ n)) n = 1 ∧ ∀ i, i < 7 → n ≤ i → jbit (nI m) i = 0 := by decide +kernel
def gru (f : Nat → Int32) : Nat → g2
  | 0 => (0, -2)
  | n + 1 => if f n = 0 then gru f n else ((gru f n).1 + 1, if (gru f n).2 = -2 then nI n - 1 else (gru f n).2)
theorem m1_ne (n : Nat) (h : n < 100) : ¬ nI n - 1 = -2 := by
  intro q
  have e := pk_sub_toInt (a := n) (b := 1) (by omega) (by decide)
  rw [show nI 1 = 1 from rfl, q] at e
  have : (-2 : Int32).toInt = -2 := by decide
  omega
theorem qruF_gru (f : Nat → Int32) : ∀ (n : Nat) (s : g2), n < 100 → qruF f n s = (s.1 + (gru f n).1, if (gru f n).2 = -2 then s.2 else (gru f n).2)
  | 0, s, _ => by
    show s = (s.1 + 0, if (-2 : Int32) = -2 then s.2 else -2)
    rw [if_pos rfl, Int32.add_zero]
  | n + 1, s, h => by
    show qruF f n (if f n = 0 then s else (s.1 + 1, nI n - 1)) = _
    rw [qruF_gru f n _ (by omega)]
    have e : gru f (n + 1) = if f n = 0 then gru f n else ((gru f n).1 + 1, if (gru f n).2 = -2 then nI n - 1 else (gru f n).2) := rfl
    rw [e]
    by_cases c : f n = 0
    · rw [if_pos c, if_pos c]
    · rw [if_neg c, if_neg c]
      show (s.1 + 1 + (gru f n).1, if (gru f n).2 = -2 then nI n - 1 else (gru f n).2) = (s.1 + ((gru f n).1 + 1), if (if (gru f n).2 = -2 then nI n - 1 else (gru f n).2) = -2 then s.2 else (if (gru f n).2 = -2 then nI n - 1 else (gru f n).2))
      have e1 : ¬ (if (gru f n).2 = -2 then nI n - 1 else (gru f n).2) = -2 := by
        split
        · exact m1_ne n (by omega)
        · assumption
      rw [if_neg e1, Int32.add_assoc, Int32.add_comm 1]
theorem gru_eq (f : Nat → Int32) : ∀ n, n ≤ 7 → (gru f n).1 = j_bc (nI (kbm f n)) ∧ (gru f n).2 = if kbm f n = 0 then -2 else q_ntz (nI (kbm f n)) - 1
  | 0, _ => by
    show (0 : Int32) = j_bc (nI 0) ∧ (-2 : Int32) = if (0 : Nat) = 0 then -2 else _
    exact ⟨by decide, rfl⟩
  | n + 1, h => by
    obtain ⟨h1, h2⟩ := gru_eq f n (by omega)
    have hl := kbm_lt f n
    obtain ⟨-, t2, t3, t4⟩ := kbm_tab n (by omega) _ hl
    have e : gru f (n + 1) = if f n = 0 then gru f n else ((gru f n).1 + 1, if (gru f n).2 = -2 then nI n - 1 else (gru f n).2) := rfl
    have e' : kbm f (n + 1) = if f n = 0 then kbm f n else kbm f n + 2 ^ n := rfl
    rw [e, e']
    by_cases c : f n = 0
    · rw [if_pos c, if_pos c]
      exact ⟨h1, h2⟩
    · rw [if_neg c, if_neg c]
      have hp : 0 < 2 ^ n := Nat.pow_pos (by decide)
      refine ⟨by rw [t2, h1], ?_⟩
      show (if (gru f n).2 = -2 then nI n - 1 else (gru f n).2) = _
      rw [if_neg (show ¬ kbm f n + 2 ^ n = 0 by omega), h2]
      by_cases z : kbm f n = 0
      · rw [if_pos z, if_pos rfl, t3 z]
      · rw [if_neg z, if_neg (t4 z).2, (t4 z).1]
theorem q_ruled_gru {J : gJn} {f : Nat → Int32} {ρ : Nat} {what : Int32} (hg : ¬ (j_isTold J = 0 ∨ q_in what 0 1 = 0)) (hρ : ρ ≤ 6) : q_ruled J f ρ what = if what = 0 then (gru f (ρ + 1)).1 else (gru f (ρ + 1)).2 := by
  unfold q_ruled
  rw [if_neg hg, qruF_gru _ _ _ (by omega)]
  show (if what = 0 then 0 + (gru f (ρ + 1)).1 else if (gru f (ρ + 1)).2 = -2 then -2 else (gru f (ρ + 1)).2) = _
  rw [Int32.zero_add, show (if (gru f (ρ + 1)).2 = -2 then (-2 : Int32) else (gru f (ρ + 1)).2) = (gru f (ρ + 1)).2 by split; (next h => exact h.symm); rfl]
theorem kbm_z (f : Nat → Int32) : ∀ n, kbm f n = 0 → ∀ i, i < n → f i = 0
  | 0, _, i, hi => absurd hi (Nat.not_lt_zero i)
  | n + 1, h, i, hi => by
    have e' : kbm f (n + 1) = if f n = 0 then kbm f n else kbm f n + 2 ^ n := rfl
    rw [e'] at h
    by_cases c : f n = 0
    · rw [if_pos c] at h
      by_cases e : i = n
      · rw [e]; exact c
      · exact kbm_z f n h i (by omega)
    · rw [if_neg c] at h
      have hp : 0 < 2 ^ n := Nat.pow_pos (by decide)
      omega
theorem kbm_b (f : Nat → Int32) (h01 : ∀ i, f i = 0 ∨ f i = 1) : ∀ n, n ≤ 7 → (∀ i, i < n → jbit (nI (kbm f n)) i = f i) ∧ ∀ i, i < 7 → n ≤ i → jbit (nI (kbm f n)) i = 0
  | 0, _ => by
    have h0 : ∀ i, i < 7 → jbit (nI 0) i = 0 := by decide +kernel
    exact ⟨fun i hi => absurd hi (Nat.not_lt_zero i), fun i hi _ => h0 i hi⟩
  | n + 1, h => by
    obtain ⟨h1, h2⟩ := kbm_b f h01 n (by omega)
    have hl := kbm_lt f n
    obtain ⟨b1, b2, b3⟩ := kbm_bit n (by omega) _ hl
    have e' : kbm f (n + 1) = if f n = 0 then kbm f n else kbm f n + 2 ^ n := rfl
    rw [e']
    by_cases c : f n = 0
    · rw [if_pos c]
      refine ⟨fun i hi => ?_, fun i hi hn => h2 i hi (by omega)⟩
      by_cases e : i = n
      · rw [e, h2 n (by omega) (Nat.le_refl _), c]
      · exact h1 i (by omega)
    · rw [if_neg c]
      refine ⟨fun i hi => ?_, fun i hi hn => ?_⟩
      · by_cases e : i = n
        · rw [e, b2]
          exact ((h01 n).resolve_left c).symm
        · rw [b1 i (by omega)]
          exact h1 i (by omega)
      · have hl2 := kbm_lt f (n + 1)
        rw [e', if_neg c] at hl2
        by_cases hn7 : n + 1 < 7
        · exact (kbm_bit (n + 1) hn7 _ hl2).2.2 i hi hn
        · omega
theorem qfiF_0 (t : gJn → Nat → Int32 → Bool) (B Q W : Nat → Int32) (c : Nat) : ∀ (m n : Nat) (J : gJn), qfiF t B Q W c n m J 0 = 0
  | 0, _, _ => rfl
  | m + 1, n, J => by
    show qfiF t B Q W c (n + 1) m (jone t J) (if (0 : Int32) = 0 then 0 else _) = 0
    rw [if_pos rfl]
    exact qfiF_0 t B Q W c m (n + 1) _
theorem xq.tg {X Y : gX} (h : xq X Y) (Q : gU) (f : Int32) : xtf Y Q f = xtf X Q f := xtf_eq (by rw [h 0 (by decide) (by decide) (by decide)])
theorem xq.n {X Y : gX} (h : xq X Y) : Y 29 = X 29 := h 29 (by decide) (by decide) (by decide)
set_option maxRecDepth 100000 in
set_option maxHeartbeats 1000000 in
theorem c_X4_agree {n : Nat} {X : gX} {O : gO} {Q : gU} {G : gK} {S : gS} {L : gLg} (hM : 408 ≤ n) {T : Nat → Nat → Int32} (hT : X 29 = T) {c : Nat} (hc : T 0 3 = nI c) (hc10 : c ≤ 10) (hnr : knr 6 c (T 2)) {h : Nat → Int32} (hh : X 4 7 = h) (n0 : Int32) : SX 0 0 0 mX4_agree [.ref 255, .int n0, .ref (39 + 8)] (xm n X O Q G S L) (fun v M' => v = some (.int (qnsF (T 1) (T 2) (T 3) h n0 0 c)) ∧ M' = xm n X O Q G S L) := by
  refine SX.intro [some (.ref 255), some (.int n0), some (.ref (39 + 8)), none] (by decide +kernel) (Nat.le_of_ble_eq_true rfl) rfl (fun E hE hQ => ?_)
  have loop : ∀ (m k : Nat), k + m = c → qnsF (T 1) (T 2) (T 3) h n0 k m = qnsF (T 1) (T 2) (T 3) h n0 0 c → RX E mX4_agree.2.2.1 0 0 2 [some (.ref 255), some (.int n0), some (.ref (39 + 8)), some (.int (nI k))] [] (xm n X O Q G S L) := by
    intro m
    induction m with
    | zero =>
      intro k hk2 hF
      refine rx_iload_n hE dX4_agree_2 (i := 3) rfl rfl ?_
      refine rx_aload_n hE dX4_agree_3 (i := 0) rfl rfl ?_
      refine rx_getf hE dX4_agree_4 fl_X4_21_4 (xa_n0 (xN_29 hM)) rfl ?_
      refine rx_int _ (nI c) ((congrFun (congrFun hT 0) 3).trans hc) ?_
      refine rx_icmp_ge (tgt := 45) hE dX4_agree_7 (by decide) (fun c7 => ?_) (fun c7 => absurd (show nI c ≤ nI k from nI_le (by omega) (by omega)) c7)
      refine rx_iconst hE dX4_agree_45 (v := 1) (by decide) ?_
      exact rx_tret hE hQ rfl rfl dX4_agree_46 ⟨by rw [← hF]; rfl, rfl⟩
    | succ m ih =>
      intro k hk2 hF
      refine rx_iload_n hE dX4_agree_2 (i := 3) rfl rfl ?_
      refine rx_aload_n hE dX4_agree_3 (i := 0) rfl rfl ?_
      refine rx_getf hE dX4_agree_4 fl_X4_21_4 (xa_n0 (xN_29 hM)) rfl ?_
      refine rx_int _ (nI c) ((congrFun (congrFun hT 0) 3).trans hc) ?_
      refine rx_icmp_ge (tgt := 45) hE dX4_agree_7 (by decide) (fun c7 => absurd c7 (nI_ge (a := k) (b := c) (by omega) (by omega))) (fun c7 => ?_)
      refine rx_aload_n hE dX4_agree_10 (i := 0) rfl rfl ?_
      refine rx_getf hE dX4_agree_11 fl_X4_9_4 (xa_n0 (xN_29 hM)) rfl ?_
      refine rx_iload_n hE dX4_agree_14 (i := 3) rfl rfl ?_
      refine rx_ialdN (i := k) hE dX4_agree_15 (xa_n1 (xN_29 hM)) (by omega) (by decide) ?_
      refine rx_int _ (T 1 k) (congrFun (congrFun hT 1) k) ?_
      refine rx_iload_n hE dX4_agree_16 (i := 1) rfl rfl ?_
      refine rx_icmp_ne (tgt := 39) hE dX4_agree_17 (by decide) (fun c17 => ?_) (fun c17 => ?_)
      · refine rx_iinc_3 hE dX4_agree_39 (v := 1) (by decide) (by decide) rfl ?_
        rw [nI_1]
        refine rx_goto (tgt := 2) hE dX4_agree_42 (by decide) ?_
        exact ih (k + 1) (by omega) (by rw [← hF]; exact (if_neg (fun q => c17 q.1)).symm)
      · refine rx_aload_n hE dX4_agree_20 (i := 2) rfl rfl ?_
        refine rx_aload_n hE dX4_agree_21 (i := 0) rfl rfl ?_
        refine rx_getf hE dX4_agree_22 fl_X4_15_4 (xa_n0 (xN_29 hM)) rfl ?_
        refine rx_iload_n hE dX4_agree_25 (i := 3) rfl rfl ?_
        refine rx_ialdN (i := k) hE dX4_agree_26 (xa_n2 (xN_29 hM)) (by omega) (by decide) ?_
        refine rx_int _ (T 2 k) (congrFun (congrFun hT 2) k) ?_
        obtain ⟨r, hr, er⟩ := hnr k (by omega)
        refine rx_int _ (nI r) er ?_
        refine rx_ialdN (i := r) hE dX4_agree_27 (xa_j8 xJ_4 hM) (by omega) (by decide) ?_
        refine rx_int _ (h (T 2 k).toNatClampNeg) (by rw [hh, er, nI_clamp (by omega)]) ?_
        refine rx_aload_n hE dX4_agree_28 (i := 0) rfl rfl ?_
        refine rx_getf hE dX4_agree_29 fl_X4_18_4 (xa_n0 (xN_29 hM)) rfl ?_
        refine rx_iload_n hE dX4_agree_32 (i := 3) rfl rfl ?_
        refine rx_ialdN (i := k) hE dX4_agree_33 (xa_n3 (xN_29 hM)) (by omega) (by decide) ?_
        refine rx_int _ (T 3 k) (congrFun (congrFun hT 3) k) ?_
        refine rx_icmp_eq (tgt := 39) hE dX4_agree_34 (by decide) (fun c34 => ?_) (fun c34 => ?_)
        · refine rx_iinc_3 hE dX4_agree_39 (v := 1) (by decide) (by decide) rfl ?_
          rw [nI_1]
          refine rx_goto (tgt := 2) hE dX4_agree_42 (by decide) ?_
          exact ih (k + 1) (by omega) (by rw [← hF]; exact (if_neg (fun q => q.2 c34)).symm)
        · refine rx_iconst hE dX4_agree_37 (v := 0) (by decide) ?_
          exact rx_tret hE hQ rfl rfl dX4_agree_38 ⟨by rw [← hF]; exact congrArg (fun z => some (Value.int z)) (if_pos ⟨c17, c34⟩).symm, rfl⟩
  refine rx_iconst hE dX4_agree_0 (v := 0) (by decide) ?_
  refine rx_istore_n_3 hE dX4_agree_1 (by decide) rfl ?_
  exact loop c 0 (by omega) rfl
def xff (X : gX) (Q : gU) (T : Nat → Nat → Int32) (c : Nat) (K : gJn) (k : Nat) : Int32 := qfit (xtf X Q (nI k - 1)) (T 1) (T 2) (T 3) c K
theorem xff_01 (X : gX) (Q : gU) (T : Nat → Nat → Int32) (c : Nat) (K : gJn) (k : Nat) : xff X Q T c K k = 0 ∨ xff X Q T c K k = 1 := qfiF_01 _ _ _ _ _ _ _ _ _ (Or.inr rfl)
theorem pI_1 (k : Nat) : nI k - 1 + 1 = nI k := Int32.sub_add_cancel _ _
theorem pI_s (k : Nat) : nI k - 1 + 1 = nI (k + 1) - 1 := by rw [pI_1, nI_pred]
theorem pI_ge {k r : Nat} (h : r + 1 ≤ k) (hk : k < 100) : nI r ≤ nI k - 1 := by
  obtain ⟨j, rfl⟩ : ∃ j, k = j + 1 := ⟨k - 1, by omega⟩
  rw [nI_pred]
  exact nI_le (by omega) (by omega)
theorem pI_nge {k r : Nat} (h : k ≤ r) (hr : r < 100) : ¬ nI r ≤ nI k - 1 := by
  intro q
  rw [Int32.le_iff_toInt_le, show (1 : Int32) = nI 1 from rfl, pk_sub_toInt (by omega) (by decide), nI_toInt (by omega)] at q
  omega
set_option maxRecDepth 100000 in
set_option maxHeartbeats 1000000 in
theorem c_X10_isSoBy {n : Nat} {X : gX} {O : gO} {Q : gU} {G : gK} {S : gS} {L : gLg} (hR : xR n X O Q) {K : gJn} (hK : X 3 = K) (hfK : jfit K) (hTK : jT K = 0) {T : Nat → Nat → Int32} (hT : X 29 = T) {c : Nat} (hc : T 0 3 = nI c) (hc10 : c ≤ 10) (hnr : knr 6 c (T 2)) {k : Nat} (hk : k ≤ 6) {t : gJn → Nat → Int32 → Bool} (ht : xtf X Q (nI k - 1) = t) (wch : Int32) : SX 6 0 0 mX10_isSoBy [.ref 16, .int (nI k - 1), .int wch] (xm n X O Q G S L) (fun v M' => v = some (.int (qfit t (T 1) (T 2) (T 3) c K)) ∧ ∃ (Y : gX) (G' : gK), M' = xm n Y O Q G' S L ∧ xq X Y ∧ (∀ q, ¬ (6 * k ≤ q ∧ q < 6 * k + 6) → Y 32 4 q = X 32 4 q) ∧ (¬ qfit t (T 1) (T 2) (T 3) c K = 0 → ∀ th, th ≤ 60 → wch = nI th → ∀ r, r < 6 → Y 32 4 (6 * k + r) = qmt t K th r)) := by
  refine SX.intro [some (.ref 16), some (.int (nI k - 1)), some (.int wch), none] (by decide +kernel) (Nat.le_of_ble_eq_true rfl) rfl (fun E hE hQ => ?_)
  have hM := hR.M
  have loop : ∀ (m i : Nat) (Y : gX) (G' : gK), i + m = 61 → xq X Y → (∀ q, ¬ (6 * k ≤ q ∧ q < 6 * k + 6) → Y 32 4 q = X 32 4 q) → (∀ th, th < i → wch = nI th → ∀ r, r < 6 → Y 32 4 (6 * k + r) = qmt t K th r) → qfiF t (T 1) (T 2) (T 3) c i m (jmanyF t i K) 1 = qfit t (T 1) (T 2) (T 3) c K → RX E mX10_isSoBy.2.2.1 0 0 13 [some (.ref 16), some (.int (nI k - 1)), some (.int wch), some (.int (nI i))] [] (xm n (x_r Y 4 (jmanyF t i K)) O Q G' S L) := by
    intro m
    induction m with
    | zero =>
      intro i Y G' hk2 hq ho hw hF
      refine rx_iload_n hE dX10_isSoBy_13 (i := 3) rfl rfl ?_
      refine rx_bipush hE dX10_isSoBy_14 (v := 60) (by decide) ?_
      refine rx_icmp_gt (tgt := 86) hE dX10_isSoBy_16 (by decide) (fun c16 => ?_) (fun c16 => absurd (nI_lt (a := 60) (b := i) (by omega) (by omega)) c16)
      refine rx_iconst hE dX10_isSoBy_86 (v := 1) (by decide) ?_
      exact rx_tret hE hQ rfl rfl dX10_isSoBy_87 ⟨by rw [← hF]; rfl, x_r Y 4 (jmanyF t i K), G', rfl, hq.trans (xq.t Y _), ho, fun _ th hth e r hr => hw th (by omega) e r hr⟩
    | succ m ih =>
      intro i Y G' hk2 hq ho hw hF
      have hR := hq.R hR
      have hTY : Y 29 = T := hq.n.trans hT
      have ht : xtf Y Q (nI k - 1) = t := (hq.tg Q _).trans ht
      have hfk : jfit (jmanyF t i K) := hfK.many t i (by omega)
      have hTk := (hfK.1.many t i (by omega)).2
      refine rx_iload_n hE dX10_isSoBy_13 (i := 3) rfl rfl ?_
      refine rx_bipush hE dX10_isSoBy_14 (v := 60) (by decide) ?_
      refine rx_icmp_gt (tgt := 86) hE dX10_isSoBy_16 (by decide) (fun c16 => absurd c16 (nI_nlt (a := 60) (b := i) (by omega) (by decide))) (fun c16 => ?_)
      refine rx_aload_n hE dX10_isSoBy_19 (i := 0) rfl rfl ?_
      refine rx_getf hE dX10_isSoBy_20 fl_X10_26_9 (xa_0 hM) rfl ?_
      refine rx_aload_n hE dX10_isSoBy_23 (i := 0) rfl rfl ?_
      refine rx_iload_n hE dX10_isSoBy_24 (i := 1) rfl rfl ?_
      refine rx_call0 (rx_callV (av := [.int _]) hE dX10_isSoBy_25 lk_X10_205 (c_X10_ruleOf (X := (x_r Y 4 (jmanyF t i K))) hM (hR.eq rfl) _) (xa_0 hM) np_X10_ruleOf rfl rfl (by decide) (Nat.le_of_ble_eq_true rfl) rfl ?_)
      rintro v M' ⟨u, rfl, hu, rfl⟩
      have hu : xT Q n u t := by rw [← ht]; exact hu
      refine rx_call0 (rx_callV (av := [u]) hE dX10_isSoBy_28 lk_X10_209 (x_oneBeat (X := (x_r Y 4 (jmanyF t i K))) xJ_4 hM (J := (jmanyF t i K)) rfl hfk.1 hu) (xa_j xJ_4 hM) np_X2_oneBeat rfl rfl (by decide) (Nat.le_of_ble_eq_true rfl) rfl ?_)
      rintro v M' ⟨rfl, G1, rfl⟩
      rw [x_rr]
      refine rx_pop hE dX10_isSoBy_31 rfl ?_
      refine rx_aload_n hE dX10_isSoBy_32 (i := 0) rfl rfl ?_
      refine rx_getf hE dX10_isSoBy_33 fl_X10_63_9 (xa_0 hM) rfl ?_
      refine rx_iload_n hE dX10_isSoBy_36 (i := 3) rfl rfl ?_
      refine rx_aload_n hE dX10_isSoBy_37 (i := 0) rfl rfl ?_
      refine rx_getf hE dX10_isSoBy_38 fl_X10_26_9 (xa_0 hM) rfl ?_
      refine rx_getfN hE dX10_isSoBy_41 fl_X10_275_2 (xa_j xJ_4 hM) rfl ?_
      refine rx_call0 (rx_callV (av := [.int (nI i), .ref (39 + 8)]) hE dX10_isSoBy_44 lk_X10_312 (c_X4_agree (X := (x_r Y 4 (jone t (jmanyF t i K)))) hM (T := T) hTY hc hc10 hnr (h := (jone t (jmanyF t i K)) 7) rfl (nI i)) (xa_n0 (xN_29 hM)) np_X4_agree rfl rfl (by decide) (Nat.le_of_ble_eq_true rfl) rfl ?_)
      rintro v M' ⟨rfl, rfl⟩
      refine rx_if_ne (tgt := 52) hE dX10_isSoBy_47 (by decide) (fun c47 => ?_) (fun c47 => ?_)
      · refine rx_iload_n hE dX10_isSoBy_52 (i := 3) rfl rfl ?_
        refine rx_iload_n hE dX10_isSoBy_53 (i := 2) rfl rfl ?_
        refine rx_icmp_ne (tgt := 80) hE dX10_isSoBy_54 (by decide) (fun c54 => ?_) (fun c54 => ?_)
        · refine rx_iinc_3 hE dX10_isSoBy_80 (v := 1) (by decide) (by decide) rfl ?_
          rw [nI_1]
          refine rx_goto (tgt := 13) hE dX10_isSoBy_83 (by decide) ?_
          rw [← jmany_s]
          exact ih (i + 1) Y G1 (by omega) hq ho (fun th hth e r hr => by
            by_cases h : th = i
            · subst h; exact absurd e.symm c54
            · exact hw th (by omega) e r hr) (by rw [← hF]; show _ = qfiF t (T 1) (T 2) (T 3) c (i + 1) m (jone t (jmanyF t i K)) (if (1 : Int32) = 0 then 0 else if qnsF (T 1) (T 2) (T 3) ((jone t (jmanyF t i K)) 7) (nI i) 0 c = 0 then 0 else 1); rw [if_neg (by decide), if_neg c47, jmany_s])
        · refine rx_aload_n hE dX10_isSoBy_57 (i := 0) rfl rfl ?_
          refine rx_getf hE dX10_isSoBy_58 fl_X10_26_9 (xa_0 hM) rfl ?_
          refine rx_getfN hE dX10_isSoBy_61 fl_X10_275_2 (xa_j xJ_4 hM) rfl ?_
          refine rx_iconst hE dX10_isSoBy_64 (v := 0) (by decide) ?_
          refine rx_aload_n hE dX10_isSoBy_65 (i := 0) rfl rfl ?_
          refine rx_getf hE dX10_isSoBy_66 fl_X10_96_9 (xa_0 hM) rfl ?_
          refine rx_iload_n hE dX10_isSoBy_69 (i := 1) rfl rfl ?_
          refine rx_iconst hE dX10_isSoBy_70 (v := 1) (by decide) ?_
          refine rx_iadd hE dX10_isSoBy_71 ?_
          refine rx_int _ (nI k) (pI_1 k) ?_
          refine rx_bipush hE dX10_isSoBy_72 (v := 6) (by decide) ?_
          refine rx_imul hE dX10_isSoBy_74 ?_
          refine rx_int _ (nI (k * 6)) (pk_mul k 6) ?_
          refine rx_bipush hE dX10_isSoBy_75 (v := 6) (by decide) ?_
          refine rx_copyi hE dX10_isSoBy_77 ac_X10_285 rfl (by decide) (Nat.le_of_ble_eq_true rfl) (xa_j8 xJ_4 hM) (xa_32_4 hM) (by decide) (nI_pos (by omega)) (by decide) (by decide) (by rw [nI_clamp (by omega)]; show k * 6 + 6 ≤ 42; omega) ?_
          refine rx_mem (M' := xm n (x_r (x_r Y 32 (j_s (Y 32) 4 (va_cpy ((jone t (jmanyF t i K)) 7) (Y 32 4) 0 (k * 6) 6))) 4 (jone t (jmanyF t i K))) O Q G1 S L) (xw_32_4.trans (by rw [nI_clamp (by omega), x_r_comm (by decide)]; rfl)) ?_
          obtain ⟨Y1, hY1⟩ : ∃ Y1, Y1 = (x_r Y 32 (j_s (Y 32) 4 (va_cpy ((jone t (jmanyF t i K)) 7) (Y 32 4) 0 (k * 6) 6))) := ⟨_, rfl⟩
          rw [← hY1]
          have hq1 : xq X Y1 := by rw [hY1]; exact hq.trans (xq.r Y _ (Or.inr (Or.inr rfl)))
          have ho1 : ∀ q, ¬ (6 * k ≤ q ∧ q < 6 * k + 6) → Y1 32 4 q = X 32 4 q := by
            intro q hq2
            rw [hY1]
            show va_cpy ((jone t (jmanyF t i K)) 7) (Y 32 4) 0 (k * 6) 6 q = _
            rw [pk_cpy_out (by omega)]
            exact ho q hq2
          have hw1 : ∀ th, th < i + 1 → wch = nI th → ∀ r, r < 6 → Y1 32 4 (6 * k + r) = qmt t K th r := by
            intro th hth e r hr
            have hti : th = i := nI_inj (by omega) (by omega) (e.symm.trans c54.symm)
            subst hti
            rw [hY1]
            show va_cpy ((jone t (jmanyF t th K)) 7) (Y 32 4) 0 (k * 6) 6 (6 * k + r) = _
            rw [pk_cpy_in (by omega) (by omega)]
            show (jone t (jmanyF t th K)) 7 (0 + (6 * k + r - k * 6)) = (jone t (jmanyF t th K)) 7 r
            congr 1
            omega
          refine rx_iinc_3 hE dX10_isSoBy_80 (v := 1) (by decide) (by decide) rfl ?_
          rw [nI_1]
          refine rx_goto (tgt := 13) hE dX10_isSoBy_83 (by decide) ?_
          rw [← jmany_s]
          exact ih (i + 1) Y1 G1 (by omega) hq1 ho1 hw1 (by rw [← hF]; show _ = qfiF t (T 1) (T 2) (T 3) c (i + 1) m (jone t (jmanyF t i K)) (if (1 : Int32) = 0 then 0 else if qnsF (T 1) (T 2) (T 3) ((jone t (jmanyF t i K)) 7) (nI i) 0 c = 0 then 0 else 1); rw [if_neg (by decide), if_neg c47, jmany_s])
      · have h0 : qfit t (T 1) (T 2) (T 3) c K = 0 := by
          rw [← hF]
          show qfiF t (T 1) (T 2) (T 3) c (i + 1) m (jone t (jmanyF t i K)) (if (1 : Int32) = 0 then 0 else if qnsF (T 1) (T 2) (T 3) ((jone t (jmanyF t i K)) 7) (nI i) 0 c = 0 then 0 else 1) = 0
          rw [if_neg (by decide), if_pos c47, qfiF_0]
        refine rx_iconst hE dX10_isSoBy_50 (v := 0) (by decide) ?_
        exact rx_tret hE hQ rfl rfl dX10_isSoBy_51 ⟨by rw [h0], _, G1, rfl, hq.trans (xq.t Y _), ho, fun q => absurd h0 q⟩
  refine rx_aload_n hE dX10_isSoBy_0 (i := 0) rfl rfl ?_
  refine rx_getf hE dX10_isSoBy_1 fl_X10_26_9 (xa_0 hM) rfl ?_
  refine rx_aload_n hE dX10_isSoBy_4 (i := 0) rfl rfl ?_
  refine rx_getf hE dX10_isSoBy_5 fl_X10_23_9 (xa_0 hM) rfl ?_
  refine rx_call0 (rx_callV (av := [.ref _]) hE dX10_isSoBy_8 lk_X10_124 (x_copyFrom (X := X) xJ_4 xJ_3 (by decide) hM (J := K) hK) (xa_j xJ_4 hM) np_X2_copyFrom rfl rfl (by decide) (Nat.le_of_ble_eq_true rfl) rfl ?_)
  rintro v M' ⟨rfl, rfl⟩
  refine rx_iconst hE dX10_isSoBy_11 (v := 0) (by decide) ?_
  refine rx_istore_n_3 hE dX10_isSoBy_12 (by decide) rfl ?_
  exact loop 61 0 X G (by omega) (xq.refl X) (fun q _ => rfl) (fun th hth => absurd hth (Nat.not_lt_zero th)) rfl
set_option maxRecDepth 100000 in
set_option maxHeartbeats 1000000 in
theorem c_X10_rulesThatAreSo {n : Nat} {X : gX} {O : gO} {Q : gU} {G : gK} {S : gS} {L : gLg} (hR : xR n X O Q) {K : gJn} (hK : X 3 = K) (hfK : jfit K) (hTK : jT K = 0) {T : Nat → Nat → Int32} (hT : X 29 = T) {c : Nat} (hc : T 0 3 = nI c) (hc10 : c ≤ 10) (hnr : knr 6 c (T 2)) {ρ : Nat} (hρ : X 0 0 16 = nI ρ) (hρ6 : ρ ≤ 6) (wch : Int32) : SX 7 0 0 mX10_rulesThatAreSo [.ref 16, .int wch] (xm n X O Q G S L) (fun v M' => v = some (.int (nI (kbm (xff X Q T c K) (ρ + 1)))) ∧ ∃ (Y : gX) (G' : gK), M' = xm n Y O Q G' S L ∧ xq X Y ∧ (∀ j, j < ρ + 1 → ¬ (xff X Q T c K) j = 0 → ∀ th, th ≤ 60 → wch = nI th → ∀ r, r < 6 → Y 32 4 (6 * j + r) = qmt (xtf X Q (nI j - 1)) K th r)) := by
  refine SX.intro [some (.ref 16), some (.int wch), none, none] (by decide +kernel) (Nat.le_of_ble_eq_true rfl) rfl (fun E hE hQ => ?_)
  have hM := hR.M
  have loop : ∀ (m k : Nat) (Y : gX) (G' : gK), k + m = ρ + 1 → xq X Y → (∀ j, j < k → ¬ (xff X Q T c K) j = 0 → ∀ th, th ≤ 60 → wch = nI th → ∀ r, r < 6 → Y 32 4 (6 * j + r) = qmt (xtf X Q (nI j - 1)) K th r) → RX E mX10_rulesThatAreSo.2.2.1 0 0 4 [some (.ref 16), some (.int wch), some (.int (nI (kbm (xff X Q T c K) k))), some (.int (nI k - 1))] [] (xm n Y O Q G' S L) := by
    intro m
    induction m with
    | zero =>
      intro k Y G' hk2 hq hw
      refine rx_iload_n hE dX10_rulesThatAreSo_4 (i := 3) rfl rfl ?_
      refine rx_aload_n hE dX10_rulesThatAreSo_5 (i := 0) rfl rfl ?_
      refine rx_getf hE dX10_rulesThatAreSo_6 fl_X10_99_9 (xa_0 hM) rfl ?_
      refine rx_int _ (nI ρ) ((congrFun (congrFun (hq 0 (by decide) (by decide) (by decide)) 0) 16).trans hρ) ?_
      refine rx_icmp_ge (tgt := 35) hE dX10_rulesThatAreSo_9 (by decide) (fun c9 => ?_) (fun c9 => absurd (pI_ge (by omega) (by omega)) c9)
      refine rx_iload_n hE dX10_rulesThatAreSo_35 (i := 2) rfl rfl ?_
      exact rx_iret hE hQ rfl dX10_rulesThatAreSo_36 ⟨by rw [show k = ρ + 1 by omega], Y, G', rfl, hq, fun j hj hf th hth e r hr => hw j (by omega) hf th hth e r hr⟩
    | succ m ih =>
      intro k Y G' hk2 hq hw
      refine rx_iload_n hE dX10_rulesThatAreSo_4 (i := 3) rfl rfl ?_
      refine rx_aload_n hE dX10_rulesThatAreSo_5 (i := 0) rfl rfl ?_
      refine rx_getf hE dX10_rulesThatAreSo_6 fl_X10_99_9 (xa_0 hM) rfl ?_
      refine rx_int _ (nI ρ) ((congrFun (congrFun (hq 0 (by decide) (by decide) (by decide)) 0) 16).trans hρ) ?_
      refine rx_icmp_ge (tgt := 35) hE dX10_rulesThatAreSo_9 (by decide) (fun c9 => absurd c9 (pI_nge (by omega) (by omega))) (fun c9 => ?_)
      refine rx_aload_n hE dX10_rulesThatAreSo_12 (i := 0) rfl rfl ?_
      refine rx_iload_n hE dX10_rulesThatAreSo_13 (i := 3) rfl rfl ?_
      refine rx_iload_n hE dX10_rulesThatAreSo_14 (i := 1) rfl rfl ?_
      refine rx_call0 (rx_callV (av := [.int (nI k - 1), .int wch]) hE dX10_rulesThatAreSo_15 lk_X10_309 (c_X10_isSoBy (X := Y) (hq.R hR) (hq.K hK) hfK hTK (hq.n.trans hT) hc hc10 hnr (k := k) (by omega) (hq.tg Q _) wch) (xa_0 hM) np_X10_isSoBy rfl rfl (by decide) (Nat.le_of_ble_eq_true rfl) rfl ?_)
      rintro v M' ⟨rfl, Y1, G1, rfl, hq1, ho1, hw1⟩
      refine rx_int _ ((xff X Q T c K) k) rfl ?_
      refine rx_if_eq (tgt := 29) hE dX10_rulesThatAreSo_18 (by decide) (fun c18 => ?_) (fun c18 => ?_)
      · refine rx_iinc_3 hE dX10_rulesThatAreSo_29 (v := 1) (by decide) (by decide) rfl ?_
        rw [pI_s]
        refine rx_goto (tgt := 4) hE dX10_rulesThatAreSo_32 (by decide) ?_
        rw [show kbm (xff X Q T c K) k = kbm (xff X Q T c K) (k + 1) from (if_pos c18).symm]
        exact ih (k + 1) Y1 G1 (by omega) (hq.trans hq1) (fun j hj hf th hth e r hr => by
          by_cases h : j = k
          · subst h
            exact hw1 hf th hth e r hr
          · rw [ho1 _ (by omega)]
            exact hw j (by omega) hf th hth e r hr)
      · refine rx_iload_n hE dX10_rulesThatAreSo_21 (i := 2) rfl rfl ?_
        refine rx_iconst hE dX10_rulesThatAreSo_22 (v := 1) (by decide) ?_
        refine rx_iload_n hE dX10_rulesThatAreSo_23 (i := 3) rfl rfl ?_
        refine rx_iconst hE dX10_rulesThatAreSo_24 (v := 1) (by decide) ?_
        refine rx_iadd hE dX10_rulesThatAreSo_25 ?_
        refine rx_int _ (nI k) (pI_1 k) ?_
        refine rx_ishl hE dX10_rulesThatAreSo_26 ?_
        refine rx_ior hE dX10_rulesThatAreSo_27 ?_
        refine rx_int _ (nI (kbm (xff X Q T c K) (k + 1))) ((kbm_tab k (by omega) _ (kbm_lt _ k)).1.trans (congrArg nI (if_neg c18).symm)) ?_
        refine rx_istore_n_2 hE dX10_rulesThatAreSo_28 (by decide) rfl ?_
        refine rx_iinc_3 hE dX10_rulesThatAreSo_29 (v := 1) (by decide) (by decide) rfl ?_
        rw [pI_s]
        refine rx_goto (tgt := 4) hE dX10_rulesThatAreSo_32 (by decide) ?_
        exact ih (k + 1) Y1 G1 (by omega) (hq.trans hq1) (fun j hj hf th hth e r hr => by
          by_cases h : j = k
          · subst h
            exact hw1 hf th hth e r hr
          · rw [ho1 _ (by omega)]
            exact hw j (by omega) hf th hth e r hr)
  refine rx_iconst hE dX10_rulesThatAreSo_0 (v := 0) (by decide) ?_
  refine rx_istore_n_2 hE dX10_rulesThatAreSo_1 (by decide) rfl ?_
  refine rx_iconst hE dX10_rulesThatAreSo_2 (v := -1) (by decide) ?_
  refine rx_istore_n_3 hE dX10_rulesThatAreSo_3 (by decide) rfl ?_
  exact loop (ρ + 1) 0 X G (by omega) (xq.refl X) (fun j hj => absurd hj (Nat.not_lt_zero j))
set_option maxRecDepth 100000 in
set_option maxHeartbeats 1000000 in
theorem c_X10_ruled {n : Nat} {X : gX} {O : gO} {Q : gU} {G : gK} {S : gS} {L : gLg} (hR : xR n X O Q) {J : gJn} (hJ : X 2 = J) (hk : xk J) {t : gJn → Nat → Int32 → Bool} (ht : xtf X Q (X 0 0 17) = t) {K : gJn} (hK : X 3 = K) (hfK : jok J → jfit K ∧ jT K = 0) {T : Nat → Nat → Int32} (hT : X 29 = T) {c : Nat} (hc : T 0 3 = nI c) (hc10 : c ≤ 10) (hnr : knr 6 c (T 2)) {ρ : Nat} (hρ : X 0 0 16 = nI ρ) (hρ6 : ρ ≤ 6) (what : Int32) : SX 9 0 0 mX10_ruled [.ref 16, .int what] (xm n X O Q G S L) (fun v M' => v = some (.int (q_ruled J (xff X Q T c K) ρ what)) ∧ xD n X O Q S L M') := by
  refine SX.intro [some (.ref 16), some (.int what), none] (by decide +kernel) (Nat.le_of_ble_eq_true rfl) rfl (fun E hE hQ => ?_)
  have hM := hR.M
  refine rx_aload_n hE dX10_ruled_0 (i := 0) rfl rfl ?_
  refine rx_getf hE dX10_ruled_1 fl_X10_19_9 (xa_0 hM) rfl ?_
  refine rx_call0 (rx_callV (av := []) hE dX10_ruled_4 lk_X10_198 (x_isTold (X := X) xJ_2 hM (J := J) hJ) (xa_j xJ_2 hM) np_X2_isTold rfl rfl (by decide) (Nat.le_of_ble_eq_true rfl) rfl ?_)
  rintro v M' ⟨rfl, rfl⟩
  refine rx_if_eq (tgt := 19) hE dX10_ruled_7 (by decide) (fun c7 => ?_) (fun c7 => ?_)
  · refine rx_bipush hE dX10_ruled_19 (v := -3) (by decide) ?_
    exact rx_iret hE hQ rfl dX10_ruled_21 ⟨by simp [q_ruled, *], xD.refl n X O Q G S L⟩
  · refine rx_iload_n hE dX10_ruled_10 (i := 1) rfl rfl ?_
    refine rx_iconst hE dX10_ruled_11 (v := 0) (by decide) ?_
    refine rx_iconst hE dX10_ruled_12 (v := 1) (by decide) ?_
    refine rx_call0 (rx_callS (av := [.int _, .int _, .int _]) hE dX10_ruled_13 lk_X10_143 (c_X10_within _ _ _) np_X10_within rfl rfl (by decide) (Nat.le_of_ble_eq_true rfl) rfl ?_)
    rintro v M' ⟨rfl, rfl⟩
    refine rx_if_ne (tgt := 22) hE dX10_ruled_16 (by decide) (fun c16 => ?_) (fun c16 => ?_)
    · have hg : ¬ (j_isTold J = 0 ∨ q_in what 0 1 = 0) := by simp [*]
      obtain ⟨hf, hT9⟩ := hk.told c7
      have hfK := hfK hf.1
      have hv := q_ruled_gru (f := (xff X Q T c K)) hg hρ6
      have hgr := gru_eq (xff X Q T c K) (ρ + 1) (by omega)
      have hkl := kbm_lt (xff X Q T c K) (ρ + 1)
      have hk7 : kbm (xff X Q T c K) (ρ + 1) < 128 := Nat.lt_of_lt_of_le hkl (show 2 ^ (ρ + 1) ≤ 2 ^ 7 from Nat.pow_le_pow_right (by decide) (by omega))
      
      refine rx_aload_n hE dX10_ruled_22 (i := 0) rfl rfl ?_
      refine rx_iconst hE dX10_ruled_23 (v := -1) (by decide) ?_
      refine rx_call0 (rx_callV (av := [.int _]) hE dX10_ruled_24 lk_X10_300 (c_X10_rulesThatAreSo (X := X) hR hK hfK.1 hfK.2 hT hc hc10 hnr hρ hρ6 _) (xa_0 hM) np_X10_rulesThatAreSo rfl rfl (by decide) (Nat.le_of_ble_eq_true rfl) rfl ?_)
      rintro v M' ⟨rfl, Y, G1, rfl, hq, hw⟩
      refine rx_istore_n_2 hE dX10_ruled_27 (by decide) rfl ?_
      refine rx_iload_n hE dX10_ruled_28 (i := 1) rfl rfl ?_
      refine rx_if_ne (tgt := 37) hE dX10_ruled_29 (by decide) (fun c29 => ?_) (fun c29 => ?_)
      · refine rx_iload_n hE dX10_ruled_37 (i := 2) rfl rfl ?_
        refine rx_if_ne (tgt := 46) hE dX10_ruled_38 (by decide) (fun c38 => ?_) (fun c38 => ?_)
        · refine rx_iload_n hE dX10_ruled_46 (i := 2) rfl rfl ?_
          refine rx_call0 (rx_callS (av := [.int _]) hE dX10_ruled_47 lk_X10_303 (c_ntz _) np_J6_numberOfTrailingZeros_0f7a4 rfl rfl (by decide) (Nat.le_of_ble_eq_true rfl) rfl ?_)
          rintro v M' ⟨rfl, rfl⟩
          refine rx_iconst hE dX10_ruled_50 (v := 1) (by decide) ?_
          refine rx_isub hE dX10_ruled_51 ?_
          exact rx_iret hE hQ rfl dX10_ruled_52 ⟨by rw [hv, if_neg c29, hgr.2, if_neg (fun q => c38 (by rw [q]; rfl))], Y, G1, rfl, hq⟩
        · refine rx_bipush hE dX10_ruled_41 (v := -2) (by decide) ?_
          refine rx_goto (tgt := 52) hE dX10_ruled_43 (by decide) ?_
          exact rx_iret hE hQ rfl dX10_ruled_52 ⟨by rw [hv, if_neg c29, hgr.2, if_pos (nI_inj (by omega) (by decide) c38)], Y, G1, rfl, hq⟩
      · refine rx_iload_n hE dX10_ruled_32 (i := 2) rfl rfl ?_
        refine rx_call0 (rx_callS (av := [.int _]) hE dX10_ruled_33 lk_X10_230 (c_bitCount _) np_J6_bitCount_0f7a4 rfl rfl (by decide) (Nat.le_of_ble_eq_true rfl) rfl ?_)
        rintro v M' ⟨rfl, rfl⟩
        exact rx_iret hE hQ rfl dX10_ruled_36 ⟨by rw [hv, if_pos c29, hgr.1], Y, G1, rfl, hq⟩
    · refine rx_bipush hE dX10_ruled_19 (v := -3) (by decide) ?_
      exact rx_iret hE hQ rfl dX10_ruled_21 ⟨by simp [q_ruled, *], xD.refl n X O Q G S L⟩
