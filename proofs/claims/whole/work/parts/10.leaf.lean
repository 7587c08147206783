/-! CONTRACTS 1: functions of numbers alone -/
def jB (p : Prop) [Decidable p] : Int32 := if p then 1 else 0
theorem jB_t {p : Prop} [Decidable p] (h : p) : jB p = 1 := if_pos h
theorem jB_f {p : Prop} [Decidable p] (h : ¬ p) : jB p = 0 := if_neg h
theorem jB_01 (p : Prop) [Decidable p] : jB p = 0 ∨ jB p = 1 := by
  unfold jB; by_cases h : p
  · exact Or.inr (if_pos h)
  · exact Or.inl (if_neg h)
theorem jB_0 (p : Prop) [Decidable p] : jB p = 0 ↔ ¬ p := by
  unfold jB; by_cases h : p <;> simp [h]
theorem c_within (v l m : Int32) (h : jH) : jV 93 0 [some (.int v), some (.int l), some (.int m)] [] h = some (some (.int (jB (¬ v < l ∧ ¬ m < v))), h) := by
  by_cases h1 : v < l <;> by_cases h2 : m < v <;> simp [s93_0, s93_1, s93_2, s93_5, s93_6, s93_7, s93_10, s93_11, s93_14, s93_15, h1, h2, jB]
theorem c_isIn (v l m : Int32) (h : jH) : jV 105 0 [some (.int v), some (.int l), some (.int m)] [] h = some (some (.int (jB (¬ v < l ∧ ¬ m < v))), h) := by
  by_cases h1 : v < l <;> by_cases h2 : m < v <;> simp [s105_0, s105_1, s105_2, s105_5, s105_6, s105_7, s105_10, s105_11, s105_14, s105_15, h1, h2, jB]
theorem c_isLine (v : Int32) (h : jH) : jV 94 0 [some (.int v)] [] h = some (some (.int (jB (v = 0 ∨ v = 1))), h) := by
  by_cases h1 : v = 0 <;> by_cases h2 : v = 1 <;> simp [s94_0, s94_1, s94_4, s94_5, s94_6, s94_9, s94_10, s94_13, s94_14, h1, h2, jB]
theorem c_isPlace (v : Int32) (h : jH) : jV 95 0 [some (.int v)] [] h = some (some (.int (jB (¬ v < 1 ∧ ¬ 30 < v))), h) := by
  by_cases h1 : v < 1 <;> by_cases h2 : 30 < v <;> simp [s95_0, s95_1, s95_2, s95_5, s95_6, s95_8, s95_11, s95_12, s95_15, s95_16, h1, h2, jB]
theorem c_isRowIndex (v : Int32) (h : jH) : jV 96 0 [some (.int v)] [] h = some (some (.int (jB (¬ v < 0 ∧ v < 32))), h) := by
  by_cases h1 : v < 0 <;> by_cases h2 : v < 32 <;> simp [s96_0, s96_1, s96_4, s96_5, s96_7, s96_10, s96_11, s96_14, s96_15, h1, h2, jB]
theorem c_isBits (v : Int32) (h : jH) : jV 97 0 [some (.int v)] [] h = some (some (.int (jB (¬ v < 0 ∧ v < 65536))), h) := by
  by_cases h1 : v < 0 <;> by_cases h2 : v < 65536 <;> simp [s97_0, s97_1, s97_4, s97_5, s97_7, s97_10, s97_11, s97_14, s97_15, h1, h2, jB]
theorem c_isBlock (v : Int32) (h : jH) : jV 98 0 [some (.int v)] [] h = some (some (.int (jB (¬ v < 0 ∧ v < 16))), h) := by
  by_cases h1 : v < 0 <;> by_cases h2 : v < 16 <;> simp [s98_0, s98_1, s98_4, s98_5, s98_7, s98_10, s98_11, s98_14, s98_15, h1, h2, jB]
theorem c_isNote (v : Int32) (h : jH) : jV 99 0 [some (.int v)] [] h = some (some (.int (jB (v = 256 ∨ v = 8 ∨ v = 4 ∨ v = 1))), h) := by
  by_cases h1 : v = 256 <;> by_cases h2 : v = 8 <;> by_cases h3 : v = 4 <;> by_cases h4 : v = 1 <;> simp [s99_0, s99_1, s99_4, s99_7, s99_8, s99_10, s99_13, s99_14, s99_15, s99_18, s99_19, s99_20, s99_23, s99_24, s99_27, s99_28, h1, h2, h3, h4, jB]
theorem c_inSet (s v : Int32) (h : jH) : jV 101 0 [some (.int s), some (.int v)] [] h = some (some (.int (jB (¬ v < 0 ∧ v < 32 ∧ (s >>> (v &&& 31)) &&& 1 = 1))), h) := by
  by_cases h1 : v < 0 <;> by_cases h2 : v < 32 <;> by_cases h3 : (s >>> (v &&& 31)) &&& 1 = 1 <;> simp [s101_0, s101_1, s101_4, s101_5, s101_7, s101_10, s101_11, s101_12, s101_13, s101_14, s101_15, s101_16, s101_19, s101_20, s101_23, s101_24, h1, h2, h3, jB]
theorem c_isModeTo (a v : Int32) (h : jH) : jV 100 0 [some (.int a), some (.int v)] [] h = some (some (.int (jB ((¬ a < 0 ∧ ¬ 31 < a) ∧ ¬ v < 0 ∧ v < 32 ∧ ((if a = 31 then 3277306 else 4129279 : Int32) >>> (v &&& 31)) &&& 1 = 1))), h) := by
  by_cases h1 : ¬ a < 0 ∧ ¬ 31 < a
  · by_cases h2 : a = 31
    · by_cases h3 : (¬v < 0 ∧ v < 32 ∧ ((3277306 : Int32) >>> (v &&& 31)) &&& 1 = 1)
      · rw [jB_t ⟨h1, by rw [if_pos h2]; exact h3⟩]
        simp only [s100_0, s100_1, s100_2, s100_4, s100_7, s100_10, s100_11, s100_13, s100_16, s100_19, s100_22, s100_25, s100_26, s100_29, s100_32, s100_33, s100_36, s100_37, c_within, c_inSet, h2, jB_t (show ¬ (31 : Int32) < 0 ∧ ¬ (31 : Int32) < 31 by decide), jB_t h3, ↓reduceIte, va_rf_s, va_rf_n, jb_some, jb_none, jtl_s, jtl_n, if_true, if_false, true_and, and_true, false_and, and_false, or_true, true_or, or_false, false_or, not_true_eq_false, not_false_eq_true, jk_si, jp_si, jj_si, jk_sj, jp_sj, ji_sj, jk_ci, jp_ci, jj_ci, jk_cj, jp_cj, ji_cj, jlng_n, jlng_i, jlng_r, jlng_0]
        try rfl
      · rw [jB_f (fun q => h3 (by have := q.2; rw [if_pos h2] at this; exact this))]
        simp only [s100_0, s100_1, s100_2, s100_4, s100_7, s100_10, s100_11, s100_13, s100_16, s100_19, s100_22, s100_25, s100_26, s100_29, s100_32, s100_33, s100_36, s100_37, c_within, c_inSet, h2, jB_t (show ¬ (31 : Int32) < 0 ∧ ¬ (31 : Int32) < 31 by decide), jB_f h3, ↓reduceIte, va_rf_s, va_rf_n, jb_some, jb_none, jtl_s, jtl_n, if_true, if_false, true_and, and_true, false_and, and_false, or_true, true_or, or_false, false_or, not_true_eq_false, not_false_eq_true, jk_si, jp_si, jj_si, jk_sj, jp_sj, ji_sj, jk_ci, jp_ci, jj_ci, jk_cj, jp_cj, ji_cj, jlng_n, jlng_i, jlng_r, jlng_0]
        try rfl
    · by_cases h3 : (¬v < 0 ∧ v < 32 ∧ ((4129279 : Int32) >>> (v &&& 31)) &&& 1 = 1)
      · rw [jB_t ⟨h1, by rw [if_neg h2]; exact h3⟩]
        simp only [s100_0, s100_1, s100_2, s100_4, s100_7, s100_10, s100_11, s100_13, s100_16, s100_19, s100_22, s100_25, s100_26, s100_29, s100_32, s100_33, s100_36, s100_37, c_within, c_inSet, h2, jB_t h1, jB_t h3, ↓reduceIte, va_rf_s, va_rf_n, jb_some, jb_none, jtl_s, jtl_n, if_true, if_false, true_and, and_true, false_and, and_false, or_true, true_or, or_false, false_or, not_true_eq_false, not_false_eq_true, jk_si, jp_si, jj_si, jk_sj, jp_sj, ji_sj, jk_ci, jp_ci, jj_ci, jk_cj, jp_cj, ji_cj, jlng_n, jlng_i, jlng_r, jlng_0]
        try rfl
      · rw [jB_f (fun q => h3 (by have := q.2; rw [if_neg h2] at this; exact this))]
        simp only [s100_0, s100_1, s100_2, s100_4, s100_7, s100_10, s100_11, s100_13, s100_16, s100_19, s100_22, s100_25, s100_26, s100_29, s100_32, s100_33, s100_36, s100_37, c_within, c_inSet, h2, jB_t h1, jB_f h3, ↓reduceIte, va_rf_s, va_rf_n, jb_some, jb_none, jtl_s, jtl_n, if_true, if_false, true_and, and_true, false_and, and_false, or_true, true_or, or_false, false_or, not_true_eq_false, not_false_eq_true, jk_si, jp_si, jj_si, jk_sj, jp_sj, ji_sj, jk_ci, jp_ci, jj_ci, jk_cj, jp_cj, ji_cj, jlng_n, jlng_i, jlng_r, jlng_0]
        try rfl
  · rw [jB_f (fun q => h1 q.1)]
    simp only [s100_0, s100_1, s100_2, s100_4, s100_7, s100_10, s100_11, s100_13, s100_16, s100_19, s100_22, s100_25, s100_26, s100_29, s100_32, s100_33, s100_36, s100_37, c_within, c_inSet, jB_f h1, ↓reduceIte, va_rf_s, va_rf_n, jb_some, jb_none, jtl_s, jtl_n, if_true, if_false, true_and, and_true, false_and, and_false, or_true, true_or, or_false, false_or, not_true_eq_false, not_false_eq_true, jk_si, jp_si, jj_si, jk_sj, jp_sj, ji_sj, jk_ci, jp_ci, jj_ci, jk_cj, jp_cj, ji_cj, jlng_n, jlng_i, jlng_r, jlng_0]
    try rfl
theorem c_bitAt (b i : Int32) (h : jH) : jV 102 0 [some (.int b), some (.int i)] [] h = some (some (.int ((b >>> (i &&& 31)) &&& 1)), h) := by
  simp only [s102_0, s102_1, s102_2, s102_3, s102_4, s102_5]
theorem c_withBit (b i o : Int32) (h : jH) : jV 103 0 [some (.int b), some (.int i), some (.int o)] [] h = some (some (.int (if o = 0 then b &&& ((1 <<< (i &&& 31)) ^^^ (-1)) else b ||| (1 <<< (i &&& 31)))), h) := by
  by_cases h1 : o = 0 <;> simp only [s103_0, s103_1, s103_4, s103_5, s103_6, s103_7, s103_8, s103_9, s103_12, s103_13, s103_14, s103_15, s103_16, s103_17, s103_18, s103_19, h1, if_true, if_false]
theorem c_addressOf (b : Int32) (h : jH) : jV 3 0 [some (.int b)] [] h = some (some (.int ((b >>> (11 &&& 31)) &&& 31)), h) := by
  simp only [s3_0, s3_1, s3_3, s3_4, s3_6, s3_7]
theorem c_sends (b : Int32) (h : jH) : jV 4 0 [some (.int b)] [] h = some (some (.int (jB (¬ b &&& 1024 = 0))), h) := by
  by_cases h1 : b &&& 1024 = 0 <;> simp [s4_0, s4_1, s4_4, s4_5, s4_8, s4_9, s4_12, s4_13, h1, jB]
theorem c_placeOf (b : Int32) (h : jH) : jV 5 0 [some (.int b)] [] h = some (some (.int ((b >>> (5 &&& 31)) &&& 31)), h) := by
  simp only [s5_0, s5_1, s5_2, s5_3, s5_5, s5_6]
theorem c_isMode (b : Int32) (h : jH) : jV 6 0 [some (.int b), none] [] h = some (some (.int (jB ((b >>> (5 &&& 31)) &&& 31 = 0 ∨ (b >>> (5 &&& 31)) &&& 31 = 31))), h) := by
  by_cases h1 : (b >>> (5 &&& 31)) &&& 31 = 0 <;> by_cases h2 : (b >>> (5 &&& 31)) &&& 31 = 31 <;> simp only [s6_0, s6_1, s6_2, s6_3, s6_5, s6_6, s6_7, s6_8, s6_11, s6_12, s6_14, s6_17, s6_18, s6_21, s6_22, h1, h2, jB, ↓reduceIte, va_rf_s, va_rf_n, jb_some, jb_none, jtl_s, jtl_n, if_true, if_false, true_and, and_true, false_and, and_false, or_true, true_or, or_false, false_or, not_true_eq_false, not_false_eq_true, jk_si, jp_si, jj_si, jk_sj, jp_sj, ji_sj, jk_ci, jp_ci, jj_ci, jk_cj, jp_cj, ji_cj, jlng_n, jlng_i, jlng_r, jlng_0] <;> simp
theorem c_codeOf (b : Int32) (h : jH) : jV 7 0 [some (.int b)] [] h = some (some (.int (b &&& 31)), h) := by
  simp only [s7_0, s7_1, s7_3, s7_4]
theorem c_countOf (b : Int32) (h : jH) : jV 8 0 [some (.int b), none] [] h = some (some (.int (if b &&& 31 = 0 then 32 else b &&& 31)), h) := by
  by_cases h1 : b &&& 31 = 0 <;> simp only [s8_0, s8_1, s8_3, s8_4, s8_5, s8_6, s8_9, s8_11, s8_14, s8_15, h1, ↓reduceIte, va_rf_s, va_rf_n, jb_some, jb_none, jtl_s, jtl_n, if_true, if_false, true_and, and_true, false_and, and_false, or_true, true_or, or_false, false_or, not_true_eq_false, not_false_eq_true, jk_si, jp_si, jj_si, jk_sj, jp_sj, ji_sj, jk_ci, jp_ci, jj_ci, jk_cj, jp_cj, ji_cj, jlng_n, jlng_i, jlng_r, jlng_0]
theorem c_of (a s p k : Int32) (h : jH) : jV 2 0 [some (.int a), some (.int s), some (.int p), some (.int k)] [] h = some (some (.int (((a <<< (11 &&& 31)) ||| (if s = 0 then (0 : Int32) else 1024)) ||| (p <<< (5 &&& 31)) ||| (k &&& 31))), h) := by
  by_cases h1 : s = 0 <;> simp only [s2_0, s2_1, s2_3, s2_4, s2_5, s2_8, s2_11, s2_14, s2_15, s2_16, s2_17, s2_18, s2_19, s2_20, s2_21, s2_23, s2_24, s2_25, h1, ↓reduceIte, va_rf_s, va_rf_n, jb_some, jb_none, jtl_s, jtl_n, if_true, if_false, true_and, and_true, false_and, and_false, or_true, true_or, or_false, false_or, not_true_eq_false, not_false_eq_true, jk_si, jp_si, jj_si, jk_sj, jp_sj, ji_sj, jk_ci, jp_ci, jj_ci, jk_cj, jp_cj, ji_cj, jlng_n, jlng_i, jlng_r, jlng_0]
theorem c_indexOf (p k : Int32) (h : jH) : jV 25 0 [some (.int p), some (.int k)] [] h = some (some (.int ((p - 1) * 32 + k)), h) := by
  simp only [s25_0, s25_1, s25_2, s25_3, s25_5, s25_6, s25_7, s25_8]
/-! the reference's -/
theorem m_isCommand (v : Int32) (h : jH) : jV 109 0 [some (.int v)] [] h = some (some (.int (jB (65535 < v))), h) := by
  by_cases h1 : 65535 < v <;> simp [s109_0, s109_1, s109_3, s109_6, s109_7, s109_10, s109_11, h1, jB]
theorem m_isData (v : Int32) (h : jH) : jV 110 0 [some (.int v)] [] h = some (some (.int (jB (¬ v < 0 ∧ ¬ 65535 < v))), h) := by
  rcases jB_01 (¬ v < 0 ∧ ¬ 65535 < v) with e | e <;> (simp only [s110_0, s110_1, s110_2, s110_4, s110_7, c_isIn, e, ↓reduceIte, va_rf_s, va_rf_n, jb_some, jb_none, jtl_s, jtl_n, if_true, if_false, true_and, and_true, false_and, and_false, or_true, true_or, or_false, false_or, not_true_eq_false, not_false_eq_true, jk_si, jp_si, jj_si, jk_sj, jp_sj, ji_sj, jk_ci, jp_ci, jj_ci, jk_cj, jp_cj, ji_cj, jlng_n, jlng_i, jlng_r, jlng_0]; try rfl)
theorem m_addressOf (b : Int32) (h : jH) : jV 113 0 [some (.int b)] [] h = some (some (.int ((b >>> (11 &&& 31)) &&& 31)), h) := by
  simp only [s113_0, s113_1, s113_3, s113_4, s113_6, s113_7]
theorem m_isToSend (b : Int32) (h : jH) : jV 114 0 [some (.int b)] [] h = some (some (.int (jB ((b >>> (10 &&& 31)) &&& 1 = 1))), h) := by
  by_cases h1 : (b >>> (10 &&& 31)) &&& 1 = 1 <;> simp only [s114_0, s114_1, s114_3, s114_4, s114_5, s114_6, s114_7, s114_10, s114_11, s114_14, s114_15, h1, jB, ↓reduceIte, va_rf_s, va_rf_n, jb_some, jb_none, jtl_s, jtl_n, if_true, if_false, true_and, and_true, false_and, and_false, or_true, true_or, or_false, false_or, not_true_eq_false, not_false_eq_true, jk_si, jp_si, jj_si, jk_sj, jp_sj, ji_sj, jk_ci, jp_ci, jj_ci, jk_cj, jp_cj, ji_cj, jlng_n, jlng_i, jlng_r, jlng_0] <;> simp
theorem m_placeOf (b : Int32) (h : jH) : jV 115 0 [some (.int b)] [] h = some (some (.int ((b >>> (5 &&& 31)) &&& 31)), h) := by
  simp only [s115_0, s115_1, s115_2, s115_3, s115_5, s115_6]
theorem m_isMode (b : Int32) (h : jH) : jV 116 0 [some (.int b)] [] h = some (some (.int (jB ((b >>> (5 &&& 31)) &&& 31 = 0 ∨ (b >>> (5 &&& 31)) &&& 31 = 31))), h) := by
  by_cases h1 : (b >>> (5 &&& 31)) &&& 31 = 0 <;> by_cases h2 : (b >>> (5 &&& 31)) &&& 31 = 31 <;> simp only [s116_0, s116_1, s116_4, s116_7, s116_8, s116_11, s116_13, s116_16, s116_17, s116_20, s116_21, m_placeOf, h1, h2, jB, ↓reduceIte, va_rf_s, va_rf_n, jb_some, jb_none, jtl_s, jtl_n, if_true, if_false, true_and, and_true, false_and, and_false, or_true, true_or, or_false, false_or, not_true_eq_false, not_false_eq_true, jk_si, jp_si, jj_si, jk_sj, jp_sj, ji_sj, jk_ci, jp_ci, jj_ci, jk_cj, jp_cj, ji_cj, jlng_n, jlng_i, jlng_r, jlng_0] <;> simp
theorem m_countOf (b : Int32) (h : jH) : jV 117 0 [some (.int b)] [] h = some (some (.int (if b &&& 31 = 0 then 32 else b &&& 31)), h) := by
  by_cases h1 : b &&& 31 = 0 <;> simp only [s117_0, s117_1, s117_3, s117_4, s117_7, s117_9, s117_12, s117_13, s117_15, s117_16, h1, ↓reduceIte, va_rf_s, va_rf_n, jb_some, jb_none, jtl_s, jtl_n, if_true, if_false, true_and, and_true, false_and, and_false, or_true, true_or, or_false, false_or, not_true_eq_false, not_false_eq_true, jk_si, jp_si, jj_si, jk_sj, jp_sj, ji_sj, jk_ci, jp_ci, jj_ci, jk_cj, jp_cj, ji_cj, jlng_n, jlng_i, jlng_r, jlng_0]
theorem m_command (a t p k : Int32) (h : jH) : jV 131 0 [some (.int a), some (.int t), some (.int p), some (.int k)] [] h = some (some (.int (((a <<< (11 &&& 31)) ||| (t <<< (10 &&& 31))) ||| (p <<< (5 &&& 31)) ||| (k &&& 31))), h) := by
  simp only [s131_0, s131_1, s131_3, s131_4, s131_5, s131_7, s131_8, s131_9, s131_10, s131_11, s131_12, s131_13, s131_14, s131_16, s131_17, s131_18]
theorem m_hasWord (v : Int32) (h : jH) : jV 132 0 [some (.int v)] [] h = some (some (.int (jB (v = 17 ∨ v = 20 ∨ v = 21))), h) := by
  by_cases h1 : v = 17 <;> by_cases h2 : v = 20 <;> by_cases h3 : v = 21 <;> simp [s132_0, s132_1, s132_3, s132_6, s132_7, s132_9, s132_12, s132_13, s132_15, s132_18, s132_19, s132_22, s132_23, h1, h2, h3, jB]
theorem nI_dec (k : Nat) : nI k + (-1) = nI k - 1 := by rw [Int32.sub_eq_add_neg]
