/-! heard, alter: alike -/
theorem i_ge {x : Int32} {a b : Int} (hx : x.toInt < a ∨ b < x.toInt) : x.toInt < a ∨ b < x.toInt := hx
theorem lt_toInt {x y : Int32} : x < y ↔ x.toInt < y.toInt := Int32.lt_iff_toInt_lt
theorem q_heard {B : Nat} {g g' : jH} (qc : CS g) (qm : MS g') (hR : RLi B g g') (back what : Int32) : ∃ r, jV 84 0 [some (.ref 1), some (.int back), some (.int what)] [] g = some (some (.int r), g) ∧ jV 158 0 [some (.ref 30), some (.int back), some (.int what), none, none] [] g' = some (some (.int r), g') := by
  obtain ⟨hB', s, S, A, hs, ⟨h5, h21⟩, h6, hring, hT, hA, hP, hS⟩ := hR
  have w1 := c_within back 1 64 g
  by_cases c1 : ¬ back < 1 ∧ ¬ 64 < back
  · obtain ⟨b, hb, rfl⟩ := nI_of2 (M := 64) (n := 64) rfl (show ¬ back < 0 from fun z => c1.1 (by rw [lt_toInt] at z ⊢; have h0 : (0 : Int32).toInt = 0 := rfl; have h1 : (1 : Int32).toInt = 1 := rfl; omega)) (Int32.not_lt.mp c1.2)
    have hb1 : 1 ≤ b := by
      rcases Nat.eq_zero_or_pos b with z | z
      · subst z; exact absurd (by decide) c1.1
      · exact z
    rw [jB_t c1] at w1
    by_cases c2 : b ≤ s
    · have a1 : ¬ nI s < nI b := nI_nlt c2 (by omega)
      have e0 : nI s - nI b = nI (s - b) := pk_sub c2
      have e1 : nI (s - b) &&& 63 = nI ((s - b) % 64) := pk_andN (by omega) 6 (by decide)
      have e2 : nI (s - b) - nI (s - b) / 64 * 64 = nI ((s - b) % 64) := pk_rem (d := 64) (by omega) (by omega) (by omega)
      have a4 : jin (nI ((s - b) % 64)) 64 = true := jin_nI (by omega) (by omega)
      have a5 : (nI ((s - b) % 64)).toNatClampNeg = (s - b) % 64 := nI_clamp (by omega)
      obtain ⟨r1, r2, r3, r4, r5⟩ := hring ((s - b) % 64) (by omega)
      have hb2 : ¬ nI b < 1 := nI_nlt (b := 1) hb1 (by omega)
      -- the reference's first test
      have m1 : ∀ l3 l4, jV 158 0 [some (.ref 30), some (.int (nI b)), some (.int what), l3, l4] [] g' = if jB (¬ what < 0 ∧ ¬ 4 < what) = 0 then some (some (.int (-1)), g') else jV 158 37 [some (.ref 30), some (.int (nI b)), some (.int what), l3, l4] [] g' := by
        intro l3 l4
        have w3 := c_isIn what 0 4 g'
        by_cases c3 : s < 64
        · have a2 : nI s < 64 := nI_lt (b := 64) c3 (by omega)
          have w2 := c_isIn (nI b) 1 (nI s) g'
          rw [jB_t ⟨hb2, a1⟩] at w2
          simp only [s158_0, s158_1, s158_2, s158_3, s158_6, s158_8, s158_11, s158_12, s158_15, s158_18, s158_20, s158_23, s158_26, s158_27, s158_28, s158_29, s158_32, s158_35, s158_36, k30 qm, h21, a2, w2, w3, show ¬ (1 : Int32) = 0 by decide, ↓reduceIte, va_rf_s, va_rf_n, jb_some, jb_none, jtl_s, jtl_n, if_true, if_false, true_and, and_true, false_and, and_false, or_true, true_or, or_false, false_or, not_true_eq_false, not_false_eq_true, jk_si, jp_si, jj_si, jk_sj, jp_sj, ji_sj, jk_ci, jp_ci, jj_ci, jk_cj, jp_cj, ji_cj, jlng_n, jlng_i, jlng_r, jlng_0]
        · have a2 : ¬ nI s < 64 := nI_nlt (b := 64) (by omega) (by omega)
          have w2 := c_isIn (nI b) 1 64 g'
          rw [jB_t c1] at w2
          simp only [s158_0, s158_1, s158_2, s158_3, s158_6, s158_8, s158_11, s158_12, s158_15, s158_18, s158_20, s158_23, s158_26, s158_27, s158_28, s158_29, s158_32, s158_35, s158_36, k30 qm, h21, a2, w2, w3, show ¬ (1 : Int32) = 0 by decide, ↓reduceIte, va_rf_s, va_rf_n, jb_some, jb_none, jtl_s, jtl_n, if_true, if_false, true_and, and_true, false_and, and_false, or_true, true_or, or_false, false_or, not_true_eq_false, not_false_eq_true, jk_si, jp_si, jj_si, jk_sj, jp_sj, ji_sj, jk_ci, jp_ci, jj_ci, jk_cj, jp_cj, ji_cj, jlng_n, jlng_i, jlng_r, jlng_0]
      have hd : (¬ ji g' 51 ((s - b) % 64) < 0 ∧ ¬ ji g' 51 ((s - b) % 64) = -1 ∧ ji g' 51 ((s - b) % 64) >>> ((16 : Int32) &&& 31) = ji g' 51 ((s - b) % 64) / 65536) ∨ (ji g' 51 ((s - b) % 64) = -1) := by
        rcases r5 with z | ⟨k, hk, z⟩
        · exact Or.inr z
        · refine Or.inl ?_
          rw [z]
          refine ⟨nI_pos (by omega), fun e => absurd (e ▸ (by decide) : nI k < 0) (nI_pos (by omega)), ?_⟩
          have z1 : nI k >>> ((16 : Int32) &&& 31) = nI (k / 2 ^ 16) := pk_shrN (by omega) (16 &&& 31) 16 (by decide)
          have z2 : nI k / nI 65536 = nI (k / 65536) := pk_div (by omega) (by omega) (by omega)
          rw [z1]
          exact z2.symm
      by_cases w : ¬ what < 0 ∧ ¬ 4 < what
      · obtain ⟨j, hj, rfl⟩ := nI_of2 (M := 4) (n := 4) rfl w.1 (Int32.not_lt.mp w.2)
        rw [jB_t w] at m1
        have m1' := m1 none none
        rw [if_neg (show ¬ (1 : Int32) = 0 by decide)] at m1'
        have hj' : j = 0 ∨ j = 1 ∨ j = 2 ∨ j = 3 ∨ j = 4 := by omega
        rcases hj' with rfl | rfl | rfl | rfl | rfl
        · rw [show nI 0 = 0 from rfl] at m1' ⊢
          rcases hd with ⟨d1, d2, d3⟩ | d1
          · refine ⟨ji g' 51 ((s - b) % 64) &&& 65535, ?_, m1'.trans ?_⟩
            rotate_left
            · simp only [s158_37, s158_38, s158_41, s158_42, s158_43, s158_45, s158_46, s158_47, s158_48, s158_51, s158_52, s158_53, s158_55, s158_56c0, s158_56c1, s158_56c2, s158_56c3, s158_56d, s158_88, s158_90, s158_93, s158_94, s158_97, s158_99, s158_101, s158_102, s158_103, s158_105, s158_108, s158_109, s158_112, s158_114, s158_116, s158_117, s158_118, s158_119, s158_122, s158_123, s158_124, s158_125, s158_126, s158_129, s158_130, s158_131, s158_132, s158_133, s158_136, s158_137, s158_138, k30 qm, k51 qm, p30_23 qm, h21, e0, e2, a4, a5, d1, show ¬ (64 : Int32) = 0 by decide, ↓reduceIte, va_rf_s, va_rf_n, jb_some, jb_none, jtl_s, jtl_n, if_true, if_false, true_and, and_true, false_and, and_false, or_true, true_or, or_false, false_or, not_true_eq_false, not_false_eq_true, jk_si, jp_si, jj_si, jk_sj, jp_sj, ji_sj, jk_ci, jp_ci, jj_ci, jk_cj, jp_cj, ji_cj, jlng_n, jlng_i, jlng_r, jlng_0]
            · simp only [s84_0, s84_1, s84_2, s84_4, s84_7, s84_10, s84_11, s84_12, s84_15, s84_18, s84_21, s84_22, s84_23, s84_24, s84_27, s84_28, s84_29, s84_32, s18_0, s18_1, s18_4, s18_5, s18_6, s18_8, s18_9, s18_10, s18_11, s18_14, s18_15, s18_16, s18_18, s18_19c0, s18_19c1, s18_19c2, s18_19c3, s18_19c4, s18_19d, s18_52, s18_54, s18_55, s18_58, s18_59, s18_62, s18_64, s18_66, s18_67, s18_68, s18_70, s18_71, s18_74, s18_75, s18_78, s18_80, s18_82, s18_83, s18_84, s18_85, s18_88, s18_89, s18_90, s18_91, s18_92, s18_95, s18_96, s18_97, s18_98, s18_99, s18_102, s18_103, s18_104, s18_105, s18_106, w1, k1 qc, p1_0 qc, k2 qc, p2_0 qc, k3 qc, h5, a1, e0, e1, a4, a5, r1, d2, show ¬ (1 : Int32) = 0 by decide, ↓reduceIte, va_rf_s, va_rf_n, jb_some, jb_none, jtl_s, jtl_n, if_true, if_false, true_and, and_true, false_and, and_false, or_true, true_or, or_false, false_or, not_true_eq_false, not_false_eq_true, jk_si, jp_si, jj_si, jk_sj, jp_sj, ji_sj, jk_ci, jp_ci, jj_ci, jk_cj, jp_cj, ji_cj, jlng_n, jlng_i, jlng_r, jlng_0]
          · refine ⟨-1, ?_, m1'.trans ?_⟩
            rotate_left
            · simp only [s158_37, s158_38, s158_41, s158_42, s158_43, s158_45, s158_46, s158_47, s158_48, s158_51, s158_52, s158_53, s158_55, s158_56c0, s158_56c1, s158_56c2, s158_56c3, s158_56d, s158_88, s158_90, s158_93, s158_94, s158_97, s158_99, s158_101, s158_102, s158_103, s158_105, s158_108, s158_109, s158_112, s158_114, s158_116, s158_117, s158_118, s158_119, s158_122, s158_123, s158_124, s158_125, s158_126, s158_129, s158_130, s158_131, s158_132, s158_133, s158_136, s158_137, s158_138, k30 qm, k51 qm, p30_23 qm, h21, e0, e2, a4, a5, d1, show ¬ (64 : Int32) = 0 by decide, show (-1 : Int32) < 0 by decide, ↓reduceIte, va_rf_s, va_rf_n, jb_some, jb_none, jtl_s, jtl_n, if_true, if_false, true_and, and_true, false_and, and_false, or_true, true_or, or_false, false_or, not_true_eq_false, not_false_eq_true, jk_si, jp_si, jj_si, jk_sj, jp_sj, ji_sj, jk_ci, jp_ci, jj_ci, jk_cj, jp_cj, ji_cj, jlng_n, jlng_i, jlng_r, jlng_0]
            · simp only [s84_0, s84_1, s84_2, s84_4, s84_7, s84_10, s84_11, s84_12, s84_15, s84_18, s84_21, s84_22, s84_23, s84_24, s84_27, s84_28, s84_29, s84_32, s18_0, s18_1, s18_4, s18_5, s18_6, s18_8, s18_9, s18_10, s18_11, s18_14, s18_15, s18_16, s18_18, s18_19c0, s18_19c1, s18_19c2, s18_19c3, s18_19c4, s18_19d, s18_52, s18_54, s18_55, s18_58, s18_59, s18_62, s18_64, s18_66, s18_67, s18_68, s18_70, s18_71, s18_74, s18_75, s18_78, s18_80, s18_82, s18_83, s18_84, s18_85, s18_88, s18_89, s18_90, s18_91, s18_92, s18_95, s18_96, s18_97, s18_98, s18_99, s18_102, s18_103, s18_104, s18_105, s18_106, w1, k1 qc, p1_0 qc, k2 qc, p2_0 qc, k3 qc, h5, a1, e0, e1, a4, a5, r1, d1, show ¬ (1 : Int32) = 0 by decide, ↓reduceIte, va_rf_s, va_rf_n, jb_some, jb_none, jtl_s, jtl_n, if_true, if_false, true_and, and_true, false_and, and_false, or_true, true_or, or_false, false_or, not_true_eq_false, not_false_eq_true, jk_si, jp_si, jj_si, jk_sj, jp_sj, ji_sj, jk_ci, jp_ci, jj_ci, jk_cj, jp_cj, ji_cj, jlng_n, jlng_i, jlng_r, jlng_0]
        · rw [show nI 1 = 1 from rfl] at m1' ⊢
          rcases hd with ⟨d1, d2, d3⟩ | d1
          · refine ⟨ji g' 51 ((s - b) % 64) / 65536, ?_, m1'.trans ?_⟩
            rotate_left
            · simp only [s158_37, s158_38, s158_41, s158_42, s158_43, s158_45, s158_46, s158_47, s158_48, s158_51, s158_52, s158_53, s158_55, s158_56c0, s158_56c1, s158_56c2, s158_56c3, s158_56d, s158_88, s158_90, s158_93, s158_94, s158_97, s158_99, s158_101, s158_102, s158_103, s158_105, s158_108, s158_109, s158_112, s158_114, s158_116, s158_117, s158_118, s158_119, s158_122, s158_123, s158_124, s158_125, s158_126, s158_129, s158_130, s158_131, s158_132, s158_133, s158_136, s158_137, s158_138, k30 qm, k51 qm, p30_23 qm, h21, e0, e2, a4, a5, d1, d3, show ¬ (64 : Int32) = 0 by decide, ↓reduceIte, va_rf_s, va_rf_n, jb_some, jb_none, jtl_s, jtl_n, if_true, if_false, true_and, and_true, false_and, and_false, or_true, true_or, or_false, false_or, not_true_eq_false, not_false_eq_true, jk_si, jp_si, jj_si, jk_sj, jp_sj, ji_sj, jk_ci, jp_ci, jj_ci, jk_cj, jp_cj, ji_cj, jlng_n, jlng_i, jlng_r, jlng_0]
            · simp only [s84_0, s84_1, s84_2, s84_4, s84_7, s84_10, s84_11, s84_12, s84_15, s84_18, s84_21, s84_22, s84_23, s84_24, s84_27, s84_28, s84_29, s84_32, s18_0, s18_1, s18_4, s18_5, s18_6, s18_8, s18_9, s18_10, s18_11, s18_14, s18_15, s18_16, s18_18, s18_19c0, s18_19c1, s18_19c2, s18_19c3, s18_19c4, s18_19d, s18_52, s18_54, s18_55, s18_58, s18_59, s18_62, s18_64, s18_66, s18_67, s18_68, s18_70, s18_71, s18_74, s18_75, s18_78, s18_80, s18_82, s18_83, s18_84, s18_85, s18_88, s18_89, s18_90, s18_91, s18_92, s18_95, s18_96, s18_97, s18_98, s18_99, s18_102, s18_103, s18_104, s18_105, s18_106, w1, k1 qc, p1_0 qc, k2 qc, p2_0 qc, k3 qc, h5, a1, e0, e1, a4, a5, r1, d2, show ¬ (1 : Int32) = 0 by decide, show ¬ (65536 : Int32) = 0 by decide, ↓reduceIte, va_rf_s, va_rf_n, jb_some, jb_none, jtl_s, jtl_n, if_true, if_false, true_and, and_true, false_and, and_false, or_true, true_or, or_false, false_or, not_true_eq_false, not_false_eq_true, jk_si, jp_si, jj_si, jk_sj, jp_sj, ji_sj, jk_ci, jp_ci, jj_ci, jk_cj, jp_cj, ji_cj, jlng_n, jlng_i, jlng_r, jlng_0]
          · refine ⟨-1, ?_, m1'.trans ?_⟩
            rotate_left
            · simp only [s158_37, s158_38, s158_41, s158_42, s158_43, s158_45, s158_46, s158_47, s158_48, s158_51, s158_52, s158_53, s158_55, s158_56c0, s158_56c1, s158_56c2, s158_56c3, s158_56d, s158_88, s158_90, s158_93, s158_94, s158_97, s158_99, s158_101, s158_102, s158_103, s158_105, s158_108, s158_109, s158_112, s158_114, s158_116, s158_117, s158_118, s158_119, s158_122, s158_123, s158_124, s158_125, s158_126, s158_129, s158_130, s158_131, s158_132, s158_133, s158_136, s158_137, s158_138, k30 qm, k51 qm, p30_23 qm, h21, e0, e2, a4, a5, d1, show ¬ (64 : Int32) = 0 by decide, show (-1 : Int32) < 0 by decide, ↓reduceIte, va_rf_s, va_rf_n, jb_some, jb_none, jtl_s, jtl_n, if_true, if_false, true_and, and_true, false_and, and_false, or_true, true_or, or_false, false_or, not_true_eq_false, not_false_eq_true, jk_si, jp_si, jj_si, jk_sj, jp_sj, ji_sj, jk_ci, jp_ci, jj_ci, jk_cj, jp_cj, ji_cj, jlng_n, jlng_i, jlng_r, jlng_0]
            · simp only [s84_0, s84_1, s84_2, s84_4, s84_7, s84_10, s84_11, s84_12, s84_15, s84_18, s84_21, s84_22, s84_23, s84_24, s84_27, s84_28, s84_29, s84_32, s18_0, s18_1, s18_4, s18_5, s18_6, s18_8, s18_9, s18_10, s18_11, s18_14, s18_15, s18_16, s18_18, s18_19c0, s18_19c1, s18_19c2, s18_19c3, s18_19c4, s18_19d, s18_52, s18_54, s18_55, s18_58, s18_59, s18_62, s18_64, s18_66, s18_67, s18_68, s18_70, s18_71, s18_74, s18_75, s18_78, s18_80, s18_82, s18_83, s18_84, s18_85, s18_88, s18_89, s18_90, s18_91, s18_92, s18_95, s18_96, s18_97, s18_98, s18_99, s18_102, s18_103, s18_104, s18_105, s18_106, w1, k1 qc, p1_0 qc, k2 qc, p2_0 qc, k3 qc, h5, a1, e0, e1, a4, a5, r1, d1, show ¬ (1 : Int32) = 0 by decide, ↓reduceIte, va_rf_s, va_rf_n, jb_some, jb_none, jtl_s, jtl_n, if_true, if_false, true_and, and_true, false_and, and_false, or_true, true_or, or_false, false_or, not_true_eq_false, not_false_eq_true, jk_si, jp_si, jj_si, jk_sj, jp_sj, ji_sj, jk_ci, jp_ci, jj_ci, jk_cj, jp_cj, ji_cj, jlng_n, jlng_i, jlng_r, jlng_0]
        · rw [show nI 2 = 2 from rfl] at m1' ⊢
          refine ⟨ji g' 52 ((s - b) % 64), ?_, m1'.trans ?_⟩
          rotate_left
          · simp only [s158_37, s158_38, s158_41, s158_42, s158_43, s158_45, s158_46, s158_47, s158_48, s158_51, s158_52, s158_53, s158_55, s158_56c0, s158_56c1, s158_56c2, s158_56c3, s158_56d, s158_88, s158_90, s158_93, s158_94, s158_97, s158_99, s158_101, s158_102, s158_103, s158_105, s158_108, s158_109, s158_112, s158_114, s158_116, s158_117, s158_118, s158_119, s158_122, s158_123, s158_124, s158_125, s158_126, s158_129, s158_130, s158_131, s158_132, s158_133, s158_136, s158_137, s158_138, k30 qm, k51 qm, k52 qm, p30_23 qm, p30_24 qm, h21, e0, e2, a4, a5, show ¬ (64 : Int32) = 0 by decide, ↓reduceIte, va_rf_s, va_rf_n, jb_some, jb_none, jtl_s, jtl_n, if_true, if_false, true_and, and_true, false_and, and_false, or_true, true_or, or_false, false_or, not_true_eq_false, not_false_eq_true, jk_si, jp_si, jj_si, jk_sj, jp_sj, ji_sj, jk_ci, jp_ci, jj_ci, jk_cj, jp_cj, ji_cj, jlng_n, jlng_i, jlng_r, jlng_0]
          · simp only [s84_0, s84_1, s84_2, s84_4, s84_7, s84_10, s84_11, s84_12, s84_15, s84_18, s84_21, s84_22, s84_23, s84_24, s84_27, s84_28, s84_29, s84_32, s18_0, s18_1, s18_4, s18_5, s18_6, s18_8, s18_9, s18_10, s18_11, s18_14, s18_15, s18_16, s18_18, s18_19c0, s18_19c1, s18_19c2, s18_19c3, s18_19c4, s18_19d, s18_52, s18_54, s18_55, s18_58, s18_59, s18_62, s18_64, s18_66, s18_67, s18_68, s18_70, s18_71, s18_74, s18_75, s18_78, s18_80, s18_82, s18_83, s18_84, s18_85, s18_88, s18_89, s18_90, s18_91, s18_92, s18_95, s18_96, s18_97, s18_98, s18_99, s18_102, s18_103, s18_104, s18_105, s18_106, w1, k1 qc, p1_0 qc, k2 qc, p2_0 qc, k3 qc, k4 qc, p2_1 qc, h5, a1, e0, e1, a4, a5, r2, show ¬ (1 : Int32) = 0 by decide, ↓reduceIte, va_rf_s, va_rf_n, jb_some, jb_none, jtl_s, jtl_n, if_true, if_false, true_and, and_true, false_and, and_false, or_true, true_or, or_false, false_or, not_true_eq_false, not_false_eq_true, jk_si, jp_si, jj_si, jk_sj, jp_sj, ji_sj, jk_ci, jp_ci, jj_ci, jk_cj, jp_cj, ji_cj, jlng_n, jlng_i, jlng_r, jlng_0]
        · rw [show nI 3 = 3 from rfl] at m1' ⊢
          refine ⟨ji g' 53 ((s - b) % 64), ?_, m1'.trans ?_⟩
          rotate_left
          · simp only [s158_37, s158_38, s158_41, s158_42, s158_43, s158_45, s158_46, s158_47, s158_48, s158_51, s158_52, s158_53, s158_55, s158_56c0, s158_56c1, s158_56c2, s158_56c3, s158_56d, s158_88, s158_90, s158_93, s158_94, s158_97, s158_99, s158_101, s158_102, s158_103, s158_105, s158_108, s158_109, s158_112, s158_114, s158_116, s158_117, s158_118, s158_119, s158_122, s158_123, s158_124, s158_125, s158_126, s158_129, s158_130, s158_131, s158_132, s158_133, s158_136, s158_137, s158_138, k30 qm, k51 qm, k53 qm, p30_23 qm, p30_25 qm, h21, e0, e2, a4, a5, show ¬ (64 : Int32) = 0 by decide, ↓reduceIte, va_rf_s, va_rf_n, jb_some, jb_none, jtl_s, jtl_n, if_true, if_false, true_and, and_true, false_and, and_false, or_true, true_or, or_false, false_or, not_true_eq_false, not_false_eq_true, jk_si, jp_si, jj_si, jk_sj, jp_sj, ji_sj, jk_ci, jp_ci, jj_ci, jk_cj, jp_cj, ji_cj, jlng_n, jlng_i, jlng_r, jlng_0]
          · simp only [s84_0, s84_1, s84_2, s84_4, s84_7, s84_10, s84_11, s84_12, s84_15, s84_18, s84_21, s84_22, s84_23, s84_24, s84_27, s84_28, s84_29, s84_32, s18_0, s18_1, s18_4, s18_5, s18_6, s18_8, s18_9, s18_10, s18_11, s18_14, s18_15, s18_16, s18_18, s18_19c0, s18_19c1, s18_19c2, s18_19c3, s18_19c4, s18_19d, s18_52, s18_54, s18_55, s18_58, s18_59, s18_62, s18_64, s18_66, s18_67, s18_68, s18_70, s18_71, s18_74, s18_75, s18_78, s18_80, s18_82, s18_83, s18_84, s18_85, s18_88, s18_89, s18_90, s18_91, s18_92, s18_95, s18_96, s18_97, s18_98, s18_99, s18_102, s18_103, s18_104, s18_105, s18_106, w1, k1 qc, p1_0 qc, k2 qc, p2_0 qc, k3 qc, k5 qc, p2_2 qc, h5, a1, e0, e1, a4, a5, r3, show ¬ (1 : Int32) = 0 by decide, ↓reduceIte, va_rf_s, va_rf_n, jb_some, jb_none, jtl_s, jtl_n, if_true, if_false, true_and, and_true, false_and, and_false, or_true, true_or, or_false, false_or, not_true_eq_false, not_false_eq_true, jk_si, jp_si, jj_si, jk_sj, jp_sj, ji_sj, jk_ci, jp_ci, jj_ci, jk_cj, jp_cj, ji_cj, jlng_n, jlng_i, jlng_r, jlng_0]
        · rw [show nI 4 = 4 from rfl] at m1' ⊢
          refine ⟨ji g' 54 ((s - b) % 64), ?_, m1'.trans ?_⟩
          rotate_left
          · have hx : (4 : Int32).toInt < 0 ∨ 3 < (4 : Int32).toInt := by decide
            simp only [s158_37, s158_38, s158_41, s158_42, s158_43, s158_45, s158_46, s158_47, s158_48, s158_51, s158_52, s158_53, s158_55, s158_56d (hx := hx), s158_88, s158_90, s158_93, s158_94, s158_97, s158_99, s158_101, s158_102, s158_103, s158_105, s158_108, s158_109, s158_112, s158_114, s158_116, s158_117, s158_118, s158_119, s158_122, s158_123, s158_124, s158_125, s158_126, s158_129, s158_130, s158_131, s158_132, s158_133, s158_136, s158_137, s158_138, k30 qm, k51 qm, k54 qm, p30_23 qm, p30_26 qm, h21, e0, e2, a4, a5, show ¬ (64 : Int32) = 0 by decide, ↓reduceIte, va_rf_s, va_rf_n, jb_some, jb_none, jtl_s, jtl_n, if_true, if_false, true_and, and_true, false_and, and_false, or_true, true_or, or_false, false_or, not_true_eq_false, not_false_eq_true, jk_si, jp_si, jj_si, jk_sj, jp_sj, ji_sj, jk_ci, jp_ci, jj_ci, jk_cj, jp_cj, ji_cj, jlng_n, jlng_i, jlng_r, jlng_0]
          · simp only [s84_0, s84_1, s84_2, s84_4, s84_7, s84_10, s84_11, s84_12, s84_15, s84_18, s84_21, s84_22, s84_23, s84_24, s84_27, s84_28, s84_29, s84_32, s18_0, s18_1, s18_4, s18_5, s18_6, s18_8, s18_9, s18_10, s18_11, s18_14, s18_15, s18_16, s18_18, s18_19c0, s18_19c1, s18_19c2, s18_19c3, s18_19c4, s18_19d, s18_52, s18_54, s18_55, s18_58, s18_59, s18_62, s18_64, s18_66, s18_67, s18_68, s18_70, s18_71, s18_74, s18_75, s18_78, s18_80, s18_82, s18_83, s18_84, s18_85, s18_88, s18_89, s18_90, s18_91, s18_92, s18_95, s18_96, s18_97, s18_98, s18_99, s18_102, s18_103, s18_104, s18_105, s18_106, w1, k1 qc, p1_0 qc, k2 qc, p2_0 qc, k3 qc, k6 qc, p2_3 qc, h5, a1, e0, e1, a4, a5, r4, show ¬ (1 : Int32) = 0 by decide, ↓reduceIte, va_rf_s, va_rf_n, jb_some, jb_none, jtl_s, jtl_n, if_true, if_false, true_and, and_true, false_and, and_false, or_true, true_or, or_false, false_or, not_true_eq_false, not_false_eq_true, jk_si, jp_si, jj_si, jk_sj, jp_sj, ji_sj, jk_ci, jp_ci, jj_ci, jk_cj, jp_cj, ji_cj, jlng_n, jlng_i, jlng_r, jlng_0]
      · have m1' := m1 none none
        rw [jB_f w, if_pos rfl] at m1'
        refine ⟨-1, ?_, m1'⟩
        have hx : what.toInt < 0 ∨ 4 < what.toInt := by
          simp only [lt_toInt] at w
          have h0 : (0 : Int32).toInt = 0 := rfl
          have h1 : (4 : Int32).toInt = 4 := rfl
          omega
        simp only [s84_0, s84_1, s84_2, s84_4, s84_7, s84_10, s84_11, s84_12, s84_15, s84_18, s84_21, s84_22, s84_23, s84_24, s84_27, s84_28, s84_29, s84_32, s18_0, s18_1, s18_4, s18_5, s18_6, s18_8, s18_9, s18_10, s18_11, s18_14, s18_15, s18_16, s18_18, s18_19d (hx := hx), s18_105, s18_106, w1, k1 qc, p1_0 qc, k2 qc, p2_0 qc, k3 qc, h5, a1, e0, e1, a4, a5, show ¬ (1 : Int32) = 0 by decide, ↓reduceIte, va_rf_s, va_rf_n, jb_some, jb_none, jtl_s, jtl_n, if_true, if_false, true_and, and_true, false_and, and_false, or_true, true_or, or_false, false_or, not_true_eq_false, not_false_eq_true, jk_si, jp_si, jj_si, jk_sj, jp_sj, ji_sj, jk_ci, jp_ci, jj_ci, jk_cj, jp_cj, ji_cj, jlng_n, jlng_i, jlng_r, jlng_0]
    · have a1 : nI s < nI b := nI_lt (by omega) (by omega)
      refine ⟨-1, ?_, ?_⟩
      · simp only [s84_0, s84_1, s84_2, s84_4, s84_7, s84_10, s84_11, s84_12, s84_15, s84_18, s84_21, s84_22, s84_23, s84_24, s84_27, s84_28, s84_29, s84_32, w1, k1 qc, p1_0 qc, k2 qc, h5, a1, show ¬ (1 : Int32) = 0 by decide, ↓reduceIte, va_rf_s, va_rf_n, jb_some, jb_none, jtl_s, jtl_n, if_true, if_false, true_and, and_true, false_and, and_false, or_true, true_or, or_false, false_or, not_true_eq_false, not_false_eq_true, jk_si, jp_si, jj_si, jk_sj, jp_sj, ji_sj, jk_ci, jp_ci, jj_ci, jk_cj, jp_cj, ji_cj, jlng_n, jlng_i, jlng_r, jlng_0]
      · have a2 : nI s < 64 := nI_lt (b := 64) (by omega) (by omega)
        have w2 := c_isIn (nI b) 1 (nI s) g'
        rw [jB_f (fun z => z.2 a1)] at w2
        simp only [s158_0, s158_1, s158_2, s158_3, s158_6, s158_8, s158_11, s158_12, s158_15, s158_18, s158_20, s158_23, s158_26, s158_27, s158_28, s158_29, s158_32, s158_35, s158_36, k30 qm, h21, a2, w2, ↓reduceIte, va_rf_s, va_rf_n, jb_some, jb_none, jtl_s, jtl_n, if_true, if_false, true_and, and_true, false_and, and_false, or_true, true_or, or_false, false_or, not_true_eq_false, not_false_eq_true, jk_si, jp_si, jj_si, jk_sj, jp_sj, ji_sj, jk_ci, jp_ci, jj_ci, jk_cj, jp_cj, ji_cj, jlng_n, jlng_i, jlng_r, jlng_0]
  · rw [jB_f c1] at w1
    refine ⟨-1, ?_, ?_⟩
    · simp only [s84_0, s84_1, s84_2, s84_4, s84_7, s84_10, s84_11, s84_12, s84_15, s84_18, s84_21, s84_22, s84_23, s84_24, s84_27, s84_28, s84_29, s84_32, w1, ↓reduceIte, va_rf_s, va_rf_n, jb_some, jb_none, jtl_s, jtl_n, if_true, if_false, true_and, and_true, false_and, and_false, or_true, true_or, or_false, false_or, not_true_eq_false, not_false_eq_true, jk_si, jp_si, jj_si, jk_sj, jp_sj, ji_sj, jk_ci, jp_ci, jj_ci, jk_cj, jp_cj, ji_cj, jlng_n, jlng_i, jlng_r, jlng_0]
    · by_cases c3 : s < 64
      · have a2 : nI s < 64 := nI_lt (b := 64) c3 (by omega)
        have w2 := c_isIn back 1 (nI s) g'
        rw [jB_f (fun z => c1 ⟨z.1, fun y => by
          have z2 := z.2
          rw [lt_toInt] at y z2 a2
          omega⟩)] at w2
        simp only [s158_0, s158_1, s158_2, s158_3, s158_6, s158_8, s158_11, s158_12, s158_15, s158_18, s158_20, s158_23, s158_26, s158_27, s158_28, s158_29, s158_32, s158_35, s158_36, k30 qm, h21, a2, w2, ↓reduceIte, va_rf_s, va_rf_n, jb_some, jb_none, jtl_s, jtl_n, if_true, if_false, true_and, and_true, false_and, and_false, or_true, true_or, or_false, false_or, not_true_eq_false, not_false_eq_true, jk_si, jp_si, jj_si, jk_sj, jp_sj, ji_sj, jk_ci, jp_ci, jj_ci, jk_cj, jp_cj, ji_cj, jlng_n, jlng_i, jlng_r, jlng_0]
      · have a2 : ¬ nI s < 64 := nI_nlt (b := 64) (by omega) (by omega)
        have w2 := c_isIn back 1 64 g'
        rw [jB_f c1] at w2
        simp only [s158_0, s158_1, s158_2, s158_3, s158_6, s158_8, s158_11, s158_12, s158_15, s158_18, s158_20, s158_23, s158_26, s158_27, s158_28, s158_29, s158_32, s158_35, s158_36, k30 qm, h21, a2, w2, ↓reduceIte, va_rf_s, va_rf_n, jb_some, jb_none, jtl_s, jtl_n, if_true, if_false, true_and, and_true, false_and, and_false, or_true, true_or, or_false, false_or, not_true_eq_false, not_false_eq_true, jk_si, jp_si, jj_si, jk_sj, jp_sj, ji_sj, jk_ci, jp_ci, jj_ci, jk_cj, jp_cj, ji_cj, jlng_n, jlng_i, jlng_r, jlng_0]
theorem ma_loop {g : jH} (q : MS g) {A : List (Int32 × Int64)} (hA : AL g A) (ah : Int32) (hv : Int64) : ∀ n i, i + n = A.length → (∀ (j : Nat) (p : Int32 × Int64), j < i → A[j]? = some p → p.1 ≠ ji g 30 21 + ah) → ∃ p, jV 154 30 [some (.ref 30), some (.int ah), some (.long hv), none, some (.int (nI i))] [] g = jV 154 61 [some (.ref 30), some (.int ah), some (.long hv), none, some (.int (nI p))] [] g ∧ ((p < A.length ∧ ∃ w, A[p]? = some (ji g 30 21 + ah, w)) ∨ (p = A.length ∧ ∀ (j : Nat) (y : Int32 × Int64), A[j]? = some y → y.1 ≠ ji g 30 21 + ah))
  | 0, i, hi, hn => by
    have hl := hA.1
    refine ⟨i, ?_, Or.inr ⟨by omega, fun j y hy => hn j y (by have := (List.getElem?_eq_some_iff.mp hy).1; omega) hy⟩⟩
    have a1 : ¬ nI i < nI A.length := nI_nlt (by omega) (by omega)
    simp only [s154_30, s154_32, s154_33, s154_36, k30 q, hA.2.1, a1, ↓reduceIte, va_rf_s, va_rf_n, jb_some, jb_none, jtl_s, jtl_n, if_true, if_false, true_and, and_true, false_and, and_false, or_true, true_or, or_false, false_or, not_true_eq_false, not_false_eq_true, jk_si, jp_si, jj_si, jk_sj, jp_sj, ji_sj, jk_ci, jp_ci, jj_ci, jk_cj, jp_cj, ji_cj, jlng_n, jlng_i, jlng_r, jlng_0]
  | n + 1, i, hi, hn => by
    have hl := hA.1
    have a1 : nI i < nI A.length := nI_lt (by omega) (by omega)
    have hq : A[i]? = some A[i] := List.getElem?_eq_getElem (by omega)
    have h1 := (hA.2.2 i _ hq).1
    have a4 : jin (nI i) 40 = true := jin_nI (by omega) (by omega)
    have a5 : (nI i).toNatClampNeg = i := nI_clamp (by omega)
    by_cases c : A[i].1 = ji g 30 21 + ah
    · refine ⟨i, ?_, Or.inl ⟨by omega, A[i].2, by rw [hq, ← c]⟩⟩
      simp only [s154_30, s154_32, s154_33, s154_36, s154_39, s154_40, s154_43, s154_45, s154_46, s154_47, s154_50, s154_51, s154_52, k30 q, k55 q, p30_27 q, hA.2.1, a1, a4, a5, h1, c, ↓reduceIte, va_rf_s, va_rf_n, jb_some, jb_none, jtl_s, jtl_n, if_true, if_false, true_and, and_true, false_and, and_false, or_true, true_or, or_false, false_or, not_true_eq_false, not_false_eq_true, jk_si, jp_si, jj_si, jk_sj, jp_sj, ji_sj, jk_ci, jp_ci, jj_ci, jk_cj, jp_cj, ji_cj, jlng_n, jlng_i, jlng_r, jlng_0]
    · obtain ⟨p, hp, hc⟩ := ma_loop q hA ah hv n (i + 1) (by omega) (fun j y hj hy => by
        rcases Nat.lt_or_ge j i with z | z
        · exact hn j y z hy
        · have : j = i := by omega
          subst this
          rw [hq] at hy
          cases hy
          exact c)
      refine ⟨p, ?_, hc⟩
      rw [← hp]
      simp only [s154_32, s154_33, s154_36, s154_39, s154_40, s154_43, s154_45, s154_46, s154_47, s154_50, s154_51, s154_52, s154_55, s154_58, s154_30 (x := nI i), k30 q, k55 q, p30_27 q, hA.2.1, a1, a4, a5, h1, c, nI_1, ↓reduceIte, va_rf_s, va_rf_n, jb_some, jb_none, jtl_s, jtl_n, if_true, if_false, true_and, and_true, false_and, and_false, or_true, true_or, or_false, false_or, not_true_eq_false, not_false_eq_true, jk_si, jp_si, jj_si, jk_sj, jp_sj, ji_sj, jk_ci, jp_ci, jj_ci, jk_cj, jp_cj, ji_cj, jlng_n, jlng_i, jlng_r, jlng_0]
theorem lc_lt (x y : Int64) : lg_cmp x y < 0 ↔ x < y := by
  unfold lg_cmp
  by_cases h1 : x > y
  · rw [if_pos h1]
    exact ⟨fun z => absurd z (by decide), fun z => absurd (Int64.lt_trans h1 z) Int64.lt_irrefl⟩
  · rw [if_neg h1]
    by_cases h2 : x = y
    · rw [if_pos h2]
      exact ⟨fun z => absurd z (by decide), fun z => absurd (h2 ▸ z) Int64.lt_irrefl⟩
    · rw [if_neg h2]
      refine ⟨fun _ => ?_, fun _ => by decide⟩
      rw [Int64.lt_iff_toInt_lt]
      have h3 : ¬ y.toInt < x.toInt := fun z => h1 (Int64.lt_iff_toInt_lt.mpr z)
      have h4 : x.toInt ≠ y.toInt := fun z => h2 (Int64.toInt_inj.mp z)
      omega
theorem lc_gt (x y : Int64) : 0 < lg_cmp x y ↔ y < x := by
  unfold lg_cmp
  by_cases h1 : x > y
  · rw [if_pos h1]
    exact ⟨fun _ => h1, fun _ => by decide⟩
  · rw [if_neg h1]
    refine ⟨fun z => ?_, fun z => absurd z h1⟩
    split at z
    · exact absurd z (by decide)
    · exact absurd z (by decide)
theorem nd_fst {S : List (Int32 × Int64)} (h : (S.map Prod.fst).Nodup) : S.Nodup := by
  rw [List.nodup_iff_pairwise_ne] at h ⊢
  rw [List.pairwise_map] at h
  exact h.imp fun {a b} h e => h (congrArg Prod.fst e)
theorem sorted_nd {S : List (Int32 × Int64)} (h : S.Pairwise (fun a b => a.1 < b.1)) : (S.map Prod.fst).Nodup := by
  rw [List.nodup_iff_pairwise_ne, List.pairwise_map]
  exact h.imp fun {a b} h e => absurd (e ▸ h) Int32.lt_irrefl
theorem q_alter {B : Nat} {g g' : jH} (qc : CS g) (qm : MS g') (hR : RLi B g g') (ah : Int32) (hv : Int64) : ∃ r g1 g1', jV 80 0 [some (.ref 1), some (.int ah), some (.long hv), none] [] g = some (some (.int r), g1) ∧ jV 154 0 [some (.ref 30), some (.int ah), some (.long hv), none, none] [] g' = some (some (.int r), g1') ∧ RLi B g1 g1' ∧ Fr cLp g g1 ∧ Fr mLp g' g1' := by
  obtain ⟨hB', s, S, A, hs, ⟨h5, h21⟩, h6, hring, hT, hA, hP, hS⟩ := id hR
  have w1 := c_within ah 0 5000 g
  have w2 := c_isIn ah 0 5000 g'
  have e40 : (1099511627776 : Int64).toInt = 1099511627776 := rfl
  have e39 : (1099511627775 : Int64).toInt = 1099511627775 := rfl
  have e1 : (1 : Int64).toInt = 1 := rfl
  by_cases c1 : (¬ ah < 0 ∧ ¬ 5000 < ah) ∧ ¬ hv < 1 ∧ ¬ 1099511627775 < hv
  · obtain ⟨c1, c2, c3⟩ := c1
    rw [jB_t c1] at w1 w2
    have c4 : hv < 1099511627776 := by
      rw [Int64.lt_iff_toInt_lt] at c3 ⊢
      omega
    obtain ⟨d, hd, rfl⟩ := nI_of2 (M := 5000) (n := 5000) rfl c1.1 (Int32.not_lt.mp c1.2)
    have hv0 : ¬ hv < 0 := by
      intro z
      rw [Int64.lt_iff_toInt_lt] at z c2
      have e0 : (0 : Int64).toInt = 0 := rfl
      omega
    obtain ⟨m, hm, rfl⟩ := pk_lOf hv0
    have hm1 : 1 ≤ m := by
      rw [Int64.lt_iff_toInt_lt, pk_lT hm] at c2
      omega
    have hm2 : m < 2 ^ 40 := by
      rw [Int64.lt_iff_toInt_lt, pk_lT hm] at c4
      omega
    have ex : nI s + nI d = nI (s + d) := nI_add s d
    obtain ⟨b, g1, S', hput, hT1, ho, hcase⟩ := t_put hT (nI (s + d)) (lN m)
    have hb01 : b = 0 ∨ b = 1 := by
      rcases hcase with ⟨h1, _⟩ | ⟨h1, _⟩ | ⟨h1, _⟩
      · exact Or.inr h1
      · exact Or.inl h1
      · exact Or.inr h1
    have hcl : jV 80 0 [some (.ref 1), some (.int (nI d)), some (.long (lN m)), none] [] g = some (some (.int b), g1) := by
      simp only [s80_0, s80_1, s80_2, s80_5, s80_8, s80_11, s80_12, s80_13, s80_14, s80_17, s80_18, s80_21, s80_22, s80_25, s80_26, s80_27, s80_28, s80_31, s80_34, s80_35, s80_38, s80_41, s80_42, s80_43, s80_44, s80_47, w1, k1 qc, p1_0 qc, k2 qc, p2_4 qc, k7 qc, h5, ex, hput, lc_lt, lc_gt, c2, c3, show ¬ (1 : Int32) = 0 by decide, ↓reduceIte, va_rf_s, va_rf_n, jb_some, jb_none, jtl_s, jtl_n, if_true, if_false, true_and, and_true, false_and, and_false, or_true, true_or, or_false, false_or, not_true_eq_false, not_false_eq_true, jk_si, jp_si, jj_si, jk_sj, jp_sj, ji_sj, jk_ci, jp_ci, jj_ci, jk_cj, jp_cj, ji_cj, jlng_n, jlng_i, jlng_r, jlng_0]
      rw [if_pos hb01]
    obtain ⟨p, hml, hp⟩ := ma_loop qm hA (nI d) (lN m) A.length 0 (by omega) (fun j y hj => absurd hj (by omega))
    rw [h21, ex] at hp
    have hml0 : jV 154 0 [some (.ref 30), some (.int (nI d)), some (.long (lN m)), none, none] [] g' = jV 154 61 [some (.ref 30), some (.int (nI d)), some (.long (lN m)), none, some (.int (nI p))] [] g' := by
      rw [← hml]
      simp only [s154_0, s154_1, s154_2, s154_5, s154_8, s154_11, s154_12, s154_13, s154_14, s154_17, s154_18, s154_21, s154_22, s154_25, s154_26, s154_27, s154_28, w2, lc_lt, c2, c4, show ¬ (1 : Int32) = 0 by decide, ↓reduceIte, va_rf_s, va_rf_n, jb_some, jb_none, jtl_s, jtl_n, if_true, if_false, true_and, and_true, false_and, and_false, or_true, true_or, or_false, false_or, not_true_eq_false, not_false_eq_true, jk_si, jp_si, jj_si, jk_sj, jp_sj, ji_sj, jk_ci, jp_ci, jj_ci, jk_cj, jp_cj, ji_cj, jlng_n, jlng_i, jlng_r, jlng_0]
      rfl
    have hfr : Fr cLp g g1 := ho.sub (fun a k h => by unfold tP at h; omega)
    have hsort := hT.2.2.2.2
    have hsort' := hT1.2.2.2.2
    have hndS := sorted_nd hsort
    have hndA : (A.map Prod.fst).Nodup := (hP.map Prod.fst).nodup_iff.mpr hndS
    have hndS' := nd_fst (sorted_nd hsort')
    have hlen := hP.length_eq
    have hl40 := hA.1
    -- the relation, for what is put
    have fin : ∀ (g1' : jH) (A' : List (Int32 × Int64)), Fr mLp g' g1' → (∀ k, k = 21 ∨ k = 22 → ji g1' 30 k = ji g' 30 k) → (∀ a k, 51 ≤ a → a ≤ 54 → ji g1' a k = ji g' a k) → AL g1' A' → A'.Nodup → (∀ y u, (y, u) ∈ A' ↔ (if y = nI (s + d) then u = lN m else (y, u) ∈ A)) → (∀ y u, (y, u) ∈ S' ↔ (if y = nI (s + d) then u = lN m else (y, u) ∈ S)) → RLi B g1 g1' := by
      intro g1' A' f2 e21 ek hA' hnd hAm hSm
      refine ⟨hB', s, S', A', hs, ⟨by rw [ho.i (by unfold tP; omega)]; exact h5, by rw [e21 21 (Or.inl rfl)]; exact h21⟩, by rw [ho.i (by unfold tP; omega), e21 22 (Or.inr rfl)]; exact h6, fun i hi => ?_, hT1, hA', ?_, ?_⟩
      · rw [ho.i (by unfold tP; omega), ho.i (by unfold tP; omega), ho.i (by unfold tP; omega), ho.i (by unfold tP; omega), ek 51 i (by omega) (by omega), ek 52 i (by omega) (by omega), ek 53 i (by omega) (by omega), ek 54 i (by omega) (by omega)]
        exact hring i hi
      · refine (List.perm_ext_iff_of_nodup hnd hndS').mpr fun y => ?_
        obtain ⟨y, u⟩ := y
        rw [hAm, hSm]
        by_cases c : y = nI (s + d)
        · rw [if_pos c, if_pos c]
        · rw [if_neg c, if_neg c, hP.mem_iff]
      · intro y hy
        obtain ⟨y, u⟩ := y
        rw [hSm] at hy
        by_cases c : y = nI (s + d)
        · rw [if_pos c] at hy
          exact ⟨⟨s + d, by omega, by omega, c⟩, m, hm1, hm2, hy⟩
        · rw [if_neg c] at hy
          exact hS _ hy
    rcases hp with ⟨hpl, w, hw⟩ | ⟨hpl, hno⟩
    · -- it was there
      have hin : ∃ w, (nI (s + d), w) ∈ S := ⟨w, hP.mem_iff.mp (List.mem_of_getElem? hw)⟩
      have a4 : jin (nI p) 40 = true := jin_nI (by omega) (by omega)
      have a5 : (nI p).toNatClampNeg = p := nI_clamp (by omega)
      have a6 : ¬ nI p = 40 := fun z => by have := (nI_eq (b := 40) (by omega) (by omega)).mp z; omega
      have a7 : ¬ nI p = nI A.length := fun z => by have := (nI_eq (by omega) (by omega)).mp z; omega
      have hb : b = 1 ∧ ∀ y u, (y, u) ∈ S' ↔ (if y = nI (s + d) then u = lN m else (y, u) ∈ S) := by
        rcases hcase with ⟨h1, _, _, h2⟩ | ⟨_, _, _, h2⟩ | ⟨_, h2, _⟩
        · exact ⟨h1, h2⟩
        · exact absurd hin h2
        · exact absurd hin h2
      obtain ⟨rfl, hSm⟩ := hb
      refine ⟨1, g1, jsi (jsj (jsi g' 55 p (nI (s + d))) 56 p (lN m)) 30 29 (nI A.length), hcl, hml0.trans ?_, fin _ (A.set p (nI (s + d), lN m)) ((((Fr.refl g').si (by omega)).sj (by omega)).si (by omega)) ?_ ?_ ?_ ?_ ?_ hSm, hfr, (((Fr.refl g').si (by omega)).sj (by omega)).si (by omega)⟩
      · simp only [s154_61, s154_63, s154_65, s154_68, s154_69, s154_70, s154_71, s154_74, s154_76, s154_77, s154_80, s154_81, s154_82, s154_83, s154_84, s154_87, s154_89, s154_90, s154_91, s154_92, s154_94, s154_95, s154_98, s154_101, s154_102, s154_105, s154_106, s154_107, s154_110, s154_111, s154_114, s154_117, s154_118, k30 qm, k55 qm, k56 qm, p30_27 qm, p30_28 qm, h21, ex, a4, a5, a6, a7, hA.2.1, ji_si, ji_sj, Nat.reduceEqDiff, ↓reduceIte, va_rf_s, va_rf_n, jb_some, jb_none, jtl_s, jtl_n, if_true, if_false, true_and, and_true, false_and, and_false, or_true, true_or, or_false, false_or, not_true_eq_false, not_false_eq_true, jk_si, jp_si, jj_si, jk_sj, jp_sj, ji_sj, jk_ci, jp_ci, jj_ci, jk_cj, jp_cj, ji_cj, jlng_n, jlng_i, jlng_r, jlng_0]
      · rintro k (rfl | rfl) <;> simp [ji_si, ji_sj]
      · intro a k h1 h2
        rw [ji_si, if_neg (by omega), ji_sj, ji_si, if_neg (by omega)]
      · refine ⟨by rw [List.length_set]; exact hl40, by rw [List.length_set]; simp [ji_si], fun i y hi => ?_⟩
        rw [ji_si, if_neg (by omega), ji_sj, ji_si, jj_si, jj_sj]
        by_cases c : i = p
        · subst c
          rw [List.getElem?_set_self hpl] at hi
          cases hi
          simp
        · rw [List.getElem?_set_ne (Ne.symm c)] at hi
          have := hA.2.2 i y hi
          simp [c, this.1, this.2, jj_si]
      · apply nd_fst
        have : (A.set p (nI (s + d), lN m)).map Prod.fst = A.map Prod.fst := by
          apply List.ext_getElem?
          intro i
          rw [List.getElem?_map, List.getElem?_map]
          by_cases c : i = p
          · subst c
            rw [List.getElem?_set_self hpl, hw]; rfl
          · rw [List.getElem?_set_ne (Ne.symm c)]
        rw [this]
        exact hndA
      · intro y u
        rw [List.mem_iff_getElem?]
        constructor
        · rintro ⟨i, hi⟩
          by_cases c : i = p
          · subst c
            rw [List.getElem?_set_self hpl] at hi
            cases hi
            rw [if_pos rfl]
          · rw [List.getElem?_set_ne (Ne.symm c)] at hi
            rw [if_neg]
            · exact List.mem_of_getElem? hi
            · rintro rfl
              have h1 : (A.map Prod.fst)[i]? = some (nI (s + d)) := by rw [List.getElem?_map, hi]; rfl
              have h2 : (A.map Prod.fst)[p]? = some (nI (s + d)) := by rw [List.getElem?_map, hw]; rfl
              exact c ((List.getElem?_inj (List.getElem?_eq_some_iff.mp h1).1 hndA).mp (h1.trans h2.symm))
        · intro h
          by_cases c : y = nI (s + d)
          · rw [if_pos c] at h
            exact ⟨p, by rw [List.getElem?_set_self hpl, c, h]⟩
          · rw [if_neg c] at h
            obtain ⟨i, hi⟩ := List.getElem?_of_mem h
            refine ⟨i, ?_⟩
            rw [List.getElem?_set_ne]
            · exact hi
            · rintro rfl
              rw [hw] at hi
              cases hi
              exact c rfl
    · have hnin : ¬ ∃ w, (nI (s + d), w) ∈ S := by
        rintro ⟨w, hw⟩
        obtain ⟨i, hi⟩ := List.getElem?_of_mem (hP.mem_iff.mpr hw)
        exact hno i _ hi rfl
      by_cases c40 : A.length = 40
      · have hb : b = 0 ∧ S' = S := by
          rcases hcase with ⟨_, h2, _⟩ | ⟨h1, h2, _⟩ | ⟨_, _, h2, _⟩
          · exact absurd h2 hnin
          · exact ⟨h1, h2⟩
          · omega
        obtain ⟨rfl, rfl⟩ := hb
        refine ⟨0, g1, g', hcl, hml0.trans ?_, ⟨hB', s, S', A, hs, ⟨by rw [ho.i (by unfold tP; omega)]; exact h5, h21⟩, by rw [ho.i (by unfold tP; omega)]; exact h6, fun i hi => ?_, hT1, hA, hP, hS⟩, hfr, Fr.refl g'⟩
        · have a6 : nI p = 40 := by rw [hpl, c40]; rfl
          simp only [s154_61, s154_63, s154_65, s154_68, s154_69, a6, ↓reduceIte, va_rf_s, va_rf_n, jb_some, jb_none, jtl_s, jtl_n, if_true, if_false, true_and, and_true, false_and, and_false, or_true, true_or, or_false, false_or, not_true_eq_false, not_false_eq_true, jk_si, jp_si, jj_si, jk_sj, jp_sj, ji_sj, jk_ci, jp_ci, jj_ci, jk_cj, jp_cj, ji_cj, jlng_n, jlng_i, jlng_r, jlng_0]
        · rw [ho.i (by unfold tP; omega), ho.i (by unfold tP; omega), ho.i (by unfold tP; omega), ho.i (by unfold tP; omega)]
          exact hring i hi
      · have hb : b = 1 ∧ ∀ y u, (y, u) ∈ S' ↔ (if y = nI (s + d) then u = lN m else (y, u) ∈ S) := by
          rcases hcase with ⟨_, h2, _⟩ | ⟨_, _, h2, _⟩ | ⟨h1, _, _, _, h2⟩
          · exact absurd h2 hnin
          · omega
          · exact ⟨h1, h2⟩
        obtain ⟨rfl, hSm⟩ := hb
        subst hpl
        have a4 : jin (nI A.length) 40 = true := jin_nI (by omega) (by omega)
        have a5 : (nI A.length).toNatClampNeg = A.length := nI_clamp (by omega)
        have a6 : ¬ nI A.length = 40 := fun z => by have := (nI_eq (b := 40) (by omega) (by omega)).mp z; omega
        refine ⟨1, g1, jsi (jsj (jsi g' 55 A.length (nI (s + d))) 56 A.length (lN m)) 30 29 (nI (A.length + 1)), hcl, hml0.trans ?_, fin _ (A ++ [(nI (s + d), lN m)]) ((((Fr.refl g').si (by omega)).sj (by omega)).si (by omega)) ?_ ?_ ?_ ?_ ?_ hSm, hfr, (((Fr.refl g').si (by omega)).sj (by omega)).si (by omega)⟩
        · simp only [s154_61, s154_63, s154_65, s154_68, s154_69, s154_70, s154_71, s154_74, s154_76, s154_77, s154_80, s154_81, s154_82, s154_83, s154_84, s154_87, s154_89, s154_90, s154_91, s154_92, s154_94, s154_95, s154_98, s154_101, s154_102, s154_105, s154_106, s154_107, s154_110, s154_111, s154_114, s154_117, s154_118, k30 qm, k55 qm, k56 qm, p30_27 qm, p30_28 qm, h21, ex, a4, a5, a6, hA.2.1, nI_1, ji_si, ji_sj, Nat.reduceEqDiff, ↓reduceIte, va_rf_s, va_rf_n, jb_some, jb_none, jtl_s, jtl_n, if_true, if_false, true_and, and_true, false_and, and_false, or_true, true_or, or_false, false_or, not_true_eq_false, not_false_eq_true, jk_si, jp_si, jj_si, jk_sj, jp_sj, ji_sj, jk_ci, jp_ci, jj_ci, jk_cj, jp_cj, ji_cj, jlng_n, jlng_i, jlng_r, jlng_0]
        · rintro k (rfl | rfl) <;> simp [ji_si, ji_sj]
        · intro a k h1 h2
          rw [ji_si, if_neg (by omega), ji_sj, ji_si, if_neg (by omega)]
        · refine ⟨by rw [List.length_append, List.length_singleton]; omega, by rw [List.length_append, List.length_singleton]; simp [ji_si], fun i y hi => ?_⟩
          rw [ji_si, if_neg (by omega), ji_sj, ji_si, jj_si, jj_sj]
          by_cases c : i = A.length
          · subst c
            rw [List.getElem?_concat_length] at hi
            cases hi
            simp
          · have hl := (List.getElem?_eq_some_iff.mp hi).1
            rw [List.length_append, List.length_singleton] at hl
            rw [List.getElem?_append_left (by omega)] at hi
            have := hA.2.2 i y hi
            simp [c, this.1, this.2, jj_si]
        · apply nd_fst
          rw [List.map_append, List.map_singleton, List.nodup_append]
          refine ⟨hndA, by simp, ?_⟩
          intro y hy z hz e
          rw [List.mem_singleton] at hz
          subst hz
          subst e
          obtain ⟨y, hy, e⟩ := List.mem_map.mp hy
          obtain ⟨i, hi⟩ := List.getElem?_of_mem hy
          exact hno i _ hi e
        · intro y u
          rw [List.mem_append, List.mem_singleton]
          by_cases c : y = nI (s + d)
          · rw [if_pos c]
            constructor
            · rintro (h | h)
              · obtain ⟨i, hi⟩ := List.getElem?_of_mem h
                exact absurd c (hno i _ hi)
              · exact (Prod.mk.inj h).2
            · intro h
              exact Or.inr (by rw [c, h])
          · rw [if_neg c]
            constructor
            · rintro (h | h)
              · exact h
              · exact absurd (Prod.mk.inj h).1 c
            · exact Or.inl
  · refine ⟨0, g, g', ?_, ?_, hR, Fr.refl g, Fr.refl g'⟩
    · by_cases d1 : ¬ ah < 0 ∧ ¬ 5000 < ah
      · rw [jB_t d1] at w1
        by_cases d2 : hv < 1
        · simp only [s80_0, s80_1, s80_2, s80_5, s80_8, s80_11, s80_12, s80_13, s80_14, s80_17, s80_18, s80_21, s80_22, s80_25, s80_26, s80_27, s80_28, s80_31, s80_34, s80_35, s80_38, s80_41, s80_42, s80_43, s80_44, s80_47, w1, lc_lt, lc_gt, d2, show ¬ (1 : Int32) = 0 by decide, ↓reduceIte, va_rf_s, va_rf_n, jb_some, jb_none, jtl_s, jtl_n, if_true, if_false, true_and, and_true, false_and, and_false, or_true, true_or, or_false, false_or, not_true_eq_false, not_false_eq_true, jk_si, jp_si, jj_si, jk_sj, jp_sj, ji_sj, jk_ci, jp_ci, jj_ci, jk_cj, jp_cj, ji_cj, jlng_n, jlng_i, jlng_r, jlng_0]
        · have d3 : 1099511627775 < hv := Classical.byContradiction fun z => c1 ⟨d1, d2, z⟩
          simp only [s80_0, s80_1, s80_2, s80_5, s80_8, s80_11, s80_12, s80_13, s80_14, s80_17, s80_18, s80_21, s80_22, s80_25, s80_26, s80_27, s80_28, s80_31, s80_34, s80_35, s80_38, s80_41, s80_42, s80_43, s80_44, s80_47, w1, lc_lt, lc_gt, d2, d3, show ¬ (1 : Int32) = 0 by decide, ↓reduceIte, va_rf_s, va_rf_n, jb_some, jb_none, jtl_s, jtl_n, if_true, if_false, true_and, and_true, false_and, and_false, or_true, true_or, or_false, false_or, not_true_eq_false, not_false_eq_true, jk_si, jp_si, jj_si, jk_sj, jp_sj, ji_sj, jk_ci, jp_ci, jj_ci, jk_cj, jp_cj, ji_cj, jlng_n, jlng_i, jlng_r, jlng_0]
      · rw [jB_f d1] at w1
        simp only [s80_0, s80_1, s80_2, s80_5, s80_8, s80_11, s80_12, s80_13, s80_14, s80_17, s80_18, s80_21, s80_22, s80_25, s80_26, s80_27, s80_28, s80_31, s80_34, s80_35, s80_38, s80_41, s80_42, s80_43, s80_44, s80_47, w1, ↓reduceIte, va_rf_s, va_rf_n, jb_some, jb_none, jtl_s, jtl_n, if_true, if_false, true_and, and_true, false_and, and_false, or_true, true_or, or_false, false_or, not_true_eq_false, not_false_eq_true, jk_si, jp_si, jj_si, jk_sj, jp_sj, ji_sj, jk_ci, jp_ci, jj_ci, jk_cj, jp_cj, ji_cj, jlng_n, jlng_i, jlng_r, jlng_0]
    · by_cases d1 : ¬ ah < 0 ∧ ¬ 5000 < ah
      · rw [jB_t d1] at w2
        by_cases d2 : hv < 1
        · simp only [s154_0, s154_1, s154_2, s154_5, s154_8, s154_11, s154_12, s154_13, s154_14, s154_17, s154_18, s154_21, s154_22, s154_25, s154_26, w2, lc_lt, lc_gt, d2, show ¬ (1 : Int32) = 0 by decide, ↓reduceIte, va_rf_s, va_rf_n, jb_some, jb_none, jtl_s, jtl_n, if_true, if_false, true_and, and_true, false_and, and_false, or_true, true_or, or_false, false_or, not_true_eq_false, not_false_eq_true, jk_si, jp_si, jj_si, jk_sj, jp_sj, ji_sj, jk_ci, jp_ci, jj_ci, jk_cj, jp_cj, ji_cj, jlng_n, jlng_i, jlng_r, jlng_0]
        · have d3 : 1099511627775 < hv := Classical.byContradiction fun z => c1 ⟨d1, d2, z⟩
          have d4 : ¬ hv < 1099511627776 := by
            rw [Int64.lt_iff_toInt_lt] at d3 ⊢
            omega
          simp only [s154_0, s154_1, s154_2, s154_5, s154_8, s154_11, s154_12, s154_13, s154_14, s154_17, s154_18, s154_21, s154_22, s154_25, s154_26, w2, lc_lt, lc_gt, d2, d4, show ¬ (1 : Int32) = 0 by decide, ↓reduceIte, va_rf_s, va_rf_n, jb_some, jb_none, jtl_s, jtl_n, if_true, if_false, true_and, and_true, false_and, and_false, or_true, true_or, or_false, false_or, not_true_eq_false, not_false_eq_true, jk_si, jp_si, jj_si, jk_sj, jp_sj, ji_sj, jk_ci, jp_ci, jj_ci, jk_cj, jp_cj, ji_cj, jlng_n, jlng_i, jlng_r, jlng_0]
      · rw [jB_f d1] at w2
        simp only [s154_0, s154_1, s154_2, s154_5, s154_8, s154_11, s154_12, s154_13, s154_14, s154_17, s154_18, s154_21, s154_22, s154_25, s154_26, w2, ↓reduceIte, va_rf_s, va_rf_n, jb_some, jb_none, jtl_s, jtl_n, if_true, if_false, true_and, and_true, false_and, and_false, or_true, true_or, or_false, false_or, not_true_eq_false, not_false_eq_true, jk_si, jp_si, jj_si, jk_sj, jp_sj, ji_sj, jk_ci, jp_ci, jj_ci, jk_cj, jp_cj, ji_cj, jlng_n, jlng_i, jlng_r, jlng_0]
