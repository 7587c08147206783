/-! ONE ATTEMPT -/
theorem m_awaited {g : jH} (q : MS g) {i : Nat} (hi : i < 24) : (ji g 58 i = 1 → jV 135 0 [some (.ref 30), some (.int (nI i))] [] g = some (some (.int (nI 1)), g)) ∧ (∀ to, to ≤ 31 → ji g 61 i = nI to → (ji g 58 i = 0 ∨ ji g 58 i = 3 → jV 135 0 [some (.ref 30), some (.int (nI i))] [] g = some (some (.int (nI (if to = 31 then 0 else 1))), g)) ∧ (ji g 58 i = 2 → jV 135 0 [some (.ref 30), some (.int (nI i))] [] g = some (some (.int (nI (if to = 31 then 1 else 2))), g))) := by
  have a4 : jin (nI i) 24 = true := jin_nI hi (by omega)
  have a5 : (nI i).toNatClampNeg = i := nI_clamp (by omega)
  refine ⟨fun h => ?_, fun to ht h61 => ⟨fun h => ?_, fun h => ?_⟩⟩
  · simp only [s135_0, s135_1, s135_4, s135_5, s135_6, s135_7, s135_10, s135_11, s135_12, s135_13, s135_16, s135_17, s135_18, s135_20, s135_23, s135_24, s135_27, s135_28, s135_29, s135_32, s135_33, s135_34, s135_35, s135_38, s135_39, s135_42, s135_43, s135_44, k30 q, k58 q, p30_31 q, a4, a5, h, ↓reduceIte, va_rf_s, va_rf_n, jb_some, jb_none, jtl_s, jtl_n, if_true, if_false, true_and, and_true, false_and, and_false, or_true, true_or, or_false, false_or, not_true_eq_false, not_false_eq_true, jk_si, jp_si, jj_si, jk_sj, jp_sj, ji_sj, jk_ci, jp_ci, jj_ci, jk_cj, jp_cj, ji_cj, jlng_n, jlng_i, jlng_r, jlng_0]
    rfl
  · have E31 : nI to = 31 ↔ to = 31 := e_eq (b := 31) (by omega) (by omega)
    rcases h with h | h <;> by_cases c : to = 31
    · rw [if_pos c]
      simp only [s135_0, s135_1, s135_4, s135_5, s135_6, s135_7, s135_10, s135_11, s135_12, s135_13, s135_16, s135_17, s135_18, s135_20, s135_23, s135_24, s135_27, s135_28, s135_29, s135_32, s135_33, s135_34, s135_35, s135_38, s135_39, s135_42, s135_43, s135_44, k30 q, k58 q, k61 q, p30_31 q, p30_34 q, a4, a5, h, h61, eq_true (E31.mpr c), eq_false (show ¬ (0 : Int32) = 1 by decide), eq_false (show ¬ (0 : Int32) = 2 by decide), ↓reduceIte, va_rf_s, va_rf_n, jb_some, jb_none, jtl_s, jtl_n, if_true, if_false, true_and, and_true, false_and, and_false, or_true, true_or, or_false, false_or, not_true_eq_false, not_false_eq_true, jk_si, jp_si, jj_si, jk_sj, jp_sj, ji_sj, jk_ci, jp_ci, jj_ci, jk_cj, jp_cj, ji_cj, jlng_n, jlng_i, jlng_r, jlng_0]
      rfl
    · rw [if_neg c]
      simp only [s135_0, s135_1, s135_4, s135_5, s135_6, s135_7, s135_10, s135_11, s135_12, s135_13, s135_16, s135_17, s135_18, s135_20, s135_23, s135_24, s135_27, s135_28, s135_29, s135_32, s135_33, s135_34, s135_35, s135_38, s135_39, s135_42, s135_43, s135_44, k30 q, k58 q, k61 q, p30_31 q, p30_34 q, a4, a5, h, h61, eq_false (fun z => c (E31.mp z)), eq_false (show ¬ (0 : Int32) = 1 by decide), eq_false (show ¬ (0 : Int32) = 2 by decide), ↓reduceIte, va_rf_s, va_rf_n, jb_some, jb_none, jtl_s, jtl_n, if_true, if_false, true_and, and_true, false_and, and_false, or_true, true_or, or_false, false_or, not_true_eq_false, not_false_eq_true, jk_si, jp_si, jj_si, jk_sj, jp_sj, ji_sj, jk_ci, jp_ci, jj_ci, jk_cj, jp_cj, ji_cj, jlng_n, jlng_i, jlng_r, jlng_0]
      rfl
    · rw [if_pos c]
      simp only [s135_0, s135_1, s135_4, s135_5, s135_6, s135_7, s135_10, s135_11, s135_12, s135_13, s135_16, s135_17, s135_18, s135_20, s135_23, s135_24, s135_27, s135_28, s135_29, s135_32, s135_33, s135_34, s135_35, s135_38, s135_39, s135_42, s135_43, s135_44, k30 q, k58 q, k61 q, p30_31 q, p30_34 q, a4, a5, h, h61, eq_true (E31.mpr c), eq_false (show ¬ (3 : Int32) = 1 by decide), eq_false (show ¬ (3 : Int32) = 2 by decide), ↓reduceIte, va_rf_s, va_rf_n, jb_some, jb_none, jtl_s, jtl_n, if_true, if_false, true_and, and_true, false_and, and_false, or_true, true_or, or_false, false_or, not_true_eq_false, not_false_eq_true, jk_si, jp_si, jj_si, jk_sj, jp_sj, ji_sj, jk_ci, jp_ci, jj_ci, jk_cj, jp_cj, ji_cj, jlng_n, jlng_i, jlng_r, jlng_0]
      rfl
    · rw [if_neg c]
      simp only [s135_0, s135_1, s135_4, s135_5, s135_6, s135_7, s135_10, s135_11, s135_12, s135_13, s135_16, s135_17, s135_18, s135_20, s135_23, s135_24, s135_27, s135_28, s135_29, s135_32, s135_33, s135_34, s135_35, s135_38, s135_39, s135_42, s135_43, s135_44, k30 q, k58 q, k61 q, p30_31 q, p30_34 q, a4, a5, h, h61, eq_false (fun z => c (E31.mp z)), eq_false (show ¬ (3 : Int32) = 1 by decide), eq_false (show ¬ (3 : Int32) = 2 by decide), ↓reduceIte, va_rf_s, va_rf_n, jb_some, jb_none, jtl_s, jtl_n, if_true, if_false, true_and, and_true, false_and, and_false, or_true, true_or, or_false, false_or, not_true_eq_false, not_false_eq_true, jk_si, jp_si, jj_si, jk_sj, jp_sj, ji_sj, jk_ci, jp_ci, jj_ci, jk_cj, jp_cj, ji_cj, jlng_n, jlng_i, jlng_r, jlng_0]
      rfl
  · have E31 : nI to = 31 ↔ to = 31 := e_eq (b := 31) (by omega) (by omega)
    by_cases c : to = 31
    · rw [if_pos c]
      simp only [s135_0, s135_1, s135_4, s135_5, s135_6, s135_7, s135_10, s135_11, s135_12, s135_13, s135_16, s135_17, s135_18, s135_20, s135_23, s135_24, s135_27, s135_28, s135_29, s135_32, s135_33, s135_34, s135_35, s135_38, s135_39, s135_42, s135_43, s135_44, k30 q, k58 q, k61 q, p30_31 q, p30_34 q, a4, a5, h, h61, eq_true (E31.mpr c), eq_false (show ¬ (2 : Int32) = 1 by decide), ↓reduceIte, va_rf_s, va_rf_n, jb_some, jb_none, jtl_s, jtl_n, if_true, if_false, true_and, and_true, false_and, and_false, or_true, true_or, or_false, false_or, not_true_eq_false, not_false_eq_true, jk_si, jp_si, jj_si, jk_sj, jp_sj, ji_sj, jk_ci, jp_ci, jj_ci, jk_cj, jp_cj, ji_cj, jlng_n, jlng_i, jlng_r, jlng_0]
      rfl
    · rw [if_neg c]
      simp only [s135_0, s135_1, s135_4, s135_5, s135_6, s135_7, s135_10, s135_11, s135_12, s135_13, s135_16, s135_17, s135_18, s135_20, s135_23, s135_24, s135_27, s135_28, s135_29, s135_32, s135_33, s135_34, s135_35, s135_38, s135_39, s135_42, s135_43, s135_44, k30 q, k58 q, k61 q, p30_31 q, p30_34 q, a4, a5, h, h61, eq_false (fun z => c (E31.mp z)), eq_false (show ¬ (2 : Int32) = 1 by decide), ↓reduceIte, va_rf_s, va_rf_n, jb_some, jb_none, jtl_s, jtl_n, if_true, if_false, true_and, and_true, false_and, and_false, or_true, true_or, or_false, false_or, not_true_eq_false, not_false_eq_true, jk_si, jp_si, jj_si, jk_sj, jp_sj, ji_sj, jk_ci, jp_ci, jj_ci, jk_cj, jp_cj, ji_cj, jlng_n, jlng_i, jlng_r, jlng_0]
      rfl
theorem m_wordsOf {g : jH} (q : MS g) {i : Nat} (hi : i < 24) : (∀ cnt, ji g 63 i = nI cnt → ji g 58 i = 1 ∨ ji g 58 i = 2 → jV 136 0 [some (.ref 30), some (.int (nI i)), none] [] g = some (some (.int (nI cnt)), g)) ∧ (ji g 58 i = 0 → jV 136 0 [some (.ref 30), some (.int (nI i)), none] [] g = some (some (.int (nI 0)), g)) ∧ (∀ cod, cod < 32 → ji g 62 i = nI cod → ji g 58 i = 3 → jV 136 0 [some (.ref 30), some (.int (nI i)), none] [] g = some (some (.int (nI (if sWd cod then 1 else 0))), g)) := by
  have a4 : jin (nI i) 24 = true := jin_nI hi (by omega)
  have a5 : (nI i).toNatClampNeg = i := nI_clamp (by omega)
  refine ⟨fun cnt h63 h => ?_, fun h => ?_, fun cod hc h62 h => ?_⟩
  · rcases h with h | h
    · simp only [s136_0, s136_1, s136_4, s136_5, s136_6, s136_7, s136_10, s136_11, s136_14, s136_15, s136_16, s136_17, s136_20, s136_21, s136_24, s136_25, s136_26, s136_27, s136_28, s136_31, s136_32, s136_33, s136_34, s136_35, s136_38, s136_39, s136_40, s136_41, s136_44, s136_45, s136_47, s136_50, s136_51, s136_53, s136_56, s136_57, s136_59, s136_62, s136_63, s136_66, s136_67, k30 q, k58 q, k63 q, p30_31 q, p30_36 q, a4, a5, h, h63, ↓reduceIte, va_rf_s, va_rf_n, jb_some, jb_none, jtl_s, jtl_n, if_true, if_false, true_and, and_true, false_and, and_false, or_true, true_or, or_false, false_or, not_true_eq_false, not_false_eq_true, jk_si, jp_si, jj_si, jk_sj, jp_sj, ji_sj, jk_ci, jp_ci, jj_ci, jk_cj, jp_cj, ji_cj, jlng_n, jlng_i, jlng_r, jlng_0]
    · simp only [s136_0, s136_1, s136_4, s136_5, s136_6, s136_7, s136_10, s136_11, s136_14, s136_15, s136_16, s136_17, s136_20, s136_21, s136_24, s136_25, s136_26, s136_27, s136_28, s136_31, s136_32, s136_33, s136_34, s136_35, s136_38, s136_39, s136_40, s136_41, s136_44, s136_45, s136_47, s136_50, s136_51, s136_53, s136_56, s136_57, s136_59, s136_62, s136_63, s136_66, s136_67, k30 q, k58 q, k63 q, p30_31 q, p30_36 q, a4, a5, h, h63, eq_false (show ¬ (2 : Int32) = 1 by decide), ↓reduceIte, va_rf_s, va_rf_n, jb_some, jb_none, jtl_s, jtl_n, if_true, if_false, true_and, and_true, false_and, and_false, or_true, true_or, or_false, false_or, not_true_eq_false, not_false_eq_true, jk_si, jp_si, jj_si, jk_sj, jp_sj, ji_sj, jk_ci, jp_ci, jj_ci, jk_cj, jp_cj, ji_cj, jlng_n, jlng_i, jlng_r, jlng_0]
  · simp only [s136_0, s136_1, s136_4, s136_5, s136_6, s136_7, s136_10, s136_11, s136_14, s136_15, s136_16, s136_17, s136_20, s136_21, s136_24, s136_25, s136_26, s136_27, s136_28, s136_31, s136_32, s136_33, s136_34, s136_35, s136_38, s136_39, s136_40, s136_41, s136_44, s136_45, s136_47, s136_50, s136_51, s136_53, s136_56, s136_57, s136_59, s136_62, s136_63, s136_66, s136_67, k30 q, k58 q, k62 q, p30_31 q, p30_35 q, a4, a5, h, eq_false (show ¬ (0 : Int32) = 1 by decide), eq_false (show ¬ (0 : Int32) = 2 by decide), eq_false (show ¬ (0 : Int32) = 3 by decide), ↓reduceIte, va_rf_s, va_rf_n, jb_some, jb_none, jtl_s, jtl_n, if_true, if_false, true_and, and_true, false_and, and_false, or_true, true_or, or_false, false_or, not_true_eq_false, not_false_eq_true, jk_si, jp_si, jj_si, jk_sj, jp_sj, ji_sj, jk_ci, jp_ci, jj_ci, jk_cj, jp_cj, ji_cj, jlng_n, jlng_i, jlng_r, jlng_0]
    rfl
  · have E16 : nI cod = 16 ↔ cod = 16 := e_eq (b := 16) (by omega) (by omega)
    have E18 : nI cod = 18 ↔ cod = 18 := e_eq (b := 18) (by omega) (by omega)
    have E19 : nI cod = 19 ↔ cod = 19 := e_eq (b := 19) (by omega) (by omega)
    by_cases c1 : cod = 16
    · rw [if_pos (Or.inl c1)]
      simp only [s136_0, s136_1, s136_4, s136_5, s136_6, s136_7, s136_10, s136_11, s136_14, s136_15, s136_16, s136_17, s136_20, s136_21, s136_24, s136_25, s136_26, s136_27, s136_28, s136_31, s136_32, s136_33, s136_34, s136_35, s136_38, s136_39, s136_40, s136_41, s136_44, s136_45, s136_47, s136_50, s136_51, s136_53, s136_56, s136_57, s136_59, s136_62, s136_63, s136_66, s136_67, k30 q, k58 q, k62 q, p30_31 q, p30_35 q, a4, a5, h, h62, eq_true (E16.mpr c1), eq_false (show ¬ (3 : Int32) = 1 by decide), eq_false (show ¬ (3 : Int32) = 2 by decide), ↓reduceIte, va_rf_s, va_rf_n, jb_some, jb_none, jtl_s, jtl_n, if_true, if_false, true_and, and_true, false_and, and_false, or_true, true_or, or_false, false_or, not_true_eq_false, not_false_eq_true, jk_si, jp_si, jj_si, jk_sj, jp_sj, ji_sj, jk_ci, jp_ci, jj_ci, jk_cj, jp_cj, ji_cj, jlng_n, jlng_i, jlng_r, jlng_0]
      rfl
    · by_cases c2 : cod = 18
      · rw [if_pos (Or.inr (Or.inl c2))]
        simp only [s136_0, s136_1, s136_4, s136_5, s136_6, s136_7, s136_10, s136_11, s136_14, s136_15, s136_16, s136_17, s136_20, s136_21, s136_24, s136_25, s136_26, s136_27, s136_28, s136_31, s136_32, s136_33, s136_34, s136_35, s136_38, s136_39, s136_40, s136_41, s136_44, s136_45, s136_47, s136_50, s136_51, s136_53, s136_56, s136_57, s136_59, s136_62, s136_63, s136_66, s136_67, k30 q, k58 q, k62 q, p30_31 q, p30_35 q, a4, a5, h, h62, eq_false (fun z => c1 (E16.mp z)), eq_true (E18.mpr c2), eq_false (show ¬ (3 : Int32) = 1 by decide), eq_false (show ¬ (3 : Int32) = 2 by decide), ↓reduceIte, va_rf_s, va_rf_n, jb_some, jb_none, jtl_s, jtl_n, if_true, if_false, true_and, and_true, false_and, and_false, or_true, true_or, or_false, false_or, not_true_eq_false, not_false_eq_true, jk_si, jp_si, jj_si, jk_sj, jp_sj, ji_sj, jk_ci, jp_ci, jj_ci, jk_cj, jp_cj, ji_cj, jlng_n, jlng_i, jlng_r, jlng_0]
        rfl
      · by_cases c3 : cod = 19
        · rw [if_pos (Or.inr (Or.inr c3))]
          simp only [s136_0, s136_1, s136_4, s136_5, s136_6, s136_7, s136_10, s136_11, s136_14, s136_15, s136_16, s136_17, s136_20, s136_21, s136_24, s136_25, s136_26, s136_27, s136_28, s136_31, s136_32, s136_33, s136_34, s136_35, s136_38, s136_39, s136_40, s136_41, s136_44, s136_45, s136_47, s136_50, s136_51, s136_53, s136_56, s136_57, s136_59, s136_62, s136_63, s136_66, s136_67, k30 q, k58 q, k62 q, p30_31 q, p30_35 q, a4, a5, h, h62, eq_false (fun z => c1 (E16.mp z)), eq_false (fun z => c2 (E18.mp z)), eq_true (E19.mpr c3), eq_false (show ¬ (3 : Int32) = 1 by decide), eq_false (show ¬ (3 : Int32) = 2 by decide), ↓reduceIte, va_rf_s, va_rf_n, jb_some, jb_none, jtl_s, jtl_n, if_true, if_false, true_and, and_true, false_and, and_false, or_true, true_or, or_false, false_or, not_true_eq_false, not_false_eq_true, jk_si, jp_si, jj_si, jk_sj, jp_sj, ji_sj, jk_ci, jp_ci, jj_ci, jk_cj, jp_cj, ji_cj, jlng_n, jlng_i, jlng_r, jlng_0]
          rfl
        · rw [if_neg (fun z => z.elim c1 (fun y => y.elim c2 c3))]
          simp only [s136_0, s136_1, s136_4, s136_5, s136_6, s136_7, s136_10, s136_11, s136_14, s136_15, s136_16, s136_17, s136_20, s136_21, s136_24, s136_25, s136_26, s136_27, s136_28, s136_31, s136_32, s136_33, s136_34, s136_35, s136_38, s136_39, s136_40, s136_41, s136_44, s136_45, s136_47, s136_50, s136_51, s136_53, s136_56, s136_57, s136_59, s136_62, s136_63, s136_66, s136_67, k30 q, k58 q, k62 q, p30_31 q, p30_35 q, a4, a5, h, h62, eq_false (fun z => c1 (E16.mp z)), eq_false (fun z => c2 (E18.mp z)), eq_false (fun z => c3 (E19.mp z)), eq_false (show ¬ (3 : Int32) = 1 by decide), eq_false (show ¬ (3 : Int32) = 2 by decide), ↓reduceIte, va_rf_s, va_rf_n, jb_some, jb_none, jtl_s, jtl_n, if_true, if_false, true_and, and_true, false_and, and_false, or_true, true_or, or_false, false_or, not_true_eq_false, not_false_eq_true, jk_si, jp_si, jj_si, jk_sj, jp_sj, ji_sj, jk_ci, jp_ci, jj_ci, jk_cj, jp_cj, ji_cj, jlng_n, jlng_i, jlng_r, jlng_0]
          rfl
/-- what judging a transfer needs of it -/
theorem jd_of {g g' : jH} {i q : Nat} (hK : TK g g' i q) (qm : MS g') : ∃ (of ot : Bool) (fc tc w fa : Nat), (fc < 65536 ∧ tc < 65536 ∧ w ≤ 32) ∧ (ji g q 0 = if ot then nI tc else -1) ∧ (ji g q 1 = if of then nI fc else -1) ∧ ji g q 3 = nI w ∧ (of = false → ot = true) ∧ (of = true → aN fc = fa) ∧ (of = false → aN tc = fa) ∧ jV 135 0 [some (.ref 30), some (.int (nI i))] [] g' = some (some (.int (nI (aw of ot tc))), g') ∧ jV 136 0 [some (.ref 30), some (.int (nI i)), none] [] g' = some (some (.int (nI w)), g') ∧ (ot = true → ji g' 61 i = nI (aN tc)) ∧ (∀ (l x3 : Int32) (y4 y5 y6 : Option Value), jV 137 96 [some (.ref 30), some (.int (nI i)), some (.int l), some (.int x3), y4, y5, y6] [] g' = jV 137 133 [some (.ref 30), some (.int (nI i)), some (.int l), some (.int x3), some (.int (nI fa)), y5, y6] [] g') ∧ (¬ ji g q 4 = 0 → ¬ (of = true ∧ ot = true) ∧ (of = true ∨ ¬ aN tc = 31)) := by
  obtain ⟨hi, hq74, kq, _, hk⟩ := hK
  have a4 : jin (nI i) 24 = true := jin_nI hi (by omega)
  have a5 : (nI i).toNatClampNeg = i := nI_clamp (by omega)
  obtain ⟨A1, A2⟩ := m_awaited qm hi
  obtain ⟨W1, W2, W3⟩ := m_wordsOf qm hi
  rcases hk with ⟨to, tp, cnt, blk, ⟨r1, r2, r3, r4, r5, r6⟩, ⟨m1, m2, m3, m4, m5⟩, k0, k1, k2, k3, k4, k5⟩ | ⟨fr, fp, cnt, blk, ⟨r1, r2, r3, r4, r5, r6⟩, ⟨m1, m2, m3, m4, m5⟩, k0, k1, k2, k3, k4, k5⟩ | ⟨fr, fp, to, tp, cnt, ⟨r1, r2, r3, r4, r5, r6, r7, r8⟩, ⟨m1, m2, m3, m4, m5, m6⟩, k0, k1, k2, k3, k4⟩ | ⟨to, cod, blk, ⟨r1, r2, r3, r4⟩, ⟨m1, m2, m3, m4⟩, k0, k1, k2, k3, k4, k5⟩
  · have m1 : ji g' 58 i = 0 := m1
    have m2 : ji g' 61 i = nI to := m2
    have ea := CM_a (a := to) (s := 0) (p := tp) (c := cnt) (by omega) (by omega) (by omega)
    refine ⟨false, true, 0, CM to 0 tp cnt, 0, to, ⟨by omega, CM_lt (by omega) (by omega) (by omega), by omega⟩, k0, k1, k3, fun _ => rfl, fun z => absurd z (by decide), fun _ => ea, ?_, W2 m1, fun _ => by rw [ea]; exact m2, fun l x3 y4 y5 y6 => ?_, fun z => absurd k4 z⟩
    · rw [(A2 to r1 m2).1 (Or.inl m1)]
      unfold aw
      rw [ea]
      by_cases c : to = 31
      · simp [c]
      · simp [c]
    · simp only [s137_96, s137_97, s137_100, s137_101, s137_102, s137_103, s137_106, s137_107, s137_110, s137_111, s137_112, s137_113, s137_116, s137_117, s137_120, s137_121, s137_122, s137_125, s137_126, s137_129, s137_130, s137_131, k30 qm, k58 qm, k61 qm, p30_31 qm, p30_34 qm, a4, a5, m1, m2, eq_false (show ¬ (0 : Int32) = 1 by decide), eq_false (show ¬ (0 : Int32) = 2 by decide), ↓reduceIte, va_rf_s, va_rf_n, jb_some, jb_none, jtl_s, jtl_n, if_true, if_false, true_and, and_true, false_and, and_false, or_true, true_or, or_false, false_or, not_true_eq_false, not_false_eq_true, jk_si, jp_si, jj_si, jk_sj, jp_sj, ji_sj, jk_ci, jp_ci, jj_ci, jk_cj, jp_cj, ji_cj, jlng_n, jlng_i, jlng_r, jlng_0]
  · have m1 : ji g' 58 i = 1 := m1
    have m2 : ji g' 59 i = nI fr := m2
    have m4 : ji g' 63 i = nI cnt := m4
    have ea := CM_a (a := fr) (s := 1) (p := fp) (c := cnt) (by omega) (by omega) (by omega)
    refine ⟨true, false, CM fr 1 fp cnt, 0, cnt, fr, ⟨CM_lt (by omega) (by omega) (by omega), by omega, by omega⟩, k0, k1, k3, fun z => absurd z (by decide), fun _ => ea, fun z => absurd z (by decide), A1 m1, W1 cnt m4 (Or.inl m1), fun z => absurd z (by decide), fun l x3 y4 y5 y6 => ?_, fun _ => ⟨fun z => absurd z.2 (by decide), Or.inl rfl⟩⟩
    simp only [s137_96, s137_97, s137_100, s137_101, s137_102, s137_103, s137_106, s137_107, s137_110, s137_111, s137_112, s137_113, s137_116, s137_117, s137_120, s137_121, s137_122, s137_125, s137_126, s137_129, s137_130, s137_131, k30 qm, k58 qm, k59 qm, p30_31 qm, p30_32 qm, a4, a5, m1, m2, ↓reduceIte, va_rf_s, va_rf_n, jb_some, jb_none, jtl_s, jtl_n, if_true, if_false, true_and, and_true, false_and, and_false, or_true, true_or, or_false, false_or, not_true_eq_false, not_false_eq_true, jk_si, jp_si, jj_si, jk_sj, jp_sj, ji_sj, jk_ci, jp_ci, jj_ci, jk_cj, jp_cj, ji_cj, jlng_n, jlng_i, jlng_r, jlng_0]
  · have m1 : ji g' 58 i = 2 := m1
    have m2 : ji g' 59 i = nI fr := m2
    have m4 : ji g' 61 i = nI to := m4
    have m6 : ji g' 63 i = nI cnt := m6
    have ea := CM_a (a := fr) (s := 1) (p := fp) (c := cnt) (by omega) (by omega) (by omega)
    have eb := CM_a (a := to) (s := 0) (p := tp) (c := cnt) (by omega) (by omega) (by omega)
    refine ⟨true, true, CM fr 1 fp cnt, CM to 0 tp cnt, cnt, fr, ⟨CM_lt (by omega) (by omega) (by omega), CM_lt (by omega) (by omega) (by omega), by omega⟩, k0, k1, k3, fun z => absurd z (by decide), fun _ => ea, fun z => absurd z (by decide), ?_, W1 cnt m6 (Or.inr m1), fun _ => by rw [eb]; exact m4, fun l x3 y4 y5 y6 => ?_, fun z => absurd k4 z⟩
    · rw [(A2 to (by omega) m4).2 m1]
      unfold aw
      rw [eb]
      by_cases c : to = 31
      · simp [c]
      · simp [c]
    · simp only [s137_96, s137_97, s137_100, s137_101, s137_102, s137_103, s137_106, s137_107, s137_110, s137_111, s137_112, s137_113, s137_116, s137_117, s137_120, s137_121, s137_122, s137_125, s137_126, s137_129, s137_130, s137_131, k30 qm, k58 qm, k59 qm, p30_31 qm, p30_32 qm, a4, a5, m1, m2, eq_false (show ¬ (2 : Int32) = 1 by decide), ↓reduceIte, va_rf_s, va_rf_n, jb_some, jb_none, jtl_s, jtl_n, if_true, if_false, true_and, and_true, false_and, and_false, or_true, true_or, or_false, false_or, not_true_eq_false, not_false_eq_true, jk_si, jp_si, jj_si, jk_sj, jp_sj, ji_sj, jk_ci, jp_ci, jj_ci, jk_cj, jp_cj, ji_cj, jlng_n, jlng_i, jlng_r, jlng_0]
  · have m1 : ji g' 58 i = 3 := m1
    have m2 : ji g' 61 i = nI to := m2
    have m3 : ji g' 62 i = nI cod := m3
    have hs : (if hWd cod then 0 else 1) ≤ 1 := by split <;> omega
    have ea := CM_a (a := to) (s := if hWd cod then 0 else 1) (p := 0) (c := cod) (by omega) hs (by omega)
    refine ⟨false, true, 0, CM to (if hWd cod then 0 else 1) 0 cod, if sWd cod then 1 else 0, to, ⟨by omega, CM_lt (by omega) hs (by omega), by split <;> omega⟩, k0, k1, k3, fun _ => rfl, fun z => absurd z (by decide), fun _ => ea, ?_, W3 cod r2 m3 m1, fun _ => by rw [ea]; exact m2, fun l x3 y4 y5 y6 => ?_, fun z => ⟨fun y => absurd y.1 (by decide), Or.inr ?_⟩⟩
    · rw [(A2 to r1 m2).1 (Or.inr m1)]
      unfold aw
      rw [ea]
      by_cases c : to = 31
      · simp [c]
      · simp [c]
    · simp only [s137_96, s137_97, s137_100, s137_101, s137_102, s137_103, s137_106, s137_107, s137_110, s137_111, s137_112, s137_113, s137_116, s137_117, s137_120, s137_121, s137_122, s137_125, s137_126, s137_129, s137_130, s137_131, k30 qm, k58 qm, k61 qm, p30_31 qm, p30_34 qm, a4, a5, m1, m2, eq_false (show ¬ (3 : Int32) = 1 by decide), eq_false (show ¬ (3 : Int32) = 2 by decide), ↓reduceIte, va_rf_s, va_rf_n, jb_some, jb_none, jtl_s, jtl_n, if_true, if_false, true_and, and_true, false_and, and_false, or_true, true_or, or_false, false_or, not_true_eq_false, not_false_eq_true, jk_si, jp_si, jj_si, jk_sj, jp_sj, ji_sj, jk_ci, jp_ci, jj_ci, jk_cj, jp_cj, ji_cj, jlng_n, jlng_i, jlng_r, jlng_0]
    · rw [ea]
      by_cases c : sWd cod
      · exact r4 c
      · rw [if_neg c] at k4
        exact absurd k4 z
/-- the attempt is judged -/
theorem q_judge {g g' : jH} {n i q : Nat} {A0 A1 : List Int32} (qc : CS g) (qm : MS g') (hA : An g g' n A0 A1) (hK : TK g g' i q) : ∃ G v s wt f4, jV 53 0 [some (.ref q), some (.ref 10), none, none, none, none] [] g = some (none, G) ∧ ji G q 10 = v ∧ ji G q 11 = s ∧ Fr (fun b k => b = q ∧ (k = 10 ∨ k = 11)) g G ∧ wt ≤ 2 ∧ (∀ {P : Nat → Nat → Prop} {h : jH}, Fr P g h → (∀ k, k < 7 → ¬ P q k) → jV 52 0 [some (.ref q)] [] h = some (some (.int (nI wt)), h)) ∧ (∀ (l x3 : Int32) (y4 y5 y6 : Option Value), jV 137 90 [some (.ref 30), some (.int (nI i)), some (.int l), some (.int x3), y4, y5, y6] [] g' = jV 137 184 [some (.ref 30), some (.int (nI i)), some (.int l), some (.int (nI wt)), some (.int f4), some (.int v), y6] [] g') ∧ (∀ (l f4 v : Int32) (y6 : Option Value) (t : Int32), jV 137 209 [some (.ref 30), some (.int (nI i)), some (.int l), some (.int (nI wt)), some (.int f4), some (.int v), y6] [] (jsi g' 30 22 t) = some (some (.int v), jsi (jsi g' 30 22 t) 66 (6 * i + 4) s)) ∧ (v = 0 → ¬ ji g q 4 = 0 → ∃ w, w ≤ 32 ∧ ji g q 3 = nI w ∧ 1 ≤ n ∧ JDt A0 1 w) := by
  obtain ⟨of, ot, fc, tc, w, fa, ⟨lf, lt, lw⟩, h0, h1, h3, hot, hfa, hta, maw, mwo, h61, mfi, hkp⟩ := jd_of hK qm
  obtain ⟨hi, hq74, kq, _⟩ := id hK
  obtain ⟨q1, ⟨q2, q3⟩, ⟨q4, q5⟩, q6, q7, q8, q9⟩ := id hA
  have a4 : jin (nI i) 24 = true := jin_nI hi (by omega)
  have a5 : (nI i).toNatClampNeg = i := nI_clamp (by omega)
  have hwt : aw of ot tc ≤ 2 := by unfold aw; split <;> split <;> omega
  have haw := c_awaited kq h0 h1 lt lf
  obtain ⟨s, w3, hj1, hst⟩ := q_stat qc qm hA hi kq hq74 hwt haw
  have f1 : Fr (fun b k => b = q ∧ (k = 10 ∨ k = 11)) g (jsi g q 11 s) := (Fr.refl g).si ⟨rfl, Or.inr rfl⟩
  have hawt : ∀ {P : Nat → Nat → Prop} {h : jH}, Fr P g h → (∀ k, k < 7 → ¬ P q k) → jV 52 0 [some (.ref q)] [] h = some (some (.int (nI (aw of ot tc))), h) := fun {P h} f hp => c_awaited (by rw [f.k]; exact kq) (by rw [f.i (hp 0 (by omega))]; exact h0) (by rw [f.i (hp 1 (by omega))]; exact h1) lt lf
  have z0 : nI 0 = 0 := rfl
  have ho : ∀ b k, 21 ≤ b → b ≤ 26 → ¬ (b = q ∧ (k = 10 ∨ k = 11)) := fun b k y1 y2 => by omega
  obtain ⟨v1, F1, F2, F3, F4⟩ := q_flaw (g := g) (g' := g') (w := 21) (row := 0) (n := n) (c := fc) (r := aN fc) (many := w) (A := A0) qm (by omega) q4 q1 q3 (fun z => by simpa using q8 z) lf rfl lw
  obtain ⟨v2, T1, T2, T3, T4⟩ := q_flaw (g := g) (g' := g') (w := 24) (row := 1) (n := n) (c := tc) (r := aN tc) (many := 0) (A := A1) qm (by omega) q5 q1 q3 (fun z => q9 z) lt rfl (by omega)
  obtain ⟨v3, S1, S2, S3, S4⟩ := q_flaw (g := g) (g' := g') (w := 21) (row := 0) (n := n) (c := tc) (r := aN tc) (many := w) (A := A0) qm (by omega) q4 q1 q3 (fun z => by simpa using q8 z) lt rfl lw
  rw [z0] at F1 S1
  cases of
  · have ot1 := hot rfl
    subst ot1
    have efa := hta rfl
    obtain ⟨G, G1, G2, G3⟩ := c_why (v1 := 0) (v2 := v3) (w3 := w3) (n := n) qc kq hq74 h0 h1 h3 lt lf f1 q1 (fun z => absurd z (by decide)) (fun z => absurd z (by decide)) (fun _ _ => ⟨fun z => S2 (by omega), fun z h f => S3 (by omega) f (fun b k y1 y2 => ho b k (by omega) (by omega))⟩)
    have e10 : ji G q 10 = if ¬ aN tc = 31 then v3 else 0 := by
      rw [G2, if_neg (fun z => absurd z.1 (by decide))]
      by_cases c : aN tc = 31
      · rw [if_neg (fun z => z.2 c), if_neg (fun z => z c)]
      · rw [if_pos ⟨rfl, c⟩, if_pos c]
    refine ⟨G, _, s, aw false true tc, nI fa, hj1.trans G1, rfl, by rw [G3.i (by omega), ji_si, if_pos ⟨rfl, rfl⟩], f1.trans (G3.sub (fun b k z => ⟨z.1, Or.inl z.2⟩)), hwt, hawt, fun l x3 y4 y5 y6 => ?_, hst, fun z1 z2 => ?_⟩
    · rw [e10]
      rw [efa] at S1
      by_cases c : aN tc = 31
      · have eaw : aw false true tc = 0 := by unfold aw; rw [if_neg (by decide), if_neg (fun z => z.2 c)]
        rw [if_neg (fun z => z c)]
        rw [eaw] at maw ⊢
        simp only [s137_90, s137_91, s137_92, s137_95, k30 qm, maw, mfi, s137_133, s137_134, s137_137, s137_138, s137_141, s137_142, s137_143, s137_145, s137_146, s137_147, s137_150, s137_153, s137_155, s137_157, s137_160, s137_161, s137_162, s137_165, s137_166, s137_167, s137_168, s137_171, s137_172, s137_173, s137_174, s137_177, s137_180, s137_182, z0, eq_false (show ¬ (0 : Int32) = 2 by decide), ↓reduceIte, va_rf_s, va_rf_n, jb_some, jb_none, jtl_s, jtl_n, if_true, if_false, true_and, and_true, false_and, and_false, or_true, true_or, or_false, false_or, not_true_eq_false, not_false_eq_true, jk_si, jp_si, jj_si, jk_sj, jp_sj, ji_sj, jk_ci, jp_ci, jj_ci, jk_cj, jp_cj, ji_cj, jlng_n, jlng_i, jlng_r, jlng_0]
      · have eaw : aw false true tc = 1 := by unfold aw; rw [if_neg (by decide), if_pos ⟨rfl, c⟩]
        rw [if_pos c]
        rw [eaw] at maw ⊢
        by_cases d : v3 = 0
        · simp only [s137_90, s137_91, s137_92, s137_95, k30 qm, maw, mfi, s137_133, s137_134, s137_137, s137_138, s137_141, s137_142, s137_143, s137_145, s137_146, s137_147, s137_150, s137_153, s137_155, s137_157, s137_160, s137_161, s137_162, s137_165, s137_166, s137_167, s137_168, s137_171, s137_172, s137_173, s137_174, s137_177, s137_180, s137_182, mwo, S1, d, eq_false (show ¬ nI 1 = 0 by decide), eq_false (show ¬ nI 1 = 2 by decide), ↓reduceIte, va_rf_s, va_rf_n, jb_some, jb_none, jtl_s, jtl_n, if_true, if_false, true_and, and_true, false_and, and_false, or_true, true_or, or_false, false_or, not_true_eq_false, not_false_eq_true, jk_si, jp_si, jj_si, jk_sj, jp_sj, ji_sj, jk_ci, jp_ci, jj_ci, jk_cj, jp_cj, ji_cj, jlng_n, jlng_i, jlng_r, jlng_0]
        · simp only [s137_90, s137_91, s137_92, s137_95, k30 qm, maw, mfi, s137_133, s137_134, s137_137, s137_138, s137_141, s137_142, s137_143, s137_145, s137_146, s137_147, s137_150, s137_153, s137_155, s137_157, s137_160, s137_161, s137_162, s137_165, s137_166, s137_167, s137_168, s137_171, s137_172, s137_173, s137_174, s137_177, s137_180, s137_182, mwo, S1, d, eq_false (show ¬ nI 1 = 0 by decide), ↓reduceIte, va_rf_s, va_rf_n, jb_some, jb_none, jtl_s, jtl_n, if_true, if_false, true_and, and_true, false_and, and_false, or_true, true_or, or_false, false_or, not_true_eq_false, not_false_eq_true, jk_si, jp_si, jj_si, jk_sj, jp_sj, ji_sj, jk_ci, jp_ci, jj_ci, jk_cj, jp_cj, ji_cj, jlng_n, jlng_i, jlng_r, jlng_0]
    · have c := (hkp z2).2.resolve_left (by decide)
      rw [e10, if_pos c] at z1
      have := S4 z1
      exact ⟨w, lw, h3, by omega, this.2⟩
  · have efa := hfa rfl
    obtain ⟨G, G1, G2, G3⟩ := c_why (v1 := v1) (v2 := v2) (w3 := w3) (n := n) qc kq hq74 h0 h1 h3 lt lf f1 q1 (fun _ => ⟨fun z => F2 (by omega), fun z h f => F3 (by omega) f (fun b k y1 y2 => ho b k (by omega) (by omega))⟩) (fun _ _ => ⟨fun z => T2 (by omega), fun z h f => T3 (by omega) f (fun b k y1 y2 => ho b k (by omega) (by omega))⟩) (fun z => absurd z (by decide))
    refine ⟨G, _, s, aw true ot tc, nI fa, hj1.trans G1, rfl, by rw [G3.i (by omega), ji_si, if_pos ⟨rfl, rfl⟩], f1.trans (G3.sub (fun b k z => ⟨z.1, Or.inl z.2⟩)), hwt, hawt, fun l x3 y4 y5 y6 => ?_, hst, fun z1 z2 => ?_⟩
    · rw [G2]
      rw [efa] at F1
      by_cases c : ot = true ∧ ¬ aN tc = 31
      · have eaw : aw true ot tc = 2 := by unfold aw; rw [if_pos rfl, if_pos c]
        rw [eaw] at maw ⊢
        have h61 := h61 c.1
        rw [show nI 1 = 1 from rfl, z0] at T1
        by_cases d : v1 = 0
        · rw [if_neg (fun z => z.2 d), if_pos c]
          simp only [s137_90, s137_91, s137_92, s137_95, k30 qm, maw, mfi, s137_133, s137_134, s137_137, s137_138, s137_141, s137_142, s137_143, s137_145, s137_146, s137_147, s137_150, s137_153, s137_155, s137_157, s137_160, s137_161, s137_162, s137_165, s137_166, s137_167, s137_168, s137_171, s137_172, s137_173, s137_174, s137_177, s137_180, s137_182, mwo, F1, d, k61 qm, p30_34 qm, a4, a5, h61, T1, eq_false (show ¬ nI 2 = 0 by decide), eq_true (show nI 2 = 2 by decide), ↓reduceIte, va_rf_s, va_rf_n, jb_some, jb_none, jtl_s, jtl_n, if_true, if_false, true_and, and_true, false_and, and_false, or_true, true_or, or_false, false_or, not_true_eq_false, not_false_eq_true, jk_si, jp_si, jj_si, jk_sj, jp_sj, ji_sj, jk_ci, jp_ci, jj_ci, jk_cj, jp_cj, ji_cj, jlng_n, jlng_i, jlng_r, jlng_0]
        · rw [if_pos ⟨rfl, d⟩]
          simp only [s137_90, s137_91, s137_92, s137_95, k30 qm, maw, mfi, s137_133, s137_134, s137_137, s137_138, s137_141, s137_142, s137_143, s137_145, s137_146, s137_147, s137_150, s137_153, s137_155, s137_157, s137_160, s137_161, s137_162, s137_165, s137_166, s137_167, s137_168, s137_171, s137_172, s137_173, s137_174, s137_177, s137_180, s137_182, mwo, F1, d, eq_false (show ¬ nI 2 = 0 by decide), ↓reduceIte, va_rf_s, va_rf_n, jb_some, jb_none, jtl_s, jtl_n, if_true, if_false, true_and, and_true, false_and, and_false, or_true, true_or, or_false, false_or, not_true_eq_false, not_false_eq_true, jk_si, jp_si, jj_si, jk_sj, jp_sj, ji_sj, jk_ci, jp_ci, jj_ci, jk_cj, jp_cj, ji_cj, jlng_n, jlng_i, jlng_r, jlng_0]
      · have eaw : aw true ot tc = 1 := by unfold aw; rw [if_pos rfl, if_neg c]
        rw [eaw] at maw ⊢
        by_cases d : v1 = 0
        · rw [if_neg (fun z => z.2 d), if_neg c]
          simp only [s137_90, s137_91, s137_92, s137_95, k30 qm, maw, mfi, s137_133, s137_134, s137_137, s137_138, s137_141, s137_142, s137_143, s137_145, s137_146, s137_147, s137_150, s137_153, s137_155, s137_157, s137_160, s137_161, s137_162, s137_165, s137_166, s137_167, s137_168, s137_171, s137_172, s137_173, s137_174, s137_177, s137_180, s137_182, mwo, F1, d, eq_false (show ¬ nI 1 = 0 by decide), eq_false (show ¬ nI 1 = 2 by decide), ↓reduceIte, va_rf_s, va_rf_n, jb_some, jb_none, jtl_s, jtl_n, if_true, if_false, true_and, and_true, false_and, and_false, or_true, true_or, or_false, false_or, not_true_eq_false, not_false_eq_true, jk_si, jp_si, jj_si, jk_sj, jp_sj, ji_sj, jk_ci, jp_ci, jj_ci, jk_cj, jp_cj, ji_cj, jlng_n, jlng_i, jlng_r, jlng_0]
        · rw [if_pos ⟨rfl, d⟩]
          simp only [s137_90, s137_91, s137_92, s137_95, k30 qm, maw, mfi, s137_133, s137_134, s137_137, s137_138, s137_141, s137_142, s137_143, s137_145, s137_146, s137_147, s137_150, s137_153, s137_155, s137_157, s137_160, s137_161, s137_162, s137_165, s137_166, s137_167, s137_168, s137_171, s137_172, s137_173, s137_174, s137_177, s137_180, s137_182, mwo, F1, d, eq_false (show ¬ nI 1 = 0 by decide), ↓reduceIte, va_rf_s, va_rf_n, jb_some, jb_none, jtl_s, jtl_n, if_true, if_false, true_and, and_true, false_and, and_false, or_true, true_or, or_false, false_or, not_true_eq_false, not_false_eq_true, jk_si, jp_si, jj_si, jk_sj, jp_sj, ji_sj, jk_ci, jp_ci, jj_ci, jk_cj, jp_cj, ji_cj, jlng_n, jlng_i, jlng_r, jlng_0]
    · have c := (hkp z2).1
      have ot0 : ¬ ot = true := fun y => c ⟨rfl, y⟩
      rw [G2] at z1
      by_cases d : v1 = 0
      · have := F4 d
        exact ⟨w, lw, h3, by omega, this.2⟩
      · rw [if_pos ⟨rfl, d⟩] at z1
        exact absurd z1 d
