/-! HOW AN ATTEMPT WENT -/
theorem wd_loop {g : jH} (q : MS g) {A : List Int32} {row : Nat} (hrow : row ≤ 1) (hA : ∀ (j : Nat) (x : Int32), A[j]? = some x → ji g 69 (40 * row + j) = x) (hl : A.length ≤ 33) (l2 l4 : Int32) : ∀ (n j : Nat), j + n = A.length → 1 ≤ j → ∃ v, jV 134 85 [some (.ref 30), some (.int (nI row)), some (.int l2), some (.int (nI (A.length - 1))), some (.int l4), some (.int 1), some (.int (nI j))] [] g = jV 134 119 [some (.ref 30), some (.int (nI row)), some (.int l2), some (.int (nI (A.length - 1))), some (.int l4), some (.int (jB (A.length - j ≤ dtl A))), some (.int v)] [] g
  | 0, j, h, h1 => by
    have a1 : nI (A.length - 1) < nI j := nI_lt (by omega) (by omega)
    refine ⟨nI j, ?_⟩
    rw [jB_t (show A.length - j ≤ dtl A by omega)]
    simp only [s134_85, s134_87, s134_88, s134_91, s134_93, s134_96, s134_97, s134_100, s134_102, s134_103, s134_104, s134_106, s134_107, s134_108, s134_111, s134_113, s134_116, a1, ↓reduceIte, va_rf_s, va_rf_n, jb_some, jb_none, jtl_s, jtl_n, if_true, if_false, true_and, and_true, false_and, and_false, or_true, true_or, or_false, false_or, not_true_eq_false, not_false_eq_true, jk_si, jp_si, jj_si, jk_sj, jp_sj, ji_sj, jk_ci, jp_ci, jj_ci, jk_cj, jp_cj, ji_cj, jlng_n, jlng_i, jlng_r, jlng_0]
  | n + 1, j, h, h1 => by
    have a1 : ¬ nI (A.length - 1) < nI j := nI_nlt (by omega) (by omega)
    have a4 : jin (nI (40 * row + j)) 80 = true := jin_nI (by omega) (by omega)
    have a5 : (nI (40 * row + j)).toNatClampNeg = 40 * row + j := nI_clamp (by omega)
    have e2 : (40 : Int32) * nI row + nI j = nI (40 * row + j) := by
      show nI 40 * nI row + nI j = _
      rw [pk_mul, nI_add]
    have hq : A[j]? = some A[j] := List.getElem?_eq_getElem (by omega)
    have h2 := hA j _ hq
    generalize hx : A[j] = x at hq h2
    have od := o_isData x g
    have ds := dtl_step hq
    by_cases c : isD x
    · rw [jB_t c] at od
      obtain ⟨v, ih⟩ := wd_loop q hrow hA hl l2 l4 n (j + 1) (by omega) (by omega)
      refine ⟨v, ?_⟩
      rw [jB_cg (show A.length - j ≤ dtl A ↔ A.length - (j + 1) ≤ dtl A from ⟨fun z => (ds.mp z).2, fun z => ds.mpr ⟨c, z⟩⟩), ← ih]
      simp only [s134_85 (x := nI j), s134_87, s134_88, s134_91, s134_93, s134_96, s134_97, s134_100, s134_102, s134_103, s134_104, s134_106, s134_107, s134_108, s134_111, s134_113, s134_116, k30 q, k69 q, p30_50 q, a1, a4, a5, e2, h2, od, nI_1, n1, ↓reduceIte, va_rf_s, va_rf_n, jb_some, jb_none, jtl_s, jtl_n, if_true, if_false, true_and, and_true, false_and, and_false, or_true, true_or, or_false, false_or, not_true_eq_false, not_false_eq_true, jk_si, jp_si, jj_si, jk_sj, jp_sj, ji_sj, jk_ci, jp_ci, jj_ci, jk_cj, jp_cj, ji_cj, jlng_n, jlng_i, jlng_r, jlng_0]
    · rw [jB_f c] at od
      refine ⟨nI (j + 1), ?_⟩
      rw [jB_f (fun z => c (ds.mp z).1)]
      by_cases e : j + 1 < A.length
      · have a6 : ¬ nI (A.length - 1) < nI (j + 1) := nI_nlt (by omega) (by omega)
        simp only [s134_85, s134_87, s134_88, s134_91, s134_93, s134_96, s134_97, s134_100, s134_102, s134_103, s134_104, s134_106, s134_107, s134_108, s134_111, s134_113, s134_116, k30 q, k69 q, p30_50 q, a1, a4, a5, a6, e2, h2, od, nI_1, n1, ↓reduceIte, va_rf_s, va_rf_n, jb_some, jb_none, jtl_s, jtl_n, if_true, if_false, true_and, and_true, false_and, and_false, or_true, true_or, or_false, false_or, not_true_eq_false, not_false_eq_true, jk_si, jp_si, jj_si, jk_sj, jp_sj, ji_sj, jk_ci, jp_ci, jj_ci, jk_cj, jp_cj, ji_cj, jlng_n, jlng_i, jlng_r, jlng_0]
      · have a6 : nI (A.length - 1) < nI (j + 1) := nI_lt (by omega) (by omega)
        simp only [s134_85, s134_87, s134_88, s134_91, s134_93, s134_96, s134_97, s134_100, s134_102, s134_103, s134_104, s134_106, s134_107, s134_108, s134_111, s134_113, s134_116, k30 q, k69 q, p30_50 q, a1, a4, a5, a6, e2, h2, od, nI_1, n1, ↓reduceIte, va_rf_s, va_rf_n, jb_some, jb_none, jtl_s, jtl_n, if_true, if_false, true_and, and_true, false_and, and_false, or_true, true_or, or_false, false_or, not_true_eq_false, not_false_eq_true, jk_si, jp_si, jj_si, jk_sj, jp_sj, ji_sj, jk_ci, jp_ci, jj_ci, jk_cj, jp_cj, ji_cj, jlng_n, jlng_i, jlng_r, jlng_0]
/-- flawOf beside why -/
theorem q_flaw {g g' : jH} {w row n c r many : Nat} {A : List Int32} (q : MS g') (hrow : row ≤ 1) (hW : WI g w A) (hn : n ≤ 2) (h52 : ji g' 30 52 = nI n) (hA : row < n → ji g' 70 row = nI A.length ∧ 1 ≤ A.length ∧ ∀ (j : Nat) (x : Int32), A[j]? = some x → ji g' 69 (40 * row + j) = x ∧ HW x) (hc : c < 65536) (hr : aN c = r) (hm : many ≤ 32) : ∃ v, jV 134 0 [some (.ref 30), some (.int (nI row)), some (.int (nI r)), some (.int (nI many)), none, none, none] [] g' = some (some (.int v), g') ∧ (n ≤ row → v = 1) ∧ (row < n → ∀ {P : Nat → Nat → Prop} {h : jH}, Fr P g h → (∀ b k, w ≤ b → b ≤ w + 2 → ¬ P b k) → jV 56 0 [some (.ref w), some (.int (nI c)), some (.int (nI many)), none] [] h = some (some (.int v), h)) ∧ (v = 0 → row < n ∧ JDt A 1 many) := by
  by_cases c0 : row < n
  · obtain ⟨p1, p2, p3⟩ := hA c0
    have hl33 := hW.2.1
    have lt : nI row < nI n := nI_lt c0 (by omega)
    have hq0 : A[0]? = some A[0] := List.getElem?_eq_getElem (by omega)
    have hg0 : A.getD 0 (-1) = A[0] := by rw [List.getD_eq_getElem?_getD, hq0]; rfl
    have h69 := (p3 _ _ hq0).1
    rw [Nat.add_zero] at h69
    generalize A[0] = x at hg0 h69
    have e40 : (40 : Int32) * nI row = nI (40 * row) := by
      show nI 40 * nI row = _
      rw [pk_mul]
    have r4 : jin (nI (40 * row)) 80 = true := jin_nI (by omega) (by omega)
    have r5 : (nI (40 * row)).toNatClampNeg = 40 * row := nI_clamp (by omega)
    have w4 : jin (nI row) 2 = true := jin_nI (by omega) (by omega)
    have w5 : (nI row).toNatClampNeg = row := nI_clamp (by omega)
    have oi := o_isCommand x g'
    have oa := o_addressOf (cw_lt x) g'
    -- the class, anywhere
    have cl : ∀ (v : Int32), ((¬ isC x ∧ v = 2) ∨ (isC x ∧ ¬ aN (cw x) = r ∧ v = 3) ∨ (isC x ∧ aN (cw x) = r ∧ (¬ nI (cw x) &&& 1032 = 0) ∧ v = 4) ∨ (isC x ∧ aN (cw x) = r ∧ nI (cw x) &&& 1032 = 0 ∧ v = (if jB (JDt A 1 many) = 0 then 2 else 0))) → ∀ {P : Nat → Nat → Prop} {h : jH}, Fr P g h → (∀ b k, w ≤ b → b ≤ w + 2 → ¬ P b k) → jV 56 0 [some (.ref w), some (.int (nI c)), some (.int (nI many)), none] [] h = some (some (.int v), h) := by
      intro v hv P h f hp
      have W := hW.fr f hp
      have wc := w_isCommand W (i := 0) (by omega)
      have wb := w_bitsAt W (i := 0) (by omega)
      rw [hg0, show nI 0 = 0 from rfl] at wc wb
      rw [cw_and] at wb
      have na := n_addressOf (cw_lt x) h
      have na2 := n_addressOf hc h
      rw [hr] at na2
      have ER : nI (aN (cw x)) = nI r ↔ aN (cw x) = r := e_eq (aN_lt _) (by rw [← hr]; exact aN_lt c)
      have kw := W.1.1
      rcases hv with ⟨z1, z2⟩ | ⟨z1, z2, z3⟩ | ⟨z1, z2, z3, z4⟩ | ⟨z1, z2, z3, z4⟩
      · rw [jB_f z1] at wc
        subst z2
        simp only [s56_0, s56_1, s56_2, s56_5, s56_8, s56_9, s56_10, s56_11, s56_12, s56_15, s56_16, s56_17, s56_20, s56_21, s56_24, s56_27, s56_28, s56_29, s56_30, s56_33, s56_34, s56_37, s56_38, s56_39, s56_40, s56_41, s56_42, s56_45, s56_48, s56_49, s56_52, s56_53, kw, wc, ↓reduceIte, va_rf_s, va_rf_n, jb_some, jb_none, jtl_s, jtl_n, if_true, if_false, true_and, and_true, false_and, and_false, or_true, true_or, or_false, false_or, not_true_eq_false, not_false_eq_true, jk_si, jp_si, jj_si, jk_sj, jp_sj, ji_sj, jk_ci, jp_ci, jj_ci, jk_cj, jp_cj, ji_cj, jlng_n, jlng_i, jlng_r, jlng_0]
      · rw [jB_t z1] at wc
        subst z3
        simp only [s56_0, s56_1, s56_2, s56_5, s56_8, s56_9, s56_10, s56_11, s56_12, s56_15, s56_16, s56_17, s56_20, s56_21, s56_24, s56_27, s56_28, s56_29, s56_30, s56_33, s56_34, s56_37, s56_38, s56_39, s56_40, s56_41, s56_42, s56_45, s56_48, s56_49, s56_52, s56_53, kw, wc, wb, na, na2, eq_false (fun y => z2 (ER.mp y)), n1, ↓reduceIte, va_rf_s, va_rf_n, jb_some, jb_none, jtl_s, jtl_n, if_true, if_false, true_and, and_true, false_and, and_false, or_true, true_or, or_false, false_or, not_true_eq_false, not_false_eq_true, jk_si, jp_si, jj_si, jk_sj, jp_sj, ji_sj, jk_ci, jp_ci, jj_ci, jk_cj, jp_cj, ji_cj, jlng_n, jlng_i, jlng_r, jlng_0]
      · rw [jB_t z1] at wc
        subst z4
        simp only [s56_0, s56_1, s56_2, s56_5, s56_8, s56_9, s56_10, s56_11, s56_12, s56_15, s56_16, s56_17, s56_20, s56_21, s56_24, s56_27, s56_28, s56_29, s56_30, s56_33, s56_34, s56_37, s56_38, s56_39, s56_40, s56_41, s56_42, s56_45, s56_48, s56_49, s56_52, s56_53, kw, wc, wb, na, na2, eq_true (ER.mpr z2), eq_false z3, n1, ↓reduceIte, va_rf_s, va_rf_n, jb_some, jb_none, jtl_s, jtl_n, if_true, if_false, true_and, and_true, false_and, and_false, or_true, true_or, or_false, false_or, not_true_eq_false, not_false_eq_true, jk_si, jp_si, jj_si, jk_sj, jp_sj, ji_sj, jk_ci, jp_ci, jj_ci, jk_cj, jp_cj, ji_cj, jlng_n, jlng_i, jlng_r, jlng_0]
      · rw [jB_t z1] at wc
        have njd := w_isJustData W (f := 1) p2 (n := many) (by omega)
        rw [show nI 1 = 1 from rfl] at njd
        rw [z4]
        by_cases d : JDt A 1 many
        · rw [jB_t d] at njd ⊢
          rw [if_neg n1]
          simp only [s56_0, s56_1, s56_2, s56_5, s56_8, s56_9, s56_10, s56_11, s56_12, s56_15, s56_16, s56_17, s56_20, s56_21, s56_24, s56_27, s56_28, s56_29, s56_30, s56_33, s56_34, s56_37, s56_38, s56_39, s56_40, s56_41, s56_42, s56_45, s56_48, s56_49, s56_52, s56_53, kw, wc, wb, na, na2, eq_true (ER.mpr z2), eq_true z3, njd, n1, ↓reduceIte, va_rf_s, va_rf_n, jb_some, jb_none, jtl_s, jtl_n, if_true, if_false, true_and, and_true, false_and, and_false, or_true, true_or, or_false, false_or, not_true_eq_false, not_false_eq_true, jk_si, jp_si, jj_si, jk_sj, jp_sj, ji_sj, jk_ci, jp_ci, jj_ci, jk_cj, jp_cj, ji_cj, jlng_n, jlng_i, jlng_r, jlng_0]
        · rw [jB_f d] at njd ⊢
          rw [if_pos rfl]
          simp only [s56_0, s56_1, s56_2, s56_5, s56_8, s56_9, s56_10, s56_11, s56_12, s56_15, s56_16, s56_17, s56_20, s56_21, s56_24, s56_27, s56_28, s56_29, s56_30, s56_33, s56_34, s56_37, s56_38, s56_39, s56_40, s56_41, s56_42, s56_45, s56_48, s56_49, s56_52, s56_53, kw, wc, wb, na, na2, eq_true (ER.mpr z2), eq_true z3, njd, n1, ↓reduceIte, va_rf_s, va_rf_n, jb_some, jb_none, jtl_s, jtl_n, if_true, if_false, true_and, and_true, false_and, and_false, or_true, true_or, or_false, false_or, not_true_eq_false, not_false_eq_true, jk_si, jp_si, jj_si, jk_sj, jp_sj, ji_sj, jk_ci, jp_ci, jj_ci, jk_cj, jp_cj, ji_cj, jlng_n, jlng_i, jlng_r, jlng_0]
    by_cases d1 : isC x
    · rw [jB_t d1] at oi
      by_cases d2 : aN (cw x) = r
      · have z2 := eq_true (show nI (aN (cw x)) = nI r by rw [d2])
        by_cases d3 : nI (cw x) &&& 1032 = 0
        · refine ⟨if jB (JDt A 1 many) = 0 then 2 else 0, ?_, fun z => absurd c0 (by omega), fun _ => cl _ (Or.inr (Or.inr (Or.inr ⟨d1, d2, d3, rfl⟩))), fun z => ⟨c0, ?_⟩⟩
          · have e2 : (1 : Int32) + nI many = nI (1 + many) := nI_add 1 many
            by_cases d4 : A.length = 1 + many
            · obtain ⟨v, hv⟩ := wd_loop q hrow (fun j x hx => (p3 j x hx).1) hl33 (nI r) (nI (cw x)) (A.length - 1) 1 (by omega) (by omega)
              rw [show A.length - 1 = many by omega, show nI 1 = 1 from rfl] at hv
              rw [jB_cg (show JDt A 1 many ↔ many ≤ dtl A from ⟨fun w => w.2, fun w => ⟨by omega, w⟩⟩)]
              have z4 := eq_true (show nI A.length = nI (1 + many) by rw [d4])
              by_cases d5 : many ≤ dtl A
              · rw [jB_t d5] at hv ⊢
                rw [if_neg n1]
                simp only [s134_0, s134_1, s134_2, s134_5, s134_8, s134_9, s134_10, s134_11, s134_14, s134_16, s134_17, s134_18, s134_19, s134_22, s134_25, s134_26, s134_27, s134_28, s134_31, s134_33, s134_34, s134_35, s134_36, s134_38, s134_39, s134_41, s134_43, s134_46, s134_47, s134_50, s134_51, s134_52, s134_54, s134_57, s134_58, s134_61, s134_62, s134_63, s134_64, s134_67, s134_68, s134_69, s134_70, s134_71, s134_72, s134_75, s134_76, s134_79, s134_80, s134_82, s134_83, s134_119, s134_121, s134_124, s134_125, s134_128, s134_129, hv, k30 q, k69 q, k70 q, p30_50 q, p30_51 q, h52, lt, e40, r4, r5, w4, w5, h69, oi, cw_and, oa, z2, d3, p1, e2, z4, n1, ↓reduceIte, va_rf_s, va_rf_n, jb_some, jb_none, jtl_s, jtl_n, if_true, if_false, true_and, and_true, false_and, and_false, or_true, true_or, or_false, false_or, not_true_eq_false, not_false_eq_true, jk_si, jp_si, jj_si, jk_sj, jp_sj, ji_sj, jk_ci, jp_ci, jj_ci, jk_cj, jp_cj, ji_cj, jlng_n, jlng_i, jlng_r, jlng_0]
              · rw [jB_f d5] at hv ⊢
                rw [if_pos rfl]
                simp only [s134_0, s134_1, s134_2, s134_5, s134_8, s134_9, s134_10, s134_11, s134_14, s134_16, s134_17, s134_18, s134_19, s134_22, s134_25, s134_26, s134_27, s134_28, s134_31, s134_33, s134_34, s134_35, s134_36, s134_38, s134_39, s134_41, s134_43, s134_46, s134_47, s134_50, s134_51, s134_52, s134_54, s134_57, s134_58, s134_61, s134_62, s134_63, s134_64, s134_67, s134_68, s134_69, s134_70, s134_71, s134_72, s134_75, s134_76, s134_79, s134_80, s134_82, s134_83, s134_119, s134_121, s134_124, s134_125, s134_128, s134_129, hv, k30 q, k69 q, k70 q, p30_50 q, p30_51 q, h52, lt, e40, r4, r5, w4, w5, h69, oi, cw_and, oa, z2, d3, p1, e2, z4, n1, ↓reduceIte, va_rf_s, va_rf_n, jb_some, jb_none, jtl_s, jtl_n, if_true, if_false, true_and, and_true, false_and, and_false, or_true, true_or, or_false, false_or, not_true_eq_false, not_false_eq_true, jk_si, jp_si, jj_si, jk_sj, jp_sj, ji_sj, jk_ci, jp_ci, jj_ci, jk_cj, jp_cj, ji_cj, jlng_n, jlng_i, jlng_r, jlng_0]
            · rw [jB_f (fun w => d4 (by have := w.1; omega)), if_pos rfl]
              have z4 := eq_false (fun w => d4 ((e_eq (a := A.length) (b := 1 + many) (by omega) (by omega)).mp w))
              by_cases d5 : 1 ≤ many
              · have lt1 : ¬ nI many < 1 := nI_nlt (a := many) (b := 1) (by omega) (by omega)
                simp only [s134_0, s134_1, s134_2, s134_5, s134_8, s134_9, s134_10, s134_11, s134_14, s134_16, s134_17, s134_18, s134_19, s134_22, s134_25, s134_26, s134_27, s134_28, s134_31, s134_33, s134_34, s134_35, s134_36, s134_38, s134_39, s134_41, s134_43, s134_46, s134_47, s134_50, s134_51, s134_52, s134_54, s134_57, s134_58, s134_61, s134_62, s134_63, s134_64, s134_67, s134_68, s134_69, s134_70, s134_71, s134_72, s134_75, s134_76, s134_79, s134_80, s134_82, s134_83, s134_85, s134_87, s134_88, s134_91, s134_93, s134_96, s134_97, s134_100, s134_102, s134_103, s134_104, s134_106, s134_107, s134_108, s134_111, s134_113, s134_116, s134_119, s134_121, s134_124, s134_125, s134_128, s134_129, k30 q, k69 q, k70 q, p30_50 q, p30_51 q, h52, lt, e40, r4, r5, w4, w5, h69, oi, cw_and, oa, z2, d3, p1, e2, z4, lt1, n1, ↓reduceIte, va_rf_s, va_rf_n, jb_some, jb_none, jtl_s, jtl_n, if_true, if_false, true_and, and_true, false_and, and_false, or_true, true_or, or_false, false_or, not_true_eq_false, not_false_eq_true, jk_si, jp_si, jj_si, jk_sj, jp_sj, ji_sj, jk_ci, jp_ci, jj_ci, jk_cj, jp_cj, ji_cj, jlng_n, jlng_i, jlng_r, jlng_0]
              · have lt1 : nI many < 1 := nI_lt (b := 1) (by omega) (by omega)
                simp only [s134_0, s134_1, s134_2, s134_5, s134_8, s134_9, s134_10, s134_11, s134_14, s134_16, s134_17, s134_18, s134_19, s134_22, s134_25, s134_26, s134_27, s134_28, s134_31, s134_33, s134_34, s134_35, s134_36, s134_38, s134_39, s134_41, s134_43, s134_46, s134_47, s134_50, s134_51, s134_52, s134_54, s134_57, s134_58, s134_61, s134_62, s134_63, s134_64, s134_67, s134_68, s134_69, s134_70, s134_71, s134_72, s134_75, s134_76, s134_79, s134_80, s134_82, s134_83, s134_85, s134_87, s134_88, s134_91, s134_93, s134_96, s134_97, s134_100, s134_102, s134_103, s134_104, s134_106, s134_107, s134_108, s134_111, s134_113, s134_116, s134_119, s134_121, s134_124, s134_125, s134_128, s134_129, k30 q, k69 q, k70 q, p30_50 q, p30_51 q, h52, lt, e40, r4, r5, w4, w5, h69, oi, cw_and, oa, z2, d3, p1, e2, z4, lt1, n1, ↓reduceIte, va_rf_s, va_rf_n, jb_some, jb_none, jtl_s, jtl_n, if_true, if_false, true_and, and_true, false_and, and_false, or_true, true_or, or_false, false_or, not_true_eq_false, not_false_eq_true, jk_si, jp_si, jj_si, jk_sj, jp_sj, ji_sj, jk_ci, jp_ci, jj_ci, jk_cj, jp_cj, ji_cj, jlng_n, jlng_i, jlng_r, jlng_0]
          · by_cases d : JDt A 1 many
            · exact d
            · rw [jB_f d, if_pos rfl] at z
              exact absurd z (by decide)
        · refine ⟨4, ?_, fun z => absurd c0 (by omega), fun _ => cl _ (Or.inr (Or.inr (Or.inl ⟨d1, d2, d3, rfl⟩))), fun z => absurd z (by decide)⟩
          simp only [s134_0, s134_1, s134_2, s134_5, s134_8, s134_9, s134_10, s134_11, s134_14, s134_16, s134_17, s134_18, s134_19, s134_22, s134_25, s134_26, s134_27, s134_28, s134_31, s134_33, s134_34, s134_35, s134_36, s134_38, s134_39, s134_41, s134_43, s134_46, s134_47, s134_50, s134_51, s134_52, s134_54, s134_57, s134_58, s134_61, s134_62, k30 q, k69 q, p30_50 q, h52, lt, e40, r4, r5, h69, oi, cw_and, oa, z2, eq_false d3, n1, ↓reduceIte, va_rf_s, va_rf_n, jb_some, jb_none, jtl_s, jtl_n, if_true, if_false, true_and, and_true, false_and, and_false, or_true, true_or, or_false, false_or, not_true_eq_false, not_false_eq_true, jk_si, jp_si, jj_si, jk_sj, jp_sj, ji_sj, jk_ci, jp_ci, jj_ci, jk_cj, jp_cj, ji_cj, jlng_n, jlng_i, jlng_r, jlng_0]
      · refine ⟨3, ?_, fun z => absurd c0 (by omega), fun _ => cl _ (Or.inr (Or.inl ⟨d1, d2, rfl⟩)), fun z => absurd z (by decide)⟩
        have z2 := eq_false (fun y => d2 ((e_eq (aN_lt (cw x)) (by rw [← hr]; exact aN_lt c)).mp y))
        simp only [s134_0, s134_1, s134_2, s134_5, s134_8, s134_9, s134_10, s134_11, s134_14, s134_16, s134_17, s134_18, s134_19, s134_22, s134_25, s134_26, s134_27, s134_28, s134_31, s134_33, s134_34, s134_35, s134_36, s134_38, s134_39, s134_41, s134_43, s134_46, s134_47, s134_50, s134_51, s134_52, s134_54, s134_57, s134_58, s134_61, s134_62, k30 q, k69 q, p30_50 q, h52, lt, e40, r4, r5, h69, oi, cw_and, oa, z2, n1, ↓reduceIte, va_rf_s, va_rf_n, jb_some, jb_none, jtl_s, jtl_n, if_true, if_false, true_and, and_true, false_and, and_false, or_true, true_or, or_false, false_or, not_true_eq_false, not_false_eq_true, jk_si, jp_si, jj_si, jk_sj, jp_sj, ji_sj, jk_ci, jp_ci, jj_ci, jk_cj, jp_cj, ji_cj, jlng_n, jlng_i, jlng_r, jlng_0]
    · refine ⟨2, ?_, fun z => absurd c0 (by omega), fun _ => cl _ (Or.inl ⟨d1, rfl⟩), fun z => absurd z (by decide)⟩
      rw [jB_f d1] at oi
      simp only [s134_0, s134_1, s134_2, s134_5, s134_8, s134_9, s134_10, s134_11, s134_14, s134_16, s134_17, s134_18, s134_19, s134_22, s134_25, s134_26, s134_27, s134_28, s134_31, s134_33, s134_34, s134_35, s134_36, s134_38, s134_39, s134_41, s134_43, s134_46, s134_47, s134_50, s134_51, s134_52, s134_54, s134_57, s134_58, s134_61, s134_62, k30 q, k69 q, p30_50 q, h52, lt, e40, r4, r5, h69, oi, ↓reduceIte, va_rf_s, va_rf_n, jb_some, jb_none, jtl_s, jtl_n, if_true, if_false, true_and, and_true, false_and, and_false, or_true, true_or, or_false, false_or, not_true_eq_false, not_false_eq_true, jk_si, jp_si, jj_si, jk_sj, jp_sj, ji_sj, jk_ci, jp_ci, jj_ci, jk_cj, jp_cj, ji_cj, jlng_n, jlng_i, jlng_r, jlng_0]
  · have lt : ¬ nI row < nI n := nI_nlt (by omega) (by omega)
    refine ⟨1, ?_, fun _ => rfl, fun z => absurd z c0, fun z => absurd z (by decide)⟩
    simp only [s134_0, s134_1, s134_2, s134_5, s134_8, s134_9, k30 q, h52, lt, ↓reduceIte, va_rf_s, va_rf_n, jb_some, jb_none, jtl_s, jtl_n, if_true, if_false, true_and, and_true, false_and, and_false, or_true, true_or, or_false, false_or, not_true_eq_false, not_false_eq_true, jk_si, jp_si, jj_si, jk_sj, jp_sj, ji_sj, jk_ci, jp_ci, jj_ci, jk_cj, jp_cj, ji_cj, jlng_n, jlng_i, jlng_r, jlng_0]
theorem c_awaitsTo {h : jH} {q : Nat} {o : Bool} {tc : Nat} (kq : jk h q = (6, 0)) (h0 : ji h q 0 = if o then nI tc else -1) (hc : tc < 65536) : jV 55 0 [some (.ref q)] [] h = some (some (.int (jB (o = true ∧ ¬ aN tc = 31))), h) := by
  have E31 : nI (aN tc) = 31 ↔ aN tc = 31 := e_eq (b := 31) (aN_lt _) (by omega)
  have ne : ¬ nI tc = -1 := fun z => absurd (z ▸ (by decide) : nI tc < 0) (nI_pos (by omega))
  have na := n_addressOf hc h
  cases o
  · simp only [Bool.false_eq_true, if_false] at h0
    rw [jB_f (fun z => absurd z.1 (by decide))]
    simp only [s55_0, s55_1, s55_4, s55_5, s55_8, s55_9, s55_12, s55_15, s55_17, s55_20, s55_21, s55_24, s55_25, kq, h0, ↓reduceIte, va_rf_s, va_rf_n, jb_some, jb_none, jtl_s, jtl_n, if_true, if_false, true_and, and_true, false_and, and_false, or_true, true_or, or_false, false_or, not_true_eq_false, not_false_eq_true, jk_si, jp_si, jj_si, jk_sj, jp_sj, ji_sj, jk_ci, jp_ci, jj_ci, jk_cj, jp_cj, ji_cj, jlng_n, jlng_i, jlng_r, jlng_0]
  · simp only [if_true] at h0
    by_cases c : aN tc = 31
    · rw [jB_f (fun z => z.2 c)]
      simp only [s55_0, s55_1, s55_4, s55_5, s55_8, s55_9, s55_12, s55_15, s55_17, s55_20, s55_21, s55_24, s55_25, kq, h0, ne, na, eq_true (E31.mpr c), ↓reduceIte, va_rf_s, va_rf_n, jb_some, jb_none, jtl_s, jtl_n, if_true, if_false, true_and, and_true, false_and, and_false, or_true, true_or, or_false, false_or, not_true_eq_false, not_false_eq_true, jk_si, jp_si, jj_si, jk_sj, jp_sj, ji_sj, jk_ci, jp_ci, jj_ci, jk_cj, jp_cj, ji_cj, jlng_n, jlng_i, jlng_r, jlng_0]
    · rw [jB_t ⟨rfl, c⟩]
      simp only [s55_0, s55_1, s55_4, s55_5, s55_8, s55_9, s55_12, s55_15, s55_17, s55_20, s55_21, s55_24, s55_25, kq, h0, ne, na, eq_false (fun z => c (E31.mp z)), ↓reduceIte, va_rf_s, va_rf_n, jb_some, jb_none, jtl_s, jtl_n, if_true, if_false, true_and, and_true, false_and, and_false, or_true, true_or, or_false, false_or, not_true_eq_false, not_false_eq_true, jk_si, jp_si, jj_si, jk_sj, jp_sj, ji_sj, jk_ci, jp_ci, jj_ci, jk_cj, jp_cj, ji_cj, jlng_n, jlng_i, jlng_r, jlng_0]
/-- how many answers are awaited -/
def aw (of ot : Bool) (tc : Nat) : Nat := (if of then 1 else 0) + (if ot = true ∧ ¬ aN tc = 31 then 1 else 0)
theorem c_awaited {h : jH} {q : Nat} {of ot : Bool} {tc fc : Nat} (kq : jk h q = (6, 0)) (h0 : ji h q 0 = if ot then nI tc else -1) (h1 : ji h q 1 = if of then nI fc else -1) (hc : tc < 65536) (hf : fc < 65536) : jV 52 0 [some (.ref q)] [] h = some (some (.int (nI (aw of ot tc))), h) := by
  have ne : ¬ nI fc = -1 := fun z => absurd (z ▸ (by decide) : nI fc < 0) (nI_pos (by omega))
  have at' := c_awaitsTo kq h0 hc
  unfold aw
  cases of
  · simp only [Bool.false_eq_true, if_false] at h1 ⊢
    by_cases c : ot = true ∧ ¬ aN tc = 31
    · rw [jB_t c] at at'
      rw [if_pos c]
      simp only [s52_0, s52_1, s52_4, s52_5, s52_8, s52_9, s52_12, s52_13, s52_14, s52_17, s52_20, s52_21, s52_24, s52_25, s52_26, kq, h1, at', n1, ↓reduceIte, va_rf_s, va_rf_n, jb_some, jb_none, jtl_s, jtl_n, if_true, if_false, true_and, and_true, false_and, and_false, or_true, true_or, or_false, false_or, not_true_eq_false, not_false_eq_true, jk_si, jp_si, jj_si, jk_sj, jp_sj, ji_sj, jk_ci, jp_ci, jj_ci, jk_cj, jp_cj, ji_cj, jlng_n, jlng_i, jlng_r, jlng_0]
      rfl
    · rw [jB_f c] at at'
      rw [if_neg c]
      simp only [s52_0, s52_1, s52_4, s52_5, s52_8, s52_9, s52_12, s52_13, s52_14, s52_17, s52_20, s52_21, s52_24, s52_25, s52_26, kq, h1, at', ↓reduceIte, va_rf_s, va_rf_n, jb_some, jb_none, jtl_s, jtl_n, if_true, if_false, true_and, and_true, false_and, and_false, or_true, true_or, or_false, false_or, not_true_eq_false, not_false_eq_true, jk_si, jp_si, jj_si, jk_sj, jp_sj, ji_sj, jk_ci, jp_ci, jj_ci, jk_cj, jp_cj, ji_cj, jlng_n, jlng_i, jlng_r, jlng_0]
      rfl
  · simp only [if_true] at h1 ⊢
    by_cases c : ot = true ∧ ¬ aN tc = 31
    · rw [jB_t c] at at'
      rw [if_pos c]
      simp only [s52_0, s52_1, s52_4, s52_5, s52_8, s52_9, s52_12, s52_13, s52_14, s52_17, s52_20, s52_21, s52_24, s52_25, s52_26, kq, h1, ne, at', n1, ↓reduceIte, va_rf_s, va_rf_n, jb_some, jb_none, jtl_s, jtl_n, if_true, if_false, true_and, and_true, false_and, and_false, or_true, true_or, or_false, false_or, not_true_eq_false, not_false_eq_true, jk_si, jp_si, jj_si, jk_sj, jp_sj, ji_sj, jk_ci, jp_ci, jj_ci, jk_cj, jp_cj, ji_cj, jlng_n, jlng_i, jlng_r, jlng_0]
      rfl
    · rw [jB_f c] at at'
      rw [if_neg c]
      simp only [s52_0, s52_1, s52_4, s52_5, s52_8, s52_9, s52_12, s52_13, s52_14, s52_17, s52_20, s52_21, s52_24, s52_25, s52_26, kq, h1, ne, at', ↓reduceIte, va_rf_s, va_rf_n, jb_some, jb_none, jtl_s, jtl_n, if_true, if_false, true_and, and_true, false_and, and_false, or_true, true_or, or_false, false_or, not_true_eq_false, not_false_eq_true, jk_si, jp_si, jj_si, jk_sj, jp_sj, ji_sj, jk_ci, jp_ci, jj_ci, jk_cj, jp_cj, ji_cj, jlng_n, jlng_i, jlng_r, jlng_0]
      rfl
