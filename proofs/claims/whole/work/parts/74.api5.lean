/-! THE CALLS on a terminal: bars, mutes -/
theorem b2_bit (c : Prop) [Decidable c] : (if c then (1 : Int32) else 0) ∈ B2 := by
  by_cases h : c
  · rw [if_pos h]; exact B2_1
  · rw [if_neg h]; exact B2_0
theorem p_bar (x s y o : Int32) (hs : s = 0 ∨ s = 1) (ho : o = 0 ∨ o = 1) : PR DD 73 147 [some (.ref 1), some (.int x), some (.int s), some (.int y), some (.int o), none, none] [some (.ref 30), some (.int x), some (.int s), some (.int y), some (.int o), none, none] := by
  intro B g g' hR hB
  obtain ⟨hA, h4, hL, T, F, N, r, ⟨tT, tF, tr, tN⟩, ⟨a1, a2⟩, ⟨b1, b2⟩, ⟨c1, c2⟩, ⟨d1, d2⟩, hF, hT⟩ := id hR; obtain ⟨qc, qm, hRl, hS, hb, hw⟩ := id hA
  have p1 := c_isPlace y g
  have p2 := c_isIn y 1 30 g'
  rcases q_term qc qm hS x with ⟨a, t, ha, rfl, hp, hM, ht1, ht2⟩ | ⟨ht1, ht2⟩
  · obtain ⟨ht, hsc, hMu, hBa, hPl⟩ := id hM
    obtain ⟨ht74, kt, pt2, pt3, kt1, pt10, pt11, kt2, kt3⟩ := id ht
    by_cases q1 : ¬ y < 1 ∧ ¬ 30 < y
    · rw [jB_t q1] at p1 p2
      obtain ⟨p, hp1, hp30, rfl⟩ := rng1 (M := 30) (n := 30) rfl q1
      obtain ⟨⟨g1, g2⟩, ⟨s1, s2⟩⟩ := hBa p hp1 hp30
      have nb : ∀ (v : Int32) (q : Nat), 1 ≤ q → q ≤ 30 → o = 0 ∨ o = 1 → (((if o = 0 then v &&& (((1 : Int32) <<< (nI p &&& 31)) ^^^ (-1)) else v ||| ((1 : Int32) <<< (nI p &&& 31))) >>> (nI q &&& 31)) &&& 1 = if q = p then o else (v >>> (nI q &&& 31)) &&& 1) := by
        intro v q hq1 hq30 ho
        rw [bit_v _ (show q < 32 by omega), bit_v v (show q < 32 by omega)]
        rcases ho with rfl | rfl
        · rw [if_pos rfl, bit_off v (show p < 32 by omega) (show q < 32 by omega)]
          by_cases d : q = p
          · rw [if_pos d, if_pos d, if_neg (by decide)]
          · rw [if_neg d, if_neg d]
        · rw [if_neg n1, bit_on v (show p < 32 by omega) (show q < 32 by omega)]
          by_cases d : q = p
          · rw [if_pos d, if_pos d, if_pos rfl]
          · rw [if_neg d, if_neg d]
      have oB : o ∈ B2 := by rcases ho with rfl | rfl <;> decide
      have hob : o = 0 ∨ o = 1 := ho
      rcases hs with rfl | rfl
      · -- to get
        have e1 : (62 : Int32) * nI a + 0 + nI p = nI (62 * a + p) := by
          rw [Int32.add_zero]
          show nI 62 * nI a + nI p = _
          rw [pk_mul, nI_add]
        have j4 : jin (nI (62 * a + p)) 1922 = true := jin_nI (by omega) (by omega)
        have j5 : (nI (62 * a + p)).toNatClampNeg = 62 * a + p := nI_clamp (by omega)
        have f : Fr (fun b k => b = t + 1 ∧ k = 2) g (jsi g (t + 1) 2 (if o = 0 then ji g (t + 1) 2 &&& (((1 : Int32) <<< (nI p &&& 31)) ^^^ (-1)) else ji g (t + 1) 2 ||| ((1 : Int32) <<< (nI p &&& 31)))) := (Fr.refl g).si ⟨rfl, rfl⟩
        have f' : Fr (fun b k => b = 37 ∧ k = 62 * a + p) g' (jsi g' 37 (62 * a + p) o) := (Fr.refl g').si ⟨rfl, rfl⟩
        have hT1 : TM B (jsi g (t + 1) 2 (if o = 0 then ji g (t + 1) 2 &&& (((1 : Int32) <<< (nI p &&& 31)) ^^^ (-1)) else ji g (t + 1) 2 ||| ((1 : Int32) <<< (nI p &&& 31)))) (jsi g' 37 (62 * a + p) o) a t := by
          refine ⟨ht.fr f, ?_, hMu.fr f f' (by omega) (fun c k z1 z2 => by omega) (by omega) (by omega) (fun i hi => by omega), ?_, hPl.fr f f' (fun c k z => by omega) (fun c k z z1 z2 => by omega)⟩
          · rw [tv_fr f (fun k => by omega), mv_no (by omega)]
            exact hsc
          · intro q hq1 hq30
            obtain ⟨⟨u1, u2⟩, ⟨u3, u4⟩⟩ := hBa q hq1 hq30
            refine ⟨?_, by rw [f.i (by omega), f'.i (by omega)]; exact ⟨u3, u4⟩⟩
            have c0 : ji (jsi g (t + 1) 2 (if o = 0 then ji g (t + 1) 2 &&& (((1 : Int32) <<< (nI p &&& 31)) ^^^ (-1)) else ji g (t + 1) 2 ||| ((1 : Int32) <<< (nI p &&& 31)))) (t + 1) 2 = (if o = 0 then ji g (t + 1) 2 &&& (((1 : Int32) <<< (nI p &&& 31)) ^^^ (-1)) else ji g (t + 1) 2 ||| ((1 : Int32) <<< (nI p &&& 31))) := by rw [ji_si, if_pos ⟨rfl, rfl⟩]
            rw [c0, nb _ q hq1 hq30 hob, ji_si]
            by_cases d : q = p
            · rw [if_pos ⟨rfl, by omega⟩, if_pos d]
              exact ⟨oB, rfl⟩
            · rw [if_neg (by omega), if_neg d]
              exact ⟨u1, u2⟩
        have cib : jV 22 0 [some (.ref (t + 1)), some (.int 0), some (.int (nI p))] [] g = some (some (.int (ji g' 37 (62 * a + p))), g) := by
          rcases in_B2 g1 with z | z
          · rw [z] at g2 ⊢
            simp only [s22_0, s22_1, s22_4, s22_5, s22_8, s22_11, s22_12, s22_15, s22_16, s22_17, s22_18, s22_19, s22_20, s22_23, s22_24, s22_27, s22_28, kt1, g2, eq_false (show ¬ (0 : Int32) = 1 by decide), ↓reduceIte, va_rf_s, va_rf_n, jb_some, jb_none, jtl_s, jtl_n, if_true, if_false, true_and, and_true, false_and, and_false, or_true, true_or, or_false, false_or, not_true_eq_false, not_false_eq_true, jk_si, jp_si, jj_si, jk_sj, jp_sj, ji_sj, jk_ci, jp_ci, jj_ci, jk_cj, jp_cj, ji_cj, jlng_n, jlng_i, jlng_r, jlng_0]
          · rw [z] at g2 ⊢
            simp only [s22_0, s22_1, s22_4, s22_5, s22_8, s22_11, s22_12, s22_15, s22_16, s22_17, s22_18, s22_19, s22_20, s22_23, s22_24, s22_27, s22_28, kt1, g2, ↓reduceIte, va_rf_s, va_rf_n, jb_some, jb_none, jtl_s, jtl_n, if_true, if_false, true_and, and_true, false_and, and_false, or_true, true_or, or_false, false_or, not_true_eq_false, not_false_eq_true, jk_si, jp_si, jj_si, jk_sj, jp_sj, ji_sj, jk_ci, jp_ci, jj_ci, jk_cj, jp_cj, ji_cj, jlng_n, jlng_i, jlng_r, jlng_0]
        have csb : jV 23 0 [some (.ref (t + 1)), some (.int 0), some (.int (nI p)), some (.int o)] [] g = some (none, jsi g (t + 1) 2 (if o = 0 then ji g (t + 1) 2 &&& (((1 : Int32) <<< (nI p &&& 31)) ^^^ (-1)) else ji g (t + 1) 2 ||| ((1 : Int32) <<< (nI p &&& 31)))) := by
          simp only [s23_0, s23_1, s23_4, s23_5, s23_6, s23_9, s23_10, s23_11, s23_14, s23_17, s23_20, s23_21, s23_22, s23_25, s23_26, s23_27, s23_30, s23_33, kt1, c_withBit, ↓reduceIte, va_rf_s, va_rf_n, jb_some, jb_none, jtl_s, jtl_n, if_true, if_false, true_and, and_true, false_and, and_false, or_true, true_or, or_false, false_or, not_true_eq_false, not_false_eq_true, jk_si, jp_si, jj_si, jk_sj, jp_sj, ji_sj, jk_ci, jp_ci, jj_ci, jk_cj, jp_cj, ji_cj, jlng_n, jlng_i, jlng_r, jlng_0]
        refine pr_fr (.int (ji g' 37 (62 * a + p))) hB ?_ ?_ ((hR.tm ha hp f f' (fun b k z => ⟨by omega, by omega⟩) (fun b k z => Or.inr (Or.inr (Or.inr (Or.inl ⟨z.1, by omega, by omega⟩)))) hT1).mono (Nat.le_add_right _ _) hB) f f' (fun b k z => by omega) (fun b k z => by omega)
        · rcases in_B2 g1 with z | z
          · rw [z] at cib ⊢
            simp only [s73_0, s73_1, s73_4, s73_5, s73_8, s73_8n, s73_10, s73_10n, s73_12, s73_12n, s73_15, s73_16, s73_19, s73_22, s73_23, s73_24, s73_24n, s73_26, s73_29, s73_30, s73_31, s73_34, s73_37, s73_38, s73_41, s73_42, s73_44, s73_44n, s73_46, s73_49, s73_50, s73_51, s73_53, s73_56, s73_58, k1 qc, k10 qc, p1_1 qc, ht1, p1, n1, kt, pt2, kt1, cib, csb, s73_42 (hq := jlng_r t), ↓reduceIte, va_rf_s, va_rf_n, jb_some, jb_none, jtl_s, jtl_n, if_true, if_false, true_and, and_true, false_and, and_false, or_true, true_or, or_false, false_or, not_true_eq_false, not_false_eq_true, jk_si, jp_si, jj_si, jk_sj, jp_sj, ji_sj, jk_ci, jp_ci, jj_ci, jk_cj, jp_cj, ji_cj, jlng_n, jlng_i, jlng_r, jlng_0]
          · rw [z] at cib ⊢
            simp only [s73_0, s73_1, s73_4, s73_5, s73_8, s73_8n, s73_10, s73_10n, s73_12, s73_12n, s73_15, s73_16, s73_19, s73_22, s73_23, s73_24, s73_24n, s73_26, s73_29, s73_30, s73_31, s73_34, s73_37, s73_38, s73_41, s73_42, s73_44, s73_44n, s73_46, s73_49, s73_50, s73_51, s73_53, s73_56, s73_58, k1 qc, k10 qc, p1_1 qc, ht1, p1, n1, kt, pt2, kt1, cib, csb, s73_42 (hq := jlng_r t), ↓reduceIte, va_rf_s, va_rf_n, jb_some, jb_none, jtl_s, jtl_n, if_true, if_false, true_and, and_true, false_and, and_false, or_true, true_or, or_false, false_or, not_true_eq_false, not_false_eq_true, jk_si, jp_si, jj_si, jk_sj, jp_sj, ji_sj, jk_ci, jp_ci, jj_ci, jk_cj, jp_cj, ji_cj, jlng_n, jlng_i, jlng_r, jlng_0]
        · rcases in_B2 g1 with z | z
          · rw [z]
            simp only [s147_0, s147_1, s147_2, s147_5, s147_8, s147_9, s147_10, s147_12, s147_15, s147_18, s147_19, s147_20, s147_22, s147_23, s147_24, s147_25, s147_28, s147_30, s147_33, s147_34, s147_35, s147_36, s147_37, s147_39, s147_40, s147_43, s147_45, s147_46, s147_49, s147_50, s147_53, s147_54, s147_56, s147_57, s147_60, s147_62, s147_64, s147_65, s147_67, k30 qm, k37 qm, p30_6 qm, ht2, p2, n1, e1, j4, j5, z, eq_true hob, ↓reduceIte, va_rf_s, va_rf_n, jb_some, jb_none, jtl_s, jtl_n, if_true, if_false, true_and, and_true, false_and, and_false, or_true, true_or, or_false, false_or, not_true_eq_false, not_false_eq_true, jk_si, jp_si, jj_si, jk_sj, jp_sj, ji_sj, jk_ci, jp_ci, jj_ci, jk_cj, jp_cj, ji_cj, jlng_n, jlng_i, jlng_r, jlng_0]
          · rw [z]
            simp only [s147_0, s147_1, s147_2, s147_5, s147_8, s147_9, s147_10, s147_12, s147_15, s147_18, s147_19, s147_20, s147_22, s147_23, s147_24, s147_25, s147_28, s147_30, s147_33, s147_34, s147_35, s147_36, s147_37, s147_39, s147_40, s147_43, s147_45, s147_46, s147_49, s147_50, s147_53, s147_54, s147_56, s147_57, s147_60, s147_62, s147_64, s147_65, s147_67, k30 qm, k37 qm, p30_6 qm, ht2, p2, n1, e1, j4, j5, z, eq_true hob, ↓reduceIte, va_rf_s, va_rf_n, jb_some, jb_none, jtl_s, jtl_n, if_true, if_false, true_and, and_true, false_and, and_false, or_true, true_or, or_false, false_or, not_true_eq_false, not_false_eq_true, jk_si, jp_si, jj_si, jk_sj, jp_sj, ji_sj, jk_ci, jp_ci, jj_ci, jk_cj, jp_cj, ji_cj, jlng_n, jlng_i, jlng_r, jlng_0]
      · -- to send
        have e1 : (62 : Int32) * nI a + 31 + nI p = nI (62 * a + 31 + p) := by
          show nI 62 * nI a + nI 31 + nI p = _
          rw [pk_mul, nI_add, nI_add]
        have j4 : jin (nI (62 * a + 31 + p)) 1922 = true := jin_nI (by omega) (by omega)
        have j5 : (nI (62 * a + 31 + p)).toNatClampNeg = 62 * a + 31 + p := nI_clamp (by omega)
        have f : Fr (fun b k => b = t + 1 ∧ k = 3) g (jsi g (t + 1) 3 (if o = 0 then ji g (t + 1) 3 &&& (((1 : Int32) <<< (nI p &&& 31)) ^^^ (-1)) else ji g (t + 1) 3 ||| ((1 : Int32) <<< (nI p &&& 31)))) := (Fr.refl g).si ⟨rfl, rfl⟩
        have f' : Fr (fun b k => b = 37 ∧ k = 62 * a + 31 + p) g' (jsi g' 37 (62 * a + 31 + p) o) := (Fr.refl g').si ⟨rfl, rfl⟩
        have hT1 : TM B (jsi g (t + 1) 3 (if o = 0 then ji g (t + 1) 3 &&& (((1 : Int32) <<< (nI p &&& 31)) ^^^ (-1)) else ji g (t + 1) 3 ||| ((1 : Int32) <<< (nI p &&& 31)))) (jsi g' 37 (62 * a + 31 + p) o) a t := by
          refine ⟨ht.fr f, ?_, hMu.fr f f' (by omega) (fun c k z1 z2 => by omega) (by omega) (by omega) (fun i hi => by omega), ?_, hPl.fr f f' (fun c k z => by omega) (fun c k z z1 z2 => by omega)⟩
          · rw [tv_fr f (fun k => by omega), mv_no (by omega)]
            exact hsc
          · intro q hq1 hq30
            obtain ⟨⟨u1, u2⟩, ⟨u3, u4⟩⟩ := hBa q hq1 hq30
            refine ⟨by rw [f.i (by omega), f'.i (by omega)]; exact ⟨u1, u2⟩, ?_⟩
            have c0 : ji (jsi g (t + 1) 3 (if o = 0 then ji g (t + 1) 3 &&& (((1 : Int32) <<< (nI p &&& 31)) ^^^ (-1)) else ji g (t + 1) 3 ||| ((1 : Int32) <<< (nI p &&& 31)))) (t + 1) 3 = (if o = 0 then ji g (t + 1) 3 &&& (((1 : Int32) <<< (nI p &&& 31)) ^^^ (-1)) else ji g (t + 1) 3 ||| ((1 : Int32) <<< (nI p &&& 31))) := by rw [ji_si, if_pos ⟨rfl, rfl⟩]
            rw [c0, nb _ q hq1 hq30 hob, ji_si]
            by_cases d : q = p
            · rw [if_pos ⟨rfl, by omega⟩, if_pos d]
              exact ⟨oB, rfl⟩
            · rw [if_neg (by omega), if_neg d]
              exact ⟨u3, u4⟩
        have cib : jV 22 0 [some (.ref (t + 1)), some (.int 1), some (.int (nI p))] [] g = some (some (.int (ji g' 37 (62 * a + 31 + p))), g) := by
          rcases in_B2 s1 with z | z
          · rw [z] at s2 ⊢
            simp only [s22_0, s22_1, s22_4, s22_5, s22_8, s22_11, s22_12, s22_15, s22_16, s22_17, s22_18, s22_19, s22_20, s22_23, s22_24, s22_27, s22_28, kt1, s2, n1, eq_false (show ¬ (0 : Int32) = 1 by decide), ↓reduceIte, va_rf_s, va_rf_n, jb_some, jb_none, jtl_s, jtl_n, if_true, if_false, true_and, and_true, false_and, and_false, or_true, true_or, or_false, false_or, not_true_eq_false, not_false_eq_true, jk_si, jp_si, jj_si, jk_sj, jp_sj, ji_sj, jk_ci, jp_ci, jj_ci, jk_cj, jp_cj, ji_cj, jlng_n, jlng_i, jlng_r, jlng_0]
          · rw [z] at s2 ⊢
            simp only [s22_0, s22_1, s22_4, s22_5, s22_8, s22_11, s22_12, s22_15, s22_16, s22_17, s22_18, s22_19, s22_20, s22_23, s22_24, s22_27, s22_28, kt1, s2, n1, ↓reduceIte, va_rf_s, va_rf_n, jb_some, jb_none, jtl_s, jtl_n, if_true, if_false, true_and, and_true, false_and, and_false, or_true, true_or, or_false, false_or, not_true_eq_false, not_false_eq_true, jk_si, jp_si, jj_si, jk_sj, jp_sj, ji_sj, jk_ci, jp_ci, jj_ci, jk_cj, jp_cj, ji_cj, jlng_n, jlng_i, jlng_r, jlng_0]
        have csb : jV 23 0 [some (.ref (t + 1)), some (.int 1), some (.int (nI p)), some (.int o)] [] g = some (none, jsi g (t + 1) 3 (if o = 0 then ji g (t + 1) 3 &&& (((1 : Int32) <<< (nI p &&& 31)) ^^^ (-1)) else ji g (t + 1) 3 ||| ((1 : Int32) <<< (nI p &&& 31)))) := by
          simp only [s23_0, s23_1, s23_4, s23_5, s23_6, s23_9, s23_10, s23_11, s23_14, s23_17, s23_20, s23_21, s23_22, s23_25, s23_26, s23_27, s23_30, s23_33, kt1, c_withBit, n1, ↓reduceIte, va_rf_s, va_rf_n, jb_some, jb_none, jtl_s, jtl_n, if_true, if_false, true_and, and_true, false_and, and_false, or_true, true_or, or_false, false_or, not_true_eq_false, not_false_eq_true, jk_si, jp_si, jj_si, jk_sj, jp_sj, ji_sj, jk_ci, jp_ci, jj_ci, jk_cj, jp_cj, ji_cj, jlng_n, jlng_i, jlng_r, jlng_0]
        refine pr_fr (.int (ji g' 37 (62 * a + 31 + p))) hB ?_ ?_ ((hR.tm ha hp f f' (fun b k z => ⟨by omega, by omega⟩) (fun b k z => Or.inr (Or.inr (Or.inr (Or.inl ⟨z.1, by omega, by omega⟩)))) hT1).mono (Nat.le_add_right _ _) hB) f f' (fun b k z => by omega) (fun b k z => by omega)
        · rcases in_B2 s1 with z | z
          · rw [z] at cib ⊢
            simp only [s73_0, s73_1, s73_4, s73_5, s73_8, s73_8n, s73_10, s73_10n, s73_12, s73_12n, s73_15, s73_16, s73_19, s73_22, s73_23, s73_24, s73_24n, s73_26, s73_29, s73_30, s73_31, s73_34, s73_37, s73_38, s73_41, s73_42, s73_44, s73_44n, s73_46, s73_49, s73_50, s73_51, s73_53, s73_56, s73_58, k1 qc, k10 qc, p1_1 qc, ht1, p1, n1, kt, pt2, kt1, cib, csb, s73_42 (hq := jlng_r t), ↓reduceIte, va_rf_s, va_rf_n, jb_some, jb_none, jtl_s, jtl_n, if_true, if_false, true_and, and_true, false_and, and_false, or_true, true_or, or_false, false_or, not_true_eq_false, not_false_eq_true, jk_si, jp_si, jj_si, jk_sj, jp_sj, ji_sj, jk_ci, jp_ci, jj_ci, jk_cj, jp_cj, ji_cj, jlng_n, jlng_i, jlng_r, jlng_0]
          · rw [z] at cib ⊢
            simp only [s73_0, s73_1, s73_4, s73_5, s73_8, s73_8n, s73_10, s73_10n, s73_12, s73_12n, s73_15, s73_16, s73_19, s73_22, s73_23, s73_24, s73_24n, s73_26, s73_29, s73_30, s73_31, s73_34, s73_37, s73_38, s73_41, s73_42, s73_44, s73_44n, s73_46, s73_49, s73_50, s73_51, s73_53, s73_56, s73_58, k1 qc, k10 qc, p1_1 qc, ht1, p1, n1, kt, pt2, kt1, cib, csb, s73_42 (hq := jlng_r t), ↓reduceIte, va_rf_s, va_rf_n, jb_some, jb_none, jtl_s, jtl_n, if_true, if_false, true_and, and_true, false_and, and_false, or_true, true_or, or_false, false_or, not_true_eq_false, not_false_eq_true, jk_si, jp_si, jj_si, jk_sj, jp_sj, ji_sj, jk_ci, jp_ci, jj_ci, jk_cj, jp_cj, ji_cj, jlng_n, jlng_i, jlng_r, jlng_0]
        · rcases in_B2 s1 with z | z
          · rw [z]
            simp only [s147_0, s147_1, s147_2, s147_5, s147_8, s147_9, s147_10, s147_12, s147_15, s147_18, s147_19, s147_20, s147_22, s147_23, s147_24, s147_25, s147_28, s147_30, s147_33, s147_34, s147_35, s147_36, s147_37, s147_39, s147_40, s147_43, s147_45, s147_46, s147_49, s147_50, s147_53, s147_54, s147_56, s147_57, s147_60, s147_62, s147_64, s147_65, s147_67, k30 qm, k37 qm, p30_6 qm, ht2, p2, n1, e1, j4, j5, z, eq_true hob, ↓reduceIte, va_rf_s, va_rf_n, jb_some, jb_none, jtl_s, jtl_n, if_true, if_false, true_and, and_true, false_and, and_false, or_true, true_or, or_false, false_or, not_true_eq_false, not_false_eq_true, jk_si, jp_si, jj_si, jk_sj, jp_sj, ji_sj, jk_ci, jp_ci, jj_ci, jk_cj, jp_cj, ji_cj, jlng_n, jlng_i, jlng_r, jlng_0]
          · rw [z]
            simp only [s147_0, s147_1, s147_2, s147_5, s147_8, s147_9, s147_10, s147_12, s147_15, s147_18, s147_19, s147_20, s147_22, s147_23, s147_24, s147_25, s147_28, s147_30, s147_33, s147_34, s147_35, s147_36, s147_37, s147_39, s147_40, s147_43, s147_45, s147_46, s147_49, s147_50, s147_53, s147_54, s147_56, s147_57, s147_60, s147_62, s147_64, s147_65, s147_67, k30 qm, k37 qm, p30_6 qm, ht2, p2, n1, e1, j4, j5, z, eq_true hob, ↓reduceIte, va_rf_s, va_rf_n, jb_some, jb_none, jtl_s, jtl_n, if_true, if_false, true_and, and_true, false_and, and_false, or_true, true_or, or_false, false_or, not_true_eq_false, not_false_eq_true, jk_si, jp_si, jj_si, jk_sj, jp_sj, ji_sj, jk_ci, jp_ci, jj_ci, jk_cj, jp_cj, ji_cj, jlng_n, jlng_i, jlng_r, jlng_0]
    · rw [jB_f q1] at p1 p2
      refine pr_id (.int (-1)) hB hR ?_ ?_
      · simp only [s73_0, s73_1, s73_4, s73_5, s73_8, s73_8n, s73_10, s73_10n, s73_12, s73_12n, s73_15, s73_16, s73_19, s73_22, s73_23, s73_24, s73_24n, s73_26, s73_29, s73_30, s73_31, s73_34, s73_37, s73_38, s73_41, s73_42, s73_44, s73_44n, s73_46, s73_49, s73_50, s73_51, s73_53, s73_56, s73_58, k1 qc, k10 qc, p1_1 qc, ht1, p1, ↓reduceIte, va_rf_s, va_rf_n, jb_some, jb_none, jtl_s, jtl_n, if_true, if_false, true_and, and_true, false_and, and_false, or_true, true_or, or_false, false_or, not_true_eq_false, not_false_eq_true, jk_si, jp_si, jj_si, jk_sj, jp_sj, ji_sj, jk_ci, jp_ci, jj_ci, jk_cj, jp_cj, ji_cj, jlng_n, jlng_i, jlng_r, jlng_0]
      · simp only [s147_0, s147_1, s147_2, s147_5, s147_8, s147_9, s147_10, s147_12, s147_15, s147_18, s147_19, s147_20, s147_22, s147_23, s147_24, s147_25, s147_28, s147_30, s147_33, s147_34, s147_35, s147_36, s147_37, s147_39, s147_40, s147_43, s147_45, s147_46, s147_49, s147_50, s147_53, s147_54, s147_56, s147_57, s147_60, s147_62, s147_64, s147_65, s147_67, k30 qm, ht2, p2, n1, ↓reduceIte, va_rf_s, va_rf_n, jb_some, jb_none, jtl_s, jtl_n, if_true, if_false, true_and, and_true, false_and, and_false, or_true, true_or, or_false, false_or, not_true_eq_false, not_false_eq_true, jk_si, jp_si, jj_si, jk_sj, jp_sj, ji_sj, jk_ci, jp_ci, jj_ci, jk_cj, jp_cj, ji_cj, jlng_n, jlng_i, jlng_r, jlng_0]
  · refine pr_id (.int (-1)) hB hR ?_ ?_
    · simp only [s73_0, s73_1, s73_4, s73_5, s73_8, s73_8n, s73_10, s73_10n, s73_12, s73_12n, s73_15, s73_16, s73_19, s73_22, s73_23, s73_24, s73_24n, s73_26, s73_29, s73_30, s73_31, s73_34, s73_37, s73_38, s73_41, s73_42, s73_44, s73_44n, s73_46, s73_49, s73_50, s73_51, s73_53, s73_56, s73_58, k1 qc, k10 qc, p1_1 qc, ht1, ↓reduceIte, va_rf_s, va_rf_n, jb_some, jb_none, jtl_s, jtl_n, if_true, if_false, true_and, and_true, false_and, and_false, or_true, true_or, or_false, false_or, not_true_eq_false, not_false_eq_true, jk_si, jp_si, jj_si, jk_sj, jp_sj, ji_sj, jk_ci, jp_ci, jj_ci, jk_cj, jp_cj, ji_cj, jlng_n, jlng_i, jlng_r, jlng_0]
    · simp only [s147_0, s147_1, s147_2, s147_5, s147_8, s147_9, s147_10, s147_12, s147_15, s147_18, s147_19, s147_20, s147_22, s147_23, s147_24, s147_25, s147_28, s147_30, s147_33, s147_34, s147_35, s147_36, s147_37, s147_39, s147_40, s147_43, s147_45, s147_46, s147_49, s147_50, s147_53, s147_54, s147_56, s147_57, s147_60, s147_62, s147_64, s147_65, s147_67, k30 qm, ht2, ↓reduceIte, va_rf_s, va_rf_n, jb_some, jb_none, jtl_s, jtl_n, if_true, if_false, true_and, and_true, false_and, and_false, or_true, true_or, or_false, false_or, not_true_eq_false, not_false_eq_true, jk_si, jp_si, jj_si, jk_sj, jp_sj, ji_sj, jk_ci, jp_ci, jj_ci, jk_cj, jp_cj, ji_cj, jlng_n, jlng_i, jlng_r, jlng_0]
/-- whether a number is among the reference's mutes -/
theorem mu_loop {g : jH} (q : MS g) {a : Nat} (ha : a < 31) {M : List Int32} (hM : MuM g a M) {h x : Int32} (hx : ji g 47 a + h = x) : ∀ (n i : Nat), i + n = M.length → ((∃ j, i ≤ j ∧ M[j]? = some x) → jV 155 34 [some (.ref 30), some (.int (nI a)), some (.int h), some (.int (nI i))] [] g = some (some (.int 0), g)) ∧ ((¬ ∃ j, i ≤ j ∧ M[j]? = some x) → jV 155 34 [some (.ref 30), some (.int (nI a)), some (.int h), some (.int (nI i))] [] g = jV 155 74 [some (.ref 30), some (.int (nI a)), some (.int h), some (.int (nI M.length))] [] g)
  | 0, i, e => by
    have b4 : jin (nI a) 31 = true := jin_nI ha (by omega)
    have b5 : (nI a).toNatClampNeg = a := nI_clamp (by omega)
    have hl := hM.1
    refine ⟨fun ⟨j, h1, h2⟩ => absurd (List.getElem?_eq_some_iff.mp h2).1 (by omega), fun _ => ?_⟩
    have e1 : i = M.length := by omega
    subst e1
    have lt : ¬ nI M.length < nI M.length := nI_nlt (Nat.le_refl _) (by omega)
    simp only [s155_34, s155_35, s155_36, s155_39, s155_40, s155_41, k30 q, k50 q, p30_19 q, b4, b5, hM.2.1, lt, ↓reduceIte, va_rf_s, va_rf_n, jb_some, jb_none, jtl_s, jtl_n, if_true, if_false, true_and, and_true, false_and, and_false, or_true, true_or, or_false, false_or, not_true_eq_false, not_false_eq_true, jk_si, jp_si, jj_si, jk_sj, jp_sj, ji_sj, jk_ci, jp_ci, jj_ci, jk_cj, jp_cj, ji_cj, jlng_n, jlng_i, jlng_r, jlng_0]
  | n + 1, i, e => by
    have b4 : jin (nI a) 31 = true := jin_nI ha (by omega)
    have b5 : (nI a).toNatClampNeg = a := nI_clamp (by omega)
    have hl := hM.1
    have lt : nI i < nI M.length := nI_lt (by omega) (by omega)
    have hq : M[i]? = some M[i] := List.getElem?_eq_getElem (by omega)
    have h1 := hM.2.2 i _ hq
    have e1 : (20 : Int32) * nI a + nI i = nI (20 * a + i) := by
      show nI 20 * nI a + nI i = _
      rw [pk_mul, nI_add]
    have a4 : jin (nI (20 * a + i)) 620 = true := jin_nI (by omega) (by omega)
    have a5 : (nI (20 * a + i)).toNatClampNeg = 20 * a + i := nI_clamp (by omega)
    have e2 : nI i + 1 = nI (i + 1) := nI_add i 1
    obtain ⟨ih1, ih2⟩ := mu_loop q ha hM hx n (i + 1) (by omega)
    generalize M[i] = y at hq h1
    by_cases c : y = x
    · refine ⟨fun _ => ?_, fun z => absurd ⟨i, Nat.le_refl i, by rw [← c]; exact hq⟩ z⟩
      simp only [s155_34, s155_35, s155_36, s155_39, s155_40, s155_41, s155_44, s155_45, s155_48, s155_50, s155_51, s155_52, s155_53, s155_54, s155_55, s155_56, s155_59, s155_60, s155_61, s155_62, s155_63, s155_66, s155_67, k30 q, k47 q, k49 q, k50 q, p30_16 q, p30_18 q, p30_19 q, b4, b5, hM.2.1, lt, e1, a4, a5, h1, hx, eq_true c, ↓reduceIte, va_rf_s, va_rf_n, jb_some, jb_none, jtl_s, jtl_n, if_true, if_false, true_and, and_true, false_and, and_false, or_true, true_or, or_false, false_or, not_true_eq_false, not_false_eq_true, jk_si, jp_si, jj_si, jk_sj, jp_sj, ji_sj, jk_ci, jp_ci, jj_ci, jk_cj, jp_cj, ji_cj, jlng_n, jlng_i, jlng_r, jlng_0]
    · have st : jV 155 34 [some (.ref 30), some (.int (nI a)), some (.int h), some (.int (nI i))] [] g = jV 155 34 [some (.ref 30), some (.int (nI a)), some (.int h), some (.int (nI (i + 1)))] [] g := by
        simp only [s155_34 (x := nI i), s155_35, s155_36, s155_39, s155_40, s155_41, s155_44, s155_45, s155_48, s155_50, s155_51, s155_52, s155_53, s155_54, s155_55, s155_56, s155_59, s155_60, s155_61, s155_62, s155_63, s155_66, s155_67, s155_68, s155_71, k30 q, k47 q, k49 q, k50 q, p30_16 q, p30_18 q, p30_19 q, b4, b5, hM.2.1, lt, e1, a4, a5, h1, hx, eq_false c, e2, ↓reduceIte, va_rf_s, va_rf_n, jb_some, jb_none, jtl_s, jtl_n, if_true, if_false, true_and, and_true, false_and, and_false, or_true, true_or, or_false, false_or, not_true_eq_false, not_false_eq_true, jk_si, jp_si, jj_si, jk_sj, jp_sj, ji_sj, jk_ci, jp_ci, jj_ci, jk_cj, jp_cj, ji_cj, jlng_n, jlng_i, jlng_r, jlng_0]
      rw [st]
      refine ⟨fun ⟨j, z1, z2⟩ => ih1 ⟨j, ?_, z2⟩, fun z => ih2 (fun ⟨j, z1, z2⟩ => z ⟨j, by omega, z2⟩)⟩
      rcases Nat.eq_or_lt_of_le z1 with w | w
      · subst w
        exact absurd (Option.some.inj (hq.symm.trans z2)) c
      · exact w
theorem p_mute (x w : Int32) : PR DD 81 155 [some (.ref 1), some (.int x), some (.int w), none] [some (.ref 30), some (.int x), some (.int w), none] := by
  intro B g g' hR hB
  obtain ⟨hA, h4, hL, T, F, N, r, ⟨tT, tF, tr, tN⟩, ⟨a1, a2⟩, ⟨b1, b2⟩, ⟨c1, c2⟩, ⟨d1, d2⟩, hF, hT⟩ := id hR; obtain ⟨qc, qm, hRl, hS, hb, hw⟩ := id hA
  have u1 := c_within w 0 500 g
  have u2 := c_isIn w 0 500 g'
  rcases q_term qc qm hS x with ⟨a, t, ha, rfl, hp, hM, ht1, ht2⟩ | ⟨ht1, ht2⟩
  · obtain ⟨ht, hsc, hMu, hBa, hPl⟩ := id hM
    obtain ⟨ht74, kt, pt2, pt3, _⟩ := id ht
    have b4 : jin (nI a) 31 = true := jin_nI ha (by omega)
    have b5 : (nI a).toNatClampNeg = a := nI_clamp (by omega)
    by_cases q1 : ¬ w < 0 ∧ ¬ 500 < w
    · rw [jB_t q1] at u1 u2
      obtain ⟨h, hh, rfl⟩ := rng (M := 500) (n := 500) rfl q1
      obtain ⟨hBl, k, S, M, hk, ⟨h13, h47⟩, hTI, hMM, hP, hSq⟩ := hMu
      have ea : nI k + nI h = nI (k + h) := nI_add k h
      have kk4 := hTI.1.1
      obtain ⟨b, hb1, hb2⟩ := t_has hTI (nI (k + h))
      have mem : (∃ v, (nI (k + h), v) ∈ S) ↔ ∃ j, 0 ≤ j ∧ M[j]? = some (nI (k + h)) := by
        constructor
        · rintro ⟨v, hv⟩
          have h1 : nI (k + h) ∈ S.map Prod.fst := List.mem_map.mpr ⟨_, hv, rfl⟩
          obtain ⟨j, hj⟩ := List.mem_iff_getElem?.mp (hP.mem_iff.mpr h1)
          exact ⟨j, Nat.zero_le j, hj⟩
        · rintro ⟨j, _, hj⟩
          have h1 := hP.mem_iff.mp (List.mem_iff_getElem?.mpr ⟨j, hj⟩)
          obtain ⟨⟨y, v⟩, hq, e⟩ := List.mem_map.mp h1
          exact ⟨v, e ▸ hq⟩
      obtain ⟨ml1, ml2⟩ := mu_loop qm ha hMM (h := nI h) (x := nI (k + h)) (by rw [h47, ea]) M.length 0 (by omega)
      rw [show nI 0 = 0 from rfl] at ml1 ml2
      have hlM := hMM.1
      have hlen : M.length = S.length := by have := hP.length_eq; simpa using this
      -- what the reference says first
      have m0 : ∀ c : M.length = 20, jV 155 0 [some (.ref 30), some (.int (nI a)), some (.int (nI h)), none] [] g' = some (some (.int 0), g') := fun c => by
        have q20 : nI M.length = 20 := by rw [c]; rfl
        simp only [s155_0, s155_1, s155_2, s155_5, s155_8, s155_9, s155_10, s155_13, s155_16, s155_19, s155_20, s155_23, s155_24, s155_25, s155_27, s155_30, s155_31, k30 qm, k50 qm, p30_19 qm, ht2, u2, n1, b4, b5, hMM.2.1, eq_true q20, ↓reduceIte, va_rf_s, va_rf_n, jb_some, jb_none, jtl_s, jtl_n, if_true, if_false, true_and, and_true, false_and, and_false, or_true, true_or, or_false, false_or, not_true_eq_false, not_false_eq_true, jk_si, jp_si, jj_si, jk_sj, jp_sj, ji_sj, jk_ci, jp_ci, jj_ci, jk_cj, jp_cj, ji_cj, jlng_n, jlng_i, jlng_r, jlng_0]
      have m1' : ∀ c : ¬ M.length = 20, jV 155 0 [some (.ref 30), some (.int (nI a)), some (.int (nI h)), none] [] g' = jV 155 34 [some (.ref 30), some (.int (nI a)), some (.int (nI h)), some (.int 0)] [] g' := fun c => by
        have q20 : ¬ nI M.length = 20 := fun z => c ((e_eq (b := 20) (by omega) (by omega)).mp z)
        simp only [s155_0, s155_1, s155_2, s155_5, s155_8, s155_9, s155_10, s155_13, s155_16, s155_19, s155_20, s155_23, s155_24, s155_25, s155_27, s155_30, s155_31, s155_32, s155_33, k30 qm, k50 qm, p30_19 qm, ht2, u2, n1, b4, b5, hMM.2.1, eq_false q20, ↓reduceIte, va_rf_s, va_rf_n, jb_some, jb_none, jtl_s, jtl_n, if_true, if_false, true_and, and_true, false_and, and_false, or_true, true_or, or_false, false_or, not_true_eq_false, not_false_eq_true, jk_si, jp_si, jj_si, jk_sj, jp_sj, ji_sj, jk_ci, jp_ci, jj_ci, jk_cj, jp_cj, ji_cj, jlng_n, jlng_i, jlng_r, jlng_0]
      by_cases d : ∃ v, (nI (k + h), v) ∈ S
      · have e1 : b = 1 := by
          rcases hb2 with z | z
          · exact z.1
          · exact absurd d z.2
        subst e1
        refine pr_id (.int 0) hB hR ?_ ?_
        · simp only [s81_0, s81_1, s81_4, s81_5, s81_8, s81_8n, s81_9, s81_9n, s81_10, s81_10n, s81_13, s81_14, s81_15, s81_18, s81_21, s81_24, s81_24n, s81_25, s81_28, s81_28n, s81_29, s81_32, s81_33, s81_34, s81_37, s81_40, s81_41, s81_42, s81_42n, s81_43, s81_46, s81_46n, s81_47, s81_50, s81_51, s81_52, s81_53, s81_56, k1 qc, k10 qc, p1_1 qc, ht1, u1, n1, kt, pt3, kk4, h13, ea, hb1, ↓reduceIte, va_rf_s, va_rf_n, jb_some, jb_none, jtl_s, jtl_n, if_true, if_false, true_and, and_true, false_and, and_false, or_true, true_or, or_false, false_or, not_true_eq_false, not_false_eq_true, jk_si, jp_si, jj_si, jk_sj, jp_sj, ji_sj, jk_ci, jp_ci, jj_ci, jk_cj, jp_cj, ji_cj, jlng_n, jlng_i, jlng_r, jlng_0]
        · by_cases c : M.length = 20
          · exact m0 c
          · rw [m1' c]
            exact ml1 (mem.mp d)
      · have e1 : b = 0 := by
          rcases hb2 with z | z
          · exact absurd z.2 d
          · exact z.1
        subst e1
        obtain ⟨b', G, S', hpt, hTI', hO, hcase⟩ := t_put hTI (nI (k + h)) 1
        have hb01 : b' = 0 ∨ b' = 1 := by
          rcases hcase with z | z | z
          · exact Or.inr z.1
          · exact Or.inl z.1
          · exact Or.inr z.1
        have hcl : jV 81 0 [some (.ref 1), some (.int (nI a)), some (.int (nI h)), none] [] g = some (some (.int b'), G) := by
          simp only [s81_0, s81_1, s81_4, s81_5, s81_8, s81_8n, s81_9, s81_9n, s81_10, s81_10n, s81_13, s81_14, s81_15, s81_18, s81_21, s81_24, s81_24n, s81_25, s81_28, s81_28n, s81_29, s81_32, s81_33, s81_34, s81_37, s81_40, s81_41, s81_42, s81_42n, s81_43, s81_46, s81_46n, s81_47, s81_50, s81_51, s81_52, s81_53, s81_56, k1 qc, k10 qc, p1_1 qc, ht1, u1, n1, kt, pt3, kk4, h13, ea, hb1, hpt, eq_true hb01, ↓reduceIte, va_rf_s, va_rf_n, jb_some, jb_none, jtl_s, jtl_n, if_true, if_false, true_and, and_true, false_and, and_false, or_true, true_or, or_false, false_or, not_true_eq_false, not_false_eq_true, jk_si, jp_si, jj_si, jk_sj, jp_sj, ji_sj, jk_ci, jp_ci, jj_ci, jk_cj, jp_cj, ji_cj, jlng_n, jlng_i, jlng_r, jlng_0]
        rcases hcase with ⟨_, z, _⟩ | ⟨z1, z2, z3, _⟩ | ⟨z1, _, z3, z4, z5⟩
        · exact absurd z d
        · -- full
          subst z1
          subst z2
          have hT1 : TM B G g' a t := by
            have f0' : Fr (fun _ _ => False) g' g' := Fr.refl g'
            refine ⟨ht.fr hO, ?_, ⟨hBl, k, S', M, hk, ⟨by rw [hO.i (by unfold tP; omega)]; exact h13, h47⟩, hTI', hMM, hP, hSq⟩, hBa.fr hO f0' (fun k => by unfold tP; omega) (fun k z1 z2 => id), hPl.fr hO f0' (fun c k z => by unfold tP; omega) (fun c k z z1 z2 => id)⟩
            rw [tv_fr hO (fun k => by unfold tP; omega)]
            exact hsc
          refine pr_fr (.int 0) hB hcl (m0 (by omega)) ((hR.tm ha hp hO (Fr.refl (P := fun _ _ => False) g') (fun b k z => by unfold tP at z; omega) (fun b k z => z.elim) hT1).mono (Nat.le_add_right _ _) hB) hO (Fr.refl (P := fun _ _ => False) g') (fun b k z => by unfold tP at z; omega) (fun b k z => z.elim)
        · -- one more
          subst z1
          have f' : Fr (fun b j => (b = 49 ∧ j = 20 * a + M.length) ∨ (b = 50 ∧ j = a)) g' (jsi (jsi g' 49 (20 * a + M.length) (nI (k + h))) 50 a (nI (M.length + 1))) := ((Fr.refl g').si (Or.inl ⟨rfl, rfl⟩)).si (Or.inr ⟨rfl, rfl⟩)
          have hnd' : S'.Nodup := nd_fst (sorted_nd hTI'.2.2.2.2)
          have hnd : ((nI (k + h), (1 : Int64)) :: S).Nodup := List.nodup_cons.mpr ⟨fun y => d ⟨1, y⟩, nd_fst (sorted_nd hTI.2.2.2.2)⟩
          have hperm : S'.Perm ((nI (k + h), (1 : Int64)) :: S) := by
            refine (List.perm_ext_iff_of_nodup hnd' hnd).mpr (fun ⟨y, u⟩ => ?_)
            rw [z5 y u, List.mem_cons]
            by_cases e : y = nI (k + h)
            · rw [if_pos e]
              constructor
              · intro w
                exact Or.inl (by rw [e, w])
              · rintro (w | w)
                · exact (Prod.mk.inj w).2
                · exact absurd ⟨u, e ▸ w⟩ d
            · rw [if_neg e]
              constructor
              · exact Or.inr
              · rintro (w | w)
                · exact absurd (Prod.mk.inj w).1 e
                · exact w
          have hP' : (M ++ [nI (k + h)]).Perm (S'.map Prod.fst) := by
            refine List.Perm.trans ?_ (hperm.map Prod.fst).symm
            rw [List.map_cons]
            exact List.Perm.trans (List.perm_append_comm) (List.Perm.cons _ hP)
          have hMM' : MuM (jsi (jsi g' 49 (20 * a + M.length) (nI (k + h))) 50 a (nI (M.length + 1))) a (M ++ [nI (k + h)]) := by
            refine ⟨by simp; omega, by rw [ji_si, if_pos ⟨rfl, rfl⟩]; simp, fun i y hy => ?_⟩
            by_cases e : i = M.length
            · subst e
              have : y = nI (k + h) := by simpa using hy.symm
              rw [ji_si, if_neg (by omega), ji_si, if_pos ⟨rfl, rfl⟩, this]
            · have hi : i < M.length := by
                have := (List.getElem?_eq_some_iff.mp hy).1
                simp at this
                omega
              rw [List.getElem?_append_left hi] at hy
              rw [f'.i (by omega)]
              exact hMM.2.2 i y hy
          have hT1 : TM B G (jsi (jsi g' 49 (20 * a + M.length) (nI (k + h))) 50 a (nI (M.length + 1))) a t := by
            refine ⟨ht.fr hO, ?_, ⟨hBl, k, S', M ++ [nI (k + h)], hk, ⟨by rw [hO.i (by unfold tP; omega)]; exact h13, by rw [f'.i (by omega)]; exact h47⟩, hTI', hMM', hP', fun q hq => ?_⟩, hBa.fr hO f' (fun k => by unfold tP; omega) (fun k z1 z2 => by omega), hPl.fr hO f' (fun c k z => by unfold tP; omega) (fun c k z z1 z2 => by omega)⟩
            · rw [tv_fr hO (fun k => by unfold tP; omega), mv_fr f' (fun l hl => by omega) (by omega) (by omega)]
              exact hsc
            · rcases List.mem_cons.mp (hperm.mem_iff.mp hq) with w | w
              · rw [w]
                exact ⟨⟨k + h, by omega, by omega, rfl⟩, rfl⟩
              · exact hSq q w
          refine pr_fr (.int 1) hB hcl ?_ ((hR.tm ha hp hO f' (fun b k z => by unfold tP at z; omega) (fun b k z => z.elim (fun y => Or.inr (Or.inr (Or.inr (Or.inr ⟨y.1, by omega, by omega⟩)))) (fun y => mTA_s (by omega) y.2)) hT1).mono (Nat.le_add_right _ _) hB) hO f' (fun b k z => by unfold tP at z; omega) (fun b k z => by omega)
          rw [m1' (by omega), ml2 (fun z => d (mem.mpr z))]
          have e2 : (20 : Int32) * nI a + nI M.length = nI (20 * a + M.length) := by
            show nI 20 * nI a + nI M.length = _
            rw [pk_mul, nI_add]
          have a4 : jin (nI (20 * a + M.length)) 620 = true := jin_nI (by omega) (by omega)
          have a5 : (nI (20 * a + M.length)).toNatClampNeg = 20 * a + M.length := nI_clamp (by omega)
          have e3 : nI M.length + 1 = nI (M.length + 1) := nI_add _ 1
          simp only [s155_74, s155_75, s155_78, s155_80, s155_81, s155_82, s155_83, s155_86, s155_87, s155_88, s155_89, s155_90, s155_93, s155_94, s155_95, s155_96, s155_97, s155_98, s155_99, s155_102, s155_103, s155_104, s155_105, s155_106, s155_107, s155_108, s155_109, k30 qm, k47 qm, k49 qm, k50 qm, p30_16 qm, p30_18 qm, p30_19 qm, jk_si, jp_si, ji_si, b4, b5, hMM.2.1, h47, ea, e2, e3, a4, a5, Nat.reduceEqDiff, ↓reduceIte, va_rf_s, va_rf_n, jb_some, jb_none, jtl_s, jtl_n, if_true, if_false, true_and, and_true, false_and, and_false, or_true, true_or, or_false, false_or, not_true_eq_false, not_false_eq_true, jk_si, jp_si, jj_si, jk_sj, jp_sj, ji_sj, jk_ci, jp_ci, jj_ci, jk_cj, jp_cj, ji_cj, jlng_n, jlng_i, jlng_r, jlng_0]
    · rw [jB_f q1] at u1 u2
      refine pr_id (.int 0) hB hR ?_ ?_
      · simp only [s81_0, s81_1, s81_4, s81_5, s81_8, s81_8n, s81_9, s81_9n, s81_10, s81_10n, s81_13, s81_14, s81_15, s81_18, s81_21, s81_24, s81_24n, s81_25, s81_28, s81_28n, s81_29, s81_32, s81_33, s81_34, s81_37, s81_40, s81_41, s81_42, s81_42n, s81_43, s81_46, s81_46n, s81_47, s81_50, s81_51, s81_52, s81_53, s81_56, k1 qc, k10 qc, p1_1 qc, ht1, u1, ↓reduceIte, va_rf_s, va_rf_n, jb_some, jb_none, jtl_s, jtl_n, if_true, if_false, true_and, and_true, false_and, and_false, or_true, true_or, or_false, false_or, not_true_eq_false, not_false_eq_true, jk_si, jp_si, jj_si, jk_sj, jp_sj, ji_sj, jk_ci, jp_ci, jj_ci, jk_cj, jp_cj, ji_cj, jlng_n, jlng_i, jlng_r, jlng_0]
      · simp only [s155_0, s155_1, s155_2, s155_5, s155_8, s155_9, s155_10, s155_13, s155_16, s155_19, s155_20, s155_23, s155_24, s155_25, s155_27, s155_30, s155_31, k30 qm, ht2, u2, n1, ↓reduceIte, va_rf_s, va_rf_n, jb_some, jb_none, jtl_s, jtl_n, if_true, if_false, true_and, and_true, false_and, and_false, or_true, true_or, or_false, false_or, not_true_eq_false, not_false_eq_true, jk_si, jp_si, jj_si, jk_sj, jp_sj, ji_sj, jk_ci, jp_ci, jj_ci, jk_cj, jp_cj, ji_cj, jlng_n, jlng_i, jlng_r, jlng_0]
  · refine pr_id (.int 0) hB hR ?_ ?_
    · simp only [s81_0, s81_1, s81_4, s81_5, s81_8, s81_8n, s81_9, s81_9n, s81_10, s81_10n, s81_13, s81_14, s81_15, s81_18, s81_21, s81_24, s81_24n, s81_25, s81_28, s81_28n, s81_29, s81_32, s81_33, s81_34, s81_37, s81_40, s81_41, s81_42, s81_42n, s81_43, s81_46, s81_46n, s81_47, s81_50, s81_51, s81_52, s81_53, s81_56, k1 qc, k10 qc, p1_1 qc, ht1, ↓reduceIte, va_rf_s, va_rf_n, jb_some, jb_none, jtl_s, jtl_n, if_true, if_false, true_and, and_true, false_and, and_false, or_true, true_or, or_false, false_or, not_true_eq_false, not_false_eq_true, jk_si, jp_si, jj_si, jk_sj, jp_sj, ji_sj, jk_ci, jp_ci, jj_ci, jk_cj, jp_cj, ji_cj, jlng_n, jlng_i, jlng_r, jlng_0]
    · simp only [s155_0, s155_1, s155_2, s155_5, s155_8, s155_9, s155_10, s155_13, s155_16, s155_19, s155_20, s155_23, s155_24, s155_25, s155_27, s155_30, s155_31, k30 qm, ht2, ↓reduceIte, va_rf_s, va_rf_n, jb_some, jb_none, jtl_s, jtl_n, if_true, if_false, true_and, and_true, false_and, and_false, or_true, true_or, or_false, false_or, not_true_eq_false, not_false_eq_true, jk_si, jp_si, jj_si, jk_sj, jp_sj, ji_sj, jk_ci, jp_ci, jj_ci, jk_cj, jp_cj, ji_cj, jlng_n, jlng_i, jlng_r, jlng_0]
