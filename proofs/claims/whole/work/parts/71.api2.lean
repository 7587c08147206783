/-! THE CALLS on blocks, frames, results -/
theorem AT.bl {P P' : Nat → Nat → Prop} {B : Nat} {g g' h h' : jH} (hA : AT B g g') (f : Fr P g h) (f' : Fr P' g' h') (h1 : ∀ b k, P b k → b = 27) (h2 : ∀ b k, P' b k → b = 57) (hb : BL h h') : AT B h h' := by
  obtain ⟨qc, qm, hR, hT, _, ⟨L1, w1⟩, ⟨L2, w2⟩, ⟨L3, w3⟩, ⟨L4, w4⟩, ⟨L5, w5⟩⟩ := hA
  have n1 : ∀ b k, ¬ b = 27 → ¬ P b k := fun b k z y => z (h1 b k y)
  have n2 : ∀ b k, ¬ b = 57 → ¬ P' b k := fun b k z y => z (h2 b k y)
  exact ⟨f.cs qc, f'.ms qm, hR.fr f f' (fun b k z1 z2 => n1 b k (by omega)) (fun k z => n2 30 k (by omega)) (fun b k z1 z2 => n2 b k (by omega)), hT.fr f f' (fun b k z => n1 b k (by omega)) (fun b k z1 z2 => n2 b k (by omega)), hb, ⟨L1, w1.fr f (fun b k z1 z2 => n1 b k (by omega))⟩, ⟨L2, w2.fr f (fun b k z1 z2 => n1 b k (by omega))⟩, ⟨L3, w3.fr f (fun b k z1 z2 => n1 b k (by omega))⟩, ⟨L4, w4.fr f (fun b k z1 z2 => n1 b k (by omega))⟩, ⟨L5, w5.fr f (fun b k z1 z2 => n1 b k (by omega))⟩⟩
theorem p_block (x y w : Int32) : PR DD 74 148 [some (.ref 1), some (.int x), some (.int y), some (.int w), none, none] [some (.ref 30), some (.int x), some (.int y), some (.int w), none] := by
  intro B g g' hR hB
  obtain ⟨hA, h4, hL, T, F, N, r, ⟨tT, tF, tr, tN⟩, ⟨a1, a2⟩, ⟨b1, b2⟩, ⟨c1, c2⟩, ⟨d1, d2⟩, hF, hT⟩ := id hR; obtain ⟨qc, qm, hRl, hS, hb, hw⟩ := id hA
  obtain ⟨e8, e9, e11, e7⟩ := id h4
  have w1 := c_isBlock x g
  have w2 := c_isIn x 0 15 g'
  have v1 := c_isRowIndex y g
  have v2 := c_isIn y 0 31 g'
  have u1 := c_isBits w g
  have u2 := c_isIn w (-1) 65535 g'
  rw [jB_cg (e_lt16 x)] at w1
  rw [jB_cg (e_lt32 y)] at v1
  rw [jB_cg (e_lt64k w)] at u1
  by_cases c1' : ¬ x < 0 ∧ ¬ 15 < x
  · rw [jB_t c1'] at w1 w2
    by_cases c2' : ¬ y < 0 ∧ ¬ 31 < y
    · rw [jB_t c2'] at v1 v2
      obtain ⟨b, hbk, rfl⟩ := rng (M := 15) (n := 15) rfl c1'
      obtain ⟨k, hk, rfl⟩ := rng (M := 31) (n := 31) rfl c2'
      have i4 : jin (nI (32 * b + k)) 512 = true := jin_nI (by omega) (by omega)
      have i5 : (nI (32 * b + k)).toNatClampNeg = 32 * b + k := nI_clamp (by omega)
      have e1 : (32 : Int32) * nI b + nI k = nI (32 * b + k) := by
        show nI 32 * nI b + nI k = _
        rw [pk_mul, nI_add]
      have e2 : nI b * (32 : Int32) + nI k = nI (32 * b + k) := by
        show nI b * nI 32 + nI k = _
        rw [pk_mul, nI_add, Nat.mul_comm]
      have hbk2 := hb (32 * b + k) (by omega)
      by_cases z : w = -1
      · subst z
        have u3 : jB (¬ (-1 : Int32) < -1 ∧ ¬ (65535 : Int32) < -1) = 1 := by decide
        rw [u3] at u2
        refine pr_id (.int (ji g' 57 (32 * b + k))) hB hR ?_ ?_
        · simp only [s74_0, s74_1, s74_4, s74_7, s74_8, s74_11, s74_14, s74_15, s74_16, s74_19, s74_20, s74_23, s74_26, s74_27, s74_28, s74_29, s74_31, s74_32, s74_33, s74_34, s74_36, s74_37, s74_40, s74_42, s74_43, s74_45, s74_46, s74_47, s74_50, s74_51, s74_54, s74_56, s74_57, s74_58, s74_60, w1, v1, n1, k1 qc, k27 qc, p1_2 qc, e2, i4, i5, hbk2.1, ↓reduceIte, va_rf_s, va_rf_n, jb_some, jb_none, jtl_s, jtl_n, if_true, if_false, true_and, and_true, false_and, and_false, or_true, true_or, or_false, false_or, not_true_eq_false, not_false_eq_true, jk_si, jp_si, jj_si, jk_sj, jp_sj, ji_sj, jk_ci, jp_ci, jj_ci, jk_cj, jp_cj, ji_cj, jlng_n, jlng_i, jlng_r, jlng_0]
        · simp only [s148_0, s148_1, s148_2, s148_4, s148_7, s148_10, s148_11, s148_12, s148_14, s148_17, s148_20, s148_21, s148_22, s148_24, s148_27, s148_30, s148_31, s148_32, s148_33, s148_36, s148_38, s148_39, s148_40, s148_41, s148_42, s148_43, s148_45, s148_46, s148_49, s148_51, s148_52, s148_53, s148_54, s148_55, s148_56, s148_59, s148_61, s148_64, s148_65, s148_66, s148_68, w2, v2, u2, n1, k30 qm, k57 qm, p30_30 qm, e1, i4, i5, eq_true (show (-1 : Int32) < 0 by decide), si_id, ↓reduceIte, va_rf_s, va_rf_n, jb_some, jb_none, jtl_s, jtl_n, if_true, if_false, true_and, and_true, false_and, and_false, or_true, true_or, or_false, false_or, not_true_eq_false, not_false_eq_true, jk_si, jp_si, jj_si, jk_sj, jp_sj, ji_sj, jk_ci, jp_ci, jj_ci, jk_cj, jp_cj, ji_cj, jlng_n, jlng_i, jlng_r, jlng_0]
      · by_cases c3' : ¬ w < 0 ∧ ¬ 65535 < w
        · rw [jB_t c3'] at u1
          have u3 : ¬ w < -1 ∧ ¬ (65535 : Int32) < w := ⟨fun y => c3'.1 (by rw [lt_toInt] at y ⊢; have h0 : (0 : Int32).toInt = 0 := rfl; have h1 : (-1 : Int32).toInt = -1 := rfl; omega), c3'.2⟩
          rw [jB_t u3] at u2
          obtain ⟨m, hm, rfl⟩ := rng (M := 65535) (n := 65535) rfl c3'
          have f : Fr (fun b' j => b' = 27 ∧ j = 32 * b + k) g (jsi g 27 (32 * b + k) (nI m)) := (Fr.refl g).si ⟨rfl, rfl⟩
          have f' : Fr (fun b' j => b' = 57 ∧ j = 32 * b + k) g' (jsi g' 57 (32 * b + k) (nI m)) := (Fr.refl g').si ⟨rfl, rfl⟩
          have hb1 : BL (jsi g 27 (32 * b + k) (nI m)) (jsi g' 57 (32 * b + k) (nI m)) := by
            intro j hj
            rw [ji_si, ji_si]
            by_cases d : j = 32 * b + k
            · rw [if_pos ⟨rfl, d⟩, if_pos ⟨rfl, d⟩]
              exact ⟨rfl, nI_isD (by omega)⟩
            · rw [if_neg (fun y => d y.2), if_neg (fun y => d y.2)]
              exact hb j hj
          have hR1 : RR B (jsi g 27 (32 * b + k) (nI m)) (jsi g' 57 (32 * b + k) (nI m)) := ⟨hA.bl f f' (fun b k z => z.1) (fun b k z => z.1) hb1, ⟨by rw [f.i (by omega), f'.i (by omega)]; exact e8, by rw [f.i (by omega), f'.i (by omega)]; exact e9, by rw [f.i (by omega), f'.i (by omega)]; exact e11, by rw [f.i (by omega), f'.i (by omega)]; exact e7⟩, hL.fr f, T, F, N, r, ⟨tT, tF, tr, tN⟩, ⟨by rw [f.i (by omega)]; exact a1, by rw [f'.i (by omega)]; exact a2⟩, ⟨by rw [f.i (by omega)]; exact b1, by rw [f'.i (by omega)]; exact b2⟩, ⟨by rw [f.i (by omega)]; exact c1, by rw [f'.i (by omega)]; exact c2⟩, ⟨by rw [f.i (by omega)]; exact d1, by rw [f'.i (by omega)]; exact d2⟩, hF.fr f f' (fun k => by omega) (fun k => by omega), hT.fr f f' (fun b k z => by omega) (fun b k z1 z2 => by omega)⟩
          refine pr_fr (.int (ji g' 57 (32 * b + k))) hB ?_ ?_ (hR1.mono (Nat.le_add_right _ _) hB) f f' (fun b k z => by omega) (fun b k z => by omega)
          · simp only [s74_0, s74_1, s74_4, s74_7, s74_8, s74_11, s74_14, s74_15, s74_16, s74_19, s74_20, s74_23, s74_26, s74_27, s74_28, s74_29, s74_31, s74_32, s74_33, s74_34, s74_36, s74_37, s74_40, s74_42, s74_43, s74_45, s74_46, s74_47, s74_50, s74_51, s74_54, s74_56, s74_57, s74_58, s74_60, w1, v1, u1, n1, z, k1 qc, k27 qc, p1_2 qc, e2, i4, i5, hbk2.1, ↓reduceIte, va_rf_s, va_rf_n, jb_some, jb_none, jtl_s, jtl_n, if_true, if_false, true_and, and_true, false_and, and_false, or_true, true_or, or_false, false_or, not_true_eq_false, not_false_eq_true, jk_si, jp_si, jj_si, jk_sj, jp_sj, ji_sj, jk_ci, jp_ci, jj_ci, jk_cj, jp_cj, ji_cj, jlng_n, jlng_i, jlng_r, jlng_0]
          · simp only [s148_0, s148_1, s148_2, s148_4, s148_7, s148_10, s148_11, s148_12, s148_14, s148_17, s148_20, s148_21, s148_22, s148_24, s148_27, s148_30, s148_31, s148_32, s148_33, s148_36, s148_38, s148_39, s148_40, s148_41, s148_42, s148_43, s148_45, s148_46, s148_49, s148_51, s148_52, s148_53, s148_54, s148_55, s148_56, s148_59, s148_61, s148_64, s148_65, s148_66, s148_68, w2, v2, u2, n1, k30 qm, k57 qm, p30_30 qm, e1, i4, i5, eq_false c3'.1, ↓reduceIte, va_rf_s, va_rf_n, jb_some, jb_none, jtl_s, jtl_n, if_true, if_false, true_and, and_true, false_and, and_false, or_true, true_or, or_false, false_or, not_true_eq_false, not_false_eq_true, jk_si, jp_si, jj_si, jk_sj, jp_sj, ji_sj, jk_ci, jp_ci, jj_ci, jk_cj, jp_cj, ji_cj, jlng_n, jlng_i, jlng_r, jlng_0]
        · rw [jB_f c3'] at u1
          have u3 : ¬ (¬ w < -1 ∧ ¬ (65535 : Int32) < w) := fun y => by
            refine c3' ⟨fun x => ?_, y.2⟩
            have := y.1
            rw [lt_toInt] at x this
            have h0 : (0 : Int32).toInt = 0 := rfl
            have h1 : (-1 : Int32).toInt = -1 := rfl
            exact z (Int32.toInt_inj.mp (by omega))
          rw [jB_f u3] at u2
          refine pr_id (.int (-1)) hB hR ?_ ?_
          · simp only [s74_0, s74_1, s74_4, s74_7, s74_8, s74_11, s74_14, s74_15, s74_16, s74_19, s74_20, s74_23, s74_26, s74_27, s74_28, s74_29, s74_31, s74_32, s74_33, s74_34, s74_36, s74_37, s74_40, s74_42, s74_43, s74_45, s74_46, s74_47, s74_50, s74_51, s74_54, s74_56, s74_57, s74_58, s74_60, w1, v1, u1, n1, z, ↓reduceIte, va_rf_s, va_rf_n, jb_some, jb_none, jtl_s, jtl_n, if_true, if_false, true_and, and_true, false_and, and_false, or_true, true_or, or_false, false_or, not_true_eq_false, not_false_eq_true, jk_si, jp_si, jj_si, jk_sj, jp_sj, ji_sj, jk_ci, jp_ci, jj_ci, jk_cj, jp_cj, ji_cj, jlng_n, jlng_i, jlng_r, jlng_0]
          · simp only [s148_0, s148_1, s148_2, s148_4, s148_7, s148_10, s148_11, s148_12, s148_14, s148_17, s148_20, s148_21, s148_22, s148_24, s148_27, s148_30, s148_31, s148_32, s148_33, s148_36, s148_38, s148_39, s148_40, s148_41, s148_42, s148_43, s148_45, s148_46, s148_49, s148_51, s148_52, s148_53, s148_54, s148_55, s148_56, s148_59, s148_61, s148_64, s148_65, s148_66, s148_68, w2, v2, u2, n1, ↓reduceIte, va_rf_s, va_rf_n, jb_some, jb_none, jtl_s, jtl_n, if_true, if_false, true_and, and_true, false_and, and_false, or_true, true_or, or_false, false_or, not_true_eq_false, not_false_eq_true, jk_si, jp_si, jj_si, jk_sj, jp_sj, ji_sj, jk_ci, jp_ci, jj_ci, jk_cj, jp_cj, ji_cj, jlng_n, jlng_i, jlng_r, jlng_0]
    · rw [jB_f c2'] at v1 v2
      refine pr_id (.int (-1)) hB hR ?_ ?_
      · simp only [s74_0, s74_1, s74_4, s74_7, s74_8, s74_11, s74_14, s74_15, s74_16, s74_19, s74_20, s74_23, s74_26, s74_27, s74_28, s74_29, s74_31, s74_32, s74_33, s74_34, s74_36, s74_37, s74_40, s74_42, s74_43, s74_45, s74_46, s74_47, s74_50, s74_51, s74_54, s74_56, s74_57, s74_58, s74_60, w1, v1, n1, ↓reduceIte, va_rf_s, va_rf_n, jb_some, jb_none, jtl_s, jtl_n, if_true, if_false, true_and, and_true, false_and, and_false, or_true, true_or, or_false, false_or, not_true_eq_false, not_false_eq_true, jk_si, jp_si, jj_si, jk_sj, jp_sj, ji_sj, jk_ci, jp_ci, jj_ci, jk_cj, jp_cj, ji_cj, jlng_n, jlng_i, jlng_r, jlng_0]
      · simp only [s148_0, s148_1, s148_2, s148_4, s148_7, s148_10, s148_11, s148_12, s148_14, s148_17, s148_20, s148_21, s148_22, s148_24, s148_27, s148_30, s148_31, s148_32, s148_33, s148_36, s148_38, s148_39, s148_40, s148_41, s148_42, s148_43, s148_45, s148_46, s148_49, s148_51, s148_52, s148_53, s148_54, s148_55, s148_56, s148_59, s148_61, s148_64, s148_65, s148_66, s148_68, w2, v2, n1, ↓reduceIte, va_rf_s, va_rf_n, jb_some, jb_none, jtl_s, jtl_n, if_true, if_false, true_and, and_true, false_and, and_false, or_true, true_or, or_false, false_or, not_true_eq_false, not_false_eq_true, jk_si, jp_si, jj_si, jk_sj, jp_sj, ji_sj, jk_ci, jp_ci, jj_ci, jk_cj, jp_cj, ji_cj, jlng_n, jlng_i, jlng_r, jlng_0]
  · rw [jB_f c1'] at w1 w2
    refine pr_id (.int (-1)) hB hR ?_ ?_
    · simp only [s74_0, s74_1, s74_4, s74_7, s74_8, s74_11, s74_14, s74_15, s74_16, s74_19, s74_20, s74_23, s74_26, s74_27, s74_28, s74_29, s74_31, s74_32, s74_33, s74_34, s74_36, s74_37, s74_40, s74_42, s74_43, s74_45, s74_46, s74_47, s74_50, s74_51, s74_54, s74_56, s74_57, s74_58, s74_60, w1, ↓reduceIte, va_rf_s, va_rf_n, jb_some, jb_none, jtl_s, jtl_n, if_true, if_false, true_and, and_true, false_and, and_false, or_true, true_or, or_false, false_or, not_true_eq_false, not_false_eq_true, jk_si, jp_si, jj_si, jk_sj, jp_sj, ji_sj, jk_ci, jp_ci, jj_ci, jk_cj, jp_cj, ji_cj, jlng_n, jlng_i, jlng_r, jlng_0]
    · simp only [s148_0, s148_1, s148_2, s148_4, s148_7, s148_10, s148_11, s148_12, s148_14, s148_17, s148_20, s148_21, s148_22, s148_24, s148_27, s148_30, s148_31, s148_32, s148_33, s148_36, s148_38, s148_39, s148_40, s148_41, s148_42, s148_43, s148_45, s148_46, s148_49, s148_51, s148_52, s148_53, s148_54, s148_55, s148_56, s148_59, s148_61, s148_64, s148_65, s148_66, s148_68, w2, ↓reduceIte, va_rf_s, va_rf_n, jb_some, jb_none, jtl_s, jtl_n, if_true, if_false, true_and, and_true, false_and, and_false, or_true, true_or, or_false, false_or, not_true_eq_false, not_false_eq_true, jk_si, jp_si, jj_si, jk_sj, jp_sj, ji_sj, jk_ci, jp_ci, jj_ci, jk_cj, jp_cj, ji_cj, jlng_n, jlng_i, jlng_r, jlng_0]
theorem p_close : PR DD 76 151 [some (.ref 1), none] [some (.ref 30), none] := by
  intro B g g' hR hB
  obtain ⟨hA, h4, hL, T, F, N, r, ⟨tT, tF, tr, tN⟩, ⟨a1, a2⟩, ⟨b1, b2⟩, ⟨c1, c2⟩, ⟨d1, d2⟩, hF, hT⟩ := id hR; obtain ⟨qc, qm, hRl, hS, hb, hw⟩ := id hA
  obtain ⟨e8, e9, e11, e7⟩ := id h4
  -- where the last frame ends
  obtain ⟨e, he, hc, hm⟩ : ∃ e, e ≤ T ∧ jV 76 0 [some (.ref 1), none] [] g = jV 76 22 [some (.ref 1), some (.int (nI e))] [] g ∧ jV 151 0 [some (.ref 30), none] [] g' = jV 151 23 [some (.ref 30), some (.int (nI e))] [] g' := by
    by_cases z : F = 0
    · subst z
      refine ⟨0, by omega, ?_, ?_⟩
      · simp only [s76_0, s76_1, s76_4, s76_7, s76_8, s76_11, s76_12, s76_13, s76_16, s76_17, s76_18, s76_21, k1 qc, b1, eq_true (show nI 0 = 0 from rfl), ↓reduceIte, va_rf_s, va_rf_n, jb_some, jb_none, jtl_s, jtl_n, if_true, if_false, true_and, and_true, false_and, and_false, or_true, true_or, or_false, false_or, not_true_eq_false, not_false_eq_true, jk_si, jp_si, jj_si, jk_sj, jp_sj, ji_sj, jk_ci, jp_ci, jj_ci, jk_cj, jp_cj, ji_cj, jlng_n, jlng_i, jlng_r, jlng_0]
        rfl
      · simp only [s151_0, s151_1, s151_4, s151_7, s151_8, s151_11, s151_12, s151_15, s151_16, s151_19, s151_20, s151_21, s151_22, k30 qm, b2, eq_true (show nI 0 = 0 from rfl), ↓reduceIte, va_rf_s, va_rf_n, jb_some, jb_none, jtl_s, jtl_n, if_true, if_false, true_and, and_true, false_and, and_false, or_true, true_or, or_false, false_or, not_true_eq_false, not_false_eq_true, jk_si, jp_si, jj_si, jk_sj, jp_sj, ji_sj, jk_ci, jp_ci, jj_ci, jk_cj, jp_cj, ji_cj, jlng_n, jlng_i, jlng_r, jlng_0]
        rfl
    · have nz : ¬ nI F = 0 := fun w => z ((e_eq (b := 0) (by omega) (by omega)).mp w)
      obtain ⟨e, he, h1, h2⟩ := hF (F - 1) (by omega)
      have em : nI F - 1 = nI (F - 1) := pk_sub (a := F) (b := 1) (by omega)
      have fe := c_frameEnd qc (show F - 1 < 8 by omega) h1
      have i4 : jin (nI (F - 1)) 8 = true := jin_nI (by omega) (by omega)
      have i5 : (nI (F - 1)).toNatClampNeg = F - 1 := nI_clamp (by omega)
      refine ⟨e, he, ?_, ?_⟩
      · simp only [s76_0, s76_1, s76_4, s76_7, s76_8, s76_11, s76_12, s76_13, s76_16, s76_17, s76_18, s76_21, k1 qc, b1, eq_false nz, em, fe, ↓reduceIte, va_rf_s, va_rf_n, jb_some, jb_none, jtl_s, jtl_n, if_true, if_false, true_and, and_true, false_and, and_false, or_true, true_or, or_false, false_or, not_true_eq_false, not_false_eq_true, jk_si, jp_si, jj_si, jk_sj, jp_sj, ji_sj, jk_ci, jp_ci, jj_ci, jk_cj, jp_cj, ji_cj, jlng_n, jlng_i, jlng_r, jlng_0]
      · simp only [s151_0, s151_1, s151_4, s151_7, s151_8, s151_11, s151_12, s151_15, s151_16, s151_19, s151_20, s151_21, s151_22, k30 qm, k67 qm, p30_41 qm, b2, eq_false nz, em, i4, i5, h2, ↓reduceIte, va_rf_s, va_rf_n, jb_some, jb_none, jtl_s, jtl_n, if_true, if_false, true_and, and_true, false_and, and_false, or_true, true_or, or_false, false_or, not_true_eq_false, not_false_eq_true, jk_si, jp_si, jj_si, jk_sj, jp_sj, ji_sj, jk_ci, jp_ci, jj_ci, jk_cj, jp_cj, ji_cj, jlng_n, jlng_i, jlng_r, jlng_0]
  by_cases z8 : F = 8
  · have l8 : ¬ nI F < 8 := nI_nlt (b := 8) (by omega) (by omega)
    have q8 : nI F = 8 := by rw [z8]; rfl
    refine pr_id (.int (-1)) hB hR ?_ ?_
    · rw [hc]
      simp only [s76_22, s76_23, s76_26, s76_28, s76_31, s76_32, s76_33, s76_36, s76_39, s76_40, k1 qc, b1, l8, ↓reduceIte, va_rf_s, va_rf_n, jb_some, jb_none, jtl_s, jtl_n, if_true, if_false, true_and, and_true, false_and, and_false, or_true, true_or, or_false, false_or, not_true_eq_false, not_false_eq_true, jk_si, jp_si, jj_si, jk_sj, jp_sj, ji_sj, jk_ci, jp_ci, jj_ci, jk_cj, jp_cj, ji_cj, jlng_n, jlng_i, jlng_r, jlng_0]
    · rw [hm]
      simp only [s151_23, s151_24, s151_27, s151_29, s151_32, s151_33, s151_34, s151_37, s151_40, s151_41, k30 qm, b2, eq_true q8, ↓reduceIte, va_rf_s, va_rf_n, jb_some, jb_none, jtl_s, jtl_n, if_true, if_false, true_and, and_true, false_and, and_false, or_true, true_or, or_false, false_or, not_true_eq_false, not_false_eq_true, jk_si, jp_si, jj_si, jk_sj, jp_sj, ji_sj, jk_ci, jp_ci, jj_ci, jk_cj, jp_cj, ji_cj, jlng_n, jlng_i, jlng_r, jlng_0]
  · have l8 : nI F < 8 := nI_lt (b := 8) (by omega) (by omega)
    have q8 : ¬ nI F = 8 := fun w => z8 ((e_eq (b := 8) (by omega) (by omega)).mp w)
    by_cases ze : e = T
    · have qe : nI e = nI T := by rw [ze]
      refine pr_id (.int (-1)) hB hR ?_ ?_
      · rw [hc]
        simp only [s76_22, s76_23, s76_26, s76_28, s76_31, s76_32, s76_33, s76_36, s76_39, s76_40, k1 qc, b1, a1, l8, eq_true qe, ↓reduceIte, va_rf_s, va_rf_n, jb_some, jb_none, jtl_s, jtl_n, if_true, if_false, true_and, and_true, false_and, and_false, or_true, true_or, or_false, false_or, not_true_eq_false, not_false_eq_true, jk_si, jp_si, jj_si, jk_sj, jp_sj, ji_sj, jk_ci, jp_ci, jj_ci, jk_cj, jp_cj, ji_cj, jlng_n, jlng_i, jlng_r, jlng_0]
      · rw [hm]
        simp only [s151_23, s151_24, s151_27, s151_29, s151_32, s151_33, s151_34, s151_37, s151_40, s151_41, k30 qm, b2, a2, eq_false q8, eq_true qe, ↓reduceIte, va_rf_s, va_rf_n, jb_some, jb_none, jtl_s, jtl_n, if_true, if_false, true_and, and_true, false_and, and_false, or_true, true_or, or_false, false_or, not_true_eq_false, not_false_eq_true, jk_si, jp_si, jj_si, jk_sj, jp_sj, ji_sj, jk_ci, jp_ci, jj_ci, jk_cj, jp_cj, ji_cj, jlng_n, jlng_i, jlng_r, jlng_0]
    · have qe : ¬ nI e = nI T := fun w => ze ((e_eq (by omega) (by omega)).mp w)
      have i4 : jin (nI F) 8 = true := jin_nI (by omega) (by omega)
      have i5 : (nI F).toNatClampNeg = F := nI_clamp (by omega)
      have ea : nI F + 1 = nI (F + 1) := nI_add F 1
      have eb : nI (F + 1) - 1 = nI F := pk_sub (a := F + 1) (b := 1) (by omega)
      have f : Fr (fun b j => (b = 29 ∧ j = F) ∨ (b = 1 ∧ j = 6)) g (jsi (jsi g 29 F (nI T)) 1 6 (nI (F + 1))) := ((Fr.refl g).si (Or.inl ⟨rfl, rfl⟩)).si (Or.inr ⟨rfl, rfl⟩)
      have f' : Fr (fun b j => (b = 67 ∧ j = F) ∨ (b = 30 ∧ j = 42)) g' (jsi (jsi g' 67 F (nI T)) 30 42 (nI (F + 1))) := ((Fr.refl g').si (Or.inl ⟨rfl, rfl⟩)).si (Or.inr ⟨rfl, rfl⟩)
      have hF1 : FE T (F + 1) (jsi (jsi g 29 F (nI T)) 1 6 (nI (F + 1))) (jsi (jsi g' 67 F (nI T)) 30 42 (nI (F + 1))) := by
        intro k hk
        by_cases d : k = F
        · subst d
          exact ⟨T, Nat.le_refl T, by rw [ji_si, if_neg (by omega), ji_si, if_pos ⟨rfl, rfl⟩], by rw [ji_si, if_neg (by omega), ji_si, if_pos ⟨rfl, rfl⟩]⟩
        · obtain ⟨e, h1, h2, h3⟩ := hF k (by omega)
          exact ⟨e, h1, by rw [f.i (by omega)]; exact h2, by rw [f'.i (by omega)]; exact h3⟩
      refine pr_fr (.int (nI F)) hB ?_ ?_ ((RR.sc (T := T) (F := F + 1) (N := N) (r := r) hA hL hT f f' (fun b k z => z.elim (fun y => Or.inr y.1) (fun y => Or.inl y.1)) (fun b k z => z.elim (fun y => Or.inr y.1) (fun y => Or.inl ⟨y.1, by omega, by omega⟩)) ⟨by rw [f.i (by omega), f'.i (by omega)]; exact e8, by rw [f.i (by omega), f'.i (by omega)]; exact e9, by rw [f.i (by omega), f'.i (by omega)]; exact e11, by rw [f.i (by omega), f'.i (by omega)]; exact e7⟩ ⟨tT, by omega, tr, by omega⟩ ⟨by rw [f.i (by omega)]; exact a1, by rw [f'.i (by omega)]; exact a2⟩ ⟨by rw [ji_si, if_pos ⟨rfl, rfl⟩], by rw [ji_si, if_pos ⟨rfl, rfl⟩]⟩ ⟨by rw [f.i (by omega)]; exact c1, by rw [f'.i (by omega)]; exact c2⟩ ⟨by rw [f.i (by omega)]; exact d1, by rw [f'.i (by omega)]; exact d2⟩ hF1).mono (Nat.le_add_right _ _) hB) f f' (fun b k z => by omega) (fun b k z => by omega)
      · rw [hc]
        simp only [s76_22, s76_23, s76_26, s76_28, s76_31, s76_32, s76_33, s76_36, s76_39, s76_40, s76_41, s76_42, s76_45, s76_46, s76_49, s76_50, s76_53, s76_54, s76_55, s76_56, s76_59, s76_60, s76_61, s76_64, s76_65, s76_68, s76_69, s76_70, k1 qc, k29 qc, p1_4 qc, b1, a1, l8, eq_false qe, i4, i5, ea, eb, jk_si, jp_si, ji_si, Nat.reduceEqDiff, ↓reduceIte, va_rf_s, va_rf_n, jb_some, jb_none, jtl_s, jtl_n, if_true, if_false, true_and, and_true, false_and, and_false, or_true, true_or, or_false, false_or, not_true_eq_false, not_false_eq_true, jk_si, jp_si, jj_si, jk_sj, jp_sj, ji_sj, jk_ci, jp_ci, jj_ci, jk_cj, jp_cj, ji_cj, jlng_n, jlng_i, jlng_r, jlng_0]
      · rw [hm]
        simp only [s151_23, s151_24, s151_27, s151_29, s151_32, s151_33, s151_34, s151_37, s151_40, s151_41, s151_42, s151_43, s151_46, s151_47, s151_50, s151_51, s151_54, s151_55, s151_56, s151_57, s151_60, s151_61, s151_62, s151_65, s151_66, s151_69, s151_70, s151_71, k30 qm, k67 qm, p30_41 qm, b2, a2, eq_false q8, eq_false qe, i4, i5, ea, eb, jk_si, jp_si, ji_si, Nat.reduceEqDiff, ↓reduceIte, va_rf_s, va_rf_n, jb_some, jb_none, jtl_s, jtl_n, if_true, if_false, true_and, and_true, false_and, and_false, or_true, true_or, or_false, false_or, not_true_eq_false, not_false_eq_true, jk_si, jp_si, jj_si, jk_sj, jp_sj, ji_sj, jk_ci, jp_ci, jj_ci, jk_cj, jp_cj, ji_cj, jlng_n, jlng_i, jlng_r, jlng_0]
theorem p_result (x w : Int32) : PR DD 82 156 [some (.ref 1), some (.int x), some (.int w), none] [some (.ref 30), some (.int x), some (.int w)] := by
  intro B g g' hR hB
  obtain ⟨hA, h4, hL, T, F, N, r, ⟨tT, tF, tr, tN⟩, ⟨a1, a2⟩, ⟨b1, b2⟩, ⟨c1, c2⟩, ⟨d1, d2⟩, hF, hT⟩ := id hR; obtain ⟨qc, qm, hRl, hS, hb, hw⟩ := id hA
  have w2 := c_isIn x 0 (nI T - 1) g'
  have u2 := c_isIn w 0 5 g'
  by_cases c : ¬ x < 0 ∧ ¬ nI T - 1 < x
  · rw [jB_t c] at w2
    have hT1 : 1 ≤ T := by
      rcases Nat.eq_zero_or_pos T with z | z
      · subst z
        have c2' := c.2
        have c1' := c.1
        rw [show nI 0 - 1 = -1 from rfl, lt_toInt] at c2'
        rw [lt_toInt] at c1'
        have h0 : (0 : Int32).toInt = 0 := rfl
        have h1 : (-1 : Int32).toInt = -1 := rfl
        omega
      · exact z
    have em : nI T - 1 = nI (T - 1) := pk_sub (a := T) (b := 1) hT1
    rw [em] at c
    have hti : (nI (T - 1)).toInt = ((T - 1 : Nat) : Int) := nI_toInt (by omega)
    obtain ⟨i, hi, rfl⟩ := rng hti c
    obtain ⟨q, p1, p2, p3⟩ := hT.1 i (by omega)
    have ta := c_transferAt qc tT a1 (show i < T by omega) p1
    have kq := p2.2.2.1
    by_cases d : ¬ w < 0 ∧ ¬ 5 < w
    · rw [jB_t d] at u2
      obtain ⟨j, hj, rfl⟩ := rng (M := 5) (n := 5) rfl d
      have rs := p3 j (by omega)
      have i4 : jin (nI (6 * i + j)) 144 = true := jin_nI (by omega) (by omega)
      have i5 : (nI (6 * i + j)).toNatClampNeg = 6 * i + j := nI_clamp (by omega)
      have e6 : (6 : Int32) * nI i + nI j = nI (6 * i + j) := by
        show nI 6 * nI i + nI j = _
        rw [pk_mul, nI_add]
      refine pr_id (.int (ji g' 66 (6 * i + j))) hB hR ?_ ?_
      · rw [← rs]
        rcases (show j = 0 ∨ j = 1 ∨ j = 2 ∨ j = 3 ∨ j = 4 ∨ j = 5 by omega) with rfl | rfl | rfl | rfl | rfl | rfl
        · simp only [show nI 0 = 0 from rfl, s82_0, s82_1, s82_2, s82_5, s82_5n, s82_6, s82_6n, s82_7, s82_7n, s82_10, s82_11, s82_12, s82_13c0, s82_13c1, s82_13c2, s82_13c3, s82_13c4, s82_13c5, s82_13d, s82_52, s82_52n, s82_53, s82_56, s82_57, s82_57n, s82_58, s82_61, s82_62, s82_62n, s82_63, s82_66, s82_67, s82_67n, s82_68, s82_71, s82_72, s82_72n, s82_73, s82_76, s82_77, s82_77n, s82_78, s82_81, s82_82, s82_83, k1 qc, ta, kq, ↓reduceIte, va_rf_s, va_rf_n, jb_some, jb_none, jtl_s, jtl_n, if_true, if_false, true_and, and_true, false_and, and_false, or_true, true_or, or_false, false_or, not_true_eq_false, not_false_eq_true, jk_si, jp_si, jj_si, jk_sj, jp_sj, ji_sj, jk_ci, jp_ci, jj_ci, jk_cj, jp_cj, ji_cj, jlng_n, jlng_i, jlng_r, jlng_0]
        · simp only [show nI 1 = 1 from rfl, s82_0, s82_1, s82_2, s82_5, s82_5n, s82_6, s82_6n, s82_7, s82_7n, s82_10, s82_11, s82_12, s82_13c0, s82_13c1, s82_13c2, s82_13c3, s82_13c4, s82_13c5, s82_13d, s82_52, s82_52n, s82_53, s82_56, s82_57, s82_57n, s82_58, s82_61, s82_62, s82_62n, s82_63, s82_66, s82_67, s82_67n, s82_68, s82_71, s82_72, s82_72n, s82_73, s82_76, s82_77, s82_77n, s82_78, s82_81, s82_82, s82_83, k1 qc, ta, kq, ↓reduceIte, va_rf_s, va_rf_n, jb_some, jb_none, jtl_s, jtl_n, if_true, if_false, true_and, and_true, false_and, and_false, or_true, true_or, or_false, false_or, not_true_eq_false, not_false_eq_true, jk_si, jp_si, jj_si, jk_sj, jp_sj, ji_sj, jk_ci, jp_ci, jj_ci, jk_cj, jp_cj, ji_cj, jlng_n, jlng_i, jlng_r, jlng_0]
        · simp only [show nI 2 = 2 from rfl, s82_0, s82_1, s82_2, s82_5, s82_5n, s82_6, s82_6n, s82_7, s82_7n, s82_10, s82_11, s82_12, s82_13c0, s82_13c1, s82_13c2, s82_13c3, s82_13c4, s82_13c5, s82_13d, s82_52, s82_52n, s82_53, s82_56, s82_57, s82_57n, s82_58, s82_61, s82_62, s82_62n, s82_63, s82_66, s82_67, s82_67n, s82_68, s82_71, s82_72, s82_72n, s82_73, s82_76, s82_77, s82_77n, s82_78, s82_81, s82_82, s82_83, k1 qc, ta, kq, ↓reduceIte, va_rf_s, va_rf_n, jb_some, jb_none, jtl_s, jtl_n, if_true, if_false, true_and, and_true, false_and, and_false, or_true, true_or, or_false, false_or, not_true_eq_false, not_false_eq_true, jk_si, jp_si, jj_si, jk_sj, jp_sj, ji_sj, jk_ci, jp_ci, jj_ci, jk_cj, jp_cj, ji_cj, jlng_n, jlng_i, jlng_r, jlng_0]
        · simp only [show nI 3 = 3 from rfl, s82_0, s82_1, s82_2, s82_5, s82_5n, s82_6, s82_6n, s82_7, s82_7n, s82_10, s82_11, s82_12, s82_13c0, s82_13c1, s82_13c2, s82_13c3, s82_13c4, s82_13c5, s82_13d, s82_52, s82_52n, s82_53, s82_56, s82_57, s82_57n, s82_58, s82_61, s82_62, s82_62n, s82_63, s82_66, s82_67, s82_67n, s82_68, s82_71, s82_72, s82_72n, s82_73, s82_76, s82_77, s82_77n, s82_78, s82_81, s82_82, s82_83, k1 qc, ta, kq, ↓reduceIte, va_rf_s, va_rf_n, jb_some, jb_none, jtl_s, jtl_n, if_true, if_false, true_and, and_true, false_and, and_false, or_true, true_or, or_false, false_or, not_true_eq_false, not_false_eq_true, jk_si, jp_si, jj_si, jk_sj, jp_sj, ji_sj, jk_ci, jp_ci, jj_ci, jk_cj, jp_cj, ji_cj, jlng_n, jlng_i, jlng_r, jlng_0]
        · simp only [show nI 4 = 4 from rfl, s82_0, s82_1, s82_2, s82_5, s82_5n, s82_6, s82_6n, s82_7, s82_7n, s82_10, s82_11, s82_12, s82_13c0, s82_13c1, s82_13c2, s82_13c3, s82_13c4, s82_13c5, s82_13d, s82_52, s82_52n, s82_53, s82_56, s82_57, s82_57n, s82_58, s82_61, s82_62, s82_62n, s82_63, s82_66, s82_67, s82_67n, s82_68, s82_71, s82_72, s82_72n, s82_73, s82_76, s82_77, s82_77n, s82_78, s82_81, s82_82, s82_83, k1 qc, ta, kq, ↓reduceIte, va_rf_s, va_rf_n, jb_some, jb_none, jtl_s, jtl_n, if_true, if_false, true_and, and_true, false_and, and_false, or_true, true_or, or_false, false_or, not_true_eq_false, not_false_eq_true, jk_si, jp_si, jj_si, jk_sj, jp_sj, ji_sj, jk_ci, jp_ci, jj_ci, jk_cj, jp_cj, ji_cj, jlng_n, jlng_i, jlng_r, jlng_0]
        · simp only [show nI 5 = 5 from rfl, s82_0, s82_1, s82_2, s82_5, s82_5n, s82_6, s82_6n, s82_7, s82_7n, s82_10, s82_11, s82_12, s82_13c0, s82_13c1, s82_13c2, s82_13c3, s82_13c4, s82_13c5, s82_13d, s82_52, s82_52n, s82_53, s82_56, s82_57, s82_57n, s82_58, s82_61, s82_62, s82_62n, s82_63, s82_66, s82_67, s82_67n, s82_68, s82_71, s82_72, s82_72n, s82_73, s82_76, s82_77, s82_77n, s82_78, s82_81, s82_82, s82_83, k1 qc, ta, kq, ↓reduceIte, va_rf_s, va_rf_n, jb_some, jb_none, jtl_s, jtl_n, if_true, if_false, true_and, and_true, false_and, and_false, or_true, true_or, or_false, false_or, not_true_eq_false, not_false_eq_true, jk_si, jp_si, jj_si, jk_sj, jp_sj, ji_sj, jk_ci, jp_ci, jj_ci, jk_cj, jp_cj, ji_cj, jlng_n, jlng_i, jlng_r, jlng_0]
      · simp only [s156_0, s156_1, s156_2, s156_3, s156_6, s156_7, s156_8, s156_11, s156_14, s156_15, s156_16, s156_17, s156_20, s156_23, s156_24, s156_27, s156_29, s156_30, s156_31, s156_32, s156_33, s156_34, s156_37, s156_38, k30 qm, k66 qm, p30_39 qm, a2, w2, u2, i4, i5, e6, n1, ↓reduceIte, va_rf_s, va_rf_n, jb_some, jb_none, jtl_s, jtl_n, if_true, if_false, true_and, and_true, false_and, and_false, or_true, true_or, or_false, false_or, not_true_eq_false, not_false_eq_true, jk_si, jp_si, jj_si, jk_sj, jp_sj, ji_sj, jk_ci, jp_ci, jj_ci, jk_cj, jp_cj, ji_cj, jlng_n, jlng_i, jlng_r, jlng_0]
    · rw [jB_f d] at u2
      have hx := out_of (M := 5) (n := 5) rfl d
      refine pr_id (.int (-1)) hB hR ?_ ?_
      · simp only [s82_0, s82_1, s82_2, s82_5, s82_5n, s82_6, s82_6n, s82_7, s82_7n, s82_10, s82_11, s82_12, s82_13d (hx := hx), s82_82, s82_83, k1 qc, ta, ↓reduceIte, va_rf_s, va_rf_n, jb_some, jb_none, jtl_s, jtl_n, if_true, if_false, true_and, and_true, false_and, and_false, or_true, true_or, or_false, false_or, not_true_eq_false, not_false_eq_true, jk_si, jp_si, jj_si, jk_sj, jp_sj, ji_sj, jk_ci, jp_ci, jj_ci, jk_cj, jp_cj, ji_cj, jlng_n, jlng_i, jlng_r, jlng_0]
      · simp only [s156_0, s156_1, s156_2, s156_3, s156_6, s156_7, s156_8, s156_11, s156_14, s156_15, s156_16, s156_17, s156_20, s156_23, s156_24, s156_27, s156_29, s156_30, s156_31, s156_32, s156_33, s156_34, s156_37, s156_38, k30 qm, a2, w2, u2, n1, ↓reduceIte, va_rf_s, va_rf_n, jb_some, jb_none, jtl_s, jtl_n, if_true, if_false, true_and, and_true, false_and, and_false, or_true, true_or, or_false, false_or, not_true_eq_false, not_false_eq_true, jk_si, jp_si, jj_si, jk_sj, jp_sj, ji_sj, jk_ci, jp_ci, jj_ci, jk_cj, jp_cj, ji_cj, jlng_n, jlng_i, jlng_r, jlng_0]
  · rw [jB_f c] at w2
    have w1 := c_within x 0 (nI T - 1) g
    rw [jB_f c] at w1
    have ta : jV 91 0 [some (.ref 1), some (.int x)] [] g = some (some .null, g) := by
      simp only [s91_0, s91_1, s91_2, s91_3, s91_6, s91_7, s91_8, s91_11, s91_14, s91_15, s91_17, s91_20, s91_21, s91_24, s91_25, s91_26, s91_29, s91_30, s91_30n, k1 qc, a1, w1, ↓reduceIte, va_rf_s, va_rf_n, jb_some, jb_none, jtl_s, jtl_n, if_true, if_false, true_and, and_true, false_and, and_false, or_true, true_or, or_false, false_or, not_true_eq_false, not_false_eq_true, jk_si, jp_si, jj_si, jk_sj, jp_sj, ji_sj, jk_ci, jp_ci, jj_ci, jk_cj, jp_cj, ji_cj, jlng_n, jlng_i, jlng_r, jlng_0]
    refine pr_id (.int (-1)) hB hR ?_ ?_
    · simp only [s82_0, s82_1, s82_2, s82_5, s82_5n, s82_6, s82_6n, s82_7, s82_7n, s82_10, s82_11, s82_12, s82_13c0, s82_13c1, s82_13c2, s82_13c3, s82_13c4, s82_13c5, s82_13d, s82_52, s82_52n, s82_53, s82_56, s82_57, s82_57n, s82_58, s82_61, s82_62, s82_62n, s82_63, s82_66, s82_67, s82_67n, s82_68, s82_71, s82_72, s82_72n, s82_73, s82_76, s82_77, s82_77n, s82_78, s82_81, s82_82, s82_83, k1 qc, ta, ↓reduceIte, va_rf_s, va_rf_n, jb_some, jb_none, jtl_s, jtl_n, if_true, if_false, true_and, and_true, false_and, and_false, or_true, true_or, or_false, false_or, not_true_eq_false, not_false_eq_true, jk_si, jp_si, jj_si, jk_sj, jp_sj, ji_sj, jk_ci, jp_ci, jj_ci, jk_cj, jp_cj, ji_cj, jlng_n, jlng_i, jlng_r, jlng_0]
    · simp only [s156_0, s156_1, s156_2, s156_3, s156_6, s156_7, s156_8, s156_11, s156_14, s156_15, s156_16, s156_17, s156_20, s156_23, s156_24, s156_27, s156_29, s156_30, s156_31, s156_32, s156_33, s156_34, s156_37, s156_38, k30 qm, a2, w2, ↓reduceIte, va_rf_s, va_rf_n, jb_some, jb_none, jtl_s, jtl_n, if_true, if_false, true_and, and_true, false_and, and_false, or_true, true_or, or_false, false_or, not_true_eq_false, not_false_eq_true, jk_si, jp_si, jj_si, jk_sj, jp_sj, ji_sj, jk_ci, jp_ci, jj_ci, jk_cj, jp_cj, ji_cj, jlng_n, jlng_i, jlng_r, jlng_0]
