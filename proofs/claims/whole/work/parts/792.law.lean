/-! THE LAW -/
theorem lg_self (x : Int64) : lg_cmp x x = 0 := by
  unfold lg_cmp
  simp
theorem op_31 (x : Int32) : ∃ k, k < 32 ∧ x &&& 31 = nI k := by
  refine ⟨cw x % 32, by omega, ?_⟩
  rw [← e_cod (cw_lt x), ← cw_and, Int32.and_assoc]
  rfl
/-- one call of each -/
theorem la_step {B i L : Nat} {xs : Nat → Int32} {h : jH} (hL : L ≤ 4608) (hi : i + 9 ≤ L) (hR : RR B h h) (h0 : h.1 0 = (gst L xs).1 0) (hB : B + 2430720 < 1610612736) : ∃ H, jV 161 18 [some (.ref 0), some (.ref 1), some (.ref 30), some (.int (nI i))] [] h = jV 161 18 [some (.ref 0), some (.ref 1), some (.ref 30), some (.int (nI (i + 9)))] [] H ∧ RR (B + 2430720) H H ∧ H.1 0 = (gst L xs).1 0 ∧ H.2.1 ≤ h.2.1 + 7 ∧ H.2.2 ≤ h.2.2 + 2100 := by
  have qc := hR.1.1
  have qm := hR.1.2.1
  have kh0 : jk h 0 = (30, L) := lk h0
  have ih0 : ∀ k, ji h 0 k = xs k := fun k => by rw [li h0]; rfl
  have kh1 := k1 qc
  have j : ∀ d, d < 9 → jin (nI (i + d)) L = true := fun d hd => jin_nI (by omega) (by omega)
  have cl : ∀ d, d < 9 → (nI (i + d)).toNatClampNeg = i + d := fun d hd => nI_clamp (by omega)
  have e1 : nI i + 1 = nI (i + 1) := nI_add i 1
  have e2 : nI i + 2 = nI (i + 2) := nI_add i 2
  have e3 : nI i + 3 = nI (i + 3) := nI_add i 3
  have e4 : nI i + 4 = nI (i + 4) := nI_add i 4
  have e5 : nI i + 5 = nI (i + 5) := nI_add i 5
  have e6 : nI i + 6 = nI (i + 6) := nI_add i 6
  have e7 : nI i + 7 = nI (i + 7) := nI_add i 7
  have e8 : nI i + 8 = nI (i + 8) := nI_add i 8
  have e9 : nI i + 9 = nI (i + 9) := nI_add i 9
  have j1 := j 1 (by omega)
  have c1 := cl 1 (by omega)
  have j2 := j 2 (by omega)
  have c2 := cl 2 (by omega)
  have j3 := j 3 (by omega)
  have c3 := cl 3 (by omega)
  have j4 := j 4 (by omega)
  have c4 := cl 4 (by omega)
  have j5 := j 5 (by omega)
  have c5 := cl 5 (by omega)
  have j6 := j 6 (by omega)
  have c6 := cl 6 (by omega)
  have j7 := j 7 (by omega)
  have c7 := cl 7 (by omega)
  have j8 := j 8 (by omega)
  have c8 := cl 8 (by omega)
  have j0 : jin (nI i) L = true := jin_nI (by omega) (by omega)
  have c0 : (nI i).toNatClampNeg = i := nI_clamp (by omega)
  have el : nI L - 9 = nI (L - 9) := pk_sub (a := L) (b := 9) (by omega)
  have lt : ¬ nI (L - 9) < nI i := nI_nlt (by omega) (by omega)
  obtain ⟨k, hk, ek⟩ := op_31 (xs i)
  have hd : jV 161 18 [some (.ref 0), some (.ref 1), some (.ref 30), some (.int (nI i))] [] h = jV 161 33 [some (.ref 0), some (.ref 1), some (.ref 30), some (.int (nI i))] [.int (nI k)] h := by
    simp only [s161_18 (x := nI i), s161_19, s161_20, s161_21, s161_23, s161_24, s161_27, s161_28, s161_29, s161_30, s161_32, kh0, el, lt, j0, c0, ih0, ek, Nat.reduceLeDiff, Nat.reduceEqDiff, and_false, or_true, ↓reduceIte, va_rf_s, va_rf_n, jb_some, jb_none, jtl_s, jtl_n, if_true, if_false, true_and, and_true, false_and, and_false, or_true, true_or, or_false, false_or, not_true_eq_false, not_false_eq_true, jk_si, jp_si, jj_si, jk_sj, jp_sj, ji_sj, jk_ci, jp_ci, jj_ci, jk_cj, jp_cj, ji_cj, jlng_n, jlng_i, jlng_r, jlng_0]
  rw [hd]
  rcases (show k = 0 ∨ k = 1 ∨ k = 2 ∨ k = 3 ∨ k = 4 ∨ k = 5 ∨ k = 6 ∨ k = 7 ∨ k = 8 ∨ k = 9 ∨ k = 10 ∨ k = 11 ∨ k = 12 ∨ k = 13 ∨ k = 14 ∨ k = 15 ∨ k = 16 ∨ k = 17 ∨ k = 18 ∨ k = 19 ∨ k = 20 ∨ 21 ≤ k by omega) with rfl | rfl | rfl | rfl | rfl | rfl | rfl | rfl | rfl | rfl | rfl | rfl | rfl | rfl | rfl | rfl | rfl | rfl | rfl | rfl | rfl | hk21
  · rw [show nI 0 = 0 from rfl]
    obtain ⟨v, G, H, q1, q2, hv, g30, g0, hRH, hH0, hx1, hx2⟩ := (p_terminal (xs (i + 1)) (xs (i + 2))).both hR hB
    obtain ⟨r, rfl⟩ := (show ∃ r, v = Value.int r from hv)
    have kG0 : jk G 0 = (30, L) := by rw [lk g0]; exact kh0
    have iG0 : ∀ k, ji G 0 k = xs k := fun k => by rw [li g0]; exact ih0 k
    have kG30 : jk G 30 = (9, 0) := by rw [lk (g30 30 (by omega) (by omega))]; exact k30 qm
    refine ⟨H, ?_, hRH, hH0.trans h0, hx1, hx2⟩
    simp only [s161_33c0, s161_33c1, s161_33c2, s161_33c3, s161_33c4, s161_33c5, s161_33c6, s161_33c7, s161_33c8, s161_33c9, s161_33c10, s161_33c11, s161_33c12, s161_33c13, s161_33c14, s161_33c15, s161_33c16, s161_33c17, s161_33c18, s161_33c19, s161_33c20, s161_33d, s161_132, s161_133, s161_134, s161_135, s161_136, s161_137, s161_138, s161_139, s161_140, s161_141, s161_142, s161_143, s161_146, s161_147, s161_148, s161_149, s161_150, s161_151, s161_152, s161_153, s161_154, s161_155, s161_156, s161_157, s161_160, s161_163, s161_164, s161_1042, s161_1045, kh0, kh1, ih0, kG0, iG0, kG30, q1, q2, lg_self, e1, e2, e3, e4, e5, e6, e7, e8, e9, j1, c1, j2, c2, j3, c3, j4, c4, j5, c5, j6, c6, j7, c7, j8, c8, ↓reduceIte, va_rf_s, va_rf_n, jb_some, jb_none, jtl_s, jtl_n, if_true, if_false, true_and, and_true, false_and, and_false, or_true, true_or, or_false, false_or, not_true_eq_false, not_false_eq_true, jk_si, jp_si, jj_si, jk_sj, jp_sj, ji_sj, jk_ci, jp_ci, jj_ci, jk_cj, jp_cj, ji_cj, jlng_n, jlng_i, jlng_r, jlng_0]
  · rw [show nI 1 = 1 from rfl]
    by_cases z3 : xs (i + 3) = 0
    · skip
      obtain ⟨v, G, H, q1, q2, hv, g30, g0, hRH, hH0, hx1, hx2⟩ := (p_listens (xs (i + 1)) (xs (i + 2)) 0 (by decide)).both hR hB
      obtain ⟨r, rfl⟩ := (show ∃ r, v = Value.int r from hv)
      have kG0 : jk G 0 = (30, L) := by rw [lk g0]; exact kh0
      have iG0 : ∀ k, ji G 0 k = xs k := fun k => by rw [li g0]; exact ih0 k
      have kG30 : jk G 30 = (9, 0) := by rw [lk (g30 30 (by omega) (by omega))]; exact k30 qm
      refine ⟨H, ?_, hRH, hH0.trans h0, hx1, hx2⟩
      simp only [s161_33c0, s161_33c1, s161_33c2, s161_33c3, s161_33c4, s161_33c5, s161_33c6, s161_33c7, s161_33c8, s161_33c9, s161_33c10, s161_33c11, s161_33c12, s161_33c13, s161_33c14, s161_33c15, s161_33c16, s161_33c17, s161_33c18, s161_33c19, s161_33c20, s161_33d, s161_165, s161_166, s161_167, s161_168, s161_169, s161_170, s161_171, s161_172, s161_173, s161_174, s161_175, s161_176, s161_177, s161_178, s161_179, s161_180, s161_181, s161_184, s161_185, s161_188, s161_189, s161_192, s161_193, s161_194, s161_195, s161_196, s161_197, s161_198, s161_199, s161_200, s161_201, s161_202, s161_203, s161_204, s161_205, s161_206, s161_207, s161_208, s161_211, s161_212, s161_215, s161_216, s161_219, s161_222, s161_223, s161_1042, s161_1045, kh0, kh1, ih0, kG0, iG0, kG30, q1, q2, lg_self, e1, e2, e3, e4, e5, e6, e7, e8, e9, j1, c1, j2, c2, j3, c3, j4, c4, j5, c5, j6, c6, j7, c7, j8, c8, eq_true z3, ↓reduceIte, va_rf_s, va_rf_n, jb_some, jb_none, jtl_s, jtl_n, if_true, if_false, true_and, and_true, false_and, and_false, or_true, true_or, or_false, false_or, not_true_eq_false, not_false_eq_true, jk_si, jp_si, jj_si, jk_sj, jp_sj, ji_sj, jk_ci, jp_ci, jj_ci, jk_cj, jp_cj, ji_cj, jlng_n, jlng_i, jlng_r, jlng_0]
    · skip
      obtain ⟨v, G, H, q1, q2, hv, g30, g0, hRH, hH0, hx1, hx2⟩ := (p_listens (xs (i + 1)) (xs (i + 2)) 1 (by decide)).both hR hB
      obtain ⟨r, rfl⟩ := (show ∃ r, v = Value.int r from hv)
      have kG0 : jk G 0 = (30, L) := by rw [lk g0]; exact kh0
      have iG0 : ∀ k, ji G 0 k = xs k := fun k => by rw [li g0]; exact ih0 k
      have kG30 : jk G 30 = (9, 0) := by rw [lk (g30 30 (by omega) (by omega))]; exact k30 qm
      refine ⟨H, ?_, hRH, hH0.trans h0, hx1, hx2⟩
      simp only [s161_33c0, s161_33c1, s161_33c2, s161_33c3, s161_33c4, s161_33c5, s161_33c6, s161_33c7, s161_33c8, s161_33c9, s161_33c10, s161_33c11, s161_33c12, s161_33c13, s161_33c14, s161_33c15, s161_33c16, s161_33c17, s161_33c18, s161_33c19, s161_33c20, s161_33d, s161_165, s161_166, s161_167, s161_168, s161_169, s161_170, s161_171, s161_172, s161_173, s161_174, s161_175, s161_176, s161_177, s161_178, s161_179, s161_180, s161_181, s161_184, s161_185, s161_188, s161_189, s161_192, s161_193, s161_194, s161_195, s161_196, s161_197, s161_198, s161_199, s161_200, s161_201, s161_202, s161_203, s161_204, s161_205, s161_206, s161_207, s161_208, s161_211, s161_212, s161_215, s161_216, s161_219, s161_222, s161_223, s161_1042, s161_1045, kh0, kh1, ih0, kG0, iG0, kG30, q1, q2, lg_self, e1, e2, e3, e4, e5, e6, e7, e8, e9, j1, c1, j2, c2, j3, c3, j4, c4, j5, c5, j6, c6, j7, c7, j8, c8, eq_false z3, ↓reduceIte, va_rf_s, va_rf_n, jb_some, jb_none, jtl_s, jtl_n, if_true, if_false, true_and, and_true, false_and, and_false, or_true, true_or, or_false, false_or, not_true_eq_false, not_false_eq_true, jk_si, jp_si, jj_si, jk_sj, jp_sj, ji_sj, jk_ci, jp_ci, jj_ci, jk_cj, jp_cj, ji_cj, jlng_n, jlng_i, jlng_r, jlng_0]
  · rw [show nI 2 = 2 from rfl]
    obtain ⟨v, G, H, q1, q2, hv, g30, g0, hRH, hH0, hx1, hx2⟩ := (p_hold (xs (i + 1)) (xs (i + 2)) (xs (i + 3)) (xs (i + 4))).both hR hB
    obtain ⟨r, rfl⟩ := (show ∃ r, v = Value.int r from hv)
    have kG0 : jk G 0 = (30, L) := by rw [lk g0]; exact kh0
    have iG0 : ∀ k, ji G 0 k = xs k := fun k => by rw [li g0]; exact ih0 k
    have kG30 : jk G 30 = (9, 0) := by rw [lk (g30 30 (by omega) (by omega))]; exact k30 qm
    refine ⟨H, ?_, hRH, hH0.trans h0, hx1, hx2⟩
    simp only [s161_33c0, s161_33c1, s161_33c2, s161_33c3, s161_33c4, s161_33c5, s161_33c6, s161_33c7, s161_33c8, s161_33c9, s161_33c10, s161_33c11, s161_33c12, s161_33c13, s161_33c14, s161_33c15, s161_33c16, s161_33c17, s161_33c18, s161_33c19, s161_33c20, s161_33d, s161_224, s161_225, s161_226, s161_227, s161_228, s161_229, s161_230, s161_231, s161_232, s161_233, s161_234, s161_235, s161_236, s161_237, s161_238, s161_239, s161_240, s161_241, s161_242, s161_243, s161_244, s161_245, s161_248, s161_249, s161_250, s161_251, s161_252, s161_253, s161_254, s161_255, s161_256, s161_257, s161_258, s161_259, s161_260, s161_261, s161_262, s161_263, s161_264, s161_265, s161_266, s161_267, s161_268, s161_269, s161_272, s161_275, s161_276, s161_1042, s161_1045, kh0, kh1, ih0, kG0, iG0, kG30, q1, q2, lg_self, e1, e2, e3, e4, e5, e6, e7, e8, e9, j1, c1, j2, c2, j3, c3, j4, c4, j5, c5, j6, c6, j7, c7, j8, c8, ↓reduceIte, va_rf_s, va_rf_n, jb_some, jb_none, jtl_s, jtl_n, if_true, if_false, true_and, and_true, false_and, and_false, or_true, true_or, or_false, false_or, not_true_eq_false, not_false_eq_true, jk_si, jp_si, jj_si, jk_sj, jp_sj, ji_sj, jk_ci, jp_ci, jj_ci, jk_cj, jp_cj, ji_cj, jlng_n, jlng_i, jlng_r, jlng_0]
  · rw [show nI 3 = 3 from rfl]
    obtain ⟨v, G, H, q1, q2, hv, g30, g0, hRH, hH0, hx1, hx2⟩ := (p_got (xs (i + 1)) (xs (i + 2)) (xs (i + 3))).both hR hB
    obtain ⟨r, rfl⟩ := (show ∃ r, v = Value.int r from hv)
    have kG0 : jk G 0 = (30, L) := by rw [lk g0]; exact kh0
    have iG0 : ∀ k, ji G 0 k = xs k := fun k => by rw [li g0]; exact ih0 k
    have kG30 : jk G 30 = (9, 0) := by rw [lk (g30 30 (by omega) (by omega))]; exact k30 qm
    refine ⟨H, ?_, hRH, hH0.trans h0, hx1, hx2⟩
    simp only [s161_33c0, s161_33c1, s161_33c2, s161_33c3, s161_33c4, s161_33c5, s161_33c6, s161_33c7, s161_33c8, s161_33c9, s161_33c10, s161_33c11, s161_33c12, s161_33c13, s161_33c14, s161_33c15, s161_33c16, s161_33c17, s161_33c18, s161_33c19, s161_33c20, s161_33d, s161_277, s161_278, s161_279, s161_280, s161_281, s161_282, s161_283, s161_284, s161_285, s161_286, s161_287, s161_288, s161_289, s161_290, s161_291, s161_292, s161_293, s161_296, s161_297, s161_298, s161_299, s161_300, s161_301, s161_302, s161_303, s161_304, s161_305, s161_306, s161_307, s161_308, s161_309, s161_310, s161_311, s161_312, s161_315, s161_318, s161_319, s161_1042, s161_1045, kh0, kh1, ih0, kG0, iG0, kG30, q1, q2, lg_self, e1, e2, e3, e4, e5, e6, e7, e8, e9, j1, c1, j2, c2, j3, c3, j4, c4, j5, c5, j6, c6, j7, c7, j8, c8, ↓reduceIte, va_rf_s, va_rf_n, jb_some, jb_none, jtl_s, jtl_n, if_true, if_false, true_and, and_true, false_and, and_false, or_true, true_or, or_false, false_or, not_true_eq_false, not_false_eq_true, jk_si, jp_si, jj_si, jk_sj, jp_sj, ji_sj, jk_ci, jp_ci, jj_ci, jk_cj, jp_cj, ji_cj, jlng_n, jlng_i, jlng_r, jlng_0]
  · rw [show nI 4 = 4 from rfl]
    by_cases z3 : xs (i + 3) = 0
    · skip
      obtain ⟨v, G, H, q1, q2, hv, g30, g0, hRH, hH0, hx1, hx2⟩ := (p_note (xs (i + 1)) (xs (i + 2)) 0 (by decide)).both hR hB
      obtain ⟨r, rfl⟩ := (show ∃ r, v = Value.int r from hv)
      have kG0 : jk G 0 = (30, L) := by rw [lk g0]; exact kh0
      have iG0 : ∀ k, ji G 0 k = xs k := fun k => by rw [li g0]; exact ih0 k
      have kG30 : jk G 30 = (9, 0) := by rw [lk (g30 30 (by omega) (by omega))]; exact k30 qm
      refine ⟨H, ?_, hRH, hH0.trans h0, hx1, hx2⟩
      simp only [s161_33c0, s161_33c1, s161_33c2, s161_33c3, s161_33c4, s161_33c5, s161_33c6, s161_33c7, s161_33c8, s161_33c9, s161_33c10, s161_33c11, s161_33c12, s161_33c13, s161_33c14, s161_33c15, s161_33c16, s161_33c17, s161_33c18, s161_33c19, s161_33c20, s161_33d, s161_320, s161_321, s161_322, s161_323, s161_324, s161_325, s161_326, s161_327, s161_328, s161_329, s161_330, s161_331, s161_332, s161_333, s161_334, s161_335, s161_336, s161_339, s161_340, s161_343, s161_344, s161_347, s161_348, s161_349, s161_350, s161_351, s161_352, s161_353, s161_354, s161_355, s161_356, s161_357, s161_358, s161_359, s161_360, s161_361, s161_362, s161_363, s161_366, s161_367, s161_370, s161_371, s161_374, s161_377, s161_378, s161_1042, s161_1045, kh0, kh1, ih0, kG0, iG0, kG30, q1, q2, lg_self, e1, e2, e3, e4, e5, e6, e7, e8, e9, j1, c1, j2, c2, j3, c3, j4, c4, j5, c5, j6, c6, j7, c7, j8, c8, eq_true z3, ↓reduceIte, va_rf_s, va_rf_n, jb_some, jb_none, jtl_s, jtl_n, if_true, if_false, true_and, and_true, false_and, and_false, or_true, true_or, or_false, false_or, not_true_eq_false, not_false_eq_true, jk_si, jp_si, jj_si, jk_sj, jp_sj, ji_sj, jk_ci, jp_ci, jj_ci, jk_cj, jp_cj, ji_cj, jlng_n, jlng_i, jlng_r, jlng_0]
    · skip
      obtain ⟨v, G, H, q1, q2, hv, g30, g0, hRH, hH0, hx1, hx2⟩ := (p_note (xs (i + 1)) (xs (i + 2)) 1 (by decide)).both hR hB
      obtain ⟨r, rfl⟩ := (show ∃ r, v = Value.int r from hv)
      have kG0 : jk G 0 = (30, L) := by rw [lk g0]; exact kh0
      have iG0 : ∀ k, ji G 0 k = xs k := fun k => by rw [li g0]; exact ih0 k
      have kG30 : jk G 30 = (9, 0) := by rw [lk (g30 30 (by omega) (by omega))]; exact k30 qm
      refine ⟨H, ?_, hRH, hH0.trans h0, hx1, hx2⟩
      simp only [s161_33c0, s161_33c1, s161_33c2, s161_33c3, s161_33c4, s161_33c5, s161_33c6, s161_33c7, s161_33c8, s161_33c9, s161_33c10, s161_33c11, s161_33c12, s161_33c13, s161_33c14, s161_33c15, s161_33c16, s161_33c17, s161_33c18, s161_33c19, s161_33c20, s161_33d, s161_320, s161_321, s161_322, s161_323, s161_324, s161_325, s161_326, s161_327, s161_328, s161_329, s161_330, s161_331, s161_332, s161_333, s161_334, s161_335, s161_336, s161_339, s161_340, s161_343, s161_344, s161_347, s161_348, s161_349, s161_350, s161_351, s161_352, s161_353, s161_354, s161_355, s161_356, s161_357, s161_358, s161_359, s161_360, s161_361, s161_362, s161_363, s161_366, s161_367, s161_370, s161_371, s161_374, s161_377, s161_378, s161_1042, s161_1045, kh0, kh1, ih0, kG0, iG0, kG30, q1, q2, lg_self, e1, e2, e3, e4, e5, e6, e7, e8, e9, j1, c1, j2, c2, j3, c3, j4, c4, j5, c5, j6, c6, j7, c7, j8, c8, eq_false z3, ↓reduceIte, va_rf_s, va_rf_n, jb_some, jb_none, jtl_s, jtl_n, if_true, if_false, true_and, and_true, false_and, and_false, or_true, true_or, or_false, false_or, not_true_eq_false, not_false_eq_true, jk_si, jp_si, jj_si, jk_sj, jp_sj, ji_sj, jk_ci, jp_ci, jj_ci, jk_cj, jp_cj, ji_cj, jlng_n, jlng_i, jlng_r, jlng_0]
  · rw [show nI 5 = 5 from rfl]
    obtain ⟨v, G, H, q1, q2, hv, g30, g0, hRH, hH0, hx1, hx2⟩ := (p_vector (xs (i + 1)) (xs (i + 2))).both hR hB
    obtain ⟨r, rfl⟩ := (show ∃ r, v = Value.int r from hv)
    have kG0 : jk G 0 = (30, L) := by rw [lk g0]; exact kh0
    have iG0 : ∀ k, ji G 0 k = xs k := fun k => by rw [li g0]; exact ih0 k
    have kG30 : jk G 30 = (9, 0) := by rw [lk (g30 30 (by omega) (by omega))]; exact k30 qm
    refine ⟨H, ?_, hRH, hH0.trans h0, hx1, hx2⟩
    simp only [s161_33c0, s161_33c1, s161_33c2, s161_33c3, s161_33c4, s161_33c5, s161_33c6, s161_33c7, s161_33c8, s161_33c9, s161_33c10, s161_33c11, s161_33c12, s161_33c13, s161_33c14, s161_33c15, s161_33c16, s161_33c17, s161_33c18, s161_33c19, s161_33c20, s161_33d, s161_379, s161_380, s161_381, s161_382, s161_383, s161_384, s161_385, s161_386, s161_387, s161_388, s161_389, s161_390, s161_393, s161_394, s161_395, s161_396, s161_397, s161_398, s161_399, s161_400, s161_401, s161_402, s161_403, s161_404, s161_407, s161_410, s161_411, s161_1042, s161_1045, kh0, kh1, ih0, kG0, iG0, kG30, q1, q2, lg_self, e1, e2, e3, e4, e5, e6, e7, e8, e9, j1, c1, j2, c2, j3, c3, j4, c4, j5, c5, j6, c6, j7, c7, j8, c8, ↓reduceIte, va_rf_s, va_rf_n, jb_some, jb_none, jtl_s, jtl_n, if_true, if_false, true_and, and_true, false_and, and_false, or_true, true_or, or_false, false_or, not_true_eq_false, not_false_eq_true, jk_si, jp_si, jj_si, jk_sj, jp_sj, ji_sj, jk_ci, jp_ci, jj_ci, jk_cj, jp_cj, ji_cj, jlng_n, jlng_i, jlng_r, jlng_0]
  · rw [show nI 6 = 6 from rfl]
    by_cases z2 : xs (i + 2) = 0
    · by_cases z4 : xs (i + 4) = 0
      · skip
        obtain ⟨v, G, H, q1, q2, hv, g30, g0, hRH, hH0, hx1, hx2⟩ := (p_bar (xs (i + 1)) 0 (xs (i + 3)) 0 (by decide) (by decide)).both hR hB
        obtain ⟨r, rfl⟩ := (show ∃ r, v = Value.int r from hv)
        have kG0 : jk G 0 = (30, L) := by rw [lk g0]; exact kh0
        have iG0 : ∀ k, ji G 0 k = xs k := fun k => by rw [li g0]; exact ih0 k
        have kG30 : jk G 30 = (9, 0) := by rw [lk (g30 30 (by omega) (by omega))]; exact k30 qm
        refine ⟨H, ?_, hRH, hH0.trans h0, hx1, hx2⟩
        simp only [s161_33c0, s161_33c1, s161_33c2, s161_33c3, s161_33c4, s161_33c5, s161_33c6, s161_33c7, s161_33c8, s161_33c9, s161_33c10, s161_33c11, s161_33c12, s161_33c13, s161_33c14, s161_33c15, s161_33c16, s161_33c17, s161_33c18, s161_33c19, s161_33c20, s161_33d, s161_412, s161_413, s161_414, s161_415, s161_416, s161_417, s161_418, s161_419, s161_420, s161_421, s161_422, s161_423, s161_426, s161_427, s161_430, s161_431, s161_432, s161_433, s161_434, s161_435, s161_436, s161_437, s161_438, s161_439, s161_440, s161_441, s161_444, s161_445, s161_448, s161_449, s161_452, s161_453, s161_454, s161_455, s161_456, s161_457, s161_458, s161_459, s161_460, s161_461, s161_462, s161_463, s161_466, s161_467, s161_470, s161_471, s161_472, s161_473, s161_474, s161_475, s161_476, s161_477, s161_478, s161_479, s161_480, s161_481, s161_484, s161_485, s161_488, s161_489, s161_492, s161_495, s161_496, s161_1042, s161_1045, kh0, kh1, ih0, kG0, iG0, kG30, q1, q2, lg_self, e1, e2, e3, e4, e5, e6, e7, e8, e9, j1, c1, j2, c2, j3, c3, j4, c4, j5, c5, j6, c6, j7, c7, j8, c8, eq_true z2, eq_true z4, ↓reduceIte, va_rf_s, va_rf_n, jb_some, jb_none, jtl_s, jtl_n, if_true, if_false, true_and, and_true, false_and, and_false, or_true, true_or, or_false, false_or, not_true_eq_false, not_false_eq_true, jk_si, jp_si, jj_si, jk_sj, jp_sj, ji_sj, jk_ci, jp_ci, jj_ci, jk_cj, jp_cj, ji_cj, jlng_n, jlng_i, jlng_r, jlng_0]
      · skip
        obtain ⟨v, G, H, q1, q2, hv, g30, g0, hRH, hH0, hx1, hx2⟩ := (p_bar (xs (i + 1)) 0 (xs (i + 3)) 1 (by decide) (by decide)).both hR hB
        obtain ⟨r, rfl⟩ := (show ∃ r, v = Value.int r from hv)
        have kG0 : jk G 0 = (30, L) := by rw [lk g0]; exact kh0
        have iG0 : ∀ k, ji G 0 k = xs k := fun k => by rw [li g0]; exact ih0 k
        have kG30 : jk G 30 = (9, 0) := by rw [lk (g30 30 (by omega) (by omega))]; exact k30 qm
        refine ⟨H, ?_, hRH, hH0.trans h0, hx1, hx2⟩
        simp only [s161_33c0, s161_33c1, s161_33c2, s161_33c3, s161_33c4, s161_33c5, s161_33c6, s161_33c7, s161_33c8, s161_33c9, s161_33c10, s161_33c11, s161_33c12, s161_33c13, s161_33c14, s161_33c15, s161_33c16, s161_33c17, s161_33c18, s161_33c19, s161_33c20, s161_33d, s161_412, s161_413, s161_414, s161_415, s161_416, s161_417, s161_418, s161_419, s161_420, s161_421, s161_422, s161_423, s161_426, s161_427, s161_430, s161_431, s161_432, s161_433, s161_434, s161_435, s161_436, s161_437, s161_438, s161_439, s161_440, s161_441, s161_444, s161_445, s161_448, s161_449, s161_452, s161_453, s161_454, s161_455, s161_456, s161_457, s161_458, s161_459, s161_460, s161_461, s161_462, s161_463, s161_466, s161_467, s161_470, s161_471, s161_472, s161_473, s161_474, s161_475, s161_476, s161_477, s161_478, s161_479, s161_480, s161_481, s161_484, s161_485, s161_488, s161_489, s161_492, s161_495, s161_496, s161_1042, s161_1045, kh0, kh1, ih0, kG0, iG0, kG30, q1, q2, lg_self, e1, e2, e3, e4, e5, e6, e7, e8, e9, j1, c1, j2, c2, j3, c3, j4, c4, j5, c5, j6, c6, j7, c7, j8, c8, eq_true z2, eq_false z4, ↓reduceIte, va_rf_s, va_rf_n, jb_some, jb_none, jtl_s, jtl_n, if_true, if_false, true_and, and_true, false_and, and_false, or_true, true_or, or_false, false_or, not_true_eq_false, not_false_eq_true, jk_si, jp_si, jj_si, jk_sj, jp_sj, ji_sj, jk_ci, jp_ci, jj_ci, jk_cj, jp_cj, ji_cj, jlng_n, jlng_i, jlng_r, jlng_0]
    · by_cases z4 : xs (i + 4) = 0
      · skip
        obtain ⟨v, G, H, q1, q2, hv, g30, g0, hRH, hH0, hx1, hx2⟩ := (p_bar (xs (i + 1)) 1 (xs (i + 3)) 0 (by decide) (by decide)).both hR hB
        obtain ⟨r, rfl⟩ := (show ∃ r, v = Value.int r from hv)
        have kG0 : jk G 0 = (30, L) := by rw [lk g0]; exact kh0
        have iG0 : ∀ k, ji G 0 k = xs k := fun k => by rw [li g0]; exact ih0 k
        have kG30 : jk G 30 = (9, 0) := by rw [lk (g30 30 (by omega) (by omega))]; exact k30 qm
        refine ⟨H, ?_, hRH, hH0.trans h0, hx1, hx2⟩
        simp only [s161_33c0, s161_33c1, s161_33c2, s161_33c3, s161_33c4, s161_33c5, s161_33c6, s161_33c7, s161_33c8, s161_33c9, s161_33c10, s161_33c11, s161_33c12, s161_33c13, s161_33c14, s161_33c15, s161_33c16, s161_33c17, s161_33c18, s161_33c19, s161_33c20, s161_33d, s161_412, s161_413, s161_414, s161_415, s161_416, s161_417, s161_418, s161_419, s161_420, s161_421, s161_422, s161_423, s161_426, s161_427, s161_430, s161_431, s161_432, s161_433, s161_434, s161_435, s161_436, s161_437, s161_438, s161_439, s161_440, s161_441, s161_444, s161_445, s161_448, s161_449, s161_452, s161_453, s161_454, s161_455, s161_456, s161_457, s161_458, s161_459, s161_460, s161_461, s161_462, s161_463, s161_466, s161_467, s161_470, s161_471, s161_472, s161_473, s161_474, s161_475, s161_476, s161_477, s161_478, s161_479, s161_480, s161_481, s161_484, s161_485, s161_488, s161_489, s161_492, s161_495, s161_496, s161_1042, s161_1045, kh0, kh1, ih0, kG0, iG0, kG30, q1, q2, lg_self, e1, e2, e3, e4, e5, e6, e7, e8, e9, j1, c1, j2, c2, j3, c3, j4, c4, j5, c5, j6, c6, j7, c7, j8, c8, eq_false z2, eq_true z4, ↓reduceIte, va_rf_s, va_rf_n, jb_some, jb_none, jtl_s, jtl_n, if_true, if_false, true_and, and_true, false_and, and_false, or_true, true_or, or_false, false_or, not_true_eq_false, not_false_eq_true, jk_si, jp_si, jj_si, jk_sj, jp_sj, ji_sj, jk_ci, jp_ci, jj_ci, jk_cj, jp_cj, ji_cj, jlng_n, jlng_i, jlng_r, jlng_0]
      · skip
        obtain ⟨v, G, H, q1, q2, hv, g30, g0, hRH, hH0, hx1, hx2⟩ := (p_bar (xs (i + 1)) 1 (xs (i + 3)) 1 (by decide) (by decide)).both hR hB
        obtain ⟨r, rfl⟩ := (show ∃ r, v = Value.int r from hv)
        have kG0 : jk G 0 = (30, L) := by rw [lk g0]; exact kh0
        have iG0 : ∀ k, ji G 0 k = xs k := fun k => by rw [li g0]; exact ih0 k
        have kG30 : jk G 30 = (9, 0) := by rw [lk (g30 30 (by omega) (by omega))]; exact k30 qm
        refine ⟨H, ?_, hRH, hH0.trans h0, hx1, hx2⟩
        simp only [s161_33c0, s161_33c1, s161_33c2, s161_33c3, s161_33c4, s161_33c5, s161_33c6, s161_33c7, s161_33c8, s161_33c9, s161_33c10, s161_33c11, s161_33c12, s161_33c13, s161_33c14, s161_33c15, s161_33c16, s161_33c17, s161_33c18, s161_33c19, s161_33c20, s161_33d, s161_412, s161_413, s161_414, s161_415, s161_416, s161_417, s161_418, s161_419, s161_420, s161_421, s161_422, s161_423, s161_426, s161_427, s161_430, s161_431, s161_432, s161_433, s161_434, s161_435, s161_436, s161_437, s161_438, s161_439, s161_440, s161_441, s161_444, s161_445, s161_448, s161_449, s161_452, s161_453, s161_454, s161_455, s161_456, s161_457, s161_458, s161_459, s161_460, s161_461, s161_462, s161_463, s161_466, s161_467, s161_470, s161_471, s161_472, s161_473, s161_474, s161_475, s161_476, s161_477, s161_478, s161_479, s161_480, s161_481, s161_484, s161_485, s161_488, s161_489, s161_492, s161_495, s161_496, s161_1042, s161_1045, kh0, kh1, ih0, kG0, iG0, kG30, q1, q2, lg_self, e1, e2, e3, e4, e5, e6, e7, e8, e9, j1, c1, j2, c2, j3, c3, j4, c4, j5, c5, j6, c6, j7, c7, j8, c8, eq_false z2, eq_false z4, ↓reduceIte, va_rf_s, va_rf_n, jb_some, jb_none, jtl_s, jtl_n, if_true, if_false, true_and, and_true, false_and, and_false, or_true, true_or, or_false, false_or, not_true_eq_false, not_false_eq_true, jk_si, jp_si, jj_si, jk_sj, jp_sj, ji_sj, jk_ci, jp_ci, jj_ci, jk_cj, jp_cj, ji_cj, jlng_n, jlng_i, jlng_r, jlng_0]
  · rw [show nI 7 = 7 from rfl]
    obtain ⟨v, G, H, q1, q2, hv, g30, g0, hRH, hH0, hx1, hx2⟩ := (p_block (xs (i + 1)) (xs (i + 2)) (xs (i + 3))).both hR hB
    obtain ⟨r, rfl⟩ := (show ∃ r, v = Value.int r from hv)
    have kG0 : jk G 0 = (30, L) := by rw [lk g0]; exact kh0
    have iG0 : ∀ k, ji G 0 k = xs k := fun k => by rw [li g0]; exact ih0 k
    have kG30 : jk G 30 = (9, 0) := by rw [lk (g30 30 (by omega) (by omega))]; exact k30 qm
    refine ⟨H, ?_, hRH, hH0.trans h0, hx1, hx2⟩
    simp only [s161_33c0, s161_33c1, s161_33c2, s161_33c3, s161_33c4, s161_33c5, s161_33c6, s161_33c7, s161_33c8, s161_33c9, s161_33c10, s161_33c11, s161_33c12, s161_33c13, s161_33c14, s161_33c15, s161_33c16, s161_33c17, s161_33c18, s161_33c19, s161_33c20, s161_33d, s161_497, s161_498, s161_499, s161_500, s161_501, s161_502, s161_503, s161_504, s161_505, s161_506, s161_507, s161_508, s161_509, s161_510, s161_511, s161_512, s161_513, s161_516, s161_517, s161_518, s161_519, s161_520, s161_521, s161_522, s161_523, s161_524, s161_525, s161_526, s161_527, s161_528, s161_529, s161_530, s161_531, s161_532, s161_535, s161_538, s161_539, s161_1042, s161_1045, kh0, kh1, ih0, kG0, iG0, kG30, q1, q2, lg_self, e1, e2, e3, e4, e5, e6, e7, e8, e9, j1, c1, j2, c2, j3, c3, j4, c4, j5, c5, j6, c6, j7, c7, j8, c8, ↓reduceIte, va_rf_s, va_rf_n, jb_some, jb_none, jtl_s, jtl_n, if_true, if_false, true_and, and_true, false_and, and_false, or_true, true_or, or_false, false_or, not_true_eq_false, not_false_eq_true, jk_si, jp_si, jj_si, jk_sj, jp_sj, ji_sj, jk_ci, jp_ci, jj_ci, jk_cj, jp_cj, ji_cj, jlng_n, jlng_i, jlng_r, jlng_0]
  · rw [show nI 8 = 8 from rfl]
    obtain ⟨v, G, H, q1, q2, hv, g30, g0, hRH, hH0, hx1, hx2⟩ := (p_transfer (xs (i + 1)) (xs (i + 2)) (xs (i + 3)) (xs (i + 4)) (xs (i + 5)) (xs (i + 6)) (xs (i + 7)) (xs (i + 8))).both hR hB
    obtain ⟨r, rfl⟩ := (show ∃ r, v = Value.int r from hv)
    have kG0 : jk G 0 = (30, L) := by rw [lk g0]; exact kh0
    have iG0 : ∀ k, ji G 0 k = xs k := fun k => by rw [li g0]; exact ih0 k
    have kG30 : jk G 30 = (9, 0) := by rw [lk (g30 30 (by omega) (by omega))]; exact k30 qm
    refine ⟨H, ?_, hRH, hH0.trans h0, hx1, hx2⟩
    simp only [s161_33c0, s161_33c1, s161_33c2, s161_33c3, s161_33c4, s161_33c5, s161_33c6, s161_33c7, s161_33c8, s161_33c9, s161_33c10, s161_33c11, s161_33c12, s161_33c13, s161_33c14, s161_33c15, s161_33c16, s161_33c17, s161_33c18, s161_33c19, s161_33c20, s161_33d, s161_540, s161_541, s161_542, s161_543, s161_544, s161_545, s161_546, s161_547, s161_548, s161_549, s161_550, s161_551, s161_552, s161_553, s161_554, s161_555, s161_556, s161_557, s161_558, s161_559, s161_560, s161_561, s161_562, s161_563, s161_564, s161_565, s161_566, s161_567, s161_568, s161_570, s161_571, s161_572, s161_573, s161_574, s161_576, s161_577, s161_578, s161_579, s161_580, s161_582, s161_583, s161_584, s161_587, s161_588, s161_589, s161_590, s161_591, s161_592, s161_593, s161_594, s161_595, s161_596, s161_597, s161_598, s161_599, s161_600, s161_601, s161_602, s161_603, s161_604, s161_605, s161_606, s161_607, s161_608, s161_609, s161_610, s161_611, s161_612, s161_613, s161_614, s161_615, s161_617, s161_618, s161_619, s161_620, s161_621, s161_623, s161_624, s161_625, s161_626, s161_627, s161_629, s161_630, s161_631, s161_634, s161_637, s161_638, s161_1042, s161_1045, kh0, kh1, ih0, kG0, iG0, kG30, q1, q2, lg_self, e1, e2, e3, e4, e5, e6, e7, e8, e9, j1, c1, j2, c2, j3, c3, j4, c4, j5, c5, j6, c6, j7, c7, j8, c8, ↓reduceIte, va_rf_s, va_rf_n, jb_some, jb_none, jtl_s, jtl_n, if_true, if_false, true_and, and_true, false_and, and_false, or_true, true_or, or_false, false_or, not_true_eq_false, not_false_eq_true, jk_si, jp_si, jj_si, jk_sj, jp_sj, ji_sj, jk_ci, jp_ci, jj_ci, jk_cj, jp_cj, ji_cj, jlng_n, jlng_i, jlng_r, jlng_0]
  · rw [show nI 9 = 9 from rfl]
    obtain ⟨v, G, H, q1, q2, hv, g30, g0, hRH, hH0, hx1, hx2⟩ := (p_close).both hR hB
    obtain ⟨r, rfl⟩ := (show ∃ r, v = Value.int r from hv)
    have kG0 : jk G 0 = (30, L) := by rw [lk g0]; exact kh0
    have iG0 : ∀ k, ji G 0 k = xs k := fun k => by rw [li g0]; exact ih0 k
    have kG30 : jk G 30 = (9, 0) := by rw [lk (g30 30 (by omega) (by omega))]; exact k30 qm
    refine ⟨H, ?_, hRH, hH0.trans h0, hx1, hx2⟩
    simp only [s161_33c0, s161_33c1, s161_33c2, s161_33c3, s161_33c4, s161_33c5, s161_33c6, s161_33c7, s161_33c8, s161_33c9, s161_33c10, s161_33c11, s161_33c12, s161_33c13, s161_33c14, s161_33c15, s161_33c16, s161_33c17, s161_33c18, s161_33c19, s161_33c20, s161_33d, s161_639, s161_640, s161_643, s161_644, s161_647, s161_650, s161_651, s161_1042, s161_1045, kh0, kh1, ih0, kG0, iG0, kG30, q1, q2, lg_self, e1, e2, e3, e4, e5, e6, e7, e8, e9, j1, c1, j2, c2, j3, c3, j4, c4, j5, c5, j6, c6, j7, c7, j8, c8, ↓reduceIte, va_rf_s, va_rf_n, jb_some, jb_none, jtl_s, jtl_n, if_true, if_false, true_and, and_true, false_and, and_false, or_true, true_or, or_false, false_or, not_true_eq_false, not_false_eq_true, jk_si, jp_si, jj_si, jk_sj, jp_sj, ji_sj, jk_ci, jp_ci, jj_ci, jk_cj, jp_cj, ji_cj, jlng_n, jlng_i, jlng_r, jlng_0]
  · rw [show nI 10 = 10 from rfl]
    obtain ⟨v, G, H, q1, q2, hv, g30, g0, hRH, hH0, hx1, hx2⟩ := (p_retries (xs (i + 1))).both hR hB
    obtain ⟨r, rfl⟩ := (show ∃ r, v = Value.int r from hv)
    have kG0 : jk G 0 = (30, L) := by rw [lk g0]; exact kh0
    have iG0 : ∀ k, ji G 0 k = xs k := fun k => by rw [li g0]; exact ih0 k
    have kG30 : jk G 30 = (9, 0) := by rw [lk (g30 30 (by omega) (by omega))]; exact k30 qm
    refine ⟨H, ?_, hRH, hH0.trans h0, hx1, hx2⟩
    simp only [s161_33c0, s161_33c1, s161_33c2, s161_33c3, s161_33c4, s161_33c5, s161_33c6, s161_33c7, s161_33c8, s161_33c9, s161_33c10, s161_33c11, s161_33c12, s161_33c13, s161_33c14, s161_33c15, s161_33c16, s161_33c17, s161_33c18, s161_33c19, s161_33c20, s161_33d, s161_652, s161_653, s161_654, s161_655, s161_656, s161_657, s161_658, s161_661, s161_662, s161_663, s161_664, s161_665, s161_666, s161_667, s161_670, s161_673, s161_674, s161_1042, s161_1045, kh0, kh1, ih0, kG0, iG0, kG30, q1, q2, lg_self, e1, e2, e3, e4, e5, e6, e7, e8, e9, j1, c1, j2, c2, j3, c3, j4, c4, j5, c5, j6, c6, j7, c7, j8, c8, ↓reduceIte, va_rf_s, va_rf_n, jb_some, jb_none, jtl_s, jtl_n, if_true, if_false, true_and, and_true, false_and, and_false, or_true, true_or, or_false, false_or, not_true_eq_false, not_false_eq_true, jk_si, jp_si, jj_si, jk_sj, jp_sj, ji_sj, jk_ci, jp_ci, jj_ci, jk_cj, jp_cj, ji_cj, jlng_n, jlng_i, jlng_r, jlng_0]
  · rw [show nI 11 = 11 from rfl]
    obtain ⟨v, G, H, q1, q2, hv, g30, g0, hRH, hH0, hx1, hx2⟩ := (p_period (xs (i + 1))).both hR hB
    obtain ⟨r, rfl⟩ := (show ∃ r, v = Value.int r from hv)
    have kG0 : jk G 0 = (30, L) := by rw [lk g0]; exact kh0
    have iG0 : ∀ k, ji G 0 k = xs k := fun k => by rw [li g0]; exact ih0 k
    have kG30 : jk G 30 = (9, 0) := by rw [lk (g30 30 (by omega) (by omega))]; exact k30 qm
    refine ⟨H, ?_, hRH, hH0.trans h0, hx1, hx2⟩
    simp only [s161_33c0, s161_33c1, s161_33c2, s161_33c3, s161_33c4, s161_33c5, s161_33c6, s161_33c7, s161_33c8, s161_33c9, s161_33c10, s161_33c11, s161_33c12, s161_33c13, s161_33c14, s161_33c15, s161_33c16, s161_33c17, s161_33c18, s161_33c19, s161_33c20, s161_33d, s161_675, s161_676, s161_677, s161_678, s161_679, s161_680, s161_681, s161_684, s161_685, s161_686, s161_687, s161_688, s161_689, s161_690, s161_693, s161_696, s161_697, s161_1042, s161_1045, kh0, kh1, ih0, kG0, iG0, kG30, q1, q2, lg_self, e1, e2, e3, e4, e5, e6, e7, e8, e9, j1, c1, j2, c2, j3, c3, j4, c4, j5, c5, j6, c6, j7, c7, j8, c8, ↓reduceIte, va_rf_s, va_rf_n, jb_some, jb_none, jtl_s, jtl_n, if_true, if_false, true_and, and_true, false_and, and_false, or_true, true_or, or_false, false_or, not_true_eq_false, not_false_eq_true, jk_si, jp_si, jj_si, jk_sj, jp_sj, ji_sj, jk_ci, jp_ci, jj_ci, jk_cj, jp_cj, ji_cj, jlng_n, jlng_i, jlng_r, jlng_0]
  · rw [show nI 12 = 12 from rfl]
    obtain ⟨v, G, H, q1, q2, hv, g30, g0, hRH, hH0, hx1, hx2⟩ := (p_run (xs (i + 1))).both hR hB
    obtain ⟨r, rfl⟩ := (show ∃ r, v = Value.int r from hv)
    have kG0 : jk G 0 = (30, L) := by rw [lk g0]; exact kh0
    have iG0 : ∀ k, ji G 0 k = xs k := fun k => by rw [li g0]; exact ih0 k
    have kG30 : jk G 30 = (9, 0) := by rw [lk (g30 30 (by omega) (by omega))]; exact k30 qm
    refine ⟨H, ?_, hRH, hH0.trans h0, hx1, hx2⟩
    simp only [s161_33c0, s161_33c1, s161_33c2, s161_33c3, s161_33c4, s161_33c5, s161_33c6, s161_33c7, s161_33c8, s161_33c9, s161_33c10, s161_33c11, s161_33c12, s161_33c13, s161_33c14, s161_33c15, s161_33c16, s161_33c17, s161_33c18, s161_33c19, s161_33c20, s161_33d, s161_698, s161_699, s161_700, s161_701, s161_702, s161_703, s161_704, s161_707, s161_708, s161_709, s161_710, s161_711, s161_712, s161_713, s161_716, s161_719, s161_720, s161_1042, s161_1045, kh0, kh1, ih0, kG0, iG0, kG30, q1, q2, lg_self, e1, e2, e3, e4, e5, e6, e7, e8, e9, j1, c1, j2, c2, j3, c3, j4, c4, j5, c5, j6, c6, j7, c7, j8, c8, ↓reduceIte, va_rf_s, va_rf_n, jb_some, jb_none, jtl_s, jtl_n, if_true, if_false, true_and, and_true, false_and, and_false, or_true, true_or, or_false, false_or, not_true_eq_false, not_false_eq_true, jk_si, jp_si, jj_si, jk_sj, jp_sj, ji_sj, jk_ci, jp_ci, jj_ci, jk_cj, jp_cj, ji_cj, jlng_n, jlng_i, jlng_r, jlng_0]
  · rw [show nI 13 = 13 from rfl]
    obtain ⟨v, G, H, q1, q2, hv, g30, g0, hRH, hH0, hx1, hx2⟩ := (p_alter (xs (i + 1)) ((xs (i + 2)).toInt64 <<< ((32 : Int32).toInt64 &&& 63) ||| ((xs (i + 3)).toInt64 &&& 4294967295))).both hR hB
    obtain ⟨r, rfl⟩ := (show ∃ r, v = Value.int r from hv)
    have kG0 : jk G 0 = (30, L) := by rw [lk g0]; exact kh0
    have iG0 : ∀ k, ji G 0 k = xs k := fun k => by rw [li g0]; exact ih0 k
    have kG30 : jk G 30 = (9, 0) := by rw [lk (g30 30 (by omega) (by omega))]; exact k30 qm
    refine ⟨H, ?_, hRH, hH0.trans h0, hx1, hx2⟩
    simp only [s161_33c0, s161_33c1, s161_33c2, s161_33c3, s161_33c4, s161_33c5, s161_33c6, s161_33c7, s161_33c8, s161_33c9, s161_33c10, s161_33c11, s161_33c12, s161_33c13, s161_33c14, s161_33c15, s161_33c16, s161_33c17, s161_33c18, s161_33c19, s161_33c20, s161_33d, s161_721, s161_722, s161_723, s161_724, s161_725, s161_726, s161_727, s161_728, s161_729, s161_730, s161_731, s161_732, s161_733, s161_735, s161_736, s161_737, s161_738, s161_739, s161_740, s161_741, s161_742, s161_745, s161_746, s161_747, s161_750, s161_751, s161_752, s161_753, s161_754, s161_755, s161_756, s161_757, s161_758, s161_759, s161_760, s161_761, s161_762, s161_764, s161_765, s161_766, s161_767, s161_768, s161_769, s161_770, s161_771, s161_774, s161_775, s161_776, s161_779, s161_782, s161_783, s161_1042, s161_1045, kh0, kh1, ih0, kG0, iG0, kG30, q1, q2, lg_self, e1, e2, e3, e4, e5, e6, e7, e8, e9, j1, c1, j2, c2, j3, c3, j4, c4, j5, c5, j6, c6, j7, c7, j8, c8, ↓reduceIte, va_rf_s, va_rf_n, jb_some, jb_none, jtl_s, jtl_n, if_true, if_false, true_and, and_true, false_and, and_false, or_true, true_or, or_false, false_or, not_true_eq_false, not_false_eq_true, jk_si, jp_si, jj_si, jk_sj, jp_sj, ji_sj, jk_ci, jp_ci, jj_ci, jk_cj, jp_cj, ji_cj, jlng_n, jlng_i, jlng_r, jlng_0]
  · rw [show nI 14 = 14 from rfl]
    obtain ⟨v, G, H, q1, q2, hv, g30, g0, hRH, hH0, hx1, hx2⟩ := (p_mute (xs (i + 1)) (xs (i + 2))).both hR hB
    obtain ⟨r, rfl⟩ := (show ∃ r, v = Value.int r from hv)
    have kG0 : jk G 0 = (30, L) := by rw [lk g0]; exact kh0
    have iG0 : ∀ k, ji G 0 k = xs k := fun k => by rw [li g0]; exact ih0 k
    have kG30 : jk G 30 = (9, 0) := by rw [lk (g30 30 (by omega) (by omega))]; exact k30 qm
    refine ⟨H, ?_, hRH, hH0.trans h0, hx1, hx2⟩
    simp only [s161_33c0, s161_33c1, s161_33c2, s161_33c3, s161_33c4, s161_33c5, s161_33c6, s161_33c7, s161_33c8, s161_33c9, s161_33c10, s161_33c11, s161_33c12, s161_33c13, s161_33c14, s161_33c15, s161_33c16, s161_33c17, s161_33c18, s161_33c19, s161_33c20, s161_33d, s161_784, s161_785, s161_786, s161_787, s161_788, s161_789, s161_790, s161_791, s161_792, s161_793, s161_794, s161_795, s161_798, s161_799, s161_800, s161_801, s161_802, s161_803, s161_804, s161_805, s161_806, s161_807, s161_808, s161_809, s161_812, s161_815, s161_816, s161_1042, s161_1045, kh0, kh1, ih0, kG0, iG0, kG30, q1, q2, lg_self, e1, e2, e3, e4, e5, e6, e7, e8, e9, j1, c1, j2, c2, j3, c3, j4, c4, j5, c5, j6, c6, j7, c7, j8, c8, ↓reduceIte, va_rf_s, va_rf_n, jb_some, jb_none, jtl_s, jtl_n, if_true, if_false, true_and, and_true, false_and, and_false, or_true, true_or, or_false, false_or, not_true_eq_false, not_false_eq_true, jk_si, jp_si, jj_si, jk_sj, jp_sj, ji_sj, jk_ci, jp_ci, jj_ci, jk_cj, jp_cj, ji_cj, jlng_n, jlng_i, jlng_r, jlng_0]
  · rw [show nI 15 = 15 from rfl]
    obtain ⟨v, G, H, q1, q2, hv, g30, g0, hRH, hH0, hx1, hx2⟩ := (p_result (xs (i + 1)) (xs (i + 2))).both hR hB
    obtain ⟨r, rfl⟩ := (show ∃ r, v = Value.int r from hv)
    have kG0 : jk G 0 = (30, L) := by rw [lk g0]; exact kh0
    have iG0 : ∀ k, ji G 0 k = xs k := fun k => by rw [li g0]; exact ih0 k
    have kG30 : jk G 30 = (9, 0) := by rw [lk (g30 30 (by omega) (by omega))]; exact k30 qm
    refine ⟨H, ?_, hRH, hH0.trans h0, hx1, hx2⟩
    simp only [s161_33c0, s161_33c1, s161_33c2, s161_33c3, s161_33c4, s161_33c5, s161_33c6, s161_33c7, s161_33c8, s161_33c9, s161_33c10, s161_33c11, s161_33c12, s161_33c13, s161_33c14, s161_33c15, s161_33c16, s161_33c17, s161_33c18, s161_33c19, s161_33c20, s161_33d, s161_817, s161_818, s161_819, s161_820, s161_821, s161_822, s161_823, s161_824, s161_825, s161_826, s161_827, s161_828, s161_831, s161_832, s161_833, s161_834, s161_835, s161_836, s161_837, s161_838, s161_839, s161_840, s161_841, s161_842, s161_845, s161_848, s161_849, s161_1042, s161_1045, kh0, kh1, ih0, kG0, iG0, kG30, q1, q2, lg_self, e1, e2, e3, e4, e5, e6, e7, e8, e9, j1, c1, j2, c2, j3, c3, j4, c4, j5, c5, j6, c6, j7, c7, j8, c8, ↓reduceIte, va_rf_s, va_rf_n, jb_some, jb_none, jtl_s, jtl_n, if_true, if_false, true_and, and_true, false_and, and_false, or_true, true_or, or_false, false_or, not_true_eq_false, not_false_eq_true, jk_si, jp_si, jj_si, jk_sj, jp_sj, ji_sj, jk_ci, jp_ci, jj_ci, jk_cj, jp_cj, ji_cj, jlng_n, jlng_i, jlng_r, jlng_0]
  · rw [show nI 16 = 16 from rfl]
    obtain ⟨v, G, H, q1, q2, hv, g30, g0, hRH, hH0, hx1, hx2⟩ := (p_told (xs (i + 1)) (xs (i + 2))).both hR hB
    obtain ⟨r, rfl⟩ := (show ∃ r, v = Value.int r from hv)
    have kG0 : jk G 0 = (30, L) := by rw [lk g0]; exact kh0
    have iG0 : ∀ k, ji G 0 k = xs k := fun k => by rw [li g0]; exact ih0 k
    have kG30 : jk G 30 = (9, 0) := by rw [lk (g30 30 (by omega) (by omega))]; exact k30 qm
    refine ⟨H, ?_, hRH, hH0.trans h0, hx1, hx2⟩
    simp only [s161_33c0, s161_33c1, s161_33c2, s161_33c3, s161_33c4, s161_33c5, s161_33c6, s161_33c7, s161_33c8, s161_33c9, s161_33c10, s161_33c11, s161_33c12, s161_33c13, s161_33c14, s161_33c15, s161_33c16, s161_33c17, s161_33c18, s161_33c19, s161_33c20, s161_33d, s161_850, s161_851, s161_852, s161_853, s161_854, s161_855, s161_856, s161_857, s161_858, s161_859, s161_860, s161_861, s161_864, s161_865, s161_866, s161_867, s161_868, s161_869, s161_870, s161_871, s161_872, s161_873, s161_874, s161_875, s161_878, s161_881, s161_882, s161_1042, s161_1045, kh0, kh1, ih0, kG0, iG0, kG30, q1, q2, lg_self, e1, e2, e3, e4, e5, e6, e7, e8, e9, j1, c1, j2, c2, j3, c3, j4, c4, j5, c5, j6, c6, j7, c7, j8, c8, ↓reduceIte, va_rf_s, va_rf_n, jb_some, jb_none, jtl_s, jtl_n, if_true, if_false, true_and, and_true, false_and, and_false, or_true, true_or, or_false, false_or, not_true_eq_false, not_false_eq_true, jk_si, jp_si, jj_si, jk_sj, jp_sj, ji_sj, jk_ci, jp_ci, jj_ci, jk_cj, jp_cj, ji_cj, jlng_n, jlng_i, jlng_r, jlng_0]
  · rw [show nI 17 = 17 from rfl]
    obtain ⟨v, G, H, q1, q2, hv, g30, g0, hRH, hH0, hx1, hx2⟩ := (p_heard (xs (i + 1)) (xs (i + 2))).both hR hB
    obtain ⟨r, rfl⟩ := (show ∃ r, v = Value.int r from hv)
    have kG0 : jk G 0 = (30, L) := by rw [lk g0]; exact kh0
    have iG0 : ∀ k, ji G 0 k = xs k := fun k => by rw [li g0]; exact ih0 k
    have kG30 : jk G 30 = (9, 0) := by rw [lk (g30 30 (by omega) (by omega))]; exact k30 qm
    refine ⟨H, ?_, hRH, hH0.trans h0, hx1, hx2⟩
    simp only [s161_33c0, s161_33c1, s161_33c2, s161_33c3, s161_33c4, s161_33c5, s161_33c6, s161_33c7, s161_33c8, s161_33c9, s161_33c10, s161_33c11, s161_33c12, s161_33c13, s161_33c14, s161_33c15, s161_33c16, s161_33c17, s161_33c18, s161_33c19, s161_33c20, s161_33d, s161_883, s161_884, s161_885, s161_886, s161_887, s161_888, s161_889, s161_890, s161_891, s161_892, s161_893, s161_894, s161_897, s161_898, s161_899, s161_900, s161_901, s161_902, s161_903, s161_904, s161_905, s161_906, s161_907, s161_908, s161_911, s161_914, s161_915, s161_1042, s161_1045, kh0, kh1, ih0, kG0, iG0, kG30, q1, q2, lg_self, e1, e2, e3, e4, e5, e6, e7, e8, e9, j1, c1, j2, c2, j3, c3, j4, c4, j5, c5, j6, c6, j7, c7, j8, c8, ↓reduceIte, va_rf_s, va_rf_n, jb_some, jb_none, jtl_s, jtl_n, if_true, if_false, true_and, and_true, false_and, and_false, or_true, true_or, or_false, false_or, not_true_eq_false, not_false_eq_true, jk_si, jp_si, jj_si, jk_sj, jp_sj, ji_sj, jk_ci, jp_ci, jj_ci, jk_cj, jp_cj, ji_cj, jlng_n, jlng_i, jlng_r, jlng_0]
  · rw [show nI 18 = 18 from rfl]
    by_cases z1 : xs (i + 1) = 0
    · skip
      obtain ⟨v, G, H, q1, q2, hv, g30, g0, hRH, hH0, hx1, hx2⟩ := (p_halves 0 (xs (i + 2))).both hR hB
      obtain ⟨r, rfl⟩ := (show ∃ r, v = Value.long r from hv)
      have kG0 : jk G 0 = (30, L) := by rw [lk g0]; exact kh0
      have iG0 : ∀ k, ji G 0 k = xs k := fun k => by rw [li g0]; exact ih0 k
      have kG30 : jk G 30 = (9, 0) := by rw [lk (g30 30 (by omega) (by omega))]; exact k30 qm
      refine ⟨H, ?_, hRH, hH0.trans h0, hx1, hx2⟩
      simp only [s161_33c0, s161_33c1, s161_33c2, s161_33c3, s161_33c4, s161_33c5, s161_33c6, s161_33c7, s161_33c8, s161_33c9, s161_33c10, s161_33c11, s161_33c12, s161_33c13, s161_33c14, s161_33c15, s161_33c16, s161_33c17, s161_33c18, s161_33c19, s161_33c20, s161_33d, s161_916, s161_917, s161_918, s161_919, s161_920, s161_921, s161_922, s161_925, s161_926, s161_929, s161_930, s161_931, s161_932, s161_933, s161_934, s161_935, s161_938, s161_939, s161_940, s161_941, s161_942, s161_943, s161_944, s161_947, s161_948, s161_951, s161_952, s161_953, s161_954, s161_955, s161_956, s161_957, s161_960, s161_961, s161_964, s161_965, s161_1042, s161_1045, kh0, kh1, ih0, kG0, iG0, kG30, q1, q2, lg_self, e1, e2, e3, e4, e5, e6, e7, e8, e9, j1, c1, j2, c2, j3, c3, j4, c4, j5, c5, j6, c6, j7, c7, j8, c8, eq_true z1, ↓reduceIte, va_rf_s, va_rf_n, jb_some, jb_none, jtl_s, jtl_n, if_true, if_false, true_and, and_true, false_and, and_false, or_true, true_or, or_false, false_or, not_true_eq_false, not_false_eq_true, jk_si, jp_si, jj_si, jk_sj, jp_sj, ji_sj, jk_ci, jp_ci, jj_ci, jk_cj, jp_cj, ji_cj, jlng_n, jlng_i, jlng_r, jlng_0]
    · skip
      obtain ⟨v, G, H, q1, q2, hv, g30, g0, hRH, hH0, hx1, hx2⟩ := (p_halves 1 (xs (i + 2))).both hR hB
      obtain ⟨r, rfl⟩ := (show ∃ r, v = Value.long r from hv)
      have kG0 : jk G 0 = (30, L) := by rw [lk g0]; exact kh0
      have iG0 : ∀ k, ji G 0 k = xs k := fun k => by rw [li g0]; exact ih0 k
      have kG30 : jk G 30 = (9, 0) := by rw [lk (g30 30 (by omega) (by omega))]; exact k30 qm
      refine ⟨H, ?_, hRH, hH0.trans h0, hx1, hx2⟩
      simp only [s161_33c0, s161_33c1, s161_33c2, s161_33c3, s161_33c4, s161_33c5, s161_33c6, s161_33c7, s161_33c8, s161_33c9, s161_33c10, s161_33c11, s161_33c12, s161_33c13, s161_33c14, s161_33c15, s161_33c16, s161_33c17, s161_33c18, s161_33c19, s161_33c20, s161_33d, s161_916, s161_917, s161_918, s161_919, s161_920, s161_921, s161_922, s161_925, s161_926, s161_929, s161_930, s161_931, s161_932, s161_933, s161_934, s161_935, s161_938, s161_939, s161_940, s161_941, s161_942, s161_943, s161_944, s161_947, s161_948, s161_951, s161_952, s161_953, s161_954, s161_955, s161_956, s161_957, s161_960, s161_961, s161_964, s161_965, s161_1042, s161_1045, kh0, kh1, ih0, kG0, iG0, kG30, q1, q2, lg_self, e1, e2, e3, e4, e5, e6, e7, e8, e9, j1, c1, j2, c2, j3, c3, j4, c4, j5, c5, j6, c6, j7, c7, j8, c8, eq_false z1, ↓reduceIte, va_rf_s, va_rf_n, jb_some, jb_none, jtl_s, jtl_n, if_true, if_false, true_and, and_true, false_and, and_false, or_true, true_or, or_false, false_or, not_true_eq_false, not_false_eq_true, jk_si, jp_si, jj_si, jk_sj, jp_sj, ji_sj, jk_ci, jp_ci, jj_ci, jk_cj, jp_cj, ji_cj, jlng_n, jlng_i, jlng_r, jlng_0]
  · rw [show nI 19 = 19 from rfl]
    obtain ⟨v, G, H, q1, q2, hv, g30, g0, hRH, hH0, hx1, hx2⟩ := (p_word ((xs (i + 1)).toInt64 <<< ((32 : Int32).toInt64 &&& 63) ||| ((xs (i + 2)).toInt64 &&& 4294967295))).both hR hB
    obtain ⟨r, rfl⟩ := (show ∃ r, v = Value.int r from hv)
    have kG0 : jk G 0 = (30, L) := by rw [lk g0]; exact kh0
    have iG0 : ∀ k, ji G 0 k = xs k := fun k => by rw [li g0]; exact ih0 k
    have kG30 : jk G 30 = (9, 0) := by rw [lk (g30 30 (by omega) (by omega))]; exact k30 qm
    refine ⟨H, ?_, hRH, hH0.trans h0, hx1, hx2⟩
    simp only [s161_33c0, s161_33c1, s161_33c2, s161_33c3, s161_33c4, s161_33c5, s161_33c6, s161_33c7, s161_33c8, s161_33c9, s161_33c10, s161_33c11, s161_33c12, s161_33c13, s161_33c14, s161_33c15, s161_33c16, s161_33c17, s161_33c18, s161_33c19, s161_33c20, s161_33d, s161_966, s161_967, s161_968, s161_969, s161_970, s161_971, s161_972, s161_973, s161_975, s161_976, s161_977, s161_978, s161_979, s161_980, s161_981, s161_982, s161_985, s161_986, s161_987, s161_990, s161_991, s161_992, s161_993, s161_994, s161_995, s161_996, s161_997, s161_999, s161_1000, s161_1001, s161_1002, s161_1003, s161_1004, s161_1005, s161_1006, s161_1009, s161_1010, s161_1011, s161_1014, s161_1017, s161_1018, s161_1042, s161_1045, kh0, kh1, ih0, kG0, iG0, kG30, q1, q2, lg_self, e1, e2, e3, e4, e5, e6, e7, e8, e9, j1, c1, j2, c2, j3, c3, j4, c4, j5, c5, j6, c6, j7, c7, j8, c8, ↓reduceIte, va_rf_s, va_rf_n, jb_some, jb_none, jtl_s, jtl_n, if_true, if_false, true_and, and_true, false_and, and_false, or_true, true_or, or_false, false_or, not_true_eq_false, not_false_eq_true, jk_si, jp_si, jj_si, jk_sj, jp_sj, ji_sj, jk_ci, jp_ci, jj_ci, jk_cj, jp_cj, ji_cj, jlng_n, jlng_i, jlng_r, jlng_0]
  · rw [show nI 20 = 20 from rfl]
    obtain ⟨v, G, H, q1, q2, hv, g30, g0, hRH, hH0, hx1, hx2⟩ := (p_count (xs (i + 1))).both hR hB
    obtain ⟨r, rfl⟩ := (show ∃ r, v = Value.int r from hv)
    have kG0 : jk G 0 = (30, L) := by rw [lk g0]; exact kh0
    have iG0 : ∀ k, ji G 0 k = xs k := fun k => by rw [li g0]; exact ih0 k
    have kG30 : jk G 30 = (9, 0) := by rw [lk (g30 30 (by omega) (by omega))]; exact k30 qm
    refine ⟨H, ?_, hRH, hH0.trans h0, hx1, hx2⟩
    simp only [s161_33c0, s161_33c1, s161_33c2, s161_33c3, s161_33c4, s161_33c5, s161_33c6, s161_33c7, s161_33c8, s161_33c9, s161_33c10, s161_33c11, s161_33c12, s161_33c13, s161_33c14, s161_33c15, s161_33c16, s161_33c17, s161_33c18, s161_33c19, s161_33c20, s161_33d, s161_1019, s161_1020, s161_1021, s161_1022, s161_1023, s161_1024, s161_1025, s161_1028, s161_1029, s161_1030, s161_1031, s161_1032, s161_1033, s161_1034, s161_1037, s161_1040, s161_1041, s161_1042, s161_1045, kh0, kh1, ih0, kG0, iG0, kG30, q1, q2, lg_self, e1, e2, e3, e4, e5, e6, e7, e8, e9, j1, c1, j2, c2, j3, c3, j4, c4, j5, c5, j6, c6, j7, c7, j8, c8, ↓reduceIte, va_rf_s, va_rf_n, jb_some, jb_none, jtl_s, jtl_n, if_true, if_false, true_and, and_true, false_and, and_false, or_true, true_or, or_false, false_or, not_true_eq_false, not_false_eq_true, jk_si, jp_si, jj_si, jk_sj, jp_sj, ji_sj, jk_ci, jp_ci, jj_ci, jk_cj, jp_cj, ji_cj, jlng_n, jlng_i, jlng_r, jlng_0]
  · have hx : (nI k).toInt < 0 ∨ 20 < (nI k).toInt := Or.inr (by rw [nI_toInt (by omega)]; omega)
    refine ⟨h, ?_, hR.mono (Nat.le_add_right _ _) hB, h0, Nat.le_add_right _ _, Nat.le_add_right _ _⟩
    simp only [s161_33d (hx := hx), s161_1042, s161_1045, e9, ↓reduceIte, va_rf_s, va_rf_n, jb_some, jb_none, jtl_s, jtl_n, if_true, if_false, true_and, and_true, false_and, and_false, or_true, true_or, or_false, false_or, not_true_eq_false, not_false_eq_true, jk_si, jp_si, jj_si, jk_sj, jp_sj, ji_sj, jk_ci, jp_ci, jj_ci, jk_cj, jp_cj, ji_cj, jlng_n, jlng_i, jlng_r, jlng_0]
theorem la_loop {L : Nat} {xs : Nat → Int32} (hL : L ≤ 4608) : ∀ (m i B : Nat) (h : jH), L < i + 9 * m + 9 → i ≤ 4617 → RR B h h → h.1 0 = (gst L xs).1 0 → B + 2430720 * m < 1610612736 → ∃ h', jV 161 18 [some (.ref 0), some (.ref 1), some (.ref 30), some (.int (nI i))] [] h = some (some (.int 1), h') ∧ h'.2.1 ≤ h.2.1 + 7 * m ∧ h'.2.2 ≤ h.2.2 + 2100 * m := by
  intro m
  induction m with
  | zero =>
    intro i B h hm hi hR h0 hB
    have kh0 : jk h 0 = (30, L) := lk h0
    have lt : nI L - 9 < nI i := by
      by_cases c : 9 ≤ L
      · rw [show nI L - 9 = nI (L - 9) from pk_sub (a := L) (b := 9) c]
        exact nI_lt (by omega) (by omega)
      · have key : ∀ l : Fin 9, (nI l.val - 9).toInt < 0 := by decide
        rw [lt_toInt, nI_toInt (n := i) (by omega)]
        have := key ⟨L, by omega⟩
        simp only at this
        omega
    refine ⟨h, ?_, by omega, by omega⟩
    simp only [s161_18, s161_19, s161_20, s161_21, s161_23, s161_24, s161_1048, s161_1049, kh0, lt, Nat.reduceLeDiff, Nat.reduceEqDiff, and_false, or_true, ↓reduceIte, va_rf_s, va_rf_n, jb_some, jb_none, jtl_s, jtl_n, if_true, if_false, true_and, and_true, false_and, and_false, or_true, true_or, or_false, false_or, not_true_eq_false, not_false_eq_true, jk_si, jp_si, jj_si, jk_sj, jp_sj, ji_sj, jk_ci, jp_ci, jj_ci, jk_cj, jp_cj, ji_cj, jlng_n, jlng_i, jlng_r, jlng_0]
  | succ m ih =>
    intro i B h hm hi hR h0 hB
    by_cases c : i + 9 ≤ L
    · have hB1 : B + 2430720 < 1610612736 := Nat.lt_of_le_of_lt (Nat.add_le_add_left (Nat.le_mul_of_pos_right 2430720 (Nat.succ_pos m)) B) hB
      obtain ⟨H, r1, r2, r3, r4, r5⟩ := la_step hL c hR h0 hB1
      have hB2 : B + 2430720 + 2430720 * m < 1610612736 := by rw [Nat.mul_succ] at hB; omega
      obtain ⟨h', s1, s2, s3⟩ := ih (i + 9) (B + 2430720) H (by omega) (by omega) r2 r3 hB2
      exact ⟨h', r1.trans s1, by omega, by omega⟩
    · have hB1 : B + 2430720 * m < 1610612736 := Nat.lt_of_le_of_lt (Nat.add_le_add_left (Nat.mul_le_mul_left 2430720 (Nat.le_succ m)) B) hB
      obtain ⟨h', s1, s2, s3⟩ := ih i B h (by omega) hi hR h0 hB1
      exact ⟨h', s1, by omega, by omega⟩
theorem law_gst {L : Nat} {xs : Nat → Int32} (hL : L ≤ 4608) : ∃ h', jV 161 0 [some (.ref 0), none, none, none] [] (gst L xs) = some (some (.int 1), h') ∧ h'.2.1 ≤ 600001 ∧ h'.2.2 ≤ 7302250 := by
  obtain ⟨H, s1, s2, s3, s4, s5, s6⟩ := start L xs
  have hm : 2430720 * 512 = 1244528640 := rfl
  obtain ⟨h', r1, r2, r3⟩ := la_loop hL 512 0 0 H (by omega) (by omega) s3 s4 (by rw [hm]; omega)
  have x0 : (gst L xs).2.1 = 1 := rfl
  have x1 : (A11 L xs).2.1 = 30 := congrArg Prod.fst (A_x L xs)
  rw [show nI 0 = 0 from rfl] at r1
  refine ⟨h', ?_, by omega, by omega⟩
  simp only [s161_0, s161_3, s161_4, s161_7, s161_7n, s161_8, s161_11, s161_12, s161_15, s161_15n, s161_16, s161_17, x0, x1, s1, s2, r1, ↓reduceIte, va_rf_s, va_rf_n, jb_some, jb_none, jtl_s, jtl_n, if_true, if_false, true_and, and_true, false_and, and_false, or_true, true_or, or_false, false_or, not_true_eq_false, not_false_eq_true, jk_si, jp_si, jj_si, jk_sj, jp_sj, ji_sj, jk_ci, jp_ci, jj_ci, jk_cj, jp_cj, ji_cj, jlng_n, jlng_i, jlng_r, jlng_0]
