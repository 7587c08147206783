/-! JUDGING -/
theorem q_stat {g g' : jH} {n i q wt : Nat} {A0 A1 : List Int32} (qc : CS g) (qm : MS g') (hA : An g g' n A0 A1) (hi : i < 24) (kq : jk g q = (6, 0)) (hq74 : 74 ≤ q) (hwt : wt ≤ 2) (haw : jV 52 0 [some (.ref q)] [] g = some (some (.int (nI wt)), g)) : ∃ s w, jV 53 0 [some (.ref q), some (.ref 10), none, none, none, none] [] g = jV 53 54 [some (.ref q), some (.ref 10), some (.int (nI (min n wt))), some (.ref w), none, none] [] (jsi g q 11 s) ∧ ∀ (l f4 v : Int32) (y6 : Option Value) (t : Int32), jV 137 209 [some (.ref 30), some (.int (nI i)), some (.int l), some (.int (nI wt)), some (.int f4), some (.int v), y6] [] (jsi g' 30 22 t) = some (some (.int v), jsi (jsi g' 30 22 t) 66 (6 * i + 4) s) := by
  obtain ⟨q1, ⟨q2, q3⟩, ⟨q4, q5⟩, q6, q7, q8, q9⟩ := hA
  have emin : (if nI wt < nI n then nI wt else nI n) = nI (min n wt) := by
    by_cases c : wt < n
    · rw [if_pos (nI_lt c (by omega)), Nat.min_eq_right (by omega)]
    · rw [if_neg (nI_nlt (by omega) (by omega)), Nat.min_eq_left (by omega)]
  have emin2 : ∀ t : Int32, (ji (jsi g' 30 22 t) 30 52) = nI n := fun t => by rw [ji_si, if_neg (by omega)]; exact q3
  have hsn : min n wt ≤ 2 := by omega
  have x4 : jin (nI (6 * i + 4)) 144 = true := jin_nI (by omega) (by omega)
  have x5 : (nI (6 * i + 4)).toNatClampNeg = 6 * i + 4 := nI_clamp (by omega)
  have e6 : (6 : Int32) * nI i + 4 = nI (6 * i + 4) := by
    show nI 6 * nI i + nI 4 = _
    rw [pk_mul, nI_add]
  have qmt : ∀ t, MS (jsi g' 30 22 t) := fun t => ((Fr.refl (P := fun b k => b = 30) g').si rfl).ms qm
  have z0 : nI 0 = 0 := rfl
  -- the model's own minimum
  have mm : ∀ (t l f4 v : Int32) (y6 : Option Value), jV 137 209 [some (.ref 30), some (.int (nI i)), some (.int l), some (.int (nI wt)), some (.int f4), some (.int v), y6] [] (jsi g' 30 22 t) = jV 137 229 [some (.ref 30), some (.int (nI i)), some (.int l), some (.int (nI wt)), some (.int f4), some (.int v), some (.int (nI (min n wt) - 1))] [] (jsi g' 30 22 t) := by
    intro t l f4 v y6
    by_cases c : n < wt
    · rw [Nat.min_eq_left (by omega)]
      simp only [s137_209, s137_210, s137_213, s137_214, s137_217, s137_218, s137_221, s137_224, s137_225, s137_226, s137_227, k30 (qmt t), emin2, nI_lt c (show wt < 2 ^ 31 by omega), ↓reduceIte, va_rf_s, va_rf_n, jb_some, jb_none, jtl_s, jtl_n, if_true, if_false, true_and, and_true, false_and, and_false, or_true, true_or, or_false, false_or, not_true_eq_false, not_false_eq_true, jk_si, jp_si, jj_si, jk_sj, jp_sj, ji_sj, jk_ci, jp_ci, jj_ci, jk_cj, jp_cj, ji_cj, jlng_n, jlng_i, jlng_r, jlng_0]
    · rw [Nat.min_eq_right (by omega)]
      simp only [s137_209, s137_210, s137_213, s137_214, s137_217, s137_218, s137_221, s137_224, s137_225, s137_226, s137_227, k30 (qmt t), emin2, nI_nlt (show wt ≤ n by omega) (show n < 2 ^ 31 by omega), ↓reduceIte, va_rf_s, va_rf_n, jb_some, jb_none, jtl_s, jtl_n, if_true, if_false, true_and, and_true, false_and, and_false, or_true, true_or, or_false, false_or, not_true_eq_false, not_false_eq_true, jk_si, jp_si, jj_si, jk_sj, jp_sj, ji_sj, jk_ci, jp_ci, jj_ci, jk_cj, jp_cj, ji_cj, jlng_n, jlng_i, jlng_r, jlng_0]
  by_cases c0 : min n wt = 0
  · refine ⟨-1, 21, ?_, fun l f4 v y6 t => ?_⟩
    · rw [c0] at emin ⊢
      simp only [s53_0, s53_1, s53_4, s53_5, s53_8, s53_11, s53_12, s53_13, s53_14, s53_17, s53_18, s53_21, s53_24, s53_25, s53_28, s53_28n, s53_29, s53_30, s53_31, s53_34, s53_34n, s53_35, s53_36, s53_39, s53_42, s53_42n, s53_43, s53_44, s53_47, s53_50, s53_51, k10 qc, q2, haw, emin, z0, kq, p10_5 qc, eq_false (show ¬ (0 : Int32) = 2 by decide), eq_false (show ¬ (0 : Int32) < 0 by decide), ↓reduceIte, va_rf_s, va_rf_n, jb_some, jb_none, jtl_s, jtl_n, if_true, if_false, true_and, and_true, false_and, and_false, or_true, true_or, or_false, false_or, not_true_eq_false, not_false_eq_true, jk_si, jp_si, jj_si, jk_sj, jp_sj, ji_sj, jk_ci, jp_ci, jj_ci, jk_cj, jp_cj, ji_cj, jlng_n, jlng_i, jlng_r, jlng_0]
    · rw [mm, c0]
      simp only [s137_229, s137_230, s137_233, s137_235, s137_236, s137_237, s137_238, s137_239, s137_241, s137_244, s137_245, s137_248, s137_250, s137_252, s137_253, s137_254, s137_257, s137_260, s137_261, s137_264, s137_266, s137_268, s137_269, s137_270, s137_272, s137_273, s137_276, s137_277, s137_278, s137_280, k30 (qmt t), k66 (qmt t), p30_39 (qmt t), x4, x5, e6, z0, eq_true (show (0 : Int32) - 1 < 0 by decide), ↓reduceIte, va_rf_s, va_rf_n, jb_some, jb_none, jtl_s, jtl_n, if_true, if_false, true_and, and_true, false_and, and_false, or_true, true_or, or_false, false_or, not_true_eq_false, not_false_eq_true, jk_si, jp_si, jj_si, jk_sj, jp_sj, ji_sj, jk_ci, jp_ci, jj_ci, jk_cj, jp_cj, ji_cj, jlng_n, jlng_i, jlng_r, jlng_0]
  · -- the last one seen
    have key : ∃ w A, WI g w A ∧ (min n wt = 2 → w = 24) ∧ (¬ min n wt = 2 → w = 21) ∧ 1 ≤ A.length ∧ ∀ (j : Nat) (x : Int32), A[j]? = some x → ji g' 69 (40 * (min n wt - 1) + j) = x := by
      by_cases c2 : min n wt = 2
      · obtain ⟨_, y2, y3⟩ := q9 (by omega)
        refine ⟨24, A1, q5, fun _ => rfl, fun z => absurd c2 z, y2, fun j x hx => ?_⟩
        rw [c2]
        exact (y3 j x hx).1
      · obtain ⟨_, y2, y3⟩ := q8 (by omega)
        refine ⟨21, A0, q4, fun z => absurd z c2, fun _ => rfl, y2, fun j x hx => ?_⟩
        rw [show min n wt - 1 = 0 by omega, Nat.mul_zero, Nat.zero_add]
        exact (y3 j x hx).1
    obtain ⟨w, A, hW, w24, w21, hl, hA⟩ := key
    have hq0 : A[0]? = some A[0] := List.getElem?_eq_getElem (by omega)
    have hg0 : A.getD 0 (-1) = A[0] := by rw [List.getD_eq_getElem?_getD, hq0]; rfl
    have h69 := hA _ _ hq0
    rw [Nat.add_zero] at h69
    generalize A[0] = x at hg0 h69
    have wc := w_isCommand hW (i := 0) (by omega)
    have wb := w_bitsAt hW (i := 0) (by omega)
    rw [hg0, z0] at wc wb
    rw [cw_and] at wb
    have kw := hW.1.1
    have gt0 : (0 : Int32) < nI (min n wt) := nI_lt (a := 0) (by omega) (by omega)
    have e1 : nI (min n wt) - 1 = nI (min n wt - 1) := pk_sub (a := min n wt) (b := 1) (by omega)
    have ep : ¬ nI (min n wt - 1) < 0 := nI_pos (by omega)
    have e40 : (40 : Int32) * nI (min n wt - 1) = nI (40 * (min n wt - 1)) := by
      show nI 40 * nI _ = _
      rw [pk_mul]
    have r4 : jin (nI (40 * (min n wt - 1))) 80 = true := jin_nI (by omega) (by omega)
    have r5 : (nI (40 * (min n wt - 1))).toNatClampNeg = 40 * (min n wt - 1) := nI_clamp (by omega)
    have h69t : ∀ t, ji (jsi g' 30 22 t) 69 (40 * (min n wt - 1)) = x := fun t => by rw [ji_si, if_neg (by omega)]; exact h69
    have oi := fun t => o_isCommand x (jsi g' 30 22 t)
    have cls : ∀ s, jV 53 29 [some (.ref q), some (.ref 10), some (.int (nI (min n wt))), some (.ref w), none, none] [] g = jV 53 54 [some (.ref q), some (.ref 10), some (.int (nI (min n wt))), some (.ref w), none, none] [] (jsi g q 11 s) → jV 53 0 [some (.ref q), some (.ref 10), none, none, none, none] [] g = jV 53 54 [some (.ref q), some (.ref 10), some (.int (nI (min n wt))), some (.ref w), none, none] [] (jsi g q 11 s) := by
      intro s hs
      by_cases c2 : min n wt = 2
      · have e := w24 c2
        subst e
        have z2 := eq_true (show nI (min n wt) = 2 by rw [c2]; rfl)
        simp only [s53_0, s53_1, s53_4, s53_5, s53_8, s53_11, s53_12, s53_13, s53_14, s53_17, s53_18, s53_21, s53_24, s53_25, s53_28, s53_28n, k10 qc, q2, haw, emin, kq, p10_6 qc, z2, hs, ↓reduceIte, va_rf_s, va_rf_n, jb_some, jb_none, jtl_s, jtl_n, if_true, if_false, true_and, and_true, false_and, and_false, or_true, true_or, or_false, false_or, not_true_eq_false, not_false_eq_true, jk_si, jp_si, jj_si, jk_sj, jp_sj, ji_sj, jk_ci, jp_ci, jj_ci, jk_cj, jp_cj, ji_cj, jlng_n, jlng_i, jlng_r, jlng_0]
      · have e := w21 c2
        subst e
        have z2 := eq_false (show ¬ nI (min n wt) = 2 from fun y => c2 ((e_eq (b := 2) (by omega) (by omega)).mp y))
        simp only [s53_0, s53_1, s53_4, s53_5, s53_8, s53_11, s53_12, s53_13, s53_14, s53_17, s53_18, s53_21, s53_24, s53_25, s53_28, s53_28n, k10 qc, q2, haw, emin, kq, p10_5 qc, z2, hs, ↓reduceIte, va_rf_s, va_rf_n, jb_some, jb_none, jtl_s, jtl_n, if_true, if_false, true_and, and_true, false_and, and_false, or_true, true_or, or_false, false_or, not_true_eq_false, not_false_eq_true, jk_si, jp_si, jj_si, jk_sj, jp_sj, ji_sj, jk_ci, jp_ci, jj_ci, jk_cj, jp_cj, ji_cj, jlng_n, jlng_i, jlng_r, jlng_0]
    by_cases d : isC x
    · rw [jB_t d] at wc
      refine ⟨nI (cw x), w, cls _ ?_, fun l f4 v y6 t => ?_⟩
      · simp only [s53_29, s53_30, s53_31, s53_34, s53_34n, s53_35, s53_36, s53_39, s53_42, s53_42n, s53_43, s53_44, s53_47, s53_50, s53_51, kw, kq, gt0, wc, wb, n1, ↓reduceIte, va_rf_s, va_rf_n, jb_some, jb_none, jtl_s, jtl_n, if_true, if_false, true_and, and_true, false_and, and_false, or_true, true_or, or_false, false_or, not_true_eq_false, not_false_eq_true, jk_si, jp_si, jj_si, jk_sj, jp_sj, ji_sj, jk_ci, jp_ci, jj_ci, jk_cj, jp_cj, ji_cj, jlng_n, jlng_i, jlng_r, jlng_0]
      · have oi := oi t
        rw [jB_t d] at oi
        rw [mm, e1]
        simp only [s137_229, s137_230, s137_233, s137_235, s137_236, s137_237, s137_238, s137_239, s137_241, s137_244, s137_245, s137_248, s137_250, s137_252, s137_253, s137_254, s137_257, s137_260, s137_261, s137_264, s137_266, s137_268, s137_269, s137_270, s137_272, s137_273, s137_276, s137_277, s137_278, s137_280, k30 (qmt t), k66 (qmt t), k69 (qmt t), p30_39 (qmt t), p30_50 (qmt t), x4, x5, e6, ep, e40, r4, r5, h69t, oi, cw_and, n1, ↓reduceIte, va_rf_s, va_rf_n, jb_some, jb_none, jtl_s, jtl_n, if_true, if_false, true_and, and_true, false_and, and_false, or_true, true_or, or_false, false_or, not_true_eq_false, not_false_eq_true, jk_si, jp_si, jj_si, jk_sj, jp_sj, ji_sj, jk_ci, jp_ci, jj_ci, jk_cj, jp_cj, ji_cj, jlng_n, jlng_i, jlng_r, jlng_0]
    · rw [jB_f d] at wc
      refine ⟨-1, w, cls _ ?_, fun l f4 v y6 t => ?_⟩
      · simp only [s53_29, s53_30, s53_31, s53_34, s53_34n, s53_35, s53_36, s53_39, s53_42, s53_42n, s53_43, s53_44, s53_47, s53_50, s53_51, kw, kq, gt0, wc, ↓reduceIte, va_rf_s, va_rf_n, jb_some, jb_none, jtl_s, jtl_n, if_true, if_false, true_and, and_true, false_and, and_false, or_true, true_or, or_false, false_or, not_true_eq_false, not_false_eq_true, jk_si, jp_si, jj_si, jk_sj, jp_sj, ji_sj, jk_ci, jp_ci, jj_ci, jk_cj, jp_cj, ji_cj, jlng_n, jlng_i, jlng_r, jlng_0]
      · have oi := oi t
        rw [jB_f d] at oi
        rw [mm, e1]
        simp only [s137_229, s137_230, s137_233, s137_235, s137_236, s137_237, s137_238, s137_239, s137_241, s137_244, s137_245, s137_248, s137_250, s137_252, s137_253, s137_254, s137_257, s137_260, s137_261, s137_264, s137_266, s137_268, s137_269, s137_270, s137_272, s137_273, s137_276, s137_277, s137_278, s137_280, k30 (qmt t), k66 (qmt t), k69 (qmt t), p30_39 (qmt t), p30_50 (qmt t), x4, x5, e6, ep, e40, r4, r5, h69t, oi, ↓reduceIte, va_rf_s, va_rf_n, jb_some, jb_none, jtl_s, jtl_n, if_true, if_false, true_and, and_true, false_and, and_false, or_true, true_or, or_false, false_or, not_true_eq_false, not_false_eq_true, jk_si, jp_si, jj_si, jk_sj, jp_sj, ji_sj, jk_ci, jp_ci, jj_ci, jk_cj, jp_cj, ji_cj, jlng_n, jlng_i, jlng_r, jlng_0]
/-- what judging finds -/
theorem c_why {g g1 : jH} {n q tc fc w : Nat} {of ot : Bool} {v1 v2 : Int32} {w3 : Nat} (qc : CS g) (kq : jk g q = (6, 0)) (hq74 : 74 ≤ q) (h0 : ji g q 0 = if ot then nI tc else -1) (h1 : ji g q 1 = if of then nI fc else -1) (h3 : ji g q 3 = nI w) (hc : tc < 65536) (hf : fc < 65536) (fg : Fr (fun b k => b = q ∧ (k = 10 ∨ k = 11)) g g1) (hn : n ≤ 2)
    (hF : of = true → (n = 0 → v1 = 1) ∧ (1 ≤ n → ∀ h, Fr (fun b k => b = q ∧ (k = 10 ∨ k = 11)) g h → jV 56 0 [some (.ref 21), some (.int (nI fc)), some (.int (nI w)), none] [] h = some (some (.int v1), h)))
    (hT1 : of = true → ot = true ∧ ¬ aN tc = 31 → (n ≤ 1 → v2 = 1) ∧ (2 ≤ n → ∀ h, Fr (fun b k => b = q ∧ (k = 10 ∨ k = 11)) g h → jV 56 0 [some (.ref 24), some (.int (nI tc)), some (.int 0), none] [] h = some (some (.int v2), h)))
    (hT0 : of = false → ot = true ∧ ¬ aN tc = 31 → (n = 0 → v2 = 1) ∧ (1 ≤ n → ∀ h, Fr (fun b k => b = q ∧ (k = 10 ∨ k = 11)) g h → jV 56 0 [some (.ref 21), some (.int (nI tc)), some (.int (nI w)), none] [] h = some (some (.int v2), h))) :
    ∃ G, jV 53 54 [some (.ref q), some (.ref 10), some (.int (nI (min n (aw of ot tc)))), some (.ref w3), none, none] [] g1 = some (none, G) ∧ ji G q 10 = (if of = true ∧ ¬ v1 = 0 then v1 else if ot = true ∧ ¬ aN tc = 31 then v2 else 0) ∧ Fr (fun b k => b = q ∧ k = 10) g1 G := by
  have ne : ∀ c, c < 65536 → ¬ nI c = -1 := fun c hc z => absurd (z ▸ (by decide) : nI c < 0) (nI_pos (by omega))
  have F2 : Fr (fun b k => b = q ∧ (k = 10 ∨ k = 11)) g (jsi g1 q 10 0) := fg.si ⟨rfl, Or.inl rfl⟩
  have F3 : Fr (fun b k => b = q ∧ (k = 10 ∨ k = 11)) g (jsi (jsi g1 q 10 0) q 10 v1) := F2.si ⟨rfl, Or.inl rfl⟩
  have kk : ∀ h, Fr (fun b k => b = q ∧ (k = 10 ∨ k = 11)) g h → jk h q = (6, 0) ∧ ji h q 0 = (if ot then nI tc else -1) ∧ ji h q 1 = (if of then nI fc else -1) ∧ ji h q 3 = nI w ∧ CS h := fun h f => ⟨by rw [f.k]; exact kq, by rw [f.i (by omega)]; exact h0, by rw [f.i (by omega)]; exact h1, by rw [f.i (by omega)]; exact h3, f.cs qc⟩
  obtain ⟨a1, a2, a3, a4, a5⟩ := kk g1 fg
  obtain ⟨b1, b2, b3, b4, b5⟩ := kk _ F2
  obtain ⟨c1, c2, c3, c4, c5⟩ := kk _ F3
  have f2 : Fr (fun b k => b = q ∧ k = 10) g1 (jsi g1 q 10 0) := (Fr.refl g1).si ⟨rfl, rfl⟩
  have f3 : ∀ v, Fr (fun b k => b = q ∧ k = 10) g1 (jsi (jsi g1 q 10 0) q 10 v) := fun v => f2.si ⟨rfl, rfl⟩
  have at2 := c_awaitsTo b1 b2 hc
  have at3 := c_awaitsTo c1 c2 hc
  have aw2 := c_awaited b1 b2 b3 hc hf
  have aw3 := c_awaited c1 c2 c3 hc hf
  have r2 : ji (jsi g1 q 10 0) q 10 = 0 := by rw [ji_si, if_pos ⟨rfl, rfl⟩]
  have r3 : ∀ v, ji (jsi (jsi g1 q 10 0) q 10 v) q 10 = v := fun v => by rw [ji_si, if_pos ⟨rfl, rfl⟩]
  cases of
  · -- no answer of a sender
    have hT := hT0 rfl
    clear hF hT1 hT0
    simp only [Bool.false_eq_true, if_false] at a3 b3 c3
    by_cases c : ot = true ∧ ¬ aN tc = 31
    · obtain ⟨t1, t2⟩ := hT c
      rw [jB_t c] at at2
      have eaw : aw false ot tc = 1 := by unfold aw; rw [if_neg (by decide), if_pos c]
      rw [eaw] at aw2 ⊢
      simp only [Bool.false_eq_true, false_and, if_false, if_pos c]
      have ot1 := c.1
      subst ot1
      simp only [if_true] at b2
      by_cases z : n = 0
      · have t3 := t1 z
        subst z
        refine ⟨_, ?_, r3 v2, f3 v2⟩
        rw [t3]
        simp only [s53_54, s53_55, s53_56, s53_59, s53_60, s53_63, s53_64, s53_67, s53_68, s53_69, s53_70, s53_73, s53_74, s53_77, s53_78, s53_81, s53_82, s53_85, s53_86, s53_89, s53_92, s53_95, s53_96, s53_99, s53_102, s53_103, s53_106, s53_109, s53_110, s53_113, s53_114, s53_117, s53_118, s53_121, s53_124, s53_125, s53_128 (hq := jlng_r w3), s53_130, s53_131, s53_134, s53_135, s53_138, s53_139, s53_142, s53_143, s53_146 (hq := jlng_r 21), s53_148, s53_149, s53_150, s53_151, s53_154, s53_157, s53_158, s53_161, s53_161n, s53_163, s53_164, s53_167, s53_169, s53_172, s53_175, k10 a5, k10 b5, p10_5 b5, a1, b1, a3, b3, b4, r2, at2, aw2, n1, eq_true (show nI (min 0 1) < nI 1 by decide), ↓reduceIte, va_rf_s, va_rf_n, jb_some, jb_none, jtl_s, jtl_n, if_true, if_false, true_and, and_true, false_and, and_false, or_true, true_or, or_false, false_or, not_true_eq_false, not_false_eq_true, jk_si, jp_si, jj_si, jk_sj, jp_sj, ji_sj, jk_ci, jp_ci, jj_ci, jk_cj, jp_cj, ji_cj, jlng_n, jlng_i, jlng_r, jlng_0]
      · have t2 := t2 (by omega) _ F2
        refine ⟨_, ?_, r3 v2, f3 v2⟩
        have e1 : min n 1 = 1 := by omega
        rw [e1]
        simp only [s53_54, s53_55, s53_56, s53_59, s53_60, s53_63, s53_64, s53_67, s53_68, s53_69, s53_70, s53_73, s53_74, s53_77, s53_78, s53_81, s53_82, s53_85, s53_86, s53_89, s53_92, s53_95, s53_96, s53_99, s53_102, s53_103, s53_106, s53_109, s53_110, s53_113, s53_114, s53_117, s53_118, s53_121, s53_124, s53_125, s53_128 (hq := jlng_r w3), s53_130, s53_131, s53_134, s53_135, s53_138, s53_139, s53_142, s53_143, s53_146 (hq := jlng_r 21), s53_148, s53_149, s53_150, s53_151, s53_154, s53_157, s53_158, s53_161, s53_161n, s53_163, s53_164, s53_167, s53_169, s53_172, s53_175, k10 a5, k10 b5, p10_5 b5, a1, b1, a3, b2, b3, b4, r2, at2, aw2, t2, n1, eq_false (show ¬ nI 1 < nI 1 by decide), ↓reduceIte, va_rf_s, va_rf_n, jb_some, jb_none, jtl_s, jtl_n, if_true, if_false, true_and, and_true, false_and, and_false, or_true, true_or, or_false, false_or, not_true_eq_false, not_false_eq_true, jk_si, jp_si, jj_si, jk_sj, jp_sj, ji_sj, jk_ci, jp_ci, jj_ci, jk_cj, jp_cj, ji_cj, jlng_n, jlng_i, jlng_r, jlng_0]
    · rw [jB_f c] at at2
      refine ⟨_, ?_, by rw [r2, if_neg (fun z => absurd z.1 (by decide)), if_neg c], f2⟩
      simp only [s53_54, s53_55, s53_56, s53_59, s53_60, s53_63, s53_64, s53_67, s53_68, s53_69, s53_70, s53_73, s53_74, s53_77, s53_78, s53_81, s53_82, s53_85, s53_86, s53_89, s53_92, s53_95, s53_96, s53_99, s53_102, s53_103, s53_106, s53_109, s53_110, s53_113, s53_114, s53_117, s53_118, s53_121, s53_124, s53_125, s53_128, s53_128n, s53_130, s53_131, s53_134, s53_135, s53_138, s53_139, s53_142, s53_143, s53_146, s53_148, s53_149, s53_150, s53_151, s53_154, s53_157, s53_158, s53_161, s53_161n, s53_163, s53_164, s53_167, s53_169, s53_172, s53_175, a1, b1, a3, b3, r2, at2, ↓reduceIte, va_rf_s, va_rf_n, jb_some, jb_none, jtl_s, jtl_n, if_true, if_false, true_and, and_true, false_and, and_false, or_true, true_or, or_false, false_or, not_true_eq_false, not_false_eq_true, jk_si, jp_si, jj_si, jk_sj, jp_sj, ji_sj, jk_ci, jp_ci, jj_ci, jk_cj, jp_cj, ji_cj, jlng_n, jlng_i, jlng_r, jlng_0]
  · simp only [if_true] at a3 b3 c3
    obtain ⟨u1, u2⟩ := hF rfl
    have hT := hT1 rfl
    clear hF hT1 hT0
    have sn1 : min n (aw true ot tc) < 1 ↔ n = 0 := by unfold aw; rw [if_pos rfl]; omega
    -- the first answer
    have first : jV 53 54 [some (.ref q), some (.ref 10), some (.int (nI (min n (aw true ot tc)))), some (.ref w3), none, none] [] g1 = jV 53 95 [some (.ref q), some (.ref 10), some (.int (nI (min n (aw true ot tc)))), some (.ref w3), none, none] [] (jsi (jsi g1 q 10 0) q 10 v1) := by
      have h1' : nI (min n (aw true ot tc)) < 1 ↔ min n (aw true ot tc) < 1 := nI_ltI (b := 1) (by omega) (by omega)
      by_cases z : n = 0
      · have v1e := u1 z
        simp only [s53_54, s53_55, s53_56, s53_59, s53_60, s53_63, s53_64, s53_67, s53_68, s53_69, s53_70, s53_73, s53_74, s53_77, s53_78, s53_81, s53_82, s53_85, s53_86, s53_89, s53_92, a1, b1, b3, ne fc hf, eq_true (h1'.mpr (sn1.mpr z)), v1e, ↓reduceIte, va_rf_s, va_rf_n, jb_some, jb_none, jtl_s, jtl_n, if_true, if_false, true_and, and_true, false_and, and_false, or_true, true_or, or_false, false_or, not_true_eq_false, not_false_eq_true, jk_si, jp_si, jj_si, jk_sj, jp_sj, ji_sj, jk_ci, jp_ci, jj_ci, jk_cj, jp_cj, ji_cj, jlng_n, jlng_i, jlng_r, jlng_0]
      · have v1e := u2 (by omega) _ F2
        simp only [s53_54, s53_55, s53_56, s53_59, s53_60, s53_63, s53_64, s53_67, s53_68, s53_69, s53_70, s53_73, s53_74, s53_77, s53_78, s53_81, s53_82, s53_85, s53_86, s53_89, s53_92, k10 b5, p10_5 b5, k21 b5, a1, b1, b3, b4, ne fc hf, eq_false (fun y => z (sn1.mp (h1'.mp y))), v1e, ↓reduceIte, va_rf_s, va_rf_n, jb_some, jb_none, jtl_s, jtl_n, if_true, if_false, true_and, and_true, false_and, and_false, or_true, true_or, or_false, false_or, not_true_eq_false, not_false_eq_true, jk_si, jp_si, jj_si, jk_sj, jp_sj, ji_sj, jk_ci, jp_ci, jj_ci, jk_cj, jp_cj, ji_cj, jlng_n, jlng_i, jlng_r, jlng_0]
    rw [first]
    by_cases z : v1 = 0
    · by_cases c : ot = true ∧ ¬ aN tc = 31
      · obtain ⟨t1, t2⟩ := hT c
        rw [jB_t c] at at3
        have eaw : aw true ot tc = 2 := by unfold aw; rw [if_pos rfl, if_pos c]
        rw [eaw] at aw3 ⊢
        have ot1 := c.1
        subst ot1
        simp only [if_true] at c2
        have F4 : Fr (fun b k => b = q ∧ k = 10) g1 (jsi (jsi (jsi g1 q 10 0) q 10 v1) q 10 v2) := (f3 v1).si ⟨rfl, rfl⟩
        refine ⟨jsi (jsi (jsi g1 q 10 0) q 10 v1) q 10 v2, ?_, by rw [ji_si, if_pos ⟨rfl, rfl⟩, if_neg (fun y => y.2 z), if_pos c], F4⟩
        have r3' : ji (jsi (jsi g1 q 10 0) q 10 v1) q 10 = 0 := by rw [r3]; exact z
        have h2' : nI (min n 2) < nI 2 ↔ min n 2 < 2 := nI_ltI (by omega) (by omega)
        by_cases y : n ≤ 1
        · have t1 := t1 y
          simp only [s53_95, s53_96, s53_99, s53_102, s53_103, s53_106, s53_109, s53_110, s53_113, s53_114, s53_117, s53_118, s53_121, s53_124, s53_125, s53_128 (hq := jlng_r w3), s53_130, s53_131, s53_134, s53_135, s53_138, s53_139, s53_142, s53_143, s53_146 (hq := jlng_r 24), s53_148, s53_149, s53_150, s53_151, s53_154, s53_157, s53_158, s53_161, s53_161n, s53_163, s53_164, s53_167, s53_169, s53_172, s53_175, k10 c5, p10_6 c5, c1, c3, c4, r3', at3, aw3, ne fc hf, n1, eq_true (h2'.mpr (by omega)), t1, ↓reduceIte, va_rf_s, va_rf_n, jb_some, jb_none, jtl_s, jtl_n, if_true, if_false, true_and, and_true, false_and, and_false, or_true, true_or, or_false, false_or, not_true_eq_false, not_false_eq_true, jk_si, jp_si, jj_si, jk_sj, jp_sj, ji_sj, jk_ci, jp_ci, jj_ci, jk_cj, jp_cj, ji_cj, jlng_n, jlng_i, jlng_r, jlng_0]
        · have t2 := t2 (by omega) _ F3
          simp only [s53_95, s53_96, s53_99, s53_102, s53_103, s53_106, s53_109, s53_110, s53_113, s53_114, s53_117, s53_118, s53_121, s53_124, s53_125, s53_128 (hq := jlng_r w3), s53_130, s53_131, s53_134, s53_135, s53_138, s53_139, s53_142, s53_143, s53_146 (hq := jlng_r 24), s53_148, s53_149, s53_150, s53_151, s53_154, s53_157, s53_158, s53_161, s53_161n, s53_163, s53_164, s53_167, s53_169, s53_172, s53_175, k10 c5, p10_6 c5, c1, c2, c3, c4, r3', at3, aw3, ne fc hf, n1, eq_false (fun w => (by omega : ¬ min n 2 < 2) (h2'.mp w)), t2, ↓reduceIte, va_rf_s, va_rf_n, jb_some, jb_none, jtl_s, jtl_n, if_true, if_false, true_and, and_true, false_and, and_false, or_true, true_or, or_false, false_or, not_true_eq_false, not_false_eq_true, jk_si, jp_si, jj_si, jk_sj, jp_sj, ji_sj, jk_ci, jp_ci, jj_ci, jk_cj, jp_cj, ji_cj, jlng_n, jlng_i, jlng_r, jlng_0]
      · rw [jB_f c] at at3
        refine ⟨_, ?_, by rw [r3, if_neg (fun y => y.2 z), if_neg c]; exact z, f3 v1⟩
        have r3' : ji (jsi (jsi g1 q 10 0) q 10 v1) q 10 = 0 := by rw [r3]; exact z
        simp only [s53_95, s53_96, s53_99, s53_102, s53_103, s53_106, s53_109, s53_110, s53_113, s53_114, s53_117, s53_118, s53_121, s53_124, s53_125, s53_128, s53_128n, s53_130, s53_131, s53_134, s53_135, s53_138, s53_139, s53_142, s53_143, s53_146, s53_148, s53_149, s53_150, s53_151, s53_154, s53_157, s53_158, s53_161, s53_161n, s53_163, s53_164, s53_167, s53_169, s53_172, s53_175, c1, r3', at3, ↓reduceIte, va_rf_s, va_rf_n, jb_some, jb_none, jtl_s, jtl_n, if_true, if_false, true_and, and_true, false_and, and_false, or_true, true_or, or_false, false_or, not_true_eq_false, not_false_eq_true, jk_si, jp_si, jj_si, jk_sj, jp_sj, ji_sj, jk_ci, jp_ci, jj_ci, jk_cj, jp_cj, ji_cj, jlng_n, jlng_i, jlng_r, jlng_0]
    · refine ⟨_, ?_, by rw [r3, if_pos ⟨rfl, z⟩], f3 v1⟩
      have r3' : ¬ ji (jsi (jsi g1 q 10 0) q 10 v1) q 10 = 0 := by rw [r3]; exact z
      simp only [s53_95, s53_96, s53_99, s53_102, s53_103, s53_106, s53_109, s53_110, s53_113, s53_114, s53_117, s53_118, s53_121, s53_124, s53_125, s53_128, s53_128n, s53_130, s53_131, s53_134, s53_135, s53_138, s53_139, s53_142, s53_143, s53_146, s53_148, s53_149, s53_150, s53_151, s53_154, s53_157, s53_158, s53_161, s53_161n, s53_163, s53_164, s53_167, s53_169, s53_172, s53_175, c1, r3', ↓reduceIte, va_rf_s, va_rf_n, jb_some, jb_none, jtl_s, jtl_n, if_true, if_false, true_and, and_true, false_and, and_false, or_true, true_or, or_false, false_or, not_true_eq_false, not_false_eq_true, jk_si, jp_si, jj_si, jk_sj, jp_sj, ji_sj, jk_ci, jp_ci, jj_ci, jk_cj, jp_cj, ji_cj, jlng_n, jlng_i, jlng_r, jlng_0]
