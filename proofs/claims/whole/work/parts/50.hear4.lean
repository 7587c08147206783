/-! HEARING: what is sent, what waits, modes -/
theorem ho_ans {B n a t l : Nat} {L A0 A1 : List Int32} {g g' G G0' : jH} (hC : HC B L G G0' a t n A0 A1) (hB : B + 33 < 1610612736) (hl : l ≤ 1) (hn1 : n ≤ 1) (h15 : ji G t 15 = ji G0' 72 a) {bs : List Nat} (hRp : Rp G G0' bs) (hWA : WA a L) (F : Fr (cHp t) g G) (F' : Fr (mHp a) g' G0') (E : ji G0' 71 a = ji g' 71 a) {c m : Option (Option Value × jH)} (hc : c = some (some (.int 1), G)) (hm : ∀ G', jV 123 0 [some (.ref 30), some (.int (nI a)), some (.int (nI l)), some (.int 1), none, none] [] G0' = some (none, G') → m = some (none, G')) : HO (B + 33) L g g' a t l n A0 A1 c m := by
  obtain ⟨G4, G4', n', A0', A1', q1, q2, q3, q4, q5, q6⟩ := fin_ans hC hB hl hn1 h15 hRp
  have ht74 := hC.2.2.2.1.1.1
  exact ⟨1, G, hc, Or.inr (Or.inr ⟨rfl, hC.2.1, G4, G4', n', A0', A1', q1, hm _ q2, q3, q4, hWA, F.trans (q5.sub (fun c k z => cHp_y z)), F'.trans (q6.sub (fun c k z => mHp_y z)), by rw [q6.i (by omega)]; exact E⟩)⟩
/-- the held words are sent -/
theorem hr_send {B n a t l i : Nat} {L A0 A1 : List Int32} {x : Int32} {g g' : jH} (hC : HC B L g g' a t n A0 A1) (hB : B + 33 < 1610612736) (hl : l ≤ 1) (hx : LCN a L i x) (hn : WA a L → n = 0) (hn1 : n ≤ 1) (h15 : ji g t 15 = ji g' 72 a) (h12 : ji g t 12 = nI (cw x)) (h43 : ji g' 43 a = 0) (h44 : (aN (cw x) = a ∧ mv g' a 44 = 0) ∨ (aN (cw x) = 31 ∧ mv g' a 44 = 1)) (hd : ¬ dN (cw x)) (hsn : sN (cw x)) : HO (B + 33) L g g' a t l n A0 A1 (jV 31 139 [some (.ref t), some (.ref 15), some (.int (nI l)), some (.ref 18), some (.int (nI i)), some (.int (nI (cw x))), some (.int (nI (i + 1)))] [] g) (jV 126 202 [some (.ref 30), some (.int (nI a)), some (.int (nI l)), some (.int (nI i)), some (.int (nI (cw x))), some (.int (nI (i + 1))), some (.int (jB (aN (cw x) = a))), none, none] [] g') := by
  obtain ⟨ha, qc, qm, hT0, hR, hW, hL, ⟨R0, hR0⟩, hA⟩ := id hC; obtain ⟨ht, hs, hMu, hBa, hPl⟩ := id hT0; obtain ⟨h0, h33, h34, ⟨h42, h43', h44', h6⟩, h7, h8, h9, h10, h11, h12', h14⟩ := id hs; obtain ⟨ht74, kt, pt2, pt3, kt1, pt10, pt11, kt2, kt3⟩ := id ht; have hLl := hL.1; have hil := (List.getElem?_eq_some_iff.mp hx.1).1; have hcw := cw_lt x
  have hp := not_mode hd
  have hcn := cN_le (cw x)
  have b4 : jin (nI a) 31 = true := jin_nI ha (by omega)
  have b5 : (nI a).toNatClampNeg = a := nI_clamp (by omega)
  have nm := n_isMode hcw g
  have ns := n_sends hcw g
  rw [jB_f hd] at nm
  rw [jB_t hsn] at ns
  have om := o_isMode hcw g'
  have os := o_isToSend hcw g'
  have op := o_placeOf hcw g'
  rw [jB_f hd] at om
  rw [jB_t hsn] at os
  obtain ⟨Gr, rf, _⟩ := rf_both hC
  have me := m_err hC (l := l) (some (.int (nI i))) (some (.int (nI (cw x)))) (some (.int (nI (i + 1)))) (some (.int (jB (aN (cw x) = a)))) none none
  have hfl := c_hasFlag kt 16
  rw [h6] at hfl
  by_cases d4 : L.length = i + 1
  · have hmany : ji g 15 2 = nI (i + 1) := by rw [hW.len.1, d4]
    have hsz : ji g' 30 49 = nI (i + 1) := by rw [hL.2.1, d4]
    rcases h44 with ⟨z1, z2⟩ | ⟨z1, z2⟩
    · rw [jB_f (fun y => y ((fl_all _ h42 _ h43' _ h44').mpr z2))] at hfl
      obtain ⟨r, g1, g1', hif, hmay, hr, hs1, f1, f1'⟩ := q_may qm ha ht hs hBa hcw hp (sd := 1) (by omega) h12 h43
      rw [show nI 1 = 1 from rfl] at hif hmay
      have ht1 : TSh g1 t := ht.fr f1
      have qm1 : MS g1' := f1'.ms qm
      have v44 : mv g1' a 44 = 0 := by rw [mv_v (by omega), f1'.i (by omega), ← mv_v (g := g') (by omega)]; exact z2
      have W18 : WI g1 18 R0 := hR0.fr f1 (fun c k z1 z2 => by omega)
      have hM1 : TM B g1 g1' a t := ⟨ht1, hs1, hMu.fr f1 f1' (by omega) (fun c k z1 z2 => by omega) (by omega) (by omega) (fun i hi => by omega), hBa.fr f1 f1' (fun k => by omega) (fun k z1 z2 => by omega), hPl.fr f1 f1' (fun c k z => by omega) (fun c k z z1 z2 => by omega)⟩
      obtain ⟨G, b, c1, c2, f3, hRp⟩ := c_answerStatus ha ht1 hs1 W18
      rw [if_pos v44] at c1
      have f3' : Fr (fun c k => c = 73 ∨ (c = 30 ∧ k = 56)) g1' (jsi (jsi g1' 73 0 (stI (mv g1' a) a)) 30 56 1) := ((Fr.refl g1').si (Or.inl rfl)).si (Or.inr ⟨rfl, rfl⟩)
      have mst := m_statusOf qm1 ha
      have mrw := m_replyWith qm1 (stI (mv g1' a) a)
      have oc := o_countOf hcw (jsi (jsi g1' 73 0 (stI (mv g1' a) a)) 30 56 1)
      have kG : jk G t = (4, 0) := by rw [f3.k]; exact ht1.2.1
      have fin : ∃ G2 G2' bs, jV 39 0 [some (.ref t), some (.ref 15), some (.int (nI (i + 1))), some (.ref 18), none, none] [] g = some (some (.int 1), G2) ∧ (∀ G', jV 123 0 [some (.ref 30), some (.int (nI a)), some (.int (nI l)), some (.int 1), none, none] [] G2' = some (none, G') → jV 126 202 [some (.ref 30), some (.int (nI a)), some (.int (nI l)), some (.int (nI i)), some (.int (nI (cw x))), some (.int (nI (i + 1))), some (.int (jB (aN (cw x) = a))), none, none] [] g' = some (none, G')) ∧ Rp G2 G2' bs ∧ Off (wP 18) g1 G2 ∧ Fr (fun c k => c = 73 ∨ (c = 30 ∧ k = 56)) g1' G2' := by
        rcases in_B2 hr with z | z
        · subst z
          refine ⟨G, _, [b], ?_, ?_, hRp g1', f3, f3'⟩
          · simp only [s39_0, s39_1, s39_4, s39_5, s39_8, s39_9, s39_11, s39_14, s39_17, s39_18, s39_21, s39_22, s39_23, s39_24, s39_27, s39_29, s39_30, s39_31, s39_34, s39_36, s39_38, s39_41, s39_42, s39_45, s39_46, s39_49, s39_52, s39_53, s39_56, s39_59, s39_60, s39_63, s39_65, k15 qc, hmany, kt, ht1.2.1, hfl, hif, c1, ↓reduceIte, va_rf_s, va_rf_n, jb_some, jb_none, jtl_s, jtl_n, if_true, if_false, true_and, and_true, false_and, and_false, or_true, true_or, or_false, false_or, not_true_eq_false, not_false_eq_true, jk_si, jp_si, jj_si, jk_sj, jp_sj, ji_sj, jk_ci, jp_ci, jj_ci, jk_cj, jp_cj, ji_cj, jlng_n, jlng_i, jlng_r, jlng_0]
          · intro G' hG'
            have lt : ¬ nI (cN (cw x)) ≤ 0 := by
              have : (0 : Int32) < nI (cN (cw x)) := nI_lt (a := 0) (by omega) (by omega)
              exact Int32.not_le.mpr this
            have lt2 : (0 : Int32) < nI (cN (cw x)) := nI_lt (a := 0) (by omega) (by omega)
            rw [jB_t z1]
            simp only [s126_202, s126_204, s126_207, s126_210, s126_212, s126_215, s126_218, s126_219, s126_221, s126_223, s126_226, s126_229, s126_232, s126_233, s126_234, s126_235, s126_237, s126_240, s126_243, s126_246, s126_247, s126_249, s126_251, s126_253, s126_256, s126_259, s126_260, s126_263, s126_266, s126_267, s126_268, s126_270, s126_272, s126_275, s126_276, s126_277, s126_279, s126_280, s126_281, s126_284, s126_286, s126_288, s126_289, s126_290, s126_291, s126_294, s126_297, s126_298, s126_299, s126_300, s126_303, s126_306, s126_307, s126_308, s126_309, s126_311, s126_314, s126_317, s126_319, s126_322, s126_325, s126_327, s126_330, s126_333, s126_334, s126_335, s126_337, s126_339, s126_342, s126_345, s126_346, s126_349, s126_350, s126_351, s126_352, s126_355, s126_357, s126_360, s126_363, s126_365, s126_368, s126_371, s126_373, s126_376, s126_378, s126_379, s126_382, s126_385, s126_386, s126_387, s126_388, s126_390, s126_393, s126_396, s126_398, s126_399, s126_400, s126_401, s126_404, s126_407, s126_408, s126_410, s126_412, s126_414, s126_417, s126_420, s126_422, s126_425, s126_426, s126_429, s126_430, s126_432, s126_433, s126_434, s126_437, s126_440, s126_441, s126_442, s126_444, s126_446, s126_449, s126_450, s126_451, s126_453, s126_454, s126_455, s126_456, s126_457, s126_458, s126_461, s126_462, s126_463, s126_466, s126_469, s126_472, s126_473, s126_474, s126_475, s126_476, s126_479, s126_523, om, os, op, hsz, k30 qm, k30 qm1, hmay, mst, mrw, oc, lt, lt2, hG', n1, ↓reduceIte, va_rf_s, va_rf_n, jb_some, jb_none, jtl_s, jtl_n, if_true, if_false, true_and, and_true, false_and, and_false, or_true, true_or, or_false, false_or, not_true_eq_false, not_false_eq_true, jk_si, jp_si, jj_si, jk_sj, jp_sj, ji_sj, jk_ci, jp_ci, jj_ci, jk_cj, jp_cj, ji_cj, jlng_n, jlng_i, jlng_r, jlng_0]
        · subst z
          obtain ⟨G2, G2', bs', e1, e2, e3, e4, e5⟩ := q_send ha hcw (p := pN (cw x)) rfl (cnt := cN (cw x)) rfl hp.1 hp.2 (nI l) (nI i) (nI (i + 1)) 1 (some (.int (nI (pN (cw x))))) (cN (cw x)) 0 G (jsi (jsi g1' 73 0 (stI (mv g1' a) a)) 30 56 1) [b] none (by omega) (f3.cs (f1.cs qc)) (f3'.ms qm1) (ht1.fr f3) (hM1.2.2.2.2.fr f3 f3' (fun c k z => by unfold wP; omega) (fun c k z z1 z2 => by omega)) (hRp g1') rfl
          rw [show nI 0 = 0 from rfl] at e1 e2
          have qm2 : MS G2' := e5.ms (f3'.ms qm1)
          refine ⟨G2, G2', bs', ?_, ?_, e3, f3.trans e4, f3'.trans e5⟩
          · have i12 : ji G t 12 = nI (cw x) := by rw [f3.i (by unfold wP; omega), f1.i (by omega)]; exact h12
            have np := n_placeOf hcw G
            have nc := n_countOf hcw G
            have pG2 : jp G t 2 = some (t + 1) := by rw [f3.p, f1.p]; exact pt2
            have kG1 : jk G (t + 1) = (3, 0) := by rw [f3.k, f1.k]; exact kt1
            have hi : jV 25 0 [some (.int (nI (pN (cw x)))), some (.int 0)] [] G = some (some (.int (nI ((pN (cw x) - 1) * 32))), G) := by
              rw [c_indexOf]
              have e : ∀ q : Fin 31, 1 ≤ q.val → (nI q.val - 1) * 32 + 0 = nI ((q.val - 1) * 32) := by decide
              rw [e ⟨pN (cw x), by omega⟩ hp.1]
            simp only [s39_0, s39_1, s39_4, s39_5, s39_8, s39_9, s39_11, s39_14, s39_17, s39_18, s39_21, s39_22, s39_23, s39_24, s39_27, s39_29, s39_30, s39_31, s39_34, s39_36, s39_38, s39_41, s39_42, s39_45, s39_46, s39_49, s39_52, s39_53, s39_56, s39_59, s39_60, s39_63, s39_65, s24_0, s24_1, s24_2, s24_5, s24_7, s24_8, k15 qc, hmany, kt, ht1.2.1, kG, kG1, pG2, hfl, hif, c1, i12, np, nc, hi, e1, n1, ↓reduceIte, va_rf_s, va_rf_n, jb_some, jb_none, jtl_s, jtl_n, if_true, if_false, true_and, and_true, false_and, and_false, or_true, true_or, or_false, false_or, not_true_eq_false, not_false_eq_true, jk_si, jp_si, jj_si, jk_sj, jp_sj, ji_sj, jk_ci, jp_ci, jj_ci, jk_cj, jp_cj, ji_cj, jlng_n, jlng_i, jlng_r, jlng_0]
          · intro G' hG'
            rw [jB_t z1]
            simp only [s126_202, s126_204, s126_207, s126_210, s126_212, s126_215, s126_218, s126_219, s126_221, s126_223, s126_226, s126_229, s126_232, s126_233, s126_234, s126_235, s126_237, s126_240, s126_243, s126_246, s126_247, s126_249, s126_251, s126_253, s126_256, s126_259, s126_260, s126_263, s126_266, s126_267, s126_268, s126_270, s126_272, s126_275, s126_276, s126_277, s126_279, s126_280, s126_281, s126_284, s126_286, s126_288, s126_289, s126_290, s126_291, s126_294, s126_297, s126_298, s126_299, s126_300, s126_303, s126_306, s126_307, s126_308, s126_309, s126_311, s126_314, s126_317, s126_319, s126_322, s126_325, s126_327, s126_330, s126_333, s126_334, s126_335, s126_337, s126_339, s126_342, s126_345, s126_346, s126_349, s126_350, s126_351, s126_352, s126_355, s126_357, s126_360, s126_363, s126_365, s126_368, s126_371, s126_373, s126_376, s126_378, s126_379, s126_382, s126_385, s126_386, s126_387, s126_388, s126_390, s126_393, s126_396, s126_398, s126_399, s126_400, s126_401, s126_404, s126_407, s126_408, s126_472, s126_473, s126_474, s126_475, s126_476, s126_479, s126_523, om, os, op, hsz, k30 qm, k30 qm1, k30 qm2, hmay, mst, mrw, e2, hG', n1, ↓reduceIte, va_rf_s, va_rf_n, jb_some, jb_none, jtl_s, jtl_n, if_true, if_false, true_and, and_true, false_and, and_false, or_true, true_or, or_false, false_or, not_true_eq_false, not_false_eq_true, jk_si, jp_si, jj_si, jk_sj, jp_sj, ji_sj, jk_ci, jp_ci, jj_ci, jk_cj, jp_cj, ji_cj, jlng_n, jlng_i, jlng_r, jlng_0]
      obtain ⟨G2, G2', bs, hcl, hmd, hRp2, f4, f4'⟩ := fin
      have p1 : ∀ c k, (c = t ∧ k = 6) → t ≤ c ∧ c ≤ t + 6 := fun c k z => by omega
      have p1' : ∀ c k, (c = 43 ∧ k = a) → mTA a c k := fun c k z => mTA_s (by omega) z.2
      have hM2 := hM1.fr f4 f4' (fun c k z1 z2 => by unfold wP; omega) (fun c k z y => by omega)
      have hC2 : HC B L G2 G2' a t n A0 A1 := hC.up2 ((f1.sub (fun c k z => Or.inl (p1 c k z))).trans (f4.sub (fun c k z => Or.inr z))) ((f1'.sub (fun c k z => up_t (p1' c k z))).trans (f4'.sub (fun c k z => up_r z))) (fun c k z => z) (fun c k z => z) hM2 ⟨_, hRp2.2.1⟩
      refine ho_ans hC2 hB hl hn1 (by rw [f4.i (by unfold wP; omega), f4'.i (by omega), f1.i (by omega), f1'.i (by omega)]; exact h15) hRp2 (wa_end hx z1 d4) ((f1.sub (fun c k z => cHp_r (Or.inl (p1 c k z)))).trans (f4.sub (fun c k z => cHp_r (Or.inr z)))) ((f1'.sub (fun c k z => Or.inl (p1' c k z))).trans (f4'.sub (fun c k z => mHp_73 z))) (by rw [f4'.i (by omega), f1'.i (by omega)]) ?_ hmd
      simp only [s31_139, s31_141, s31_144, s31_147, s31_148, s31_149, s31_151, s31_152, s31_153, s31_156, s31_157, s31_159, s31_162, s31_165, s31_166, s31_167, s31_169, s31_170, s31_173, kt, nm, ns, n1, hcl, ↓reduceIte, va_rf_s, va_rf_n, jb_some, jb_none, jtl_s, jtl_n, if_true, if_false, true_and, and_true, false_and, and_false, or_true, true_or, or_false, false_or, not_true_eq_false, not_false_eq_true, jk_si, jp_si, jj_si, jk_sj, jp_sj, ji_sj, jk_ci, jp_ci, jj_ci, jk_cj, jp_cj, ji_cj, jlng_n, jlng_i, jlng_r, jlng_0]
    · rw [jB_t (show ¬ FL (mv g' a 42) (mv g' a 43) (mv g' a 44) &&& 16 = 0 from fun y => n1 (z2.symm.trans ((fl_all _ h42 _ h43' _ h44').mp y)))] at hfl
      refine hr_err hC hB ?_ ?_
      · rw [rf]
        simp only [s31_139, s31_141, s31_144, s31_147, s31_148, s31_149, s31_151, s31_152, s31_153, s31_156, s31_157, s31_159, s31_162, s31_165, s31_166, s31_167, s31_169, s31_170, s31_173, s39_0, s39_1, s39_4, s39_5, s39_8, s39_9, s39_11, s39_14, s39_17, s39_18, s39_21, s39_22, s39_23, s39_24, s39_27, s39_29, s39_30, s39_31, s39_34, s39_36, s39_38, s39_41, s39_42, s39_45, s39_46, s39_49, s39_52, s39_53, s39_56, s39_59, s39_60, s39_63, s39_65, kt, nm, ns, n1, k15 qc, hmany, hfl, rf, ↓reduceIte, va_rf_s, va_rf_n, jb_some, jb_none, jtl_s, jtl_n, if_true, if_false, true_and, and_true, false_and, and_false, or_true, true_or, or_false, false_or, not_true_eq_false, not_false_eq_true, jk_si, jp_si, jj_si, jk_sj, jp_sj, ji_sj, jk_ci, jp_ci, jj_ci, jk_cj, jp_cj, ji_cj, jlng_n, jlng_i, jlng_r, jlng_0]
      · rw [jB_f (fun y => by rw [y] at z1; omega)] at me ⊢
        simp only [s126_202, s126_204, s126_207, s126_210, s126_212, s126_215, s126_218, s126_219, s126_221, s126_223, s126_226, s126_229, s126_232, s126_233, s126_234, s126_235, s126_237, s126_240, s126_243, s126_246, s126_247, s126_249, s126_251, s126_253, s126_256, s126_259, s126_260, s126_263, s126_266, s126_267, s126_268, s126_270, s126_272, s126_275, s126_276, s126_277, s126_279, s126_280, s126_281, s126_284, s126_286, s126_288, s126_289, s126_290, s126_291, s126_294, s126_297, s126_298, s126_299, s126_300, s126_303, s126_306, s126_307, s126_308, s126_309, s126_311, s126_314, s126_317, s126_319, s126_322, s126_325, s126_327, s126_330, s126_333, s126_334, s126_335, s126_337, s126_339, s126_342, s126_345, s126_346, s126_349, s126_350, s126_351, s126_352, s126_355, s126_357, s126_360, s126_363, s126_365, s126_368, s126_371, s126_373, s126_376, s126_378, s126_379, s126_382, s126_482, s126_484, s126_487, om, os, n1, me, ↓reduceIte, va_rf_s, va_rf_n, jb_some, jb_none, jtl_s, jtl_n, if_true, if_false, true_and, and_true, false_and, and_false, or_true, true_or, or_false, false_or, not_true_eq_false, not_false_eq_true, jk_si, jp_si, jj_si, jk_sj, jp_sj, ji_sj, jk_ci, jp_ci, jj_ci, jk_cj, jp_cj, ji_cj, jlng_n, jlng_i, jlng_r, jlng_0]
  · refine hr_err hC hB ?_ ?_
    · rw [rf]
      have hne : ¬ nI L.length = nI (i + 1) := fun z => d4 ((e_eq (by omega) (by omega)).mp z)
      simp only [s31_139, s31_141, s31_144, s31_147, s31_148, s31_149, s31_151, s31_152, s31_153, s31_156, s31_157, s31_159, s31_162, s31_165, s31_166, s31_167, s31_169, s31_170, s31_173, s39_0, s39_1, s39_4, s39_5, s39_8, s39_9, s39_11, s39_14, s39_17, s39_18, s39_21, s39_22, s39_23, s39_24, s39_27, s39_29, s39_30, s39_31, s39_34, s39_36, s39_38, s39_41, s39_42, s39_45, s39_46, s39_49, s39_52, s39_53, s39_56, s39_59, s39_60, s39_63, s39_65, kt, nm, ns, n1, k15 qc, hW.len.1, hne, rf, ↓reduceIte, va_rf_s, va_rf_n, jb_some, jb_none, jtl_s, jtl_n, if_true, if_false, true_and, and_true, false_and, and_false, or_true, true_or, or_false, false_or, not_true_eq_false, not_false_eq_true, jk_si, jp_si, jj_si, jk_sj, jp_sj, ji_sj, jk_ci, jp_ci, jj_ci, jk_cj, jp_cj, ji_cj, jlng_n, jlng_i, jlng_r, jlng_0]
    · have hne : ¬ nI (i + 1) = nI L.length := fun z => d4 ((e_eq (by omega) (by omega)).mp z).symm
      by_cases c : aN (cw x) = a
      · rw [jB_t c] at me ⊢
        simp only [s126_202, s126_204, s126_207, s126_210, s126_212, s126_215, s126_218, s126_219, s126_221, s126_223, s126_226, s126_229, s126_232, s126_233, s126_234, s126_235, s126_237, s126_240, s126_243, s126_246, s126_247, s126_249, s126_251, s126_253, s126_256, s126_259, s126_260, s126_263, s126_266, s126_267, s126_268, s126_270, s126_272, s126_275, s126_276, s126_277, s126_279, s126_280, s126_281, s126_284, s126_286, s126_288, s126_289, s126_290, s126_291, s126_294, s126_297, s126_298, s126_299, s126_300, s126_303, s126_306, s126_307, s126_308, s126_309, s126_311, s126_314, s126_317, s126_319, s126_322, s126_325, s126_327, s126_330, s126_333, s126_334, s126_335, s126_337, s126_339, s126_342, s126_345, s126_346, s126_349, s126_350, s126_351, s126_352, s126_355, s126_357, s126_360, s126_363, s126_365, s126_368, s126_371, s126_373, s126_376, s126_378, s126_379, s126_382, s126_482, s126_484, s126_487, om, os, n1, k30 qm, hL.2.1, hne, me, ↓reduceIte, va_rf_s, va_rf_n, jb_some, jb_none, jtl_s, jtl_n, if_true, if_false, true_and, and_true, false_and, and_false, or_true, true_or, or_false, false_or, not_true_eq_false, not_false_eq_true, jk_si, jp_si, jj_si, jk_sj, jp_sj, ji_sj, jk_ci, jp_ci, jj_ci, jk_cj, jp_cj, ji_cj, jlng_n, jlng_i, jlng_r, jlng_0]
      · rw [jB_f c] at me ⊢
        simp only [s126_202, s126_204, s126_207, s126_210, s126_212, s126_215, s126_218, s126_219, s126_221, s126_223, s126_226, s126_229, s126_232, s126_233, s126_234, s126_235, s126_237, s126_240, s126_243, s126_246, s126_247, s126_249, s126_251, s126_253, s126_256, s126_259, s126_260, s126_263, s126_266, s126_267, s126_268, s126_270, s126_272, s126_275, s126_276, s126_277, s126_279, s126_280, s126_281, s126_284, s126_286, s126_288, s126_289, s126_290, s126_291, s126_294, s126_297, s126_298, s126_299, s126_300, s126_303, s126_306, s126_307, s126_308, s126_309, s126_311, s126_314, s126_317, s126_319, s126_322, s126_325, s126_327, s126_330, s126_333, s126_334, s126_335, s126_337, s126_339, s126_342, s126_345, s126_346, s126_349, s126_350, s126_351, s126_352, s126_355, s126_357, s126_360, s126_363, s126_365, s126_368, s126_371, s126_373, s126_376, s126_378, s126_379, s126_382, s126_482, s126_484, s126_487, om, os, n1, me, ↓reduceIte, va_rf_s, va_rf_n, jb_some, jb_none, jtl_s, jtl_n, if_true, if_false, true_and, and_true, false_and, and_false, or_true, true_or, or_false, false_or, not_true_eq_false, not_false_eq_true, jk_si, jp_si, jj_si, jk_sj, jp_sj, ji_sj, jk_ci, jp_ci, jj_ci, jk_cj, jp_cj, ji_cj, jlng_n, jlng_i, jlng_r, jlng_0]
/-- the class waits for the partner, or refuses -/
theorem c_wait {g : jH} {L : List Int32} {a t c i : Nat} {Gr : jH} (ha : a < 31) (qc : CS g) (kt : jk g t = (4, 0)) (ht74 : 74 ≤ t) (h0 : ji g t 0 = nI a) (h12 : ji g t 12 = nI c) (hc : c < 65536) (hW : WI g 15 L) (hi : i + 1 ≤ L.length) (hl : L.length ≤ 33) (rf : jV 43 0 [some (.ref t)] [] (jsi g t 16 (nI (aN (cw (L.getD (i + 1) (-1)))))) = some (some (.int 0), Gr)) : (RLY L a c (i + 1) → jV 41 0 [some (.ref t), some (.ref 15), some (.int (nI (i + 1))), none, none] [] g = some (some (.int 2), jsi g t 16 (nI (aN (cw (L.getD (i + 1) (-1))))))) ∧ (¬ RLY L a c (i + 1) → jV 41 0 [some (.ref t), some (.ref 15), some (.int (nI (i + 1))), none, none] [] g = some (some (.int 0), Gr)) := by
  have hb := w_bitsAt hW (i := i + 1) (by omega)
  rw [cw_and] at hb
  have W1 : WI (jsi g t 16 (nI (aN (cw (L.getD (i + 1) (-1)))))) 15 L := hW.fr ((Fr.refl (P := fun c k => c = t) g).si rfl) (fun c k z1 z2 => by omega)
  have hic := w_isCommand W1 (i := i + 1) (by omega)
  unfold RLY
  revert rf hb W1 hic
  generalize L.getD (i + 1) (-1) = y
  intro rf hb W1 hic
  have hy := cw_lt y
  have e1 : nI L.length - nI (i + 1) = nI (L.length - (i + 1)) := pk_sub hi
  have E1 : nI (L.length - (i + 1)) = 1 ↔ L.length - (i + 1) = 1 := e_eq (b := 1) (by omega) (by omega)
  have E31 : nI (aN (cw y)) = 31 ↔ aN (cw y) = 31 := e_eq (b := 31) (aN_lt _) (by omega)
  have EA : nI (aN (cw y)) = nI a ↔ aN (cw y) = a := e_eq (aN_lt _) (by omega)
  have hcy := cN_le (cw y)
  have hcc := cN_le c
  have EC : nI (cN (cw y)) = nI (cN c) ↔ cN (cw y) = cN c := e_eq (by omega) (by omega)
  have na := n_addressOf hy g
  have ns := n_sends hy (jsi g t 16 (nI (aN (cw y))))
  have nm := n_isMode hy (jsi g t 16 (nI (aN (cw y))))
  have nc := n_countOf hy (jsi g t 16 (nI (aN (cw y))))
  have nc2 := n_countOf hc (jsi g t 16 (nI (aN (cw y))))
  have r0 : ji (jsi g t 16 (nI (aN (cw y)))) t 0 = nI a := by rw [ji_si, if_neg (by omega)]; exact h0
  have r12 : ji (jsi g t 16 (nI (aN (cw y)))) t 12 = nI c := by rw [ji_si, if_neg (by omega)]; exact h12
  have r16 : ji (jsi g t 16 (nI (aN (cw y)))) t 16 = nI (aN (cw y)) := by rw [ji_si, if_pos ⟨rfl, rfl⟩]
  have r2 : ji (jsi g t 16 (nI (aN (cw y)))) 15 2 = nI L.length := W1.len.1
  by_cases d1 : L.length - (i + 1) = 1
  · have z1 := eq_true (E1.mpr d1)
    by_cases d2 : isC y
    · rw [jB_t d2] at hic
      by_cases d3 : sN (cw y)
      · rw [jB_t d3] at ns
        by_cases d4 : aN (cw y) = a
        · refine ⟨fun z => absurd True.intro (fun _ => z.2.2.2.1 d4), fun _ => ?_⟩
          simp only [s41_0, s41_1, s41_2, s41_5, s41_6, s41_7, s41_8, s41_11, s41_14, s41_15, s41_18, s41_19, s41_20, s41_21, s41_24, s41_25, s41_26, s41_29, s41_32, s41_33, s41_36, s41_39, s41_40, s41_43, s41_44, s41_47, s41_50, s41_51, s41_54, s41_56, s41_59, s41_60, s41_63, s41_66, s41_67, s41_70, s41_71, s41_74, s41_77, s41_80, s41_81, s41_84, s41_85, s41_87, s41_89, s41_92, s41_93, s41_96, s41_97, s41_100, k15 qc, kt, hb, na, jk_si, r2, e1, z1, hic, ns, n1, r16, r0, eq_true (EA.mpr d4), rf, ↓reduceIte, va_rf_s, va_rf_n, jb_some, jb_none, jtl_s, jtl_n, if_true, if_false, true_and, and_true, false_and, and_false, or_true, true_or, or_false, false_or, not_true_eq_false, not_false_eq_true, jk_si, jp_si, jj_si, jk_sj, jp_sj, ji_sj, jk_ci, jp_ci, jj_ci, jk_cj, jp_cj, ji_cj, jlng_n, jlng_i, jlng_r, jlng_0]
        · have z4 := eq_false (fun z => d4 (EA.mp z))
          by_cases d5 : aN (cw y) = 31
          · refine ⟨fun z => absurd True.intro (fun _ => z.2.2.2.2.1 d5), fun _ => ?_⟩
            simp only [s41_0, s41_1, s41_2, s41_5, s41_6, s41_7, s41_8, s41_11, s41_14, s41_15, s41_18, s41_19, s41_20, s41_21, s41_24, s41_25, s41_26, s41_29, s41_32, s41_33, s41_36, s41_39, s41_40, s41_43, s41_44, s41_47, s41_50, s41_51, s41_54, s41_56, s41_59, s41_60, s41_63, s41_66, s41_67, s41_70, s41_71, s41_74, s41_77, s41_80, s41_81, s41_84, s41_85, s41_87, s41_89, s41_92, s41_93, s41_96, s41_97, s41_100, k15 qc, kt, hb, na, jk_si, r2, e1, z1, hic, ns, n1, r16, r0, z4, eq_true (E31.mpr d5), rf, ↓reduceIte, va_rf_s, va_rf_n, jb_some, jb_none, jtl_s, jtl_n, if_true, if_false, true_and, and_true, false_and, and_false, or_true, true_or, or_false, false_or, not_true_eq_false, not_false_eq_true, jk_si, jp_si, jj_si, jk_sj, jp_sj, ji_sj, jk_ci, jp_ci, jj_ci, jk_cj, jp_cj, ji_cj, jlng_n, jlng_i, jlng_r, jlng_0]
          · have z5 := eq_false (fun z => d5 (E31.mp z))
            by_cases d6 : dN (cw y)
            · rw [jB_t d6] at nm
              refine ⟨fun z => absurd True.intro (fun _ => z.2.2.2.2.2.1 d6), fun _ => ?_⟩
              simp only [s41_0, s41_1, s41_2, s41_5, s41_6, s41_7, s41_8, s41_11, s41_14, s41_15, s41_18, s41_19, s41_20, s41_21, s41_24, s41_25, s41_26, s41_29, s41_32, s41_33, s41_36, s41_39, s41_40, s41_43, s41_44, s41_47, s41_50, s41_51, s41_54, s41_56, s41_59, s41_60, s41_63, s41_66, s41_67, s41_70, s41_71, s41_74, s41_77, s41_80, s41_81, s41_84, s41_85, s41_87, s41_89, s41_92, s41_93, s41_96, s41_97, s41_100, k15 qc, kt, hb, na, jk_si, r2, e1, z1, hic, ns, nm, n1, r16, r0, z4, z5, rf, ↓reduceIte, va_rf_s, va_rf_n, jb_some, jb_none, jtl_s, jtl_n, if_true, if_false, true_and, and_true, false_and, and_false, or_true, true_or, or_false, false_or, not_true_eq_false, not_false_eq_true, jk_si, jp_si, jj_si, jk_sj, jp_sj, ji_sj, jk_ci, jp_ci, jj_ci, jk_cj, jp_cj, ji_cj, jlng_n, jlng_i, jlng_r, jlng_0]
            · rw [jB_f d6] at nm
              by_cases d7 : cN (cw y) = cN c
              · refine ⟨fun _ => ?_, fun z => absurd ⟨d1, d2, d3, d4, d5, d6, d7⟩ z⟩
                simp only [s41_0, s41_1, s41_2, s41_5, s41_6, s41_7, s41_8, s41_11, s41_14, s41_15, s41_18, s41_19, s41_20, s41_21, s41_24, s41_25, s41_26, s41_29, s41_32, s41_33, s41_36, s41_39, s41_40, s41_43, s41_44, s41_47, s41_50, s41_51, s41_54, s41_56, s41_59, s41_60, s41_63, s41_66, s41_67, s41_70, s41_71, s41_74, s41_77, s41_80, s41_81, s41_84, s41_85, s41_87, s41_89, s41_92, s41_93, s41_96, s41_97, s41_100, k15 qc, kt, hb, na, jk_si, r2, e1, z1, hic, ns, nm, nc, nc2, n1, r16, r0, r12, z4, z5, eq_true (EC.mpr d7), rf, ↓reduceIte, va_rf_s, va_rf_n, jb_some, jb_none, jtl_s, jtl_n, if_true, if_false, true_and, and_true, false_and, and_false, or_true, true_or, or_false, false_or, not_true_eq_false, not_false_eq_true, jk_si, jp_si, jj_si, jk_sj, jp_sj, ji_sj, jk_ci, jp_ci, jj_ci, jk_cj, jp_cj, ji_cj, jlng_n, jlng_i, jlng_r, jlng_0]
              · refine ⟨fun z => absurd True.intro (fun _ => d7 z.2.2.2.2.2.2), fun _ => ?_⟩
                simp only [s41_0, s41_1, s41_2, s41_5, s41_6, s41_7, s41_8, s41_11, s41_14, s41_15, s41_18, s41_19, s41_20, s41_21, s41_24, s41_25, s41_26, s41_29, s41_32, s41_33, s41_36, s41_39, s41_40, s41_43, s41_44, s41_47, s41_50, s41_51, s41_54, s41_56, s41_59, s41_60, s41_63, s41_66, s41_67, s41_70, s41_71, s41_74, s41_77, s41_80, s41_81, s41_84, s41_85, s41_87, s41_89, s41_92, s41_93, s41_96, s41_97, s41_100, k15 qc, kt, hb, na, jk_si, r2, e1, z1, hic, ns, nm, nc, nc2, n1, r16, r0, r12, z4, z5, eq_false (fun z => d7 (EC.mp z)), rf, ↓reduceIte, va_rf_s, va_rf_n, jb_some, jb_none, jtl_s, jtl_n, if_true, if_false, true_and, and_true, false_and, and_false, or_true, true_or, or_false, false_or, not_true_eq_false, not_false_eq_true, jk_si, jp_si, jj_si, jk_sj, jp_sj, ji_sj, jk_ci, jp_ci, jj_ci, jk_cj, jp_cj, ji_cj, jlng_n, jlng_i, jlng_r, jlng_0]
      · rw [jB_f d3] at ns
        refine ⟨fun z => absurd True.intro (fun _ => d3 z.2.2.1), fun _ => ?_⟩
        simp only [s41_0, s41_1, s41_2, s41_5, s41_6, s41_7, s41_8, s41_11, s41_14, s41_15, s41_18, s41_19, s41_20, s41_21, s41_24, s41_25, s41_26, s41_29, s41_32, s41_33, s41_36, s41_39, s41_40, s41_43, s41_44, s41_47, s41_50, s41_51, s41_54, s41_56, s41_59, s41_60, s41_63, s41_66, s41_67, s41_70, s41_71, s41_74, s41_77, s41_80, s41_81, s41_84, s41_85, s41_87, s41_89, s41_92, s41_93, s41_96, s41_97, s41_100, k15 qc, kt, hb, na, jk_si, r2, e1, z1, hic, ns, n1, rf, ↓reduceIte, va_rf_s, va_rf_n, jb_some, jb_none, jtl_s, jtl_n, if_true, if_false, true_and, and_true, false_and, and_false, or_true, true_or, or_false, false_or, not_true_eq_false, not_false_eq_true, jk_si, jp_si, jj_si, jk_sj, jp_sj, ji_sj, jk_ci, jp_ci, jj_ci, jk_cj, jp_cj, ji_cj, jlng_n, jlng_i, jlng_r, jlng_0]
    · rw [jB_f d2] at hic
      refine ⟨fun z => absurd True.intro (fun _ => d2 z.2.1), fun _ => ?_⟩
      simp only [s41_0, s41_1, s41_2, s41_5, s41_6, s41_7, s41_8, s41_11, s41_14, s41_15, s41_18, s41_19, s41_20, s41_21, s41_24, s41_25, s41_26, s41_29, s41_32, s41_33, s41_36, s41_39, s41_40, s41_43, s41_44, s41_47, s41_50, s41_51, s41_54, s41_56, s41_59, s41_60, s41_63, s41_66, s41_67, s41_70, s41_71, s41_74, s41_77, s41_80, s41_81, s41_84, s41_85, s41_87, s41_89, s41_92, s41_93, s41_96, s41_97, s41_100, k15 qc, kt, hb, na, jk_si, r2, e1, z1, hic, n1, rf, ↓reduceIte, va_rf_s, va_rf_n, jb_some, jb_none, jtl_s, jtl_n, if_true, if_false, true_and, and_true, false_and, and_false, or_true, true_or, or_false, false_or, not_true_eq_false, not_false_eq_true, jk_si, jp_si, jj_si, jk_sj, jp_sj, ji_sj, jk_ci, jp_ci, jj_ci, jk_cj, jp_cj, ji_cj, jlng_n, jlng_i, jlng_r, jlng_0]
  · refine ⟨fun z => absurd True.intro (fun _ => d1 z.1), fun _ => ?_⟩
    simp only [s41_0, s41_1, s41_2, s41_5, s41_6, s41_7, s41_8, s41_11, s41_14, s41_15, s41_18, s41_19, s41_20, s41_21, s41_24, s41_25, s41_26, s41_29, s41_32, s41_33, s41_36, s41_39, s41_40, s41_43, s41_44, s41_47, s41_50, s41_51, s41_54, s41_56, s41_59, s41_60, s41_63, s41_66, s41_67, s41_70, s41_71, s41_74, s41_77, s41_80, s41_81, s41_84, s41_85, s41_87, s41_89, s41_92, s41_93, s41_96, s41_97, s41_100, k15 qc, kt, hb, na, jk_si, r2, e1, eq_false (fun z => d1 (E1.mp z)), rf, ↓reduceIte, va_rf_s, va_rf_n, jb_some, jb_none, jtl_s, jtl_n, if_true, if_false, true_and, and_true, false_and, and_false, or_true, true_or, or_false, false_or, not_true_eq_false, not_false_eq_true, jk_si, jp_si, jj_si, jk_sj, jp_sj, ji_sj, jk_ci, jp_ci, jj_ci, jk_cj, jp_cj, ji_cj, jlng_n, jlng_i, jlng_r, jlng_0]
/-- it waits for its partner -/
theorem hr_wait {B n a t l i : Nat} {L A0 A1 : List Int32} {x : Int32} {g g' : jH} (hC : HC B L g g' a t n A0 A1) (hB : B + 33 < 1610612736) (hl : l ≤ 1) (hx : LCN a L i x) (hn : WA a L → n = 0) (hn1 : n ≤ 1) (h15 : ji g t 15 = ji g' 72 a) (h12 : ji g t 12 = nI (cw x)) (h43 : ji g' 43 a = 0) (h44 : (aN (cw x) = a ∧ mv g' a 44 = 0) ∨ (aN (cw x) = 31 ∧ mv g' a 44 = 1)) (hd : ¬ dN (cw x)) (hsn : ¬ sN (cw x)) (hjd : ¬ JDt L (i + 1) (cN (cw x))) : HO (B + 33) L g g' a t l n A0 A1 (jV 31 139 [some (.ref t), some (.ref 15), some (.int (nI l)), some (.ref 18), some (.int (nI i)), some (.int (nI (cw x))), some (.int (nI (i + 1)))] [] g) (jV 126 202 [some (.ref 30), some (.int (nI a)), some (.int (nI l)), some (.int (nI i)), some (.int (nI (cw x))), some (.int (nI (i + 1))), some (.int (jB (aN (cw x) = a))), none, none] [] g') := by
  obtain ⟨ha, qc, qm, hT0, hR, hW, hL, ⟨R0, hR0⟩, hA⟩ := id hC; obtain ⟨ht, hs, hMu, hBa, hPl⟩ := id hT0; obtain ⟨h0, h33, h34, ⟨h42, h43', h44', h6⟩, h7, h8, h9, h10, h11, h12', h14⟩ := id hs; obtain ⟨ht74, kt, pt2, pt3, kt1, pt10, pt11, kt2, kt3⟩ := id ht; have hLl := hL.1; have hil := (List.getElem?_eq_some_iff.mp hx.1).1; have hcw := cw_lt x
  have hcn := cN_le (cw x)
  have b4 : jin (nI a) 31 = true := jin_nI ha (by omega)
  have b5 : (nI a).toNatClampNeg = a := nI_clamp (by omega)
  have nm := n_isMode hcw g
  have ns := n_sends hcw g
  have nc := n_countOf hcw g
  rw [jB_f hd] at nm
  rw [jB_f hsn] at ns
  have njd := w_isJustData hW (f := i + 1) (by omega) (n := cN (cw x)) (by omega)
  rw [jB_f hjd] at njd
  have om := o_isMode hcw g'
  have os := o_isToSend hcw g'
  have oc := o_countOf hcw g'
  rw [jB_f hd] at om
  rw [jB_f hsn] at os
  have ojd := m_isRestData qm hL (f := i + 1) (by omega) (n := cN (cw x)) (by omega)
  rw [jB_f hjd] at ojd
  have ory := m_isRelay qm hL ha hcw (f := i + 1) (by omega)
  have f1 : Fr (fun c k => c = t ∧ k = 16) g (jsi g t 16 (nI (aN (cw (L.getD (i + 1) (-1)))))) := (Fr.refl g).si ⟨rfl, rfl⟩
  have p1 : ∀ c k, (c = t ∧ k = 16) → t ≤ c ∧ c ≤ t + 6 := fun c k z => by omega
  have hs1 : Sc (ji (jsi g t 16 (nI (aN (cw (L.getD (i + 1) (-1)))))) t) (mv g' a) a := by
    rw [tv_si]
    simp only [Sc, upd_e, Nat.reduceEqDiff, if_true, if_false]
    exact hs
  have hM1 : ∀ {P' : Nat → Nat → Prop} {h' : jH}, Fr P' g' h' → (∀ c k, P' c k → c = 71) → TM B (jsi g t 16 (nI (aN (cw (L.getD (i + 1) (-1)))))) h' a t := by
    intro P' h' f1' hp'
    have q : ∀ c k, ¬ c = 71 → ¬ P' c k := fun c k z y => z (hp' c k y)
    refine ⟨ht.fr f1, ?_, hMu.fr f1 f1' (by omega) (fun c k z1 z2 => by omega) (q _ _ (by omega)) (q _ _ (by omega)) (fun i hi => q _ _ (by omega)), hBa.fr f1 f1' (fun k => by omega) (fun k z1 z2 => q _ _ (by omega)), hPl.fr f1 f1' (fun c k z => by omega) (fun c k z z1 z2 => q _ _ (by omega))⟩
    rw [mv_fr f1' (fun l hl => q _ _ (by omega)) (q _ _ (by omega)) (q _ _ (by omega))]
    exact hs1
  have hC1 : HC B L (jsi g t 16 (nI (aN (cw (L.getD (i + 1) (-1)))))) g' a t n A0 A1 := hC.up2 f1 (Fr.refl (P := fun _ _ => False) g') (fun c k z => Or.inl (p1 c k z)) (fun c k z => z.elim) (hM1 (Fr.refl (P := fun _ _ => False) g') (fun c k z => z.elim)) ⟨R0, hR0.fr f1 (fun c k z1 z2 => by omega)⟩
  obtain ⟨Gr, rf, _⟩ := rf_both hC1
  have me := m_err hC (l := l) (some (.int (nI i))) (some (.int (nI (cw x)))) (some (.int (nI (i + 1)))) (some (.int (jB (aN (cw x) = a)))) none none
  have cwt := c_wait (c := cw x) ha qc kt ht74 h0.1 h12 hcw hW (i := i) (by omega) (by omega) rf
  by_cases c : RLY L a (cw x) (i + 1)
  · have cwt := cwt.1 c
    rw [jB_t c] at ory
    have hlen : L.length = i + 2 := by have := c.1; omega
    have f1' : Fr (fun c k => c = 71 ∧ k = a) g' (jsi g' 71 a 1) := (Fr.refl g').si ⟨rfl, rfl⟩
    refine ⟨2, _, ?_, Or.inr (Or.inl ⟨rfl, jsi g' 71 a 1, ?_, (hC.up2 f1 f1' (fun c k z => Or.inl (p1 c k z)) (fun c k z => Or.inr (Or.inl z.1)) (hM1 f1' (fun c k z => z.1)) ⟨R0, hR0.fr f1 (fun c k z1 z2 => by omega)⟩).mono (by omega) hB, f1.sub (fun c k z => cHp_r (Or.inl (p1 c k z))), f1'.sub (fun c k z => mHp_71 ⟨Or.inl z.1, z.2⟩), by simp [ji_si], ?_⟩)⟩
    · simp only [s31_139, s31_141, s31_144, s31_147, s31_148, s31_149, s31_151, s31_152, s31_153, s31_156, s31_157, s31_159, s31_162, s31_165, s31_166, s31_167, s31_169, s31_170, s31_173, s31_174, s31_175, s31_177, s31_179, s31_182, s31_185, s31_188, s31_189, s31_190, s31_192, s31_193, s31_196, s31_197, s31_198, s31_199, s31_201, s31_204, kt, nm, ns, nc, k15 qc, njd, cwt, ↓reduceIte, va_rf_s, va_rf_n, jb_some, jb_none, jtl_s, jtl_n, if_true, if_false, true_and, and_true, false_and, and_false, or_true, true_or, or_false, false_or, not_true_eq_false, not_false_eq_true, jk_si, jp_si, jj_si, jk_sj, jp_sj, ji_sj, jk_ci, jp_ci, jj_ci, jk_cj, jp_cj, ji_cj, jlng_n, jlng_i, jlng_r, jlng_0]
    · simp only [s126_202, s126_204, s126_207, s126_210, s126_212, s126_215, s126_218, s126_219, s126_221, s126_223, s126_226, s126_229, s126_232, s126_233, s126_234, s126_235, s126_237, s126_240, s126_243, s126_246, s126_247, s126_249, s126_251, s126_253, s126_256, s126_259, s126_260, s126_263, s126_266, s126_267, s126_268, s126_270, s126_272, s126_275, s126_276, s126_277, s126_279, s126_280, s126_281, s126_284, s126_286, s126_288, s126_289, s126_290, s126_291, s126_294, s126_297, s126_298, s126_299, s126_300, s126_303, s126_306, s126_307, s126_308, s126_309, s126_311, s126_314, s126_317, s126_319, s126_322, s126_325, s126_327, s126_330, s126_333, s126_334, s126_335, s126_337, s126_339, s126_342, s126_345, s126_346, s126_349, s126_350, s126_351, s126_352, s126_523, om, os, oc, ojd, ory, k30 qm, k71 qm, p30_53 qm, b4, b5, n1, show ((1 : Int32) = 0 ∨ (1 : Int32) = 1) by decide, ↓reduceIte, va_rf_s, va_rf_n, jb_some, jb_none, jtl_s, jtl_n, if_true, if_false, true_and, and_true, false_and, and_false, or_true, true_or, or_false, false_or, not_true_eq_false, not_false_eq_true, jk_si, jp_si, jj_si, jk_sj, jp_sj, ji_sj, jk_ci, jp_ci, jj_ci, jk_cj, jp_cj, ji_cj, jlng_n, jlng_i, jlng_r, jlng_0]
    · refine ⟨by rw [f1.i (by omega), f1'.i (by omega)]; exact h15, cw x, hcw, hd, by rw [f1.i (by omega)]; exact h12, by rw [f1'.i (by omega)]; exact h43, ?_, by omega, ?_, x, ?_, hx.2.1.1, rfl⟩
      · rw [mv_v (by omega), f1'.i (by omega), ← mv_v (g := g') (by omega)]
        exact h44
      · rw [ji_si, if_pos ⟨rfl, rfl⟩, show L.length - 1 = i + 1 by omega]
      · rw [show L.length - 2 = i by omega]
        exact hx.1
  · have cwt := cwt.2 c
    rw [jB_f c] at ory
    refine (hr_err (l := l) hC1 hB (c := jV 31 139 [some (.ref t), some (.ref 15), some (.int (nI l)), some (.ref 18), some (.int (nI i)), some (.int (nI (cw x))), some (.int (nI (i + 1)))] [] g) (m := jV 126 202 [some (.ref 30), some (.int (nI a)), some (.int (nI l)), some (.int (nI i)), some (.int (nI (cw x))), some (.int (nI (i + 1))), some (.int (jB (aN (cw x) = a))), none, none] [] g') ?_ ?_).pre (f1.sub (fun c k z => cHp_r (Or.inl (p1 c k z)))) (Fr.refl g') rfl rfl rfl
    · rw [rf]
      simp only [s31_139, s31_141, s31_144, s31_147, s31_148, s31_149, s31_151, s31_152, s31_153, s31_156, s31_157, s31_159, s31_162, s31_165, s31_166, s31_167, s31_169, s31_170, s31_173, s31_174, s31_175, s31_177, s31_179, s31_182, s31_185, s31_188, s31_189, s31_190, s31_192, s31_193, s31_196, s31_197, s31_198, s31_199, s31_201, s31_204, kt, nm, ns, nc, k15 qc, njd, cwt, ↓reduceIte, va_rf_s, va_rf_n, jb_some, jb_none, jtl_s, jtl_n, if_true, if_false, true_and, and_true, false_and, and_false, or_true, true_or, or_false, false_or, not_true_eq_false, not_false_eq_true, jk_si, jp_si, jj_si, jk_sj, jp_sj, ji_sj, jk_ci, jp_ci, jj_ci, jk_cj, jp_cj, ji_cj, jlng_n, jlng_i, jlng_r, jlng_0]
    · by_cases e : aN (cw x) = a
      · rw [jB_t e] at me ⊢
        simp only [s126_202, s126_204, s126_207, s126_210, s126_212, s126_215, s126_218, s126_219, s126_221, s126_223, s126_226, s126_229, s126_232, s126_233, s126_234, s126_235, s126_237, s126_240, s126_243, s126_246, s126_247, s126_249, s126_251, s126_253, s126_256, s126_259, s126_260, s126_263, s126_266, s126_267, s126_268, s126_270, s126_272, s126_275, s126_276, s126_277, s126_279, s126_280, s126_281, s126_284, s126_286, s126_288, s126_289, s126_290, s126_291, s126_294, s126_297, s126_298, s126_299, s126_300, s126_303, s126_306, s126_307, s126_308, s126_309, s126_311, s126_314, s126_317, s126_319, s126_322, s126_325, s126_327, s126_330, s126_333, s126_334, s126_335, s126_337, s126_339, s126_342, s126_345, s126_346, s126_349, s126_350, s126_351, s126_352, s126_355, s126_357, s126_360, s126_363, s126_365, s126_368, s126_371, s126_373, s126_376, s126_378, s126_379, s126_382, s126_482, s126_484, s126_487, om, os, oc, ojd, ory, k30 qm, n1, me, ↓reduceIte, va_rf_s, va_rf_n, jb_some, jb_none, jtl_s, jtl_n, if_true, if_false, true_and, and_true, false_and, and_false, or_true, true_or, or_false, false_or, not_true_eq_false, not_false_eq_true, jk_si, jp_si, jj_si, jk_sj, jp_sj, ji_sj, jk_ci, jp_ci, jj_ci, jk_cj, jp_cj, ji_cj, jlng_n, jlng_i, jlng_r, jlng_0]
      · rw [jB_f e] at me ⊢
        simp only [s126_202, s126_204, s126_207, s126_210, s126_212, s126_215, s126_218, s126_219, s126_221, s126_223, s126_226, s126_229, s126_232, s126_233, s126_234, s126_235, s126_237, s126_240, s126_243, s126_246, s126_247, s126_249, s126_251, s126_253, s126_256, s126_259, s126_260, s126_263, s126_266, s126_267, s126_268, s126_270, s126_272, s126_275, s126_276, s126_277, s126_279, s126_280, s126_281, s126_284, s126_286, s126_288, s126_289, s126_290, s126_291, s126_294, s126_297, s126_298, s126_299, s126_300, s126_303, s126_306, s126_307, s126_308, s126_309, s126_311, s126_314, s126_317, s126_319, s126_322, s126_325, s126_327, s126_330, s126_333, s126_334, s126_335, s126_337, s126_339, s126_342, s126_345, s126_346, s126_349, s126_350, s126_351, s126_352, s126_355, s126_357, s126_360, s126_363, s126_365, s126_368, s126_371, s126_373, s126_376, s126_378, s126_379, s126_382, s126_482, s126_484, s126_487, om, os, oc, ojd, ory, k30 qm, n1, me, ↓reduceIte, va_rf_s, va_rf_n, jb_some, jb_none, jtl_s, jtl_n, if_true, if_false, true_and, and_true, false_and, and_false, or_true, true_or, or_false, false_or, not_true_eq_false, not_false_eq_true, jk_si, jp_si, jj_si, jk_sj, jp_sj, ji_sj, jk_ci, jp_ci, jj_ci, jk_cj, jp_cj, ji_cj, jlng_n, jlng_i, jlng_r, jlng_0]
