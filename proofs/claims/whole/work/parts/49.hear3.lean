/-! HEARING: refusals, what is got, what waits -/
theorem m_answer0 {g : jH} (a l : Int32) : jV 123 0 [some (.ref 30), some (.int a), some (.int l), some (.int 0), none, none] [] g = some (none, g) := by
  simp only [s123_0, s123_1, s123_4, s123_5, s123_8, s123_9, s123_10, s123_13, s123_14, s123_17, s123_19, s123_20, s123_21, s123_22, s123_23, s123_24, s123_27, ↓reduceIte, va_rf_s, va_rf_n, jb_some, jb_none, jtl_s, jtl_n, if_true, if_false, true_and, and_true, false_and, and_false, or_true, true_or, or_false, false_or, not_true_eq_false, not_false_eq_true, jk_si, jp_si, jj_si, jk_sj, jp_sj, ji_sj, jk_ci, jp_ci, jj_ci, jk_cj, jp_cj, ji_cj, jlng_n, jlng_i, jlng_r, jlng_0]
/-- ERROR is set in both -/
theorem rf_both {B n a t : Nat} {L A0 A1 : List Int32} {g g' : jH} (hC : HC B L g g' a t n A0 A1) : ∃ G, jV 43 0 [some (.ref t)] [] g = some (some (.int 0), G) ∧ HC B L G (jsi g' 43 a 1) a t n A0 A1 ∧ Fr (fun c k => c = t ∧ k = 6) g G ∧ Fr (fun c k => c = 43 ∧ k = a) g' (jsi g' 43 a 1) := by
  obtain ⟨ha, qc, qm, hT0, hR, hW, hL, ⟨R0, hR0⟩, hA⟩ := id hC
  obtain ⟨ht, hs, hMu, hBa, hPl⟩ := id hT0
  obtain ⟨h0, h33, h34, ⟨h42, h43', h44', h6⟩, h7, h8, h9, h10, h11, h12', h14⟩ := id hs
  obtain ⟨ht74, kt, _⟩ := id ht
  have s1 := c_setFlag kt 1024 1
  rw [h6, if_neg n1, fl_e1 _ h42 _ h43' _ h44'] at s1
  have f1 : Fr (fun c k => c = t ∧ k = 6) g (jsi g t 6 (FL (mv g' a 42) 1 (mv g' a 44))) := (Fr.refl g).si ⟨rfl, rfl⟩
  have f1' : Fr (fun c k => c = 43 ∧ k = a) g' (jsi g' 43 a 1) := (Fr.refl g').si ⟨rfl, rfl⟩
  refine ⟨_, ?_, hC.up2 f1 f1' (fun c k z => Or.inl ⟨by omega, by omega⟩) (fun c k z => up_t (mTA_s (by omega) z.2)) ?_ ⟨R0, hR0.fr f1 (fun c k z1 z2 => by omega)⟩, f1, f1'⟩
  · simp only [s43_0, s43_1, s43_4, s43_5, s43_8, s43_9, kt, s1, ↓reduceIte, va_rf_s, va_rf_n, jb_some, jb_none, jtl_s, jtl_n, if_true, if_false, true_and, and_true, false_and, and_false, or_true, true_or, or_false, false_or, not_true_eq_false, not_false_eq_true, jk_si, jp_si, jj_si, jk_sj, jp_sj, ji_sj, jk_ci, jp_ci, jj_ci, jk_cj, jp_cj, ji_cj, jlng_n, jlng_i, jlng_r, jlng_0]
  · refine ⟨ht.fr f1, ?_, hMu.fr f1 f1' (by omega) (fun c k z1 z2 => by omega) (by omega) (by omega) (fun i hi => by omega), hBa.fr f1 f1' (fun k => by omega) (fun k z1 z2 => by omega), hPl.fr f1 f1' (fun c k z => by omega) (fun c k z z1 z2 => by omega)⟩
    rw [tv_si, mv_si (by omega)]
    simp only [Sc, upd_e, Nat.reduceEqDiff, if_true, if_false]
    exact ⟨h0, h33, h34, ⟨h42, B2_1, h44', trivial⟩, h7, h8, h9, h10, h11, h12', h14⟩
/-- a refusal, as an outcome -/
theorem hr_err {B n a t l : Nat} {L A0 A1 : List Int32} {g g' : jH} (hC : HC B L g g' a t n A0 A1) (hB : B + 33 < 1610612736) {c m : Option (Option Value × jH)} (hc : c = jV 43 0 [some (.ref t)] [] g) (hm : m = some (none, jsi g' 43 a 1)) : HO (B + 33) L g g' a t l n A0 A1 c m := by
  obtain ⟨G, h1, h2, h3, h4⟩ := rf_both hC
  subst hc
  subst hm
  have ht74 := hC.2.2.2.1.1.1
  exact ⟨0, G, h1, Or.inl ⟨rfl, _, rfl, h2.mono (by omega) hB, h3.sub (fun c k z => Or.inl ⟨by omega, by omega⟩), h4.sub (fun c k z => Or.inl (mTA_s (by omega) z.2)), h4.i (by omega)⟩⟩
theorem m_err {B n a t l : Nat} {L A0 A1 : List Int32} {g g' : jH} (hC : HC B L g g' a t n A0 A1) (l3 l4 l5 l6 l7 l8 : Option Value) : jV 126 516 [some (.ref 30), some (.int (nI a)), some (.int (nI l)), l3, l4, l5, l6, l7, l8] [] g' = some (none, jsi g' 43 a 1) := by
  obtain ⟨ha, qc, qm, _⟩ := hC
  have b4 : jin (nI a) 31 = true := jin_nI ha (by omega)
  have b5 : (nI a).toNatClampNeg = a := nI_clamp (by omega)
  simp only [s126_516, s126_517, s126_520, s126_521, s126_522, s126_523, k30 qm, k43 qm, p30_12 qm, b4, b5, show ((1 : Int32) = 0 ∨ (1 : Int32) = 1) by decide, ↓reduceIte, va_rf_s, va_rf_n, jb_some, jb_none, jtl_s, jtl_n, if_true, if_false, true_and, and_true, false_and, and_false, or_true, true_or, or_false, false_or, not_true_eq_false, not_false_eq_true, jk_si, jp_si, jj_si, jk_sj, jp_sj, ji_sj, jk_ci, jp_ci, jj_ci, jk_cj, jp_cj, ji_cj, jlng_n, jlng_i, jlng_r, jlng_0]
theorem not_mode {c : Nat} (h : ¬ dN c) : 1 ≤ pN c ∧ pN c ≤ 30 := by
  have h1 : ¬ (c / 32 % 32 = 0 ∨ c / 32 % 32 = 31) := h
  show 1 ≤ c / 32 % 32 ∧ c / 32 % 32 ≤ 30
  omega
theorem jd_data {L : List Int32} {i n : Nat} (h : JDt L (i + 1) n) (hi : i < L.length) (j : Nat) (y : Int32) (hj : i < j) (hy : L[j]? = some y) : isD y := by
  refine (dtl_spec n L (by omega)).mp h.2 j y ?_ hy
  have := h.1
  omega
theorem jd_notC {y : Int32} (h : isD y) : ¬ isC y := fun z => z h.2
theorem c_recv0 {g g1 : jH} {t w : Nat} {f r o : Int32} (kt : jk g t = (4, 0)) (kt1 : jk g1 t = (4, 0)) (hif : jV 42 0 [some (.ref t), some (.int (nI 0))] [] g = some (some (.int r), g1)) (hr : r = 0) {G : jH} (hans : jV 44 0 [some (.ref t), some (.ref 18)] [] g1 = some (some (.int o), G)) : jV 40 0 [some (.ref t), some (.ref w), some (.int f), some (.ref 18), none] [] g = some (some (.int o), G) := by
  subst hr
  rw [show nI 0 = 0 from rfl] at hif
  simp only [s40_0, s40_1, s40_2, s40_5, s40_8, s40_9, s40_12, s40_15, s40_16, s40_19, s40_21, s40_22, s40_23, s40_24, s40_27, s40_30, s40_32, s40_33, s40_36, s40_39, s40_42, s40_43, s40_44, s40_47, kt, kt1, hif, hans, ↓reduceIte, va_rf_s, va_rf_n, jb_some, jb_none, jtl_s, jtl_n, if_true, if_false, true_and, and_true, false_and, and_false, or_true, true_or, or_false, false_or, not_true_eq_false, not_false_eq_true, jk_si, jp_si, jj_si, jk_sj, jp_sj, ji_sj, jk_ci, jp_ci, jj_ci, jk_cj, jp_cj, ji_cj, jlng_n, jlng_i, jlng_r, jlng_0]
theorem c_recv1 {g g1 : jH} {t w c f : Nat} {r o : Int32} {L : List Int32} (ht : TSh g1 t) (kt : jk g t = (4, 0)) (hif : jV 42 0 [some (.ref t), some (.int (nI 0))] [] g = some (some (.int r), g1)) (hr : r = 1) (hc : c < 65536) (hp : 1 ≤ pN c ∧ pN c ≤ 30) (h12 : ji g1 t 12 = nI c) (hW : WI g1 w L) (hf : f + cN c ≤ L.length) {G : jH} (hans : jV 44 0 [some (.ref t), some (.ref 18)] [] (jci g1 (t + 3) (va_cpy (ji g1 (w + 1)) (ji g1 (t + 3)) f ((pN c - 1) * 32) (cN c))) = some (some (.int o), G)) : jV 40 0 [some (.ref t), some (.ref w), some (.int (nI f)), some (.ref 18), none] [] g = some (some (.int o), G) := by
  subst hr
  rw [show nI 0 = 0 from rfl] at hif
  obtain ⟨ht74, kt', pt2, pt3, kt1, pt10, pt11, kt2, kt3⟩ := id ht
  have hcn := cN_le c
  have n1' := n_placeOf hc g1
  have n2' := n_countOf hc g1
  have hi : jV 25 0 [some (.int (nI (pN c))), some (.int 0)] [] g1 = some (some (.int (nI ((pN c - 1) * 32))), g1) := by
    rw [c_indexOf]
    have e : ∀ q : Fin 31, 1 ≤ q.val → (nI q.val - 1) * 32 + 0 = nI ((q.val - 1) * 32) := by decide
    rw [e ⟨pN c, by omega⟩ hp.1]
  have hcp := w_copyTo hW kt3 (by omega) hf (d := (pN c - 1) * 32) (n := cN c) (by omega)
  simp only [s40_0, s40_1, s40_2, s40_5, s40_8, s40_9, s40_12, s40_15, s40_16, s40_19, s40_21, s40_22, s40_23, s40_24, s40_27, s40_30, s40_32, s40_33, s40_36, s40_39, s40_42, s40_43, s40_44, s40_47, kt, kt', hif, n1, pt2, pt3, kt1, pt10, pt11, h12, n1', n2', hi, hW.1.1, hcp, jk_ci, hans, ↓reduceIte, va_rf_s, va_rf_n, jb_some, jb_none, jtl_s, jtl_n, if_true, if_false, true_and, and_true, false_and, and_false, or_true, true_or, or_false, false_or, not_true_eq_false, not_false_eq_true, jk_si, jp_si, jj_si, jk_sj, jp_sj, ji_sj, jk_ci, jp_ci, jj_ci, jk_cj, jp_cj, ji_cj, jlng_n, jlng_i, jlng_r, jlng_0]
/-- the words are got -/
theorem hr_recv {B n a t l i : Nat} {L A0 A1 : List Int32} {x : Int32} {g g' : jH} (hC : HC B L g g' a t n A0 A1) (hB : B + 33 < 1610612736) (hl : l ≤ 1) (hx : LCN a L i x) (hn : WA a L → n = 0) (hn1 : n ≤ 1) (h15 : ji g t 15 = ji g' 72 a) (h12 : ji g t 12 = nI (cw x)) (h43 : ji g' 43 a = 0) (h44 : (aN (cw x) = a ∧ mv g' a 44 = 0) ∨ (aN (cw x) = 31 ∧ mv g' a 44 = 1)) (hd : ¬ dN (cw x)) (hsn : ¬ sN (cw x)) (hjd : JDt L (i + 1) (cN (cw x))) : HO (B + 33) L g g' a t l n A0 A1 (jV 31 139 [some (.ref t), some (.ref 15), some (.int (nI l)), some (.ref 18), some (.int (nI i)), some (.int (nI (cw x))), some (.int (nI (i + 1)))] [] g) (jV 126 202 [some (.ref 30), some (.int (nI a)), some (.int (nI l)), some (.int (nI i)), some (.int (nI (cw x))), some (.int (nI (i + 1))), some (.int (jB (aN (cw x) = a))), none, none] [] g') := by
  obtain ⟨ha, qc, qm, hT0, hR, hW, hL, ⟨R0, hR0⟩, hA⟩ := id hC; obtain ⟨ht, hs, hMu, hBa, hPl⟩ := id hT0; obtain ⟨h0, h33, h34, ⟨h42, h43', h44', h6⟩, h7, h8, h9, h10, h11, h12', h14⟩ := id hs; obtain ⟨ht74, kt, pt2, pt3, kt1, pt10, pt11, kt2, kt3⟩ := id ht; have hLl := hL.1; have hil := (List.getElem?_eq_some_iff.mp hx.1).1; have hcw := cw_lt x
  have hp := not_mode hd
  have hcn := cN_le (cw x)
  have b4 : jin (nI a) 31 = true := jin_nI ha (by omega)
  have b5 : (nI a).toNatClampNeg = a := nI_clamp (by omega)
  obtain ⟨r, g1, g1', hif, hmay, hr, hs1, f1, f1'⟩ := q_may qm ha ht hs hBa hcw hp (sd := 0) (by omega) h12 h43
  have nm := n_isMode hcw g
  have ns := n_sends hcw g
  have nc := n_countOf hcw g
  rw [jB_f hd] at nm
  rw [jB_f hsn] at ns
  have njd := w_isJustData hW (f := i + 1) (by omega) (n := cN (cw x)) (by omega)
  rw [jB_t hjd] at njd
  have om := o_isMode hcw g'
  have os := o_isToSend hcw g'
  have oc := o_countOf hcw g'
  have op := o_placeOf hcw g'
  rw [jB_f hd] at om
  rw [jB_f hsn] at os
  have ojd := m_isRestData qm hL (f := i + 1) (by omega) (n := cN (cw x)) (by omega)
  rw [jB_t hjd] at ojd
  rw [show nI 0 = 0 from rfl] at hmay
  have ht1 : TSh g1 t := ht.fr f1
  have hjl : i + 1 + cN (cw x) ≤ L.length := by have := hjd.1; omega
  have qm1 : MS g1' := f1'.ms qm
  have W1 : WI g1 15 L := hW.fr f1 (fun c k z1 z2 => by omega)
  have L1 : ML g1' L := hL.fr f1' (by omega) (fun k => by omega)
  have v44 : mv g1' a 44 = mv g' a 44 := by rw [mv_v (by omega), mv_v (by omega), f1'.i (by omega)]
  have hM1 : TM B g1 g1' a t := ⟨ht1, hs1, hMu.fr f1 f1' (by omega) (fun c k z1 z2 => by omega) (by omega) (by omega) (fun i hi => by omega), hBa.fr f1 f1' (fun k => by omega) (fun k z1 z2 => by omega), hPl.fr f1 f1' (fun c k z => by omega) (fun c k z z1 z2 => by omega)⟩
  -- the store with the words got
  have mid : ∃ g2 g2' l7, (∀ o G, jV 44 0 [some (.ref t), some (.ref 18)] [] g2 = some (some (.int o), G) → jV 31 139 [some (.ref t), some (.ref 15), some (.int (nI l)), some (.ref 18), some (.int (nI i)), some (.int (nI (cw x))), some (.int (nI (i + 1)))] [] g = some (some (.int o), G)) ∧ jV 126 202 [some (.ref 30), some (.int (nI a)), some (.int (nI l)), some (.int (nI i)), some (.int (nI (cw x))), some (.int (nI (i + 1))), some (.int (jB (aN (cw x) = a))), none, none] [] g' = jV 126 297 [some (.ref 30), some (.int (nI a)), some (.int (nI l)), some (.int (nI i)), some (.int (nI (cw x))), some (.int (nI (i + 1))), some (.int (jB (aN (cw x) = a))), l7, none] [] g2' ∧ TM B g2 g2' a t ∧ mv g2' a 44 = mv g' a 44 ∧ Fr (fun c k => (c = t ∧ k = 6) ∨ c = t + 3) g g2 ∧ Fr (fun c k => (c = 43 ∧ k = a) ∨ (c = 36 ∧ 992 * a ≤ k ∧ k < 992 * a + 992)) g' g2' := by
    rcases in_B2 hr with z | z
    · refine ⟨g1, g1', none, ?_, ?_, hM1, v44, f1.sub (fun c k z => Or.inl z), f1'.sub (fun c k z => Or.inl z)⟩
      · intro o G hans
        have := c_recv0 (w := 15) (f := nI (i + 1)) kt ht1.2.1 hif z hans
        simp only [s31_139, s31_141, s31_144, s31_147, s31_148, s31_149, s31_151, s31_152, s31_153, s31_156, s31_157, s31_159, s31_162, s31_165, s31_166, s31_167, s31_169, s31_170, s31_173, s31_174, s31_175, s31_177, s31_179, s31_182, s31_185, s31_188, s31_189, s31_190, s31_192, s31_193, s31_196, kt, nm, ns, nc, k15 qc, njd, n1, this, ↓reduceIte, va_rf_s, va_rf_n, jb_some, jb_none, jtl_s, jtl_n, if_true, if_false, true_and, and_true, false_and, and_false, or_true, true_or, or_false, false_or, not_true_eq_false, not_false_eq_true, jk_si, jp_si, jj_si, jk_sj, jp_sj, ji_sj, jk_ci, jp_ci, jj_ci, jk_cj, jp_cj, ji_cj, jlng_n, jlng_i, jlng_r, jlng_0]
      · subst z
        simp only [s126_202, s126_204, s126_207, s126_210, s126_212, s126_215, s126_218, s126_219, s126_221, s126_223, s126_226, s126_229, s126_232, s126_233, s126_234, s126_235, s126_237, s126_240, s126_243, om, os, oc, op, ojd, k30 qm, n1, hmay, ↓reduceIte, va_rf_s, va_rf_n, jb_some, jb_none, jtl_s, jtl_n, if_true, if_false, true_and, and_true, false_and, and_false, or_true, true_or, or_false, false_or, not_true_eq_false, not_false_eq_true, jk_si, jp_si, jj_si, jk_sj, jp_sj, ji_sj, jk_ci, jp_ci, jj_ci, jk_cj, jp_cj, ji_cj, jlng_n, jlng_i, jlng_r, jlng_0]
    · obtain ⟨G2, e1, e2, e3, e4⟩ := mg_loop ha hcw (p := pN (cw x)) rfl (cnt := cN (cw x)) rfl hp.1 hp.2 (f := i + 1) (by omega) (nI l) (nI i) (jB (aN (cw x) = a)) none (cN (cw x)) 0 g1' (by omega) qm1
      have hP2 := pl_got (f := i + 1) hM1.2.2.2.2 hp.1 hp.2 hcn.2 W1 (by omega) hjl e2 (fun j y hj hy => by rw [e3 j (by omega) hj]; exact L1.2.2 _ _ hy)
      have f2 : Fr (fun c k => c = t + 3) g1 (jci g1 (t + 3) (va_cpy (ji g1 (15 + 1)) (ji g1 (t + 3)) (i + 1) ((pN (cw x) - 1) * 32) (cN (cw x)))) := (Fr.refl g1).ci (fun k z => absurd rfl z)
      have f2' : Fr (fun c k => c = 36 ∧ 992 * a ≤ k ∧ k < 992 * a + 992) g1' G2 := e2.sub (fun c k z => by omega)
      refine ⟨_, G2, some (.int (nI (cN (cw x)))), ?_, ?_, ⟨ht1.fr f2, ?_, hM1.2.2.1.fr f2 f2' (by omega) (fun c k z1 z2 => by omega) (by omega) (by omega) (fun i hi => by omega), hM1.2.2.2.1.fr f2 f2' (fun k => by omega) (fun k z1 z2 => by omega), hP2⟩, ?_, (f1.sub (fun c k z => Or.inl z)).trans (f2.sub (fun c k z => Or.inr z)), (f1'.sub (fun c k z => Or.inl z)).trans (f2'.sub (fun c k z => Or.inr z))⟩
      · intro o G hans
        have := c_recv1 (c := cw x) ht1 kt hif z hcw hp (by rw [f1.i (by omega)]; exact h12) W1 hjl hans
        simp only [s31_139, s31_141, s31_144, s31_147, s31_148, s31_149, s31_151, s31_152, s31_153, s31_156, s31_157, s31_159, s31_162, s31_165, s31_166, s31_167, s31_169, s31_170, s31_173, s31_174, s31_175, s31_177, s31_179, s31_182, s31_185, s31_188, s31_189, s31_190, s31_192, s31_193, s31_196, kt, nm, ns, nc, k15 qc, njd, n1, this, ↓reduceIte, va_rf_s, va_rf_n, jb_some, jb_none, jtl_s, jtl_n, if_true, if_false, true_and, and_true, false_and, and_false, or_true, true_or, or_false, false_or, not_true_eq_false, not_false_eq_true, jk_si, jp_si, jj_si, jk_sj, jp_sj, ji_sj, jk_ci, jp_ci, jj_ci, jk_cj, jp_cj, ji_cj, jlng_n, jlng_i, jlng_r, jlng_0]
      · subst z
        rw [show nI 0 = 0 from rfl] at e1
        simp only [s126_202, s126_204, s126_207, s126_210, s126_212, s126_215, s126_218, s126_219, s126_221, s126_223, s126_226, s126_229, s126_232, s126_233, s126_234, s126_235, s126_237, s126_240, s126_243, s126_246, s126_247, om, os, oc, op, ojd, k30 qm, n1, hmay, e1, ↓reduceIte, va_rf_s, va_rf_n, jb_some, jb_none, jtl_s, jtl_n, if_true, if_false, true_and, and_true, false_and, and_false, or_true, true_or, or_false, false_or, not_true_eq_false, not_false_eq_true, jk_si, jp_si, jj_si, jk_sj, jp_sj, ji_sj, jk_ci, jp_ci, jj_ci, jk_cj, jp_cj, ji_cj, jlng_n, jlng_i, jlng_r, jlng_0]
      · rw [tv_fr f2 (fun k => by omega), mv_fr f2' (fun l hl => by omega) (by omega) (by omega)]
        exact hs1
      · rw [mv_fr f2' (fun l hl => by omega) (by omega) (by omega)]
        exact v44
  obtain ⟨g2, g2', l7, hcl, hmd, hM2, v2, f2, f2'⟩ := mid
  have qm2 : MS g2' := f2'.ms qm
  have W18 : WI g2 18 R0 := hR0.fr f2 (fun c k z1 z2 => by omega)
  obtain ⟨G, b, c1, c2, f3, hRp⟩ := c_answerStatus ha hM2.1 hM2.2.1 W18
  have f3' : Fr (fun c k => c = 73 ∨ (c = 30 ∧ k = 56)) g2' (jsi (jsi g2' 73 0 (stI (mv g2' a) a)) 30 56 1) := ((Fr.refl g2').si (Or.inl rfl)).si (Or.inr ⟨rfl, rfl⟩)
  have hM3 := hM2.fr f3 f3' (fun c k z1 z2 => by unfold wP; omega) (fun c k z y => by omega)
  have p2 : ∀ c k, ((c = t ∧ k = 6) ∨ c = t + 3) → t ≤ c ∧ c ≤ t + 6 := fun c k z => by omega
  have p2' : ∀ c k, ((c = 43 ∧ k = a) ∨ (c = 36 ∧ 992 * a ≤ k ∧ k < 992 * a + 992)) → mTA a c k := fun c k z => z.elim (fun y => mTA_s (by omega) y.2) (fun y => Or.inr (Or.inr (Or.inl ⟨Or.inr y.1, y.2⟩)))
  have hC3 : HC B L G (jsi (jsi g2' 73 0 (stI (mv g2' a) a)) 30 56 1) a t n A0 A1 := hC.up2 ((f2.sub (fun c k z => Or.inl (p2 c k z))).trans (f3.sub (fun c k z => Or.inr z))) ((f2'.sub (fun c k z => up_t (p2' c k z))).trans (f3'.sub (fun c k z => up_r z))) (fun c k z => z) (fun c k z => z) hM3 ⟨_, (hRp g2').2.1⟩
  have F3 : Fr (cHp t) g G := (f2.sub (fun c k z => cHp_r (Or.inl (p2 c k z)))).trans (f3.sub (fun c k z => cHp_r (Or.inr z)))
  have F3' : Fr (mHp a) g' (jsi (jsi g2' 73 0 (stI (mv g2' a) a)) 30 56 1) := (f2'.sub (fun c k z => Or.inl (p2' c k z))).trans (f3'.sub (fun c k z => mHp_73 z))
  have mst := m_statusOf qm2 ha
  have mrw := m_replyWith qm2 (stI (mv g2' a) a)
  have E71 : ji (jsi (jsi g2' 73 0 (stI (mv g2' a) a)) 30 56 1) 71 a = ji g' 71 a := by rw [f3'.i (by omega), f2'.i (by omega)]
  rw [v2] at c1
  rcases h44 with ⟨z1, z2⟩ | ⟨z1, z2⟩
  · rw [if_pos z2] at c1
    obtain ⟨G4, G4', n', A0', A1', q1, q2, q3, q4, q5, q6⟩ := fin_ans hC3 hB hl hn1 (by rw [f3.i (by unfold wP; omega), f3'.i (by omega), f2.i (by omega), f2'.i (by omega)]; exact h15) (hRp g2')
    refine ⟨1, G, hcl _ _ c1, Or.inr (Or.inr ⟨rfl, hC3.2.1, G4, G4', n', A0', A1', q1, ?_, q3, q4, wa_of hx z1 (fun j y hj hy => jd_notC (jd_data hjd hil j y hj hy)), F3.trans (q5.sub (fun c k z => cHp_y z)), F3'.trans (q6.sub (fun c k z => mHp_y z)), by rw [q6.i (by omega)]; exact E71⟩)⟩
    rw [hmd, jB_t z1]
    simp only [s126_297, s126_298, s126_299, s126_300, s126_303, s126_306, s126_307, s126_308, s126_309, s126_311, s126_314, s126_523, k30 qm2, mst, mrw, n1, q2, ↓reduceIte, va_rf_s, va_rf_n, jb_some, jb_none, jtl_s, jtl_n, if_true, if_false, true_and, and_true, false_and, and_false, or_true, true_or, or_false, false_or, not_true_eq_false, not_false_eq_true, jk_si, jp_si, jj_si, jk_sj, jp_sj, ji_sj, jk_ci, jp_ci, jj_ci, jk_cj, jp_cj, ji_cj, jlng_n, jlng_i, jlng_r, jlng_0]
  · rw [if_neg (by rw [z2]; exact n1)] at c1
    refine ⟨0, G, hcl _ _ c1, Or.inl ⟨rfl, _, ?_, hC3.mono (by omega) hB, F3, F3', E71⟩⟩
    rw [hmd, jB_f (fun y => by rw [y] at z1; omega)]
    simp only [s126_297, s126_298, s126_299, s126_300, s126_303, s126_306, s126_307, s126_308, s126_309, s126_311, s126_314, s126_523, k30 qm2, mst, mrw, m_answer0, ↓reduceIte, va_rf_s, va_rf_n, jb_some, jb_none, jtl_s, jtl_n, if_true, if_false, true_and, and_true, false_and, and_false, or_true, true_or, or_false, false_or, not_true_eq_false, not_false_eq_true, jk_si, jp_si, jj_si, jk_sj, jp_sj, ji_sj, jk_ci, jp_ci, jj_ci, jk_cj, jp_cj, ji_cj, jlng_n, jlng_i, jlng_r, jlng_0]
