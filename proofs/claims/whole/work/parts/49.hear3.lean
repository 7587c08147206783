/-! HEARING: refusals, what is got, what waits -/
theorem m_answer0 {g : jH} (a l : Int32) : jV 123 0 [some (.ref 30), some (.int a), some (.int l), some (.int 0), none, none] [] g = some (none, g) := by
  simp only [s123_0, s123_1, s123_4, s123_5, s123_8, s123_9, s123_10, s123_13, s123_14, s123_17, s123_19, s123_20, s123_21, s123_22, s123_23, s123_24, s123_27, ↓reduceIte, va_rf_s, va_rf_n, jb_some, jb_none, jtl_s, jtl_n, if_true, if_false, true_and, and_true, false_and, and_false, or_true, true_or, or_false, false_or, not_true_eq_false, not_false_eq_true, jk_si, jp_si, jj_si, jk_sj, jp_sj, ji_sj, jk_ci, jp_ci, jj_ci, jk_cj, jp_cj, ji_cj, jlng_n, jlng_i, jlng_r, jlng_0]
/-- ERROR is set in both -/
theorem rf_both {B n a t : Nat} {L A0 A1 : List Int32} {g g' : jH} (hC : HC B L g g' a t n A0 A1) : ∃ G, jV 43 0 [some (.ref t)] [] g = some (some (.int 0), G) ∧ HC B L G (jsi g' 43 a 1) a t n A0 A1 ∧ Fr (fun c k => c = t ∧ k = 6) g G ∧ Fr (fun c k => c = 43 ∧ k = a) g' (jsi g' 43 a 1) := by
  obtain ⟨ha, qc, qm, hT0, hR, hW, hL, ⟨R0, hR0⟩, hA⟩ := id hC
  obtain ⟨ht, hs, hMu, hBa, hPl⟩ := id hT0
  obtain ⟨h0, h33, h34, ⟨h42, h43', h44', h6⟩, h7, h8, h9, h10, h11, h12', h14⟩ := id hs
  obtain ⟨ht74, kt, _⟩ := id ht
  have s1 := c_setFlag kt 1024 1
  rw [h6, if_neg n1, fl_e1 _ h42 _ h43' _ h44'] at s1
  have f1 : Fr (fun c k => c = t ∧ k = 6) g (jsi g t 6 (FL (mv g' a 42) 1 (mv g' a 44))) := (Fr.refl g).si ⟨rfl, rfl⟩
  have f1' : Fr (fun c k => c = 43 ∧ k = a) g' (jsi g' 43 a 1) := (Fr.refl g').si ⟨rfl, rfl⟩
  refine ⟨_, ?_, hC.up2 f1 f1' (fun c k z => Or.inl ⟨by omega, by omega⟩) (fun c k z => up_t (mTA_s (by omega) z.2)) ?_ ⟨R0, hR0.fr f1 (fun c k z1 z2 => by omega)⟩, f1, f1'⟩
  · simp only [s43_0, s43_1, s43_4, s43_5, s43_8, s43_9, kt, s1, ↓reduceIte, va_rf_s, va_rf_n, jb_some, jb_none, jtl_s, jtl_n, if_true, if_false, true_and, and_true, false_and, and_false, or_true, true_or, or_false, false_or, not_true_eq_false, not_false_eq_true, jk_si, jp_si, jj_si, jk_sj, jp_sj, ji_sj, jk_ci, jp_ci, jj_ci, jk_cj, jp_cj, ji_cj, jlng_n, jlng_i, jlng_r, jlng_0]
  · refine ⟨ht.fr f1, ?_, hMu.fr f1 f1' (by omega) (fun c k z1 z2 => by omega) (by omega) (by omega) (fun i hi => by omega), hBa.fr f1 f1' (fun k => by omega) (fun k z1 z2 => by omega), hPl.fr f1 f1' (fun c k z => by omega) (fun c k z z1 z2 => by omega)⟩
    rw [tv_si, mv_si (by omega)]
    simp only [Sc, upd_e, Nat.reduceEqDiff, if_true, if_false]
    exact ⟨h0, h33, h34, ⟨h42, B2_1, h44', trivial⟩, h7, h8, h9, h10, h11, h12', h14⟩
/-- a refusal, as an outcome -/
theorem hr_err {B n a t l : Nat} {L A0 A1 : List Int32} {g g' : jH} (hC : HC B L g g' a t n A0 A1) (hB : B + 33 < 2 ^ 30) {c m : Option (Option Value × jH)} (hc : c = jV 43 0 [some (.ref t)] [] g) (hm : m = some (none, jsi g' 43 a 1)) : HO (B + 33) L g g' a t l n A0 A1 c m := by
  obtain ⟨G, h1, h2, h3, h4⟩ := rf_both hC
  subst hc
  subst hm
  have ht74 := hC.2.2.2.1.1.1
  exact ⟨0, G, h1, Or.inl ⟨rfl, _, rfl, h2.mono (by omega) hB, h3.sub (fun c k z => Or.inl ⟨by omega, by omega⟩), h4.sub (fun c k z => Or.inl (mTA_s (by omega) z.2)), h4.i (by omega)⟩⟩
theorem m_err {B n a t l : Nat} {L A0 A1 : List Int32} {g g' : jH} (hC : HC B L g g' a t n A0 A1) (l3 l4 l5 l6 l7 l8 : Option Value) : jV 126 516 [some (.ref 30), some (.int (nI a)), some (.int (nI l)), l3, l4, l5, l6, l7, l8] [] g' = some (none, jsi g' 43 a 1) := by
  obtain ⟨ha, qc, qm, _⟩ := hC
  have b4 : jin (nI a) 31 = true := jin_nI ha (by omega)
  have b5 : (nI a).toNatClampNeg = a := nI_clamp (by omega)
  simp only [s126_516, s126_517, s126_520, s126_521, s126_522, s126_523, k30 qm, k43 qm, p30_12 qm, b4, b5, show ((1 : Int32) = 0 ∨ (1 : Int32) = 1) by decide, ↓reduceIte, va_rf_s, va_rf_n, jb_some, jb_none, jtl_s, jtl_n, if_true, if_false, true_and, and_true, false_and, and_false, or_true, true_or, or_false, false_or, not_true_eq_false, not_false_eq_true, jk_si, jp_si, jj_si, jk_sj, jp_sj, ji_sj, jk_ci, jp_ci, jj_ci, jk_cj, jp_cj, ji_cj, jlng_n, jlng_i, jlng_r, jlng_0]
theorem not_mode {c : Nat} (h : ¬ dN c) : 1 ≤ pN c ∧ pN c ≤ 30 := by
  have h1 : ¬ (c / 32 % 32 = 0 ∨ c / 32 % 32 = 31) := h
  show 1 ≤ c / 32 % 32 ∧ c / 32 % 32 ≤ 30
  omega
theorem jd_data {L : List Int32} {i n : Nat} (h : JDt L (i + 1) n) (hi : i < L.length) (j : Nat) (y : Int32) (hj : i < j) (hy : L[j]? = some y) : isD y := by
  refine (dtl_spec n L (by omega)).mp h.2 j y ?_ hy
  have := h.1
  omega
theorem jd_notC {y : Int32} (h : isD y) : ¬ isC y := fun z => z h.2
/-- the words are got -/
theorem hr_recv {B n a t l i : Nat} {L A0 A1 : List Int32} {x : Int32} {g g' : jH} (hC : HC B L g g' a t n A0 A1) (hB : B + 33 < 2 ^ 30) (hl : l ≤ 1) (hx : LCN a L i x) (hn : WA a L → n = 0) (hn1 : n ≤ 1) (h15 : ji g t 15 = ji g' 72 a) (h12 : ji g t 12 = nI (cw x)) (h43 : ji g' 43 a = 0) (h44 : (aN (cw x) = a ∧ mv g' a 44 = 0) ∨ (aN (cw x) = 31 ∧ mv g' a 44 = 1)) (hd : ¬ dN (cw x)) (hsn : ¬ sN (cw x)) (hjd : JDt L (i + 1) (cN (cw x))) : HO (B + 33) L g g' a t l n A0 A1 (jV 31 139 [some (.ref t), some (.ref 15), some (.int (nI l)), some (.ref 18), some (.int (nI i)), some (.int (nI (cw x))), some (.int (nI (i + 1)))] [] g) (jV 126 202 [some (.ref 30), some (.int (nI a)), some (.int (nI l)), some (.int (nI i)), some (.int (nI (cw x))), some (.int (nI (i + 1))), some (.int (jB (aN (cw x) = a))), none, none] [] g') := by
  obtain ⟨ha, qc, qm, hT0, hR, hW, hL, ⟨R0, hR0⟩, hA⟩ := id hC; obtain ⟨ht, hs, hMu, hBa, hPl⟩ := id hT0; obtain ⟨h0, h33, h34, ⟨h42, h43', h44', h6⟩, h7, h8, h9, h10, h11, h12', h14⟩ := id hs; obtain ⟨ht74, kt, pt2, pt3, kt1, pt10, pt11, kt2, kt3⟩ := id ht; have hLl := hL.1; have hil := (List.getElem?_eq_some_iff.mp hx.1).1; have hcw := cw_lt x
  have hp := not_mode hd
  have hcn := cN_le (cw x)
  have b4 : jin (nI a) 31 = true := jin_nI ha (by omega)
  have b5 : (nI a).toNatClampNeg = a := nI_clamp (by omega)
  obtain ⟨r, g1, g1', hif, hmay, hr, hs1, f1, f1'⟩ := q_may qm ha ht hs hBa hcw hp (sd := 0) (by omega) h12 h43
  have nm := n_isMode hcw g
  have ns := n_sends hcw g
  have nc := n_countOf hcw g
  rw [jB_f hd] at nm
  rw [jB_f hsn] at ns
  have njd := w_isJustData hW (f := i + 1) (by omega) (n := cN (cw x)) (by omega)
  rw [jB_t hjd] at njd
  have om := o_isMode hcw g'
  have os := o_isToSend hcw g'
  have oc := o_countOf hcw g'
  have op := o_placeOf hcw g'
  rw [jB_f hd] at om
  rw [jB_f hsn] at os
  have ojd := m_isRestData qm hL (f := i + 1) (by omega) (n := cN (cw x)) (by omega)
  rw [jB_t hjd] at ojd
  -- the store with the words got
  have mid : ∃ g2 g2' l7, jV 31 139 [some (.ref t), some (.ref 15), some (.int (nI l)), some (.ref 18), some (.int (nI i)), some (.int (nI (cw x))), some (.int (nI (i + 1)))] [] g = (jV 44 0 [some (.ref t), some (.ref 18)] [] g2).bind (fun v => jV 31 196 [some (.ref t), some (.ref 15), some (.int (nI l)), some (.ref 18), some (.int (nI i)), some (.int (nI (cw x))), some (.int (nI (i + 1)))] (v.1.toList ++ []) v.2) ∧ jV 126 202 [some (.ref 30), some (.int (nI a)), some (.int (nI l)), some (.int (nI i)), some (.int (nI (cw x))), some (.int (nI (i + 1))), some (.int (jB (aN (cw x) = a))), none, none] [] g' = jV 126 297 [some (.ref 30), some (.int (nI a)), some (.int (nI l)), some (.int (nI i)), some (.int (nI (cw x))), some (.int (nI (i + 1))), some (.int (jB (aN (cw x) = a))), l7, none] [] g2' ∧ TM B g2 g2' a t ∧ mv g2' a 44 = mv g' a 44 ∧ Fr (fun c k => (c = t ∧ k = 6) ∨ c = t + 3) g g2 ∧ Fr (fun c k => (c = 43 ∧ k = a) ∨ (c = 36 ∧ 992 * a ≤ k ∧ k < 992 * a + 992)) g' g2' := by
    have v44 : mv g1' a 44 = mv g' a 44 := by rw [mv_v (by omega), mv_v (by omega), f1'.i (by omega)]
    have hM1 : TM B g1 g1' a t := ⟨ht.fr f1, hs1, hMu.fr f1 f1' (by omega) (fun c k z1 z2 => by omega) (by omega) (by omega) (fun i hi => by omega), hBa.fr f1 f1' (fun k => by omega) (fun k z1 z2 => by omega), hPl.fr f1 f1' (fun c k z => by omega) (fun c k z z1 z2 => by omega)⟩
    rcases in_B2 hr with z | z
    · subst z
      refine ⟨g1, g1', none, ?_, ?_, hM1, v44, f1.sub (fun c k z => Or.inl z), f1'.sub (fun c k z => Or.inl z)⟩
      · sorry
      · sorry
    · sorry
  sorry
