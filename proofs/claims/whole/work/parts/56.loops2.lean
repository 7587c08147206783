/-! THE LOOPS, run -/
theorem EX.mono {B B' n : Nat} {L A0 A1 : List Int32} {g g' : jH} (h : EX B L g g' n A0 A1) (hB : B ≤ B') (hB' : B' < 1610612736) : EX B' L g g' n A0 A1 := by
  obtain ⟨z1, z2, z3, z4, z5, z6, z7, z8⟩ := h
  exact ⟨z1, z2, z3.mono hB hB', z4, z5, z6, z7, fun a ha => (z8 a ha).imp id (fun ⟨t, y1, y2, y3⟩ => ⟨t, y1, y2, y3.mono hB hB'⟩)⟩
theorem ha_loop {l : Nat} {tt : Int32} {L : List Int32} {y4 y5 y6 : Option Value} (hl : l ≤ 1) : ∀ (k a B n : Nat) (A0 A1 : List Int32) (g g' : jH) (x3 x4 : Option Value), a + k = 31 → EX B L g g' n A0 A1 → n ≤ 1 → ((∃ b, a ≤ b ∧ WA b L) → n = 0) → WQ L g g' a → B + 34 * k < 1610612736 → ∃ G G' n' A0' A1', jV 13 2 [some (.ref 10), some (.int (nI l)), some (.int (nI a)), x3, x4] [] g = some (none, G) ∧ jV 137 13 [some (.ref 30), some (.int tt), some (.int (nI l)), some (.int (nI a)), y4, y5, y6] [] g' = jV 137 61 [some (.ref 30), some (.int tt), some (.int (nI l)), some (.int (nI 31)), y4, y5, y6] [] G' ∧ EX (B + 34 * k) L G G' n' A0' A1' ∧ n' ≤ 1 ∧ WQ L G G' 31 ∧ Fr (cEp (jp g 11)) g G ∧ Fr mEp g' G'
  | 0, a, B, n, A0, A1, g, g', x3, x4, h, hE, hn1, hn, hw, hB => by
    have e : a = 31 := by omega
    subst e
    have lt : ¬ nI 31 < 31 := by decide
    exact ⟨g, g', n, A0, A1, by simp only [s13_2, s13_3, s13_5, s13_8, s13_9, s13_12, s13_13, s13_14, s13_14n, s13_15, s13_15n, s13_16, s13_16n, s13_19, s13_22, s13_22n, s13_23, s13_24, s13_27, s13_28, s13_29, s13_32, s13_35, s13_37, s13_39, s13_40, s13_43, s13_44, s13_45, s13_48, s13_49, s13_50, s13_53, s13_56, s13_59, s13_61, s13_62, s13_65, s13_66, s13_66n, s13_67, s13_68, s13_71, s13_74, s13_77, lt, ↓reduceIte, va_rf_s, va_rf_n, jb_some, jb_none, jtl_s, jtl_n, if_true, if_false, true_and, and_true, false_and, and_false, or_true, true_or, or_false, false_or, not_true_eq_false, not_false_eq_true, jk_si, jp_si, jj_si, jk_sj, jp_sj, ji_sj, jk_ci, jp_ci, jj_ci, jk_cj, jp_cj, ji_cj, jlng_n, jlng_i, jlng_r, jlng_0], by simp only [s137_13, s137_14, s137_16, lt, ↓reduceIte, va_rf_s, va_rf_n, jb_some, jb_none, jtl_s, jtl_n, if_true, if_false, true_and, and_true, false_and, and_false, or_true, true_or, or_false, false_or, not_true_eq_false, not_false_eq_true, jk_si, jp_si, jj_si, jk_sj, jp_sj, ji_sj, jk_ci, jp_ci, jj_ci, jk_cj, jp_cj, ji_cj, jlng_n, jlng_i, jlng_r, jlng_0], hE, hn1, hw, Fr.refl g, Fr.refl g'⟩
  | k + 1, a, B, n, A0, A1, g, g', x3, x4, h, hE, hn1, hn, hw, hB => by
    obtain ⟨G, G', n', A0', A1', z3, z4, q1, q2, q3, q4, q5, q6, q7, q8⟩ := ha_step (tt := tt) (x3 := x3) (x4 := x4) (y4 := y4) (y5 := y5) (y6 := y6) hE (show a < 31 by omega) hl hn1 hn hw (by omega)
    obtain ⟨G2, G2', n2, B0, B1, p1, p2, p3, p4, p5, p6, p7⟩ := ha_loop hl k (a + 1) (B + 34) n' A0' A1' G G' z3 z4 (by omega) q3 q4 q5 q6 (by omega)
    have ep : jp G 11 = jp g 11 := funext (fun b => q7.p 11 b)
    rw [ep] at p6
    exact ⟨G2, G2', n2, B0, B1, q1.trans p1, q2.trans p2, by rw [show B + 34 * (k + 1) = B + 34 + 34 * k by omega]; exact p3, p4, p5, q7.trans p6, q8.trans p7⟩
/-- who still waits -/
def WR (L : List Int32) (g g' : jH) (a : Nat) : Prop := ∀ b, a ≤ b → b < 31 → (bt (ji g 10 9) b = true ∧ ji g' 71 b = 1 ∧ ∃ t, jp g 11 b = some t ∧ RY L g g' b t) ∨ (bt (ji g 10 9) b = false ∧ ji g' 71 b = 0)
theorem WR.hp {B L} {g g' G G' : jH} {a t : Nat} (hT : TS B g g') (ha : a < 31) (hp : jp g 11 a = some t) (hw : WR L g g' a) (F : Fr (cHp t) g G) (F' : Fr (mHp a) g' G') : WR L G G' (a + 1) := by
  have hM := (ts_t hT ha hp).2
  intro b hb hb31
  have e9 : ji G 10 9 = ji g 10 9 := F.i (by have := hM.1.1; rintro (z | z | z | z) <;> omega)
  have e71 : ji G' 71 b = ji g' 71 b := F'.i (by
    rintro (z | z | z | z | z | z | z)
    · rcases z with ⟨z1, z2⟩ | ⟨z1, z2⟩ | ⟨z1, z2⟩ | ⟨z1, z2⟩ | ⟨z1, z2⟩ <;> omega
    · omega
    · omega
    · omega
    · omega
    · omega
    · omega)
  rw [e9, e71]
  rcases hw b (by omega) hb31 with ⟨z1, z2, t2, z3, z4⟩ | z
  · have h2 := (ts_t hT hb31 z3).2
    refine Or.inl ⟨z1, z2, t2, by rw [F.p]; exact z3, z4.fr F F' (fun k => cHp_o h2.1.1 (fun y => tm_dis hb31 ha h2 hM (by omega) (Nat.le_refl t2) (by omega) y)) (fun x hx z => ?_)⟩
    rcases hx with rfl | rfl | rfl
    · have := mTA_mHp (b := 43) (k := b) ha hb31 (mTA_s (by omega) rfl) z; omega
    · have := mTA_mHp (b := 44) (k := b) ha hb31 (mTA_s (by omega) rfl) z; omega
    · rcases z with z | z | z | z | z | z | z
      · rcases z with ⟨z1, z2⟩ | ⟨z1, z2⟩ | ⟨z1, z2⟩ | ⟨z1, z2⟩ | ⟨z1, z2⟩ <;> omega
      · omega
      · omega
      · omega
      · omega
      · omega
      · omega
  · exact Or.inr z
theorem hr_step {B n a l : Nat} {tt : Int32} {L A0 A1 : List Int32} {g g' : jH} {x3 y4 y5 y6 : Option Value} (hE : EX B L g g' n A0 A1) (ha : a < 31) (hl : l ≤ 1) (hn : (∃ b, a ≤ b ∧ RA b L) → n ≤ 1) (hw : WR L g g' a) (h9 : ¬ ji g 10 9 = 0) (hB : B + 33 < 1610612736) : ∃ G G' n' A0' A1' z3, jV 14 2 [some (.ref 10), some (.int (nI l)), some (.int (nI a)), x3] [] g = jV 14 2 [some (.ref 10), some (.int (nI l)), some (.int (nI (a + 1))), z3] [] G ∧ jV 137 63 [some (.ref 30), some (.int tt), some (.int (nI l)), some (.int (nI a)), y4, y5, y6] [] g' = jV 137 63 [some (.ref 30), some (.int tt), some (.int (nI l)), some (.int (nI (a + 1))), y4, y5, y6] [] G' ∧ EX (B + 33) L G G' n' A0' A1' ∧ ((∃ b, a + 1 ≤ b ∧ RA b L) → n' ≤ 1) ∧ WR L G G' (a + 1) ∧ ji G 10 9 = ji g 10 9 ∧ Fr (cEp (jp g 11)) g G ∧ Fr mEp g' G' := by
  obtain ⟨qc, qm, qR, qW, qL, qR0, qA, qT⟩ := id hE
  have b3 : jin (nI a) 31 = true := jin_nI ha (by omega)
  have b5 : (nI a).toNatClampNeg = a := nI_clamp (by omega)
  have lt : nI a < 31 := nI_lt (b := 31) (by omega) (by omega)
  have e1 : nI a + 1 = nI (a + 1) := nI_add a 1
  have hbv := bit_v (ji g 10 9) (j := a) (by omega)
  rcases hw a (Nat.le_refl a) ha with ⟨z1, z2, t, z3, z4⟩ | ⟨z1, z2⟩
  · rw [if_pos z1] at hbv
    obtain ⟨_, hM⟩ := ts_t qT ha z3
    have kt := hM.1.2.1
    have ht74 := hM.1.1
    have hHP := q_partner (hE.hc ha hM) hB hl (fun w => hn ⟨a, Nat.le_refl a, w⟩) z4
    obtain ⟨o, G, hG, hO⟩ := hHP
    rcases hO with ⟨o0, G', q1, q2, q3, q4, q5⟩ | ⟨o0, qG, G1, G', n', A0', A1', q0, q1, q2, q3, q4, q5, q6, q7⟩
    · subst o0
      refine ⟨G, G', n, A0, A1, some (.ref t), ?_, ?_, EX.of q2 qT (by omega) hB q3 q4 z3 hM, fun z => hn (z.elim fun b y => ⟨b, by omega, y.2⟩), hw.hp qT ha z3 q3 q4, q3.i (by rintro (z | z | z | z) <;> omega), q3.sub (fun b k z => cEp_h ha z3 z), q4.sub (fun b k z => mEp_h z)⟩
      · simp only [s14_2 (x := nI a), s14_3, s14_5, s14_8, s14_9, s14_12, s14_15, s14_16, s14_19, s14_20, s14_21, s14_21n, s14_22, s14_22n, s14_23, s14_23n, s14_26, s14_27, s14_30, s14_31, s14_34, s14_35, s14_38, s14_38n, s14_39, s14_40, s14_43, s14_44, s14_47, s14_50, s14_51, s14_54, s14_55, s14_55n, s14_56, s14_57, s14_60, s14_63, k10 qc, k11 qc, p10_1 qc, p10_5 qc, p10_4 qc, kt, b3, b5, lt, h9, z3, c_bitAt, hbv, hG, e1, eq_false (show ¬ (0 : Int32) = 1 by decide), ↓reduceIte, va_rf_s, va_rf_n, jb_some, jb_none, jtl_s, jtl_n, if_true, if_false, true_and, and_true, false_and, and_false, or_true, true_or, or_false, false_or, not_true_eq_false, not_false_eq_true, jk_si, jp_si, jj_si, jk_sj, jp_sj, ji_sj, jk_ci, jp_ci, jj_ci, jk_cj, jp_cj, ji_cj, jlng_n, jlng_i, jlng_r, jlng_0]
      · simp only [s137_63 (x := nI a), s137_64, s137_66, s137_69, s137_70, s137_73, s137_74, s137_75, s137_78, s137_79, s137_80, s137_81, s137_84, s137_87, k30 qm, k71 qm, p30_53 qm, b3, b5, lt, z2, n1, q1, e1, ↓reduceIte, va_rf_s, va_rf_n, jb_some, jb_none, jtl_s, jtl_n, if_true, if_false, true_and, and_true, false_and, and_false, or_true, true_or, or_false, false_or, not_true_eq_false, not_false_eq_true, jk_si, jp_si, jj_si, jk_sj, jp_sj, ji_sj, jk_ci, jp_ci, jj_ci, jk_cj, jp_cj, ji_cj, jlng_n, jlng_i, jlng_r, jlng_0]
    · subst o0
      have qcG : jk G 10 = (1, 0) := k10 qG
      have nle : n ≤ 1 := hn ⟨a, Nat.le_refl a, q4⟩
      have uq : ∀ b, RA b L → b = a := fun b ⟨x, y1, y2⟩ => by
        obtain ⟨x', w1, w2⟩ := q4
        have e := Option.some.inj (y1.symm.trans w1)
        subst e
        exact y2.symm.trans w2
      refine ⟨G1, G', n', A0', A1', some (.ref t), ?_, ?_, EX.of q2 qT (by omega) hB q5 q6 z3 hM, fun z => z.elim (fun b y => by have := uq b y.2; omega), hw.hp qT ha z3 q5 q6, q5.i (by rintro (z | z | z | z) <;> omega), q5.sub (fun b k z => cEp_h ha z3 z), q6.sub (fun b k z => mEp_h z)⟩
      · simp only [s14_2 (x := nI a), s14_3, s14_5, s14_8, s14_9, s14_12, s14_15, s14_16, s14_19, s14_20, s14_21, s14_21n, s14_22, s14_22n, s14_23, s14_23n, s14_26, s14_27, s14_30, s14_31, s14_34, s14_35, s14_38, s14_38n, s14_39, s14_40, s14_43, s14_44, s14_47, s14_50, s14_51, s14_54, s14_55, s14_55n, s14_56, s14_57, s14_60, s14_63, k10 qc, qcG, k11 qc, p10_1 qc, p10_5 qc, p10_4 qc, kt, b3, b5, lt, h9, z3, c_bitAt, hbv, hG, q0, e1, ↓reduceIte, va_rf_s, va_rf_n, jb_some, jb_none, jtl_s, jtl_n, if_true, if_false, true_and, and_true, false_and, and_false, or_true, true_or, or_false, false_or, not_true_eq_false, not_false_eq_true, jk_si, jp_si, jj_si, jk_sj, jp_sj, ji_sj, jk_ci, jp_ci, jj_ci, jk_cj, jp_cj, ji_cj, jlng_n, jlng_i, jlng_r, jlng_0]
      · simp only [s137_63 (x := nI a), s137_64, s137_66, s137_69, s137_70, s137_73, s137_74, s137_75, s137_78, s137_79, s137_80, s137_81, s137_84, s137_87, k30 qm, k71 qm, p30_53 qm, b3, b5, lt, z2, n1, q1, e1, ↓reduceIte, va_rf_s, va_rf_n, jb_some, jb_none, jtl_s, jtl_n, if_true, if_false, true_and, and_true, false_and, and_false, or_true, true_or, or_false, false_or, not_true_eq_false, not_false_eq_true, jk_si, jp_si, jj_si, jk_sj, jp_sj, ji_sj, jk_ci, jp_ci, jj_ci, jk_cj, jp_cj, ji_cj, jlng_n, jlng_i, jlng_r, jlng_0]
  · rw [if_neg (by rw [z1]; decide)] at hbv
    have hm : jV 137 63 [some (.ref 30), some (.int tt), some (.int (nI l)), some (.int (nI a)), y4, y5, y6] [] g' = jV 137 63 [some (.ref 30), some (.int tt), some (.int (nI l)), some (.int (nI (a + 1))), y4, y5, y6] [] g' := by
      simp only [s137_63 (x := nI a), s137_64, s137_66, s137_69, s137_70, s137_73, s137_74, s137_75, s137_78, s137_79, s137_80, s137_81, s137_84, s137_87, k30 qm, k71 qm, p30_53 qm, b3, b5, lt, z2, e1, ↓reduceIte, va_rf_s, va_rf_n, jb_some, jb_none, jtl_s, jtl_n, if_true, if_false, true_and, and_true, false_and, and_false, or_true, true_or, or_false, false_or, not_true_eq_false, not_false_eq_true, jk_si, jp_si, jj_si, jk_sj, jp_sj, ji_sj, jk_ci, jp_ci, jj_ci, jk_cj, jp_cj, ji_cj, jlng_n, jlng_i, jlng_r, jlng_0]
    have fin : ∃ z3, jV 14 2 [some (.ref 10), some (.int (nI l)), some (.int (nI a)), x3] [] g = jV 14 2 [some (.ref 10), some (.int (nI l)), some (.int (nI (a + 1))), z3] [] g := by
      rcases qT a ha with ⟨p1, p2, p3⟩ | ⟨t, p1, p2, p3⟩
      · refine ⟨some .null, ?_⟩
        simp only [s14_2 (x := nI a), s14_3, s14_5, s14_8, s14_9, s14_12, s14_15, s14_16, s14_19, s14_20, s14_21, s14_21n, s14_22, s14_22n, s14_23, s14_23n, s14_26, s14_27, s14_30, s14_31, s14_34, s14_35, s14_38, s14_38n, s14_39, s14_40, s14_43, s14_44, s14_47, s14_50, s14_51, s14_54, s14_55, s14_55n, s14_56, s14_57, s14_60, s14_63, k10 qc, k11 qc, p10_1 qc, b3, b5, lt, h9, p1, e1, ↓reduceIte, va_rf_s, va_rf_n, jb_some, jb_none, jtl_s, jtl_n, if_true, if_false, true_and, and_true, false_and, and_false, or_true, true_or, or_false, false_or, not_true_eq_false, not_false_eq_true, jk_si, jp_si, jj_si, jk_sj, jp_sj, ji_sj, jk_ci, jp_ci, jj_ci, jk_cj, jp_cj, ji_cj, jlng_n, jlng_i, jlng_r, jlng_0]
      · refine ⟨some (.ref t), ?_⟩
        simp only [s14_2 (x := nI a), s14_3, s14_5, s14_8, s14_9, s14_12, s14_15, s14_16, s14_19, s14_20, s14_21, s14_21n, s14_22, s14_22n, s14_23, s14_23n, s14_26, s14_27, s14_30, s14_31, s14_34, s14_35, s14_38, s14_38n, s14_39, s14_40, s14_43, s14_44, s14_47, s14_50, s14_51, s14_54, s14_55, s14_55n, s14_56, s14_57, s14_60, s14_63, k10 qc, k11 qc, p10_1 qc, b3, b5, lt, h9, p1, c_bitAt, hbv, eq_false (show ¬ (0 : Int32) = 1 by decide), e1, ↓reduceIte, va_rf_s, va_rf_n, jb_some, jb_none, jtl_s, jtl_n, if_true, if_false, true_and, and_true, false_and, and_false, or_true, true_or, or_false, false_or, not_true_eq_false, not_false_eq_true, jk_si, jp_si, jj_si, jk_sj, jp_sj, ji_sj, jk_ci, jp_ci, jj_ci, jk_cj, jp_cj, ji_cj, jlng_n, jlng_i, jlng_r, jlng_0]
    obtain ⟨z3, hz3⟩ := fin
    exact ⟨g, g', n, A0, A1, z3, hz3, hm, hE.mono (by omega) hB, fun z => hn (z.elim fun b y => ⟨b, by omega, y.2⟩), fun b hb => hw b (by omega), rfl, Fr.refl g, Fr.refl g'⟩
theorem hr_loop {l : Nat} {tt : Int32} {L : List Int32} {y4 y5 y6 : Option Value} (hl : l ≤ 1) : ∀ (k a B n : Nat) (A0 A1 : List Int32) (g g' : jH) (x3 : Option Value), a + k = 31 → EX B L g g' n A0 A1 → ((∃ b, a ≤ b ∧ RA b L) → n ≤ 1) → WR L g g' a → ¬ ji g 10 9 = 0 → B + 33 * k < 1610612736 → ∃ G G' n' A0' A1', jV 14 2 [some (.ref 10), some (.int (nI l)), some (.int (nI a)), x3] [] g = some (none, G) ∧ jV 137 63 [some (.ref 30), some (.int tt), some (.int (nI l)), some (.int (nI a)), y4, y5, y6] [] g' = jV 137 90 [some (.ref 30), some (.int tt), some (.int (nI l)), some (.int (nI 31)), y4, y5, y6] [] G' ∧ EX (B + 33 * k) L G G' n' A0' A1' ∧ Fr (cEp (jp g 11)) g G ∧ Fr mEp g' G'
  | 0, a, B, n, A0, A1, g, g', x3, h, hE, hn, hw, h9, hB => by
    have e : a = 31 := by omega
    subst e
    have lt : ¬ nI 31 < 31 := by decide
    exact ⟨g, g', n, A0, A1, by simp only [s14_2, s14_3, s14_5, s14_8, s14_9, s14_12, s14_15, s14_16, s14_19, s14_20, s14_21, s14_21n, s14_22, s14_22n, s14_23, s14_23n, s14_26, s14_27, s14_30, s14_31, s14_34, s14_35, s14_38, s14_38n, s14_39, s14_40, s14_43, s14_44, s14_47, s14_50, s14_51, s14_54, s14_55, s14_55n, s14_56, s14_57, s14_60, s14_63, s14_66, lt, ↓reduceIte, va_rf_s, va_rf_n, jb_some, jb_none, jtl_s, jtl_n, if_true, if_false, true_and, and_true, false_and, and_false, or_true, true_or, or_false, false_or, not_true_eq_false, not_false_eq_true, jk_si, jp_si, jj_si, jk_sj, jp_sj, ji_sj, jk_ci, jp_ci, jj_ci, jk_cj, jp_cj, ji_cj, jlng_n, jlng_i, jlng_r, jlng_0], by simp only [s137_63, s137_64, s137_66, lt, ↓reduceIte, va_rf_s, va_rf_n, jb_some, jb_none, jtl_s, jtl_n, if_true, if_false, true_and, and_true, false_and, and_false, or_true, true_or, or_false, false_or, not_true_eq_false, not_false_eq_true, jk_si, jp_si, jj_si, jk_sj, jp_sj, ji_sj, jk_ci, jp_ci, jj_ci, jk_cj, jp_cj, ji_cj, jlng_n, jlng_i, jlng_r, jlng_0], hE, Fr.refl g, Fr.refl g'⟩
  | k + 1, a, B, n, A0, A1, g, g', x3, h, hE, hn, hw, h9, hB => by
    obtain ⟨G, G', n', A0', A1', z3, q1, q2, q3, q4, q5, q6, q7, q8⟩ := hr_step (tt := tt) (x3 := x3) (y4 := y4) (y5 := y5) (y6 := y6) hE (show a < 31 by omega) hl hn hw h9 (by omega)
    obtain ⟨G2, G2', n2, B0, B1, p1, p2, p3, p6, p7⟩ := hr_loop hl k (a + 1) (B + 33) n' A0' A1' G G' z3 (by omega) q3 q4 q5 (by rw [q6]; exact h9) (by omega)
    have ep : jp G 11 = jp g 11 := funext (fun b => q7.p 11 b)
    rw [ep] at p6
    exact ⟨G2, G2', n2, B0, B1, q1.trans p1, q2.trans p2, by rw [show B + 33 * (k + 1) = B + 33 + 33 * k by omega]; exact p3, q7.trans p6, q8.trans p7⟩
theorem hr_none {l : Nat} {tt : Int32} {y4 y5 y6 : Option Value} {g' : jH} (qm : MS g') (h : ∀ b, b < 31 → ji g' 71 b = 0) : ∀ (k a : Nat), a + k = 31 → jV 137 63 [some (.ref 30), some (.int tt), some (.int (nI l)), some (.int (nI a)), y4, y5, y6] [] g' = jV 137 90 [some (.ref 30), some (.int tt), some (.int (nI l)), some (.int (nI 31)), y4, y5, y6] [] g'
  | 0, a, e => by
    have e : a = 31 := by omega
    subst e
    have lt : ¬ nI 31 < 31 := by decide
    simp only [s137_63, s137_64, s137_66, lt, ↓reduceIte, va_rf_s, va_rf_n, jb_some, jb_none, jtl_s, jtl_n, if_true, if_false, true_and, and_true, false_and, and_false, or_true, true_or, or_false, false_or, not_true_eq_false, not_false_eq_true, jk_si, jp_si, jj_si, jk_sj, jp_sj, ji_sj, jk_ci, jp_ci, jj_ci, jk_cj, jp_cj, ji_cj, jlng_n, jlng_i, jlng_r, jlng_0]
  | k + 1, a, e => by
    have b3 : jin (nI a) 31 = true := jin_nI (by omega) (by omega)
    have b5 : (nI a).toNatClampNeg = a := nI_clamp (by omega)
    have lt : nI a < 31 := nI_lt (b := 31) (by omega) (by omega)
    have e1 : nI a + 1 = nI (a + 1) := nI_add a 1
    rw [← hr_none qm h k (a + 1) (by omega)]
    simp only [s137_63 (x := nI a), s137_64, s137_66, s137_69, s137_70, s137_73, s137_74, s137_75, s137_78, s137_79, s137_80, s137_81, s137_84, s137_87, k30 qm, k71 qm, p30_53 qm, b3, b5, lt, h a (by omega), e1, ↓reduceIte, va_rf_s, va_rf_n, jb_some, jb_none, jtl_s, jtl_n, if_true, if_false, true_and, and_true, false_and, and_false, or_true, true_or, or_false, false_or, not_true_eq_false, not_false_eq_true, jk_si, jp_si, jj_si, jk_sj, jp_sj, ji_sj, jk_ci, jp_ci, jj_ci, jk_cj, jp_cj, ji_cj, jlng_n, jlng_i, jlng_r, jlng_0]
/-- all terminals have heard the message, and the partners -/
theorem q_all {B l : Nat} {tt : Int32} {L : List Int32} {g g' : jH} {y4 y5 y6 : Option Value} (hE : EX B L g g' 0 [] []) (hl : l ≤ 1) (h9 : ji g 10 9 = 0) (hB : B + 2077 < 1610612736) : ∃ G1 G G' n' A0' A1', jV 13 0 [some (.ref 10), some (.int (nI l)), none, none, none] [] g = some (none, G1) ∧ jV 14 0 [some (.ref 10), some (.int (nI l)), none, none] [] G1 = some (none, G) ∧ CS G1 ∧ (∀ y3, jV 137 11 [some (.ref 30), some (.int tt), some (.int (nI l)), y3, y4, y5, y6] [] g' = jV 137 90 [some (.ref 30), some (.int tt), some (.int (nI l)), some (.int (nI 31)), y4, y5, y6] [] G') ∧ EX (B + 2077) L G G' n' A0' A1' ∧ Fr (cEp (jp g 11)) g G ∧ Fr mEp g' G' := by
  have w0 : WQ L g g' 0 := ⟨fun b _ _ => by rw [h9]; exact b_0 b, fun b hb => absurd hb (by omega)⟩
  obtain ⟨G1, G1', n, A0, A1, p1, p2, p3, p4, p5, p6, p7⟩ := ha_loop (tt := tt) (y4 := y4) (y5 := y5) (y6 := y6) hl 31 0 B 0 [] [] g g' none none (by omega) hE (by omega) (fun _ => rfl) w0 (by omega)
  have qc1 := p3.1
  have qm1 := p3.2.1
  have z0 : nI 0 = 0 := rfl
  rw [z0] at p1 p2
  have ep : jp G1 11 = jp g 11 := funext (fun b => p6.p 11 b)
  by_cases c : ji G1 10 9 = 0
  · have hz : ∀ b, b < 31 → ji G1' 71 b = 0 := fun b hb => by
      rcases p5.2 b hb with ⟨y, _⟩ | y
      · rw [c, b_0] at y; exact absurd y (by decide)
      · exact y.2
    have hm := hr_none (l := l) (tt := tt) (y4 := y4) (y5 := y5) (y6 := y6) qm1 hz 31 0 (by omega)
    rw [z0] at hm
    refine ⟨G1, G1, G1', n, A0, A1, ?_, ?_, qc1, fun y3 => ?_, p3.mono (by omega) (by omega), p6, p7⟩
    · simp only [s13_0, s13_1, p1, ↓reduceIte, va_rf_s, va_rf_n, jb_some, jb_none, jtl_s, jtl_n, if_true, if_false, true_and, and_true, false_and, and_false, or_true, true_or, or_false, false_or, not_true_eq_false, not_false_eq_true, jk_si, jp_si, jj_si, jk_sj, jp_sj, ji_sj, jk_ci, jp_ci, jj_ci, jk_cj, jp_cj, ji_cj, jlng_n, jlng_i, jlng_r, jlng_0]
    · simp only [s14_0, s14_1, s14_2, s14_3, s14_5, s14_8, s14_9, s14_12, s14_15, s14_16, s14_19, s14_20, s14_21, s14_21n, s14_22, s14_22n, s14_23, s14_23n, s14_26, s14_27, s14_30, s14_31, s14_34, s14_35, s14_38, s14_38n, s14_39, s14_40, s14_43, s14_44, s14_47, s14_50, s14_51, s14_54, s14_55, s14_55n, s14_56, s14_57, s14_60, s14_63, s14_66, k10 qc1, eq_true c, show (0 : Int32) < 31 by decide, ↓reduceIte, va_rf_s, va_rf_n, jb_some, jb_none, jtl_s, jtl_n, if_true, if_false, true_and, and_true, false_and, and_false, or_true, true_or, or_false, false_or, not_true_eq_false, not_false_eq_true, jk_si, jp_si, jj_si, jk_sj, jp_sj, ji_sj, jk_ci, jp_ci, jj_ci, jk_cj, jp_cj, ji_cj, jlng_n, jlng_i, jlng_r, jlng_0]
    · simp only [s137_11, s137_12, p2, s137_61, s137_62, hm, ↓reduceIte, va_rf_s, va_rf_n, jb_some, jb_none, jtl_s, jtl_n, if_true, if_false, true_and, and_true, false_and, and_false, or_true, true_or, or_false, false_or, not_true_eq_false, not_false_eq_true, jk_si, jp_si, jj_si, jk_sj, jp_sj, ji_sj, jk_ci, jp_ci, jj_ci, jk_cj, jp_cj, ji_cj, jlng_n, jlng_i, jlng_r, jlng_0]
  · obtain ⟨G2, G2', n2, B0, B1, r1, r2, r3, r6, r7⟩ := hr_loop (tt := tt) (y4 := y4) (y5 := y5) (y6 := y6) hl 31 0 _ n A0 A1 G1 G1' none (by omega) p3 (fun _ => p4) (fun b _ hb => p5.2 b hb) c (by omega)
    rw [z0] at r1 r2
    rw [ep] at r6
    refine ⟨G1, G2, G2', n2, B0, B1, ?_, ?_, qc1, fun y3 => ?_, by rw [show B + 2077 = B + 34 * 31 + 33 * 31 by omega]; exact r3, p6.trans r6, p7.trans r7⟩
    · simp only [s13_0, s13_1, p1, ↓reduceIte, va_rf_s, va_rf_n, jb_some, jb_none, jtl_s, jtl_n, if_true, if_false, true_and, and_true, false_and, and_false, or_true, true_or, or_false, false_or, not_true_eq_false, not_false_eq_true, jk_si, jp_si, jj_si, jk_sj, jp_sj, ji_sj, jk_ci, jp_ci, jj_ci, jk_cj, jp_cj, ji_cj, jlng_n, jlng_i, jlng_r, jlng_0]
    · simp only [s14_0, s14_1, r1, ↓reduceIte, va_rf_s, va_rf_n, jb_some, jb_none, jtl_s, jtl_n, if_true, if_false, true_and, and_true, false_and, and_false, or_true, true_or, or_false, false_or, not_true_eq_false, not_false_eq_true, jk_si, jp_si, jj_si, jk_sj, jp_sj, ji_sj, jk_ci, jp_ci, jj_ci, jk_cj, jp_cj, ji_cj, jlng_n, jlng_i, jlng_r, jlng_0]
    · simp only [s137_11, s137_12, p2, s137_61, s137_62, r2, ↓reduceIte, va_rf_s, va_rf_n, jb_some, jb_none, jtl_s, jtl_n, if_true, if_false, true_and, and_true, false_and, and_false, or_true, true_or, or_false, false_or, not_true_eq_false, not_false_eq_true, jk_si, jp_si, jj_si, jk_sj, jp_sj, ji_sj, jk_ci, jp_ci, jj_ci, jk_cj, jp_cj, ji_cj, jlng_n, jlng_i, jlng_r, jlng_0]
