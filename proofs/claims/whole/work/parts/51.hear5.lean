/-! HEARING: modes -/
/-- the reply is said, SERVICE cleared ahead in the class, behind in the reference -/
theorem fin_ans2 {B n a t l : Nat} {L A0 A1 : List Int32} {g g' : jH} {v : Int32} (hC : HC B L g (jsi g' 42 a v) a t n A0 A1) (hB : B + 33 < 1610612736) (hl : l ≤ 1) (hn1 : n ≤ 1) (h15 : ji g t 15 = ji g' 72 a) {bs : List Nat} (hRp : Rp g g' bs) : ∃ G G' n' A0' A1', jV 15 0 [some (.ref 10), some (.ref t), some (.int (nI l)), none, none] [] g = some (none, G) ∧ jV 123 0 [some (.ref 30), some (.int (nI a)), some (.int (nI l)), some (.int 1), none, none] [] g' = some (none, G') ∧ HC (B + 33) L G (jsi G' 42 a v) a t n' A0' A1' ∧ n' ≤ n + 1 ∧ Fr (cYp t) g G ∧ Fr (mYp a) g' G' := by
  obtain ⟨ha, qc, qm, hT0, hR, hW, hL, ⟨R0, hR0⟩, hA⟩ := id hC
  obtain ⟨ht, hs, hMu, hBa, hPl⟩ := id hT0
  have ht74 := ht.1
  have fs : Fr (fun c k => c = 42 ∧ k = a) (jsi g' 42 a v) g' := ((Fr.refl g').si ⟨rfl, rfl⟩).symm
  have f0 : Fr (fun _ _ => False) g g := Fr.refl g
  rw [mv_si (by omega)] at hs
  obtain ⟨G, G', n', A0', A1', h1, h2, h3, h4, h5, h6, h7, h8, _⟩ := q_answer2 qc (fs.ms qm) hB ha ht hs h15 (hR.fr f0 fs (fun _ _ _ _ => id) (fun k z => by omega) (fun b k z1 z2 => by omega)) hRp hn1 (hA.fr f0 fs (fun _ _ _ _ => id) id (by omega) (fun b k z => by omega)) hl
  have f9 : Fr (fun c k => c = 42 ∧ k = a) G' (jsi G' 42 a v) := (Fr.refl G').si ⟨rfl, rfl⟩
  have F' : Fr (fun c k => mYp a c k ∨ (c = 42 ∧ k = a)) (jsi g' 42 a v) (jsi G' 42 a v) := ((fs.sub (fun c k z => Or.inr z)).trans (h8.sub (fun c k z => Or.inl z))).trans (f9.sub (fun c k z => Or.inr z))
  have fG : Fr (fun _ _ => False) G G := Fr.refl G
  refine ⟨G, G', n', A0', A1', h1, h2, ⟨ha, h7.cs qc, F'.ms qm, ⟨ht.fr h7, ?_, (hMu.mono (by omega) hB).fr h7 F' (by omega) (fun b k z1 z2 => by omega) (by omega) (by omega) (fun i hi => by omega), hBa.fr h7 F' (fun k => by omega) (fun k z1 z2 => by omega), hPl.fr h7 F' (fun b k z => by omega) (fun b k z z1 z2 => by omega)⟩, h3.fr fG f9 (fun _ _ _ _ => id) (fun k z => by omega) (fun b k z1 z2 => by omega), hW.fr h7 (fun b k z1 z2 => by omega), hL.fr F' (by omega) (fun k => by omega), ⟨R0, hR0.fr h7 (fun b k z1 z2 => by omega)⟩, h4.fr fG f9 (fun _ _ _ _ => id) id (by omega) (fun b k z => by omega)⟩, h5, h7, h8⟩
  rw [mv_si (by omega)]
  exact h6
theorem in506 : ∀ k : Fin 32, (¬ nI k.val < 0 ∧ nI k.val < 32 ∧ ((506 : Int32) >>> (nI k.val &&& 31)) &&& 1 = 1) ↔ (k.val = 1 ∨ (3 ≤ k.val ∧ k.val ≤ 8)) := by decide +kernel
theorem inOne : ∀ k : Fin 32, (¬ nI k.val < 0 ∧ nI k.val < 32 ∧ ((590331 : Int32) >>> (nI k.val &&& 31)) &&& 1 = 1) ↔ (k.val = 0 ∨ k.val = 1 ∨ (3 ≤ k.val ∧ k.val ≤ 8) ∨ k.val = 16 ∨ k.val = 19) := by decide +kernel
theorem inTold : ∀ k : Fin 32, (¬ nI k.val < 0 ∧ nI k.val < 32 ∧ ((3276800 : Int32) >>> (nI k.val &&& 31)) &&& 1 = 1) ↔ (k.val = 17 ∨ k.val = 20 ∨ k.val = 21) := by decide +kernel
theorem mtd_cods {L : List Int32} {c f : Nat} (h : MTD L c f) : c % 32 ∈ cods := by
  have : ∀ k : Fin 32, (k.val = 17 ∨ k.val = 20 ∨ k.val = 21) ∨ (k.val = 1 ∨ (3 ≤ k.val ∧ k.val ≤ 8)) ∨ (k.val = 0 ∨ k.val = 16 ∨ k.val = 19) → k.val ∈ cods := by decide +kernel
  refine this ⟨c % 32, by omega⟩ ?_
  rcases h with ⟨_, _, z⟩ | ⟨_, _, z | ⟨z, _⟩⟩
  · exact Or.inl z
  · exact Or.inr (Or.inl z)
  · exact Or.inr (Or.inr z)
/-- whether the mode fits -/
theorem c_fits {g : jH} {L : List Int32} {t c f l : Nat} (qc : CS g) (kt : jk g t = (4, 0)) (h12 : ji g t 12 = nI c) (hc : c < 65536) (hW : WI g 15 L) (hf : f ≤ L.length) (hl : L.length ≤ 33) (hfl : jV 28 0 [some (.ref t), some (.int 16)] [] g = some (some (.int (jB (aN c = 31))), g)) {Gr : jH} (rf : jV 43 0 [some (.ref t)] [] g = some (some (.int 0), Gr)) : jV 35 0 [some (.ref t), some (.ref 15), some (.int (nI f)), some (.int (nI l)), some (.ref 18), none, none, none, none] [] g = if MTD L c f then jV 35 96 [some (.ref t), some (.ref 15), some (.int (nI f)), some (.int (nI l)), some (.ref 18), some (.int (nI (c % 32))), some (.int 1), none, none] [] g else some (some (.int 0), Gr) := by
  have nco := n_codeOf hc g
  have ns := n_sends hc g
  have njd := w_isJustData hW (f := f) hf (n := 1) (by omega)
  rw [show nI 1 = 1 from rfl] at njd
  have i5 := c_inSet 506 (nI (c % 32)) g
  have i9 := c_inSet 590331 (nI (c % 32)) g
  have i3 := c_inSet 3276800 (nI (c % 32)) g
  rw [jB_cg (in506 ⟨c % 32, by omega⟩)] at i5
  rw [jB_cg (inOne ⟨c % 32, by omega⟩)] at i9
  rw [jB_cg (inTold ⟨c % 32, by omega⟩)] at i3
  by_cases d1 : sN c
  · rw [jB_t d1] at ns
    by_cases d2 : f = L.length
    · have hmany : ji g 15 2 = nI f := by rw [hW.len.1, d2]
      by_cases d3 : aN c = 31
      · rw [jB_t d3] at hfl
        by_cases d4 : c % 32 = 1 ∨ (3 ≤ c % 32 ∧ c % 32 ≤ 8)
        · rw [jB_t d4] at i5
          rw [if_pos (Or.inr ⟨d1, d2, Or.inl d4⟩)]
          simp only [s35_0, s35_1, s35_4, s35_7, s35_9, s35_10, s35_13, s35_16, s35_19, s35_20, s35_23, s35_24, s35_27, s35_28, s35_30, s35_33, s35_36, s35_39, s35_42, s35_44, s35_46, s35_49, s35_52, s35_53, s35_56, s35_57, s35_60, s35_61, s35_62, s35_63, s35_66, s35_69, s35_71, s35_73, s35_76, s35_79, s35_80, s35_83, s35_84, s35_86, s35_88, s35_91, s35_92, s35_95, k15 qc, kt, h12, nco, ns, hmany, hfl, i5, n1, ↓reduceIte, va_rf_s, va_rf_n, jb_some, jb_none, jtl_s, jtl_n, if_true, if_false, true_and, and_true, false_and, and_false, or_true, true_or, or_false, false_or, not_true_eq_false, not_false_eq_true, jk_si, jp_si, jj_si, jk_sj, jp_sj, ji_sj, jk_ci, jp_ci, jj_ci, jk_cj, jp_cj, ji_cj, jlng_n, jlng_i, jlng_r, jlng_0]
        · rw [jB_f d4] at i5
          rw [if_neg (fun z => z.elim (fun y => y.1 d1) (fun y => y.2.2.elim d4 (fun w => w.2 d3)))]
          simp only [s35_0, s35_1, s35_4, s35_7, s35_9, s35_10, s35_13, s35_16, s35_19, s35_20, s35_23, s35_24, s35_27, s35_28, s35_30, s35_33, s35_36, s35_39, s35_42, s35_44, s35_46, s35_49, s35_52, s35_53, s35_56, s35_57, s35_60, s35_61, s35_62, s35_63, s35_66, s35_69, s35_71, s35_73, s35_76, s35_79, s35_80, s35_83, s35_84, s35_86, s35_88, s35_91, s35_92, s35_95, k15 qc, kt, h12, nco, ns, hmany, hfl, i5, n1, rf, ↓reduceIte, va_rf_s, va_rf_n, jb_some, jb_none, jtl_s, jtl_n, if_true, if_false, true_and, and_true, false_and, and_false, or_true, true_or, or_false, false_or, not_true_eq_false, not_false_eq_true, jk_si, jp_si, jj_si, jk_sj, jp_sj, ji_sj, jk_ci, jp_ci, jj_ci, jk_cj, jp_cj, ji_cj, jlng_n, jlng_i, jlng_r, jlng_0]
      · rw [jB_f d3] at hfl
        by_cases d4 : c % 32 = 0 ∨ c % 32 = 1 ∨ (3 ≤ c % 32 ∧ c % 32 ≤ 8) ∨ c % 32 = 16 ∨ c % 32 = 19
        · rw [jB_t d4] at i9
          rw [if_pos (Or.inr ⟨d1, d2, by omega⟩)]
          simp only [s35_0, s35_1, s35_4, s35_7, s35_9, s35_10, s35_13, s35_16, s35_19, s35_20, s35_23, s35_24, s35_27, s35_28, s35_30, s35_33, s35_36, s35_39, s35_42, s35_44, s35_46, s35_49, s35_52, s35_53, s35_56, s35_57, s35_60, s35_61, s35_62, s35_63, s35_66, s35_69, s35_71, s35_73, s35_76, s35_79, s35_80, s35_83, s35_84, s35_86, s35_88, s35_91, s35_92, s35_95, k15 qc, kt, h12, nco, ns, hmany, hfl, i9, n1, ↓reduceIte, va_rf_s, va_rf_n, jb_some, jb_none, jtl_s, jtl_n, if_true, if_false, true_and, and_true, false_and, and_false, or_true, true_or, or_false, false_or, not_true_eq_false, not_false_eq_true, jk_si, jp_si, jj_si, jk_sj, jp_sj, ji_sj, jk_ci, jp_ci, jj_ci, jk_cj, jp_cj, ji_cj, jlng_n, jlng_i, jlng_r, jlng_0]
        · rw [jB_f d4] at i9
          rw [if_neg (fun z => z.elim (fun y => y.1 d1) (fun y => d4 (by have := y.2.2; omega)))]
          simp only [s35_0, s35_1, s35_4, s35_7, s35_9, s35_10, s35_13, s35_16, s35_19, s35_20, s35_23, s35_24, s35_27, s35_28, s35_30, s35_33, s35_36, s35_39, s35_42, s35_44, s35_46, s35_49, s35_52, s35_53, s35_56, s35_57, s35_60, s35_61, s35_62, s35_63, s35_66, s35_69, s35_71, s35_73, s35_76, s35_79, s35_80, s35_83, s35_84, s35_86, s35_88, s35_91, s35_92, s35_95, k15 qc, kt, h12, nco, ns, hmany, hfl, i9, n1, rf, ↓reduceIte, va_rf_s, va_rf_n, jb_some, jb_none, jtl_s, jtl_n, if_true, if_false, true_and, and_true, false_and, and_false, or_true, true_or, or_false, false_or, not_true_eq_false, not_false_eq_true, jk_si, jp_si, jj_si, jk_sj, jp_sj, ji_sj, jk_ci, jp_ci, jj_ci, jk_cj, jp_cj, ji_cj, jlng_n, jlng_i, jlng_r, jlng_0]
    · have hne : ¬ nI L.length = nI f := fun z => d2 ((e_eq (by omega) (by omega)).mp z).symm
      rw [if_neg (fun z => z.elim (fun y => y.1 d1) (fun y => d2 y.2.1))]
      simp only [s35_0, s35_1, s35_4, s35_7, s35_9, s35_10, s35_13, s35_16, s35_19, s35_20, s35_23, s35_24, s35_27, s35_28, s35_30, s35_33, s35_36, s35_39, s35_42, s35_44, s35_46, s35_49, s35_52, s35_53, s35_56, s35_57, s35_60, s35_61, s35_62, s35_63, s35_66, s35_69, s35_71, s35_73, s35_76, s35_79, s35_80, s35_83, s35_84, s35_86, s35_88, s35_91, s35_92, s35_95, k15 qc, kt, h12, nco, ns, hW.len.1, hne, n1, rf, ↓reduceIte, va_rf_s, va_rf_n, jb_some, jb_none, jtl_s, jtl_n, if_true, if_false, true_and, and_true, false_and, and_false, or_true, true_or, or_false, false_or, not_true_eq_false, not_false_eq_true, jk_si, jp_si, jj_si, jk_sj, jp_sj, ji_sj, jk_ci, jp_ci, jj_ci, jk_cj, jp_cj, ji_cj, jlng_n, jlng_i, jlng_r, jlng_0]
  · rw [jB_f d1] at ns
    by_cases d2 : JDt L f 1
    · rw [jB_t d2] at njd
      by_cases d4 : c % 32 = 17 ∨ c % 32 = 20 ∨ c % 32 = 21
      · rw [jB_t d4] at i3
        rw [if_pos (Or.inl ⟨d1, d2, d4⟩)]
        simp only [s35_0, s35_1, s35_4, s35_7, s35_9, s35_10, s35_13, s35_16, s35_19, s35_20, s35_23, s35_24, s35_27, s35_28, s35_30, s35_33, s35_36, s35_39, s35_42, s35_44, s35_46, s35_49, s35_52, s35_53, s35_56, s35_57, s35_60, s35_61, s35_62, s35_63, s35_66, s35_69, s35_71, s35_73, s35_76, s35_79, s35_80, s35_83, s35_84, s35_86, s35_88, s35_91, s35_92, s35_95, k15 qc, kt, h12, nco, ns, njd, i3, n1, ↓reduceIte, va_rf_s, va_rf_n, jb_some, jb_none, jtl_s, jtl_n, if_true, if_false, true_and, and_true, false_and, and_false, or_true, true_or, or_false, false_or, not_true_eq_false, not_false_eq_true, jk_si, jp_si, jj_si, jk_sj, jp_sj, ji_sj, jk_ci, jp_ci, jj_ci, jk_cj, jp_cj, ji_cj, jlng_n, jlng_i, jlng_r, jlng_0]
      · rw [jB_f d4] at i3
        rw [if_neg (fun z => z.elim (fun y => d4 y.2.2) (fun y => d1 y.1))]
        simp only [s35_0, s35_1, s35_4, s35_7, s35_9, s35_10, s35_13, s35_16, s35_19, s35_20, s35_23, s35_24, s35_27, s35_28, s35_30, s35_33, s35_36, s35_39, s35_42, s35_44, s35_46, s35_49, s35_52, s35_53, s35_56, s35_57, s35_60, s35_61, s35_62, s35_63, s35_66, s35_69, s35_71, s35_73, s35_76, s35_79, s35_80, s35_83, s35_84, s35_86, s35_88, s35_91, s35_92, s35_95, k15 qc, kt, h12, nco, ns, njd, i3, n1, rf, ↓reduceIte, va_rf_s, va_rf_n, jb_some, jb_none, jtl_s, jtl_n, if_true, if_false, true_and, and_true, false_and, and_false, or_true, true_or, or_false, false_or, not_true_eq_false, not_false_eq_true, jk_si, jp_si, jj_si, jk_sj, jp_sj, ji_sj, jk_ci, jp_ci, jj_ci, jk_cj, jp_cj, ji_cj, jlng_n, jlng_i, jlng_r, jlng_0]
    · rw [jB_f d2] at njd
      rw [if_neg (fun z => z.elim (fun y => d2 y.2.1) (fun y => d1 y.1))]
      simp only [s35_0, s35_1, s35_4, s35_7, s35_9, s35_10, s35_13, s35_16, s35_19, s35_20, s35_23, s35_24, s35_27, s35_28, s35_30, s35_33, s35_36, s35_39, s35_42, s35_44, s35_46, s35_49, s35_52, s35_53, s35_56, s35_57, s35_60, s35_61, s35_62, s35_63, s35_66, s35_69, s35_71, s35_73, s35_76, s35_79, s35_80, s35_83, s35_84, s35_86, s35_88, s35_91, s35_92, s35_95, k15 qc, kt, h12, nco, ns, njd, n1, rf, ↓reduceIte, va_rf_s, va_rf_n, jb_some, jb_none, jtl_s, jtl_n, if_true, if_false, true_and, and_true, false_and, and_false, or_true, true_or, or_false, false_or, not_true_eq_false, not_false_eq_true, jk_si, jp_si, jj_si, jk_sj, jp_sj, ji_sj, jk_ci, jp_ci, jj_ci, jk_cj, jp_cj, ji_cj, jlng_n, jlng_i, jlng_r, jlng_0]
/-- the reply to a mode, no word behind it -/
theorem md_end {B n a t l i : Nat} {L A0 A1 : List Int32} {x : Int32} {g g' : jH} (hC : HC B L g g' a t n A0 A1) (hB : B + 33 < 1610612736) (hl : l ≤ 1) (hx : LCN a L i x) (hn : WA a L → n = 0) (hn1 : n ≤ 1) (h15 : ji g t 15 = ji g' 72 a) (h12 : ji g t 12 = nI (cw x)) (h43 : ji g' 43 a = 0) (h44 : (aN (cw x) = a ∧ mv g' a 44 = 0) ∨ (aN (cw x) = 31 ∧ mv g' a 44 = 1)) {g1 g1' : jH} (hWn : MTD L (cw x) (i + 1)) (hM1 : TM B g1 g1' a t) (v44 : mv g1' a 44 = mv g' a 44) (f1 : Fr (fun c k => c = t ∧ (k = 5 ∨ k = 7 ∨ k = 9 ∨ k = 10 ∨ k = 11)) g g1) (f1' : Fr (mAp a) g' g1') {C M : Option (Option Value × jH)} (hc : ∀ o G, jV 44 0 [some (.ref t), some (.ref 18)] [] g1 = some (some (.int o), G) → Off (wP 18) g1 G → C = some (some (.int o), G)) (hm : ∀ w G', jV 123 0 [some (.ref 30), some (.int (nI a)), some (.int (nI l)), some (.int w), none, none] [] (jsi (jsi g1' 73 0 (stI (mv g1' a) a)) 30 56 1) = some (none, G') → w = jB (aN (cw x) = a) → M = some (none, G')) : HO (B + 33) L g g' a t l n A0 A1 C M := by
  obtain ⟨ha, qc, qm, hT0, hR, hW, hL, ⟨R0, hR0⟩, hA⟩ := id hC; obtain ⟨ht, hs, hMu, hBa, hPl⟩ := id hT0; obtain ⟨h0, h33, h34, ⟨h42, h43', h44', h6⟩, h7, h8, h9, h10, h11, h12', h14⟩ := id hs; obtain ⟨ht74, kt, pt2, pt3, kt1, pt10, pt11, kt2, kt3⟩ := id ht; have hLl := hL.1; have hil := (List.getElem?_eq_some_iff.mp hx.1).1; have hcw := cw_lt x
  have ht1 := hM1.1
  have W18 : WI g1 18 R0 := hR0.fr f1 (fun c k z1 z2 => by omega)
  obtain ⟨G, b, c1, c2, f3, hRp⟩ := c_answerStatus ha ht1 hM1.2.1 W18
  have f3' : Fr (fun c k => c = 73 ∨ (c = 30 ∧ k = 56)) g1' (jsi (jsi g1' 73 0 (stI (mv g1' a) a)) 30 56 1) := ((Fr.refl g1').si (Or.inl rfl)).si (Or.inr ⟨rfl, rfl⟩)
  have hM3 := hM1.fr f3 f3' (fun c k z1 z2 => by unfold wP; omega) (fun c k z y => by omega)
  have p1 : ∀ c k, (c = t ∧ (k = 5 ∨ k = 7 ∨ k = 9 ∨ k = 10 ∨ k = 11)) → t ≤ c ∧ c ≤ t + 6 := fun c k z => by omega
  have p1' : ∀ c k, mAp a c k → mTA a c k := fun c k z => z.elim (fun y => mTA_s (by omega) y.2) (fun y => y.2.elim (fun w => mTA_s (by omega) w) (fun w => Or.inr (Or.inl ⟨Or.inr y.1, w⟩)))
  have hC3 : HC B L G (jsi (jsi g1' 73 0 (stI (mv g1' a) a)) 30 56 1) a t n A0 A1 := hC.up2 ((f1.sub (fun c k z => Or.inl (p1 c k z))).trans (f3.sub (fun c k z => Or.inr z))) ((f1'.sub (fun c k z => up_t (p1' c k z))).trans (f3'.sub (fun c k z => up_r z))) (fun c k z => z) (fun c k z => z) hM3 ⟨_, (hRp g1').2.1⟩
  have F3 : Fr (cHp t) g G := (f1.sub (fun c k z => cHp_r (Or.inl (p1 c k z)))).trans (f3.sub (fun c k z => cHp_r (Or.inr z)))
  have F3' : Fr (mHp a) g' (jsi (jsi g1' 73 0 (stI (mv g1' a) a)) 30 56 1) := (f1'.sub (fun c k z => Or.inl (p1' c k z))).trans (f3'.sub (fun c k z => mHp_73 z))
  have E71 : ji (jsi (jsi g1' 73 0 (stI (mv g1' a) a)) 30 56 1) 71 a = ji g' 71 a := by rw [f3'.i (by omega), f1'.i (by omega)]
  rw [v44] at c1
  rcases h44 with ⟨z1, z2⟩ | ⟨z1, z2⟩
  · rw [if_pos z2] at c1
    refine ho_ans hC3 hB hl hn1 (by rw [f3.i (by unfold wP; omega), f3'.i (by omega), f1.i (by omega), f1'.i (by omega)]; exact h15) (hRp g1') ?_ F3 F3' E71 (hc _ _ c1 f3) (fun G' hG' => hm 1 G' hG' (jB_t z1).symm)
    rcases hWn with ⟨_, y, _⟩ | ⟨_, y, _⟩
    · exact wa_of hx z1 (fun j w hj hw => jd_notC (jd_data y hil j w hj hw))
    · exact wa_end hx z1 y.symm
  · rw [if_neg (by rw [z2]; exact n1)] at c1
    refine ⟨0, G, hc _ _ c1 f3, Or.inl ⟨rfl, _, hm 0 _ (m_answer0 _ _) (jB_f (fun y => by rw [y] at z1; omega)).symm, hC3.mono (by omega) hB, F3, F3', E71⟩⟩
theorem md_add {B a t : Nat} {g1 g1' : jH} {R0 : List Int32} (ha : a < 31) (hM1 : TM B g1 g1' a t) (W18 : WI g1 18 R0) (v44 : mv g1' a 44 = 0) {v : Int32} (hv : isD v) : ∃ G G2 bs, jV 44 0 [some (.ref t), some (.ref 18)] [] g1 = some (some (.int 1), G) ∧ jV 59 0 [some (.ref 18), some (.int v)] [] G = some (none, G2) ∧ Off (wP 18) g1 G ∧ Off (wP 18) g1 G2 ∧ Rp G2 (jsi (jsi (jsi (jsi g1' 73 0 (stI (mv g1' a) a)) 30 56 1) 73 1 v) 30 56 2) bs := by
  obtain ⟨G, b, c1, c2, f3, hRp⟩ := c_answerStatus ha hM1.1 hM1.2.1 W18
  rw [if_pos v44] at c1
  obtain ⟨b2, hb2, e2⟩ := isD_nI hv
  obtain ⟨G2, c3, W2, f4⟩ := w_add (hRp g1').2.1 (by simp [wl]) v
  subst e2
  exact ⟨G, G2, [b] ++ [b2], c1, c3, f3, f3.trans f4, rp_snoc (hRp g1') (by simp) hb2 W2 rfl⟩
theorem hr_mode {B n a t l i : Nat} {L A0 A1 : List Int32} {x : Int32} {g g' : jH} (hC : HC B L g g' a t n A0 A1) (hB : B + 33 < 1610612736) (hl : l ≤ 1) (hx : LCN a L i x) (hn : WA a L → n = 0) (hn1 : n ≤ 1) (h15 : ji g t 15 = ji g' 72 a) (h12 : ji g t 12 = nI (cw x)) (h43 : ji g' 43 a = 0) (h44 : (aN (cw x) = a ∧ mv g' a 44 = 0) ∨ (aN (cw x) = 31 ∧ mv g' a 44 = 1)) (hd : dN (cw x)) : HO (B + 33) L g g' a t l n A0 A1 (jV 31 139 [some (.ref t), some (.ref 15), some (.int (nI l)), some (.ref 18), some (.int (nI i)), some (.int (nI (cw x))), some (.int (nI (i + 1)))] [] g) (jV 126 202 [some (.ref 30), some (.int (nI a)), some (.int (nI l)), some (.int (nI i)), some (.int (nI (cw x))), some (.int (nI (i + 1))), some (.int (jB (aN (cw x) = a))), none, none] [] g') := by
  obtain ⟨ha, qc, qm, hT0, hR, hW, hL, ⟨R0, hR0⟩, hA⟩ := id hC; obtain ⟨ht, hs, hMu, hBa, hPl⟩ := id hT0; obtain ⟨h0, h33, h34, ⟨h42, h43', h44', h6⟩, h7, h8, h9, h10, h11, h12', h14⟩ := id hs; obtain ⟨ht74, kt, pt2, pt3, kt1, pt10, pt11, kt2, kt3⟩ := id ht; have hLl := hL.1; have hil := (List.getElem?_eq_some_iff.mp hx.1).1; have hcw := cw_lt x
  have b4 : jin (nI a) 31 = true := jin_nI ha (by omega)
  have b5 : (nI a).toNatClampNeg = a := nI_clamp (by omega)
  have nm := n_isMode hcw g
  rw [jB_t hd] at nm
  have om := o_isMode hcw g'
  rw [jB_t hd] at om
  have hfl : jV 28 0 [some (.ref t), some (.int 16)] [] g = some (some (.int (jB (aN (cw x) = 31))), g) := by
    rw [c_hasFlag kt 16, h6]
    rcases h44 with ⟨z1, z2⟩ | ⟨z1, z2⟩
    · rw [jB_f (fun y => y ((fl_all _ h42 _ h43' _ h44').mpr z2)), jB_f (fun y => by rw [y] at z1; omega)]
    · rw [jB_t (show ¬ FL (mv g' a 42) (mv g' a 43) (mv g' a 44) &&& 16 = 0 from fun y => n1 (z2.symm.trans ((fl_all _ h42 _ h43' _ h44').mp y))), jB_t z1]
  obtain ⟨Gr, rf, _⟩ := rf_both hC
  have me := m_err hC (l := l) (some (.int (nI i))) (some (.int (nI (cw x)))) (some (.int (nI (i + 1)))) (some (.int (jB (aN (cw x) = a)))) none none
  have cf := c_fits (l := l) qc kt h12 hcw hW (f := i + 1) (by omega) (by omega) hfl rf
  have omd := m_isModeToDo qm hL hcw (f := i + 1) (by omega)
  by_cases d : MTD L (cw x) (i + 1)
  · rw [if_pos d] at cf
    rw [jB_t d] at omd
    have hcl : ∀ o G, jV 35 96 [some (.ref t), some (.ref 15), some (.int (nI (i + 1))), some (.int (nI l)), some (.ref 18), some (.int (nI (cw x % 32))), some (.int 1), none, none] [] g = some (some (.int o), G) → jV 31 139 [some (.ref t), some (.ref 15), some (.int (nI l)), some (.ref 18), some (.int (nI i)), some (.int (nI (cw x))), some (.int (nI (i + 1)))] [] g = some (some (.int o), G) := by
      intro o G h
      rw [h] at cf
      simp only [s31_139, s31_141, s31_144, s31_147, s31_148, s31_149, s31_151, s31_152, s31_153, s31_156, kt, nm, n1, cf, ↓reduceIte, va_rf_s, va_rf_n, jb_some, jb_none, jtl_s, jtl_n, if_true, if_false, true_and, and_true, false_and, and_false, or_true, true_or, or_false, false_or, not_true_eq_false, not_false_eq_true, jk_si, jp_si, jj_si, jk_sj, jp_sj, ji_sj, jk_ci, jp_ci, jj_ci, jk_cj, jp_cj, ji_cj, jlng_n, jlng_i, jlng_r, jlng_0]
    have hmd : ∀ G', jV 127 0 [some (.ref 30), some (.int (nI a)), some (.int (nI l)), some (.int (nI (cw x))), some (.int (nI (i + 1))), some (.int (jB (aN (cw x) = a))), none, none] [] g' = some (none, G') → jV 126 202 [some (.ref 30), some (.int (nI a)), some (.int (nI l)), some (.int (nI i)), some (.int (nI (cw x))), some (.int (nI (i + 1))), some (.int (jB (aN (cw x) = a))), none, none] [] g' = some (none, G') := by
      intro G' h
      by_cases e : aN (cw x) = a
      · rw [jB_t e] at h ⊢
        simp only [s126_202, s126_204, s126_207, s126_317, s126_319, s126_322, s126_355, s126_357, s126_360, s126_482, s126_484, s126_487, s126_490, s126_491, s126_493, s126_495, s126_498, s126_501, s126_502, s126_503, s126_504, s126_506, s126_508, s126_510, s126_513, s126_523, k30 qm, om, omd, h, n1, ↓reduceIte, va_rf_s, va_rf_n, jb_some, jb_none, jtl_s, jtl_n, if_true, if_false, true_and, and_true, false_and, and_false, or_true, true_or, or_false, false_or, not_true_eq_false, not_false_eq_true, jk_si, jp_si, jj_si, jk_sj, jp_sj, ji_sj, jk_ci, jp_ci, jj_ci, jk_cj, jp_cj, ji_cj, jlng_n, jlng_i, jlng_r, jlng_0]
      · rw [jB_f e] at h ⊢
        simp only [s126_202, s126_204, s126_207, s126_317, s126_319, s126_322, s126_355, s126_357, s126_360, s126_482, s126_484, s126_487, s126_490, s126_491, s126_493, s126_495, s126_498, s126_501, s126_502, s126_503, s126_504, s126_506, s126_508, s126_510, s126_513, s126_523, k30 qm, om, omd, h, n1, ↓reduceIte, va_rf_s, va_rf_n, jb_some, jb_none, jtl_s, jtl_n, if_true, if_false, true_and, and_true, false_and, and_false, or_true, true_or, or_false, false_or, not_true_eq_false, not_false_eq_true, jk_si, jp_si, jj_si, jk_sj, jp_sj, ji_sj, jk_ci, jp_ci, jj_ci, jk_cj, jp_cj, ji_cj, jlng_n, jlng_i, jlng_r, jlng_0]
    have ec := e_cod hcw
    have hbz := c_hasFlag kt 8
    rw [h6] at hbz
    have v42 : mv g' a 42 = ji g' 42 a := mv_v (by omega)
    have E16 : nI (cw x % 32) = 16 ↔ cw x % 32 = 16 := e_eq (b := 16) (by omega) (by omega)
    have E19 : nI (cw x % 32) = 19 ↔ cw x % 32 = 19 := e_eq (b := 19) (by omega) (by omega)
    by_cases fr : mv g' a 42 &&& 8 = 0
    · rw [jB_f (fun y => y ((fl_busy _ h42 _ h43' _ h44').mpr fr))] at hbz
      rw [v42] at fr
      have hb := w_bitsAt hW (i := i + 1) (by omega)
      have hw : cw x % 32 = 17 ∨ cw x % 32 = 20 ∨ cw x % 32 = 21 → (if i + 1 < L.length then L.getD (i + 1) (-1) else 0) = L.getD (i + 1) (-1) &&& 65535 := by
        intro z
        rcases d with ⟨_, y, _⟩ | ⟨_, _, y⟩
        · have hlt : i + 1 < L.length := by have := y.1; omega
          have hq : L[i + 1]? = some L[i + 1] := List.getElem?_eq_getElem hlt
          have hD := jd_data y hil (i + 1) _ (by omega) hq
          rw [if_pos hlt, List.getD_eq_getElem?_getD, hq, Option.getD_some]
          obtain ⟨b, hb, e⟩ := isD_nI hD
          rw [e]
          exact (nx_m16 hb).symm
        · omega
      obtain ⟨g1, g1', ca, ma, hs1, f1, f1'⟩ := q_act qm ht ha hs (L.getD (i + 1) (-1) &&& 65535) (if i + 1 < L.length then L.getD (i + 1) (-1) else 0) (mtd_cods d) hl hw
      have ht1 : TSh g1 t := ht.fr f1
      have qm1 : MS g1' := f1'.ms qm
      have hM1 : TM B g1 g1' a t := ⟨ht1, hs1, hMu.fr f1 f1' (by omega) (fun c k z1 z2 => by omega) (by omega) (by omega) (fun i hi => by omega), hBa.fr f1 f1' (fun k => by omega) (fun k z1 z2 => by omega), hPl.fr f1 f1' (fun c k z => by omega) (fun c k z z1 z2 => by omega)⟩
      have v44 : mv g1' a 44 = mv g' a 44 := by rw [mv_v (by omega), mv_v (by omega), f1'.i (by omega)]
      have mst := m_statusOf qm1 ha
      have mrw := m_replyWith qm1 (stI (mv g1' a) a)
      have kt1' := ht1.2.1
      have W18 : WI g1 18 R0 := hR0.fr f1 (fun c k z1 z2 => by omega)
      -- the change in the reference
      have mch : ∀ (own : Int32), jV 127 0 [some (.ref 30), some (.int (nI a)), some (.int (nI l)), some (.int (nI (cw x))), some (.int (nI (i + 1))), some (.int own), none, none] [] g' = jV 127 67 [some (.ref 30), some (.int (nI a)), some (.int (nI l)), some (.int (nI (cw x))), some (.int (nI (i + 1))), some (.int own), some (.int (nI (cw x % 32))), some (.int 1)] [] (jsi (jsi g1' 73 0 (stI (mv g1' a) a)) 30 56 1) := by
        intro own
        by_cases c : i + 1 < L.length
        · rw [if_pos c] at ma
          have hq : L[i + 1]? = some L[i + 1] := List.getElem?_eq_getElem c
          have hm68 : ji g' 68 (i + 1) = L.getD (i + 1) (-1) := by rw [List.getD_eq_getElem?_getD, hq, Option.getD_some]; exact hL.2.2 _ _ hq
          have lt : nI (i + 1) < nI L.length := nI_lt (by omega) (by omega)
          have c4 : jin (nI (i + 1)) 40 = true := jin_nI (by omega) (by omega)
          have c5 : (nI (i + 1)).toNatClampNeg = i + 1 := nI_clamp (by omega)
          simp only [s127_0, s127_1, s127_3, s127_4, s127_6, s127_7, s127_10, s127_11, s127_12, s127_14, s127_15, s127_18, s127_19, s127_22, s127_23, s127_25, s127_27, s127_30, s127_31, s127_32, s127_33, s127_35, s127_37, s127_38, s127_41, s127_44, s127_45, s127_48, s127_50, s127_51, s127_54, s127_55, s127_58, s127_59, s127_60, s127_61, s127_64, k30 qm, k30 qm1, k42 qm, k68 qm, p30_11 qm, p30_48 qm, b4, b5, c4, c5, ec, fr, hL.2.1, lt, hm68, ma, mst, mrw, n1, ↓reduceIte, va_rf_s, va_rf_n, jb_some, jb_none, jtl_s, jtl_n, if_true, if_false, true_and, and_true, false_and, and_false, or_true, true_or, or_false, false_or, not_true_eq_false, not_false_eq_true, jk_si, jp_si, jj_si, jk_sj, jp_sj, ji_sj, jk_ci, jp_ci, jj_ci, jk_cj, jp_cj, ji_cj, jlng_n, jlng_i, jlng_r, jlng_0]
        · rw [if_neg c] at ma
          have lt : ¬ nI (i + 1) < nI L.length := nI_nlt (by omega) (by omega)
          simp only [s127_0, s127_1, s127_3, s127_4, s127_6, s127_7, s127_10, s127_11, s127_12, s127_14, s127_15, s127_18, s127_19, s127_22, s127_23, s127_25, s127_27, s127_30, s127_31, s127_32, s127_33, s127_35, s127_37, s127_38, s127_41, s127_44, s127_45, s127_48, s127_50, s127_51, s127_54, s127_55, s127_58, s127_59, s127_60, s127_61, s127_64, k30 qm, k30 qm1, k42 qm, p30_11 qm, b4, b5, ec, fr, hL.2.1, lt, ma, mst, mrw, n1, ↓reduceIte, va_rf_s, va_rf_n, jb_some, jb_none, jtl_s, jtl_n, if_true, if_false, true_and, and_true, false_and, and_false, or_true, true_or, or_false, false_or, not_true_eq_false, not_false_eq_true, jk_si, jp_si, jj_si, jk_sj, jp_sj, ji_sj, jk_ci, jp_ci, jj_ci, jk_cj, jp_cj, ji_cj, jlng_n, jlng_i, jlng_r, jlng_0]
      by_cases k : cw x % 32 = 16 ∨ cw x % 32 = 19
      · have hsn : sN (cw x) ∧ i + 1 = L.length ∧ ¬ aN (cw x) = 31 := by
          rcases d with ⟨_, _, y⟩ | ⟨y1, y2, y | ⟨_, y⟩⟩
          · omega
          · omega
          · exact ⟨y1, y2, y⟩
        have hz : aN (cw x) = a ∧ mv g' a 44 = 0 := h44.resolve_right (fun y => hsn.2.2 y.1)
        have hWA := wa_end hx hz.1 hsn.2.1.symm
        have v0 : mv g1' a 44 = 0 := v44.trans hz.2
        have p1 : ∀ c k, cAp t c k → t ≤ c ∧ c ≤ t + 6 := fun c k z => by omega
        have p1' : ∀ c k, mAp a c k → mTA a c k := fun c k z => z.elim (fun y => mTA_s (by omega) y.2) (fun y => y.2.elim (fun w => mTA_s (by omega) w) (fun w => Or.inr (Or.inl ⟨Or.inr y.1, w⟩)))
        obtain ⟨q0, q33, q34, ⟨q42, q43, q44, q6⟩, q7, q8, q9, q10, q11, q12, q14⟩ := id hs1
        have r4 : jin 1 33 = true := by decide
        have r5 : (1 : Int32).toNatClampNeg = 1 := by decide
        rcases k with k | k
        · have e16 := eq_true (E16.mpr k)
          obtain ⟨G, G2, bs, c1, c2, f3, f4, hRp⟩ := md_add ha hM1 W18 v0 q8.1
          have f4' : Fr (fun c k => c = 73 ∨ (c = 30 ∧ k = 56)) g1' (jsi (jsi (jsi (jsi g1' 73 0 (stI (mv g1' a) a)) 30 56 1) 73 1 (mv g1' a 38)) 30 56 2) := ((((Fr.refl g1').si (Or.inl rfl)).si (Or.inr ⟨rfl, rfl⟩)).si (Or.inl rfl)).si (Or.inr ⟨rfl, rfl⟩)
          have kG2 : jk G2 t = (4, 0) := by rw [f4.k]; exact kt1'
          have kG : jk G t = (4, 0) := by rw [f3.k]; exact kt1'
          have i6 : ji G2 t 6 = FL (mv g1' a 42) (mv g1' a 43) (mv g1' a 44) := by rw [f4.i (by unfold wP; omega)]; exact q6
          have i8 : ji G t 8 = mv g1' a 38 := by rw [f3.i (by unfold wP; omega)]; exact q8.2
          have sf := c_setFlag kG2 256 0
          rw [i6, if_pos rfl, (fl_s0 _ q42 _ q43 _ q44).1] at sf
          have f5 : Fr (fun c k => c = t ∧ k = 6) G2 (jsi G2 t 6 (FL (mv g1' a 42 &&& (-257)) (mv g1' a 43) (mv g1' a 44))) := (Fr.refl G2).si ⟨rfl, rfl⟩
          have f5' : Fr (fun c k => c = 42 ∧ k = a) (jsi (jsi (jsi (jsi g1' 73 0 (stI (mv g1' a) a)) 30 56 1) 73 1 (mv g1' a 38)) 30 56 2) (jsi (jsi (jsi (jsi (jsi g1' 73 0 (stI (mv g1' a) a)) 30 56 1) 73 1 (mv g1' a 38)) 30 56 2) 42 a (mv g1' a 42 &&& (-257))) := (Fr.refl _).si ⟨rfl, rfl⟩
          have hM2 := hM1.fr f4 f4' (fun c k z1 z2 => by unfold wP; omega) (fun c k z y => by omega)
          have hM3 : TM B (jsi G2 t 6 (FL (mv g1' a 42 &&& (-257)) (mv g1' a 43) (mv g1' a 44))) (jsi (jsi (jsi (jsi (jsi g1' 73 0 (stI (mv g1' a) a)) 30 56 1) 73 1 (mv g1' a 38)) 30 56 2) 42 a (mv g1' a 42 &&& (-257))) a t := by
            refine ⟨hM2.1.fr f5, ?_, hM2.2.2.1.fr f5 f5' (by omega) (fun c k z1 z2 => by omega) (by omega) (by omega) (fun i hi => by omega), hM2.2.2.2.1.fr f5 f5' (fun k => by omega) (fun k z1 z2 => by omega), hM2.2.2.2.2.fr f5 f5' (fun c k z => by omega) (fun c k z z1 z2 => by omega)⟩
            rw [tv_si, tv_fr f4 (fun k => by unfold wP; omega), mv_si (by omega), mv_fr f4' (fun l hl => by omega) (by omega) (by omega)]
            simp only [Sc, upd_e, Nat.reduceEqDiff, if_true, if_false]
            exact ⟨q0, q33, q34, ⟨(fl_s0 _ q42 _ q43 _ q44).2, q43, q44, trivial⟩, q7, q8, q9, q10, q11, q12, q14⟩
          have hRp3 := hRp.fr f5 (Fr.refl (P := fun _ _ => False) _) (fun c k z1 z2 => by omega) id (fun k => id)
          have hC3 := hC.up2 (((f1.sub (fun c k z => Or.inl (p1 c k z))).trans (f4.sub (fun c k z => Or.inr z))).trans (f5.sub (fun c k z => Or.inl (by omega)))) (((f1'.sub (fun c k z => up_t (p1' c k z))).trans (f4'.sub (fun c k z => up_r z))).trans (f5'.sub (fun c k z => up_t (mTA_s (by omega) z.2)))) (fun c k z => z) (fun c k z => z) hM3 ⟨_, hRp3.2.1⟩
          obtain ⟨G4, G4', n', A0', A1', s1, s2, s3, s4, s5, s6⟩ := fin_ans2 hC3 hB hl hn1 (by rw [f5.i (by omega), f4.i (by unfold wP; omega), f4'.i (by omega), f1.i (by omega), f1'.i (by omega)]; exact h15) hRp3
          have n42 : ji G4' 42 a = mv g1' a 42 := by rw [s6.i (by omega), f4'.i (by omega), mv_v (by omega)]
          have qm4 : MS G4' := s6.ms (f4'.ms qm1)
          refine ⟨1, _, hcl _ _ ?_, Or.inr (Or.inr ⟨rfl, hC3.2.1, G4, _, n', A0', A1', s1, hmd _ ?_, s3, s4, hWA, ?_, ?_, ?_⟩)⟩
          · simp only [s35_96, s35_97, s35_99, s35_102, s35_105, s35_106, s35_109, s35_110, s35_112, s35_114, s35_117, s35_118, s35_120, s35_121, s35_122, s35_123, s35_126, s35_129, s35_130, s35_132, s35_135, s35_137, s35_139, s35_142, s35_144, s35_146, s35_149, s35_151, s35_152, s35_155, s35_158, s35_159, s35_162, s35_163, s35_166, s35_169, s35_171, s35_174, s35_176, s35_178, s35_181, s35_183, s35_184, s35_187, s35_190, s35_192, kt, kG, kG2, k15 qc, hbz, hb, ca, kt1', c1, e16, hW.1.1, i8, c2, W18.1.1, f3.k, sf, n1, ↓reduceIte, va_rf_s, va_rf_n, jb_some, jb_none, jtl_s, jtl_n, if_true, if_false, true_and, and_true, false_and, and_false, or_true, true_or, or_false, false_or, not_true_eq_false, not_false_eq_true, jk_si, jp_si, jj_si, jk_sj, jp_sj, ji_sj, jk_ci, jp_ci, jj_ci, jk_cj, jp_cj, ji_cj, jlng_n, jlng_i, jlng_r, jlng_0]
          · rw [mch, jB_t hz.1]
            simp only [s127_67, s127_69, s127_72, s127_74, s127_76, s127_79, s127_81, s127_83, s127_86, s127_87, s127_90, s127_91, s127_93, s127_95, s127_98, s127_99, s127_102, s127_103, s127_104, s127_107, s127_108, s127_111, s127_112, s127_113, s127_114, s127_115, s127_116, s127_119, s127_120, s127_121, s127_122, s127_124, s127_127, s127_129, s127_132, s127_134, s127_136, s127_139, s127_140, s127_143, s127_144, s127_145, s127_146, s127_149, s127_150, s127_151, k30 qm1, k38 qm1, k42 qm4, k73 qm1, p30_7 qm1, p30_11 qm4, p30_55 qm1, b4, b5, r4, r5, e16, k30 qm4, ji_si, Nat.reduceEqDiff, ← mv_v (g := g1') (a := a) (l := 38) (by omega), s2, n42, n1, ↓reduceIte, va_rf_s, va_rf_n, jb_some, jb_none, jtl_s, jtl_n, if_true, if_false, true_and, and_true, false_and, and_false, or_true, true_or, or_false, false_or, not_true_eq_false, not_false_eq_true, jk_si, jp_si, jj_si, jk_sj, jp_sj, ji_sj, jk_ci, jp_ci, jj_ci, jk_cj, jp_cj, ji_cj, jlng_n, jlng_i, jlng_r, jlng_0]
          · exact (((f1.sub (fun c k z => cHp_r (Or.inl (p1 c k z)))).trans (f4.sub (fun c k z => cHp_r (Or.inr z)))).trans (f5.sub (fun c k z => cHp_r (Or.inl (by omega))))).trans (s5.sub (fun c k z => cHp_y z))
          · exact (((f1'.sub (fun c k z => Or.inl (p1' c k z))).trans (f4'.sub (fun c k z => mHp_73 z))).trans (s6.sub (fun c k z => mHp_y z))).si (Or.inl (mTA_s (by omega) rfl))
          · rw [ji_si, if_neg (by omega), s6.i (by omega), f4'.i (by omega), f1'.i (by omega)]
        · have e19 := eq_true (E19.mpr k)
          have e16 := eq_false (fun y => (by omega : ¬ cw x % 32 = 16) (E16.mp y))
          obtain ⟨G, G2, bs, c1, c2, f3, f4, hRp⟩ := md_add ha hM1 W18 v0 q9.1
          have f4' : Fr (fun c k => c = 73 ∨ (c = 30 ∧ k = 56)) g1' (jsi (jsi (jsi (jsi g1' 73 0 (stI (mv g1' a) a)) 30 56 1) 73 1 (mv g1' a 39)) 30 56 2) := ((((Fr.refl g1').si (Or.inl rfl)).si (Or.inr ⟨rfl, rfl⟩)).si (Or.inl rfl)).si (Or.inr ⟨rfl, rfl⟩)
          have kG2 : jk G2 t = (4, 0) := by rw [f4.k]; exact kt1'
          have kG : jk G t = (4, 0) := by rw [f3.k]; exact kt1'
          have i9 : ji G t 9 = mv g1' a 39 := by rw [f3.i (by unfold wP; omega)]; exact q9.2
          have hM2 := hM1.fr f4 f4' (fun c k z1 z2 => by unfold wP; omega) (fun c k z y => by omega)
          have hC2 := hC.up2 ((f1.sub (fun c k z => Or.inl (p1 c k z))).trans (f4.sub (fun c k z => Or.inr z))) ((f1'.sub (fun c k z => up_t (p1' c k z))).trans (f4'.sub (fun c k z => up_r z))) (fun c k z => z) (fun c k z => z) hM2 ⟨_, hRp.2.1⟩
          refine ho_ans hC2 hB hl hn1 (by rw [f4.i (by unfold wP; omega), f4'.i (by omega), f1.i (by omega), f1'.i (by omega)]; exact h15) hRp hWA ((f1.sub (fun c k z => cHp_r (Or.inl (p1 c k z)))).trans (f4.sub (fun c k z => cHp_r (Or.inr z)))) ((f1'.sub (fun c k z => Or.inl (p1' c k z))).trans (f4'.sub (fun c k z => mHp_73 z))) (by rw [f4'.i (by omega), f1'.i (by omega)]) (hcl _ _ ?_) (fun G' hG' => hmd _ ?_)
          · simp only [s35_96, s35_97, s35_99, s35_102, s35_105, s35_106, s35_109, s35_110, s35_112, s35_114, s35_117, s35_118, s35_120, s35_121, s35_122, s35_123, s35_126, s35_129, s35_130, s35_132, s35_135, s35_137, s35_139, s35_142, s35_144, s35_146, s35_149, s35_151, s35_152, s35_155, s35_158, s35_159, s35_162, s35_163, s35_166, s35_169, s35_171, s35_174, s35_176, s35_178, s35_181, s35_183, s35_184, s35_187, s35_190, s35_192, kt, kG, kG2, k15 qc, hbz, hb, ca, kt1', c1, e16, e19, hW.1.1, i9, c2, W18.1.1, f3.k, n1, ↓reduceIte, va_rf_s, va_rf_n, jb_some, jb_none, jtl_s, jtl_n, if_true, if_false, true_and, and_true, false_and, and_false, or_true, true_or, or_false, false_or, not_true_eq_false, not_false_eq_true, jk_si, jp_si, jj_si, jk_sj, jp_sj, ji_sj, jk_ci, jp_ci, jj_ci, jk_cj, jp_cj, ji_cj, jlng_n, jlng_i, jlng_r, jlng_0]
          · rw [mch, jB_t hz.1]
            simp only [s127_67, s127_69, s127_72, s127_74, s127_76, s127_79, s127_81, s127_83, s127_86, s127_87, s127_90, s127_91, s127_93, s127_95, s127_98, s127_99, s127_102, s127_103, s127_104, s127_107, s127_108, s127_111, s127_112, s127_113, s127_114, s127_115, s127_116, s127_119, s127_120, s127_121, s127_122, s127_124, s127_127, s127_129, s127_132, s127_134, s127_136, s127_139, s127_140, s127_143, s127_144, s127_145, s127_146, s127_149, s127_150, s127_151, k30 qm1, k39 qm1, k73 qm1, p30_8 qm1, p30_55 qm1, b4, b5, r4, r5, e16, e19, ji_si, Nat.reduceEqDiff, ← mv_v (g := g1') (a := a) (l := 39) (by omega), hG', n1, ↓reduceIte, va_rf_s, va_rf_n, jb_some, jb_none, jtl_s, jtl_n, if_true, if_false, true_and, and_true, false_and, and_false, or_true, true_or, or_false, false_or, not_true_eq_false, not_false_eq_true, jk_si, jp_si, jj_si, jk_sj, jp_sj, ji_sj, jk_ci, jp_ci, jj_ci, jk_cj, jp_cj, ji_cj, jlng_n, jlng_i, jlng_r, jlng_0]
      · have e16 := eq_false (fun y => k (Or.inl (E16.mp y)))
        have e19 := eq_false (fun y => k (Or.inr (E19.mp y)))
        refine md_end hC hB hl hx hn hn1 h15 h12 h43 h44 d hM1 v44 f1 f1' (fun o G h1 h2 => hcl _ _ ?_) (fun w G' h1 h2 => hmd _ ?_)
        · simp only [s35_96, s35_97, s35_99, s35_102, s35_105, s35_106, s35_109, s35_110, s35_112, s35_114, s35_117, s35_118, s35_120, s35_121, s35_122, s35_123, s35_126, s35_129, s35_130, s35_132, s35_135, s35_137, s35_139, s35_142, s35_144, s35_146, s35_149, s35_151, s35_152, s35_155, s35_158, s35_159, s35_162, s35_163, s35_166, s35_169, s35_171, s35_174, s35_176, s35_178, s35_181, s35_183, s35_184, s35_187, s35_190, s35_192, kt, k15 qc, hbz, hb, ca, kt1', h1, e16, e19, hW.1.1, n1, ↓reduceIte, va_rf_s, va_rf_n, jb_some, jb_none, jtl_s, jtl_n, if_true, if_false, true_and, and_true, false_and, and_false, or_true, true_or, or_false, false_or, not_true_eq_false, not_false_eq_true, jk_si, jp_si, jj_si, jk_sj, jp_sj, ji_sj, jk_ci, jp_ci, jj_ci, jk_cj, jp_cj, ji_cj, jlng_n, jlng_i, jlng_r, jlng_0]
        · rw [mch, ← h2]
          simp only [s127_67, s127_69, s127_72, s127_74, s127_76, s127_79, s127_81, s127_83, s127_86, s127_87, s127_90, s127_91, s127_93, s127_95, s127_98, s127_99, s127_102, s127_103, s127_104, s127_107, s127_108, s127_111, s127_112, s127_113, s127_114, s127_115, s127_116, s127_119, s127_120, s127_121, s127_122, s127_124, s127_127, s127_129, s127_132, s127_134, s127_136, s127_139, s127_140, s127_143, s127_144, s127_145, s127_146, s127_149, s127_150, s127_151, k30 qm1, e16, e19, h1, n1, ↓reduceIte, va_rf_s, va_rf_n, jb_some, jb_none, jtl_s, jtl_n, if_true, if_false, true_and, and_true, false_and, and_false, or_true, true_or, or_false, false_or, not_true_eq_false, not_false_eq_true, jk_si, jp_si, jj_si, jk_sj, jp_sj, ji_sj, jk_ci, jp_ci, jj_ci, jk_cj, jp_cj, ji_cj, jlng_n, jlng_i, jlng_r, jlng_0]
    · rw [jB_t (show ¬ FL (mv g' a 42) (mv g' a 43) (mv g' a 44) &&& 8 = 0 from fun y => fr ((fl_busy _ h42 _ h43' _ h44').mp y))] at hbz
      rw [v42] at fr
      have mst := m_statusOf qm ha
      have mrw := m_replyWith qm (stI (mv g' a) a)
      refine md_end hC hB hl hx hn hn1 h15 h12 h43 h44 d hT0 rfl (Fr.refl g) (Fr.refl g') (fun o G h1 h2 => hcl _ _ ?_) (fun w G' h1 h2 => hmd _ ?_)
      · simp only [s35_96, s35_97, s35_99, s35_102, s35_105, s35_106, s35_109, s35_110, s35_112, s35_114, s35_117, s35_118, s35_120, s35_121, s35_122, s35_123, s35_126, s35_129, s35_130, s35_132, s35_135, s35_137, s35_139, s35_142, s35_144, s35_146, s35_149, s35_151, s35_152, s35_155, s35_158, s35_159, s35_162, s35_163, s35_166, s35_169, s35_171, s35_174, s35_176, s35_178, s35_181, s35_183, s35_184, s35_187, s35_190, s35_192, kt, hbz, h1, n1, ↓reduceIte, va_rf_s, va_rf_n, jb_some, jb_none, jtl_s, jtl_n, if_true, if_false, true_and, and_true, false_and, and_false, or_true, true_or, or_false, false_or, not_true_eq_false, not_false_eq_true, jk_si, jp_si, jj_si, jk_sj, jp_sj, ji_sj, jk_ci, jp_ci, jj_ci, jk_cj, jp_cj, ji_cj, jlng_n, jlng_i, jlng_r, jlng_0]
      · rw [← h2]
        simp only [s127_0, s127_1, s127_3, s127_4, s127_6, s127_7, s127_10, s127_11, s127_12, s127_14, s127_15, s127_18, s127_19, s127_22, s127_23, s127_25, s127_27, s127_30, s127_31, s127_32, s127_33, s127_35, s127_37, s127_38, s127_41, s127_44, s127_45, s127_48, s127_50, s127_51, s127_54, s127_55, s127_58, s127_59, s127_60, s127_61, s127_64, s127_67, s127_69, s127_72, s127_74, s127_76, s127_79, s127_81, s127_83, s127_86, s127_87, s127_90, s127_91, s127_93, s127_95, s127_98, s127_99, s127_102, s127_103, s127_104, s127_107, s127_108, s127_111, s127_112, s127_113, s127_114, s127_115, s127_116, s127_119, s127_120, s127_121, s127_122, s127_124, s127_127, s127_129, s127_132, s127_134, s127_136, s127_139, s127_140, s127_143, s127_144, s127_145, s127_146, s127_149, s127_150, s127_151, k30 qm, k42 qm, p30_11 qm, b4, b5, ec, fr, mst, mrw, h1, n1, ↓reduceIte, va_rf_s, va_rf_n, jb_some, jb_none, jtl_s, jtl_n, if_true, if_false, true_and, and_true, false_and, and_false, or_true, true_or, or_false, false_or, not_true_eq_false, not_false_eq_true, jk_si, jp_si, jj_si, jk_sj, jp_sj, ji_sj, jk_ci, jp_ci, jj_ci, jk_cj, jp_cj, ji_cj, jlng_n, jlng_i, jlng_r, jlng_0]
  · rw [if_neg d] at cf
    rw [jB_f d] at omd
    refine hr_err hC hB ?_ ?_
    · rw [rf]
      simp only [s31_139, s31_141, s31_144, s31_147, s31_148, s31_149, s31_151, s31_152, s31_153, s31_156, kt, nm, n1, cf, ↓reduceIte, va_rf_s, va_rf_n, jb_some, jb_none, jtl_s, jtl_n, if_true, if_false, true_and, and_true, false_and, and_false, or_true, true_or, or_false, false_or, not_true_eq_false, not_false_eq_true, jk_si, jp_si, jj_si, jk_sj, jp_sj, ji_sj, jk_ci, jp_ci, jj_ci, jk_cj, jp_cj, ji_cj, jlng_n, jlng_i, jlng_r, jlng_0]
    · by_cases e : aN (cw x) = a
      · rw [jB_t e] at me ⊢
        simp only [s126_202, s126_204, s126_207, s126_317, s126_319, s126_322, s126_355, s126_357, s126_360, s126_482, s126_484, s126_487, s126_490, s126_491, s126_493, s126_495, s126_498, k30 qm, om, omd, n1, me, ↓reduceIte, va_rf_s, va_rf_n, jb_some, jb_none, jtl_s, jtl_n, if_true, if_false, true_and, and_true, false_and, and_false, or_true, true_or, or_false, false_or, not_true_eq_false, not_false_eq_true, jk_si, jp_si, jj_si, jk_sj, jp_sj, ji_sj, jk_ci, jp_ci, jj_ci, jk_cj, jp_cj, ji_cj, jlng_n, jlng_i, jlng_r, jlng_0]
      · rw [jB_f e] at me ⊢
        simp only [s126_202, s126_204, s126_207, s126_317, s126_319, s126_322, s126_355, s126_357, s126_360, s126_482, s126_484, s126_487, s126_490, s126_491, s126_493, s126_495, s126_498, k30 qm, om, omd, n1, me, ↓reduceIte, va_rf_s, va_rf_n, jb_some, jb_none, jtl_s, jtl_n, if_true, if_false, true_and, and_true, false_and, and_false, or_true, true_or, or_false, false_or, not_true_eq_false, not_false_eq_true, jk_si, jp_si, jj_si, jk_sj, jp_sj, ji_sj, jk_ci, jp_ci, jj_ci, jk_cj, jp_cj, ji_cj, jlng_n, jlng_i, jlng_r, jlng_0]
