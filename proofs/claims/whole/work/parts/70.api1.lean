/-! THE CALLS, one by one -/
abbrev DD : Nat := 2430720
theorem RR.mono {B B' : Nat} {g g' : jH} (hR : RR B g g') (h : B ≤ B') (h' : B' < 1610612736) : RR B' g g' := by
  obtain ⟨⟨qc, qm, hRl, hS, hb⟩, h4⟩ := hR
  exact ⟨⟨qc, qm, hRl.mono h h', hS.mono h h', hb⟩, h4⟩
theorem pr_fr {B : Nat} {g g' G G' : jH} {P P' : Nat → Nat → Prop} {c m : Option (Option Value × jH)} {Q : Value → Prop} (v : Value) (hB : B + 2430720 < 1610612736) (h1 : c = some (some v, G)) (h2 : m = some (some v, G')) (hR : RR (B + 2430720) G G') (f : Fr P g G) (f' : Fr P' g' G') (hP : ∀ b k, P b k → 1 ≤ b ∧ ¬ (30 ≤ b ∧ b ≤ 73)) (hP' : ∀ b k, P' b k → 30 ≤ b ∧ b ≤ 73) (hQ : Q v := by first | exact (show ∃ r, _ = Value.int r from ⟨_, rfl⟩) | exact (show ∃ r, _ = Value.long r from ⟨_, rfl⟩)) : ∃ v G G', c = some (some v, G) ∧ m = some (some v, G') ∧ RR (B + 2430720) G G' ∧ (∀ b, 30 ≤ b → b ≤ 73 → G.1 b = g.1 b) ∧ (∀ b, ¬ (30 ≤ b ∧ b ≤ 73) → G'.1 b = g'.1 b) ∧ (G.1 0 = g.1 0) ∧ (g.2.1 ≤ G.2.1 ∧ G.2.1 ≤ g.2.1 + 7 ∧ G.2.2 ≤ g.2.2 + 2100) ∧ G'.2 = g'.2 ∧ Q v :=
  ⟨v, G, G', h1, h2, hR, fun b z1 z2 => f.cell (fun k y => (hP b k y).2 ⟨z1, z2⟩), fun b z => f'.cell (fun k y => z (hP' b k y)), f.cell (fun k y => by have := hP 0 k y; omega), by rw [f.x]; exact ⟨Nat.le_refl _, Nat.le_add_right _ _, Nat.le_add_right _ _⟩, f'.x, hQ⟩
theorem pr_id {B : Nat} {g g' : jH} {c m : Option (Option Value × jH)} {Q : Value → Prop} (v : Value) (hB : B + 2430720 < 1610612736) (hR : RR B g g') (h1 : c = some (some v, g)) (h2 : m = some (some v, g')) (hQ : Q v := by first | exact (show ∃ r, _ = Value.int r from ⟨_, rfl⟩) | exact (show ∃ r, _ = Value.long r from ⟨_, rfl⟩)) : ∃ v G G', c = some (some v, G) ∧ m = some (some v, G') ∧ RR (B + 2430720) G G' ∧ (∀ b, 30 ≤ b → b ≤ 73 → G.1 b = g.1 b) ∧ (∀ b, ¬ (30 ≤ b ∧ b ≤ 73) → G'.1 b = g'.1 b) ∧ (G.1 0 = g.1 0) ∧ (g.2.1 ≤ G.2.1 ∧ G.2.1 ≤ g.2.1 + 7 ∧ G.2.2 ≤ g.2.2 + 2100) ∧ G'.2 = g'.2 ∧ Q v :=
  pr_fr v hB h1 h2 (hR.mono (Nat.le_add_right _ _) hB) (Fr.refl (P := fun _ _ => False) g) (Fr.refl (P := fun _ _ => False) g') (fun _ _ z => z.elim) (fun _ _ z => z.elim) hQ
theorem rng {x M : Int32} {n : Nat} (hM : M.toInt = n) (h : ¬ x < 0 ∧ ¬ M < x) : ∃ k, k ≤ n ∧ x = nI k := nI_of2 hM h.1 (Int32.not_lt.mp h.2)
theorem rng1 {x M : Int32} {n : Nat} (hM : M.toInt = n) (h : ¬ x < 1 ∧ ¬ M < x) : ∃ k, 1 ≤ k ∧ k ≤ n ∧ x = nI k := by
  have h0 : ¬ x < 0 := fun z => h.1 (by rw [lt_toInt] at z ⊢; have h0 : (0 : Int32).toInt = 0 := rfl; have h1 : (1 : Int32).toInt = 1 := rfl; omega)
  obtain ⟨k, hk, rfl⟩ := rng hM ⟨h0, h.2⟩
  refine ⟨k, ?_, hk, rfl⟩
  rcases Nat.eq_zero_or_pos k with z | z
  · subst z; exact absurd (by decide) h.1
  · exact z
theorem e_lt32 (x : Int32) : (¬ x < 0 ∧ x < 32) ↔ (¬ x < 0 ∧ ¬ 31 < x) := by
  rw [lt_toInt, lt_toInt, lt_toInt]
  have h0 : (0 : Int32).toInt = 0 := rfl
  have h1 : (32 : Int32).toInt = 32 := rfl
  have h2 : (31 : Int32).toInt = 31 := rfl
  omega
theorem e_lt16 (x : Int32) : (¬ x < 0 ∧ x < 16) ↔ (¬ x < 0 ∧ ¬ 15 < x) := by
  rw [lt_toInt, lt_toInt, lt_toInt]
  have h0 : (0 : Int32).toInt = 0 := rfl
  have h1 : (16 : Int32).toInt = 16 := rfl
  have h2 : (15 : Int32).toInt = 15 := rfl
  omega
theorem e_lt64k (x : Int32) : (¬ x < 0 ∧ x < 65536) ↔ (¬ x < 0 ∧ ¬ 65535 < x) := by
  rw [lt_toInt, lt_toInt, lt_toInt]
  have h0 : (0 : Int32).toInt = 0 := rfl
  have h1 : (65536 : Int32).toInt = 65536 := rfl
  have h2 : (65535 : Int32).toInt = 65535 := rfl
  omega
/-- outside 0 .. n -/
theorem out_of {x M : Int32} {n : Int} (hM : M.toInt = n) (h : ¬ (¬ x < 0 ∧ ¬ M < x)) : x.toInt < 0 ∨ n < x.toInt := by
  rw [lt_toInt, lt_toInt, hM] at h
  have h0 : (0 : Int32).toInt = 0 := rfl
  omega
theorem p_halves (c x : Int32) : PR DD 85 107 [some (.ref 1), some (.int c), some (.int x)] [some (.ref 30), some (.int c), some (.int x), none, none, none, none, none] := by
  intro B g g' hR hB
  obtain ⟨r, h1, h2⟩ := q_halves c x g g'
  exact pr_id _ hB hR h1 h2
theorem p_word (x : Int64) : PR DD 86 108 [some (.ref 1), some (.long x), none] [some (.ref 30), some (.long x), none, none, none] := by
  intro B g g' hR hB
  obtain ⟨r, h1, h2⟩ := q_word x g g' (k30 hR.1.2.1)
  exact pr_id _ hB hR h1 h2
theorem p_heard (b w : Int32) : PR DD 84 158 [some (.ref 1), some (.int b), some (.int w)] [some (.ref 30), some (.int b), some (.int w), none, none] := by
  intro B g g' hR hB
  obtain ⟨r, h1, h2⟩ := q_heard hR.1.1 hR.1.2.1 hR.1.2.2.1 b w
  exact pr_id _ hB hR h1 h2
theorem p_count (x : Int32) : PR DD 87 159 [some (.ref 1), some (.int x)] [some (.ref 30), some (.int x)] := by
  intro B g g' hR hB
  obtain ⟨hA, h4, hL, T, F, N, r, ⟨tT, tF, tr, tN⟩, ⟨a1, a2⟩, ⟨b1, b2⟩, ⟨c1, c2⟩, ⟨d1, d2⟩, hF, hT⟩ := id hR; obtain ⟨qc, qm, hRl, hS, hb, hw⟩ := id hA
  obtain ⟨e8, e9, e11, e7⟩ := id h4
  obtain ⟨_, s, S, A, _, ⟨h5, h21⟩, h6, _, hTI, hAL, hP, _⟩ := id hRl
  have k7 := hTI.1.1
  have hal : ji g 7 2 = ji g' 30 29 := by rw [hTI.2.2.1, hAL.2.1, hP.length_eq]
  have e5 : ji g 2 5 = ji g' 30 21 := h5.trans h21.symm
  by_cases c : ¬ x < 0 ∧ ¬ 7 < x
  · obtain ⟨k, hk, rfl⟩ := rng (M := 7) (n := 7) rfl c
    rcases (show k = 0 ∨ k = 1 ∨ k = 2 ∨ k = 3 ∨ k = 4 ∨ k = 5 ∨ k = 6 ∨ k = 7 by omega) with rfl | rfl | rfl | rfl | rfl | rfl | rfl | rfl
    · refine pr_id (.int (ji g' 30 22)) hB hR ?_ ?_
      · simp only [show nI 0 = 0 from rfl, s87_0, s87_1c0, s87_1c1, s87_1c2, s87_1c3, s87_1c4, s87_1c5, s87_1c6, s87_1c7, s87_1d, s87_48, s87_49, s87_52, s87_55, s87_56, s87_57, s87_60, s87_63, s87_64, s87_65, s87_68, s87_69, s87_70, s87_73, s87_74, s87_75, s87_78, s87_79, s87_80, s87_83, s87_84, s87_85, s87_88, s87_91, s87_94, s87_95, s87_96, s87_99, s87_100, s87_101, k1 qc, k2 qc, p1_0 qc, h6, ↓reduceIte, va_rf_s, va_rf_n, jb_some, jb_none, jtl_s, jtl_n, if_true, if_false, true_and, and_true, false_and, and_false, or_true, true_or, or_false, false_or, not_true_eq_false, not_false_eq_true, jk_si, jp_si, jj_si, jk_sj, jp_sj, ji_sj, jk_ci, jp_ci, jj_ci, jk_cj, jp_cj, ji_cj, jlng_n, jlng_i, jlng_r, jlng_0]
      · simp only [show nI 0 = 0 from rfl, s159_0, s159_1c0, s159_1c1, s159_1c2, s159_1c3, s159_1c4, s159_1c5, s159_1c6, s159_1c7, s159_1d, s159_48, s159_49, s159_52, s159_53, s159_54, s159_57, s159_58, s159_59, s159_62, s159_63, s159_64, s159_67, s159_68, s159_69, s159_72, s159_73, s159_74, s159_77, s159_78, s159_79, s159_82, s159_83, s159_84, s159_87, s159_88, s159_89, k30 qm, ↓reduceIte, va_rf_s, va_rf_n, jb_some, jb_none, jtl_s, jtl_n, if_true, if_false, true_and, and_true, false_and, and_false, or_true, true_or, or_false, false_or, not_true_eq_false, not_false_eq_true, jk_si, jp_si, jj_si, jk_sj, jp_sj, ji_sj, jk_ci, jp_ci, jj_ci, jk_cj, jp_cj, ji_cj, jlng_n, jlng_i, jlng_r, jlng_0]
    · refine pr_id (.int (ji g' 30 21)) hB hR ?_ ?_
      · simp only [show nI 1 = 1 from rfl, s87_0, s87_1c0, s87_1c1, s87_1c2, s87_1c3, s87_1c4, s87_1c5, s87_1c6, s87_1c7, s87_1d, s87_48, s87_49, s87_52, s87_55, s87_56, s87_57, s87_60, s87_63, s87_64, s87_65, s87_68, s87_69, s87_70, s87_73, s87_74, s87_75, s87_78, s87_79, s87_80, s87_83, s87_84, s87_85, s87_88, s87_91, s87_94, s87_95, s87_96, s87_99, s87_100, s87_101, k1 qc, k2 qc, p1_0 qc, e5, ↓reduceIte, va_rf_s, va_rf_n, jb_some, jb_none, jtl_s, jtl_n, if_true, if_false, true_and, and_true, false_and, and_false, or_true, true_or, or_false, false_or, not_true_eq_false, not_false_eq_true, jk_si, jp_si, jj_si, jk_sj, jp_sj, ji_sj, jk_ci, jp_ci, jj_ci, jk_cj, jp_cj, ji_cj, jlng_n, jlng_i, jlng_r, jlng_0]
      · simp only [show nI 1 = 1 from rfl, s159_0, s159_1c0, s159_1c1, s159_1c2, s159_1c3, s159_1c4, s159_1c5, s159_1c6, s159_1c7, s159_1d, s159_48, s159_49, s159_52, s159_53, s159_54, s159_57, s159_58, s159_59, s159_62, s159_63, s159_64, s159_67, s159_68, s159_69, s159_72, s159_73, s159_74, s159_77, s159_78, s159_79, s159_82, s159_83, s159_84, s159_87, s159_88, s159_89, k30 qm, ↓reduceIte, va_rf_s, va_rf_n, jb_some, jb_none, jtl_s, jtl_n, if_true, if_false, true_and, and_true, false_and, and_false, or_true, true_or, or_false, false_or, not_true_eq_false, not_false_eq_true, jk_si, jp_si, jj_si, jk_sj, jp_sj, ji_sj, jk_ci, jp_ci, jj_ci, jk_cj, jp_cj, ji_cj, jlng_n, jlng_i, jlng_r, jlng_0]
    · refine pr_id (.int (ji g' 30 44)) hB hR ?_ ?_
      · simp only [show nI 2 = 2 from rfl, s87_0, s87_1c0, s87_1c1, s87_1c2, s87_1c3, s87_1c4, s87_1c5, s87_1c6, s87_1c7, s87_1d, s87_48, s87_49, s87_52, s87_55, s87_56, s87_57, s87_60, s87_63, s87_64, s87_65, s87_68, s87_69, s87_70, s87_73, s87_74, s87_75, s87_78, s87_79, s87_80, s87_83, s87_84, s87_85, s87_88, s87_91, s87_94, s87_95, s87_96, s87_99, s87_100, s87_101, k1 qc, e8, ↓reduceIte, va_rf_s, va_rf_n, jb_some, jb_none, jtl_s, jtl_n, if_true, if_false, true_and, and_true, false_and, and_false, or_true, true_or, or_false, false_or, not_true_eq_false, not_false_eq_true, jk_si, jp_si, jj_si, jk_sj, jp_sj, ji_sj, jk_ci, jp_ci, jj_ci, jk_cj, jp_cj, ji_cj, jlng_n, jlng_i, jlng_r, jlng_0]
      · simp only [show nI 2 = 2 from rfl, s159_0, s159_1c0, s159_1c1, s159_1c2, s159_1c3, s159_1c4, s159_1c5, s159_1c6, s159_1c7, s159_1d, s159_48, s159_49, s159_52, s159_53, s159_54, s159_57, s159_58, s159_59, s159_62, s159_63, s159_64, s159_67, s159_68, s159_69, s159_72, s159_73, s159_74, s159_77, s159_78, s159_79, s159_82, s159_83, s159_84, s159_87, s159_88, s159_89, k30 qm, ↓reduceIte, va_rf_s, va_rf_n, jb_some, jb_none, jtl_s, jtl_n, if_true, if_false, true_and, and_true, false_and, and_false, or_true, true_or, or_false, false_or, not_true_eq_false, not_false_eq_true, jk_si, jp_si, jj_si, jk_sj, jp_sj, ji_sj, jk_ci, jp_ci, jj_ci, jk_cj, jp_cj, ji_cj, jlng_n, jlng_i, jlng_r, jlng_0]
    · refine pr_id (.int (ji g' 30 45)) hB hR ?_ ?_
      · simp only [show nI 3 = 3 from rfl, s87_0, s87_1c0, s87_1c1, s87_1c2, s87_1c3, s87_1c4, s87_1c5, s87_1c6, s87_1c7, s87_1d, s87_48, s87_49, s87_52, s87_55, s87_56, s87_57, s87_60, s87_63, s87_64, s87_65, s87_68, s87_69, s87_70, s87_73, s87_74, s87_75, s87_78, s87_79, s87_80, s87_83, s87_84, s87_85, s87_88, s87_91, s87_94, s87_95, s87_96, s87_99, s87_100, s87_101, k1 qc, e9, ↓reduceIte, va_rf_s, va_rf_n, jb_some, jb_none, jtl_s, jtl_n, if_true, if_false, true_and, and_true, false_and, and_false, or_true, true_or, or_false, false_or, not_true_eq_false, not_false_eq_true, jk_si, jp_si, jj_si, jk_sj, jp_sj, ji_sj, jk_ci, jp_ci, jj_ci, jk_cj, jp_cj, ji_cj, jlng_n, jlng_i, jlng_r, jlng_0]
      · simp only [show nI 3 = 3 from rfl, s159_0, s159_1c0, s159_1c1, s159_1c2, s159_1c3, s159_1c4, s159_1c5, s159_1c6, s159_1c7, s159_1d, s159_48, s159_49, s159_52, s159_53, s159_54, s159_57, s159_58, s159_59, s159_62, s159_63, s159_64, s159_67, s159_68, s159_69, s159_72, s159_73, s159_74, s159_77, s159_78, s159_79, s159_82, s159_83, s159_84, s159_87, s159_88, s159_89, k30 qm, ↓reduceIte, va_rf_s, va_rf_n, jb_some, jb_none, jtl_s, jtl_n, if_true, if_false, true_and, and_true, false_and, and_false, or_true, true_or, or_false, false_or, not_true_eq_false, not_false_eq_true, jk_si, jp_si, jj_si, jk_sj, jp_sj, ji_sj, jk_ci, jp_ci, jj_ci, jk_cj, jp_cj, ji_cj, jlng_n, jlng_i, jlng_r, jlng_0]
    · refine pr_id (.int (nI T)) hB hR ?_ ?_
      · simp only [show nI 4 = 4 from rfl, s87_0, s87_1c0, s87_1c1, s87_1c2, s87_1c3, s87_1c4, s87_1c5, s87_1c6, s87_1c7, s87_1d, s87_48, s87_49, s87_52, s87_55, s87_56, s87_57, s87_60, s87_63, s87_64, s87_65, s87_68, s87_69, s87_70, s87_73, s87_74, s87_75, s87_78, s87_79, s87_80, s87_83, s87_84, s87_85, s87_88, s87_91, s87_94, s87_95, s87_96, s87_99, s87_100, s87_101, k1 qc, a1, ↓reduceIte, va_rf_s, va_rf_n, jb_some, jb_none, jtl_s, jtl_n, if_true, if_false, true_and, and_true, false_and, and_false, or_true, true_or, or_false, false_or, not_true_eq_false, not_false_eq_true, jk_si, jp_si, jj_si, jk_sj, jp_sj, ji_sj, jk_ci, jp_ci, jj_ci, jk_cj, jp_cj, ji_cj, jlng_n, jlng_i, jlng_r, jlng_0]
      · simp only [show nI 4 = 4 from rfl, s159_0, s159_1c0, s159_1c1, s159_1c2, s159_1c3, s159_1c4, s159_1c5, s159_1c6, s159_1c7, s159_1d, s159_48, s159_49, s159_52, s159_53, s159_54, s159_57, s159_58, s159_59, s159_62, s159_63, s159_64, s159_67, s159_68, s159_69, s159_72, s159_73, s159_74, s159_77, s159_78, s159_79, s159_82, s159_83, s159_84, s159_87, s159_88, s159_89, k30 qm, a2, ↓reduceIte, va_rf_s, va_rf_n, jb_some, jb_none, jtl_s, jtl_n, if_true, if_false, true_and, and_true, false_and, and_false, or_true, true_or, or_false, false_or, not_true_eq_false, not_false_eq_true, jk_si, jp_si, jj_si, jk_sj, jp_sj, ji_sj, jk_ci, jp_ci, jj_ci, jk_cj, jp_cj, ji_cj, jlng_n, jlng_i, jlng_r, jlng_0]
    · refine pr_id (.int (nI F)) hB hR ?_ ?_
      · simp only [show nI 5 = 5 from rfl, s87_0, s87_1c0, s87_1c1, s87_1c2, s87_1c3, s87_1c4, s87_1c5, s87_1c6, s87_1c7, s87_1d, s87_48, s87_49, s87_52, s87_55, s87_56, s87_57, s87_60, s87_63, s87_64, s87_65, s87_68, s87_69, s87_70, s87_73, s87_74, s87_75, s87_78, s87_79, s87_80, s87_83, s87_84, s87_85, s87_88, s87_91, s87_94, s87_95, s87_96, s87_99, s87_100, s87_101, k1 qc, b1, ↓reduceIte, va_rf_s, va_rf_n, jb_some, jb_none, jtl_s, jtl_n, if_true, if_false, true_and, and_true, false_and, and_false, or_true, true_or, or_false, false_or, not_true_eq_false, not_false_eq_true, jk_si, jp_si, jj_si, jk_sj, jp_sj, ji_sj, jk_ci, jp_ci, jj_ci, jk_cj, jp_cj, ji_cj, jlng_n, jlng_i, jlng_r, jlng_0]
      · simp only [show nI 5 = 5 from rfl, s159_0, s159_1c0, s159_1c1, s159_1c2, s159_1c3, s159_1c4, s159_1c5, s159_1c6, s159_1c7, s159_1d, s159_48, s159_49, s159_52, s159_53, s159_54, s159_57, s159_58, s159_59, s159_62, s159_63, s159_64, s159_67, s159_68, s159_69, s159_72, s159_73, s159_74, s159_77, s159_78, s159_79, s159_82, s159_83, s159_84, s159_87, s159_88, s159_89, k30 qm, b2, ↓reduceIte, va_rf_s, va_rf_n, jb_some, jb_none, jtl_s, jtl_n, if_true, if_false, true_and, and_true, false_and, and_false, or_true, true_or, or_false, false_or, not_true_eq_false, not_false_eq_true, jk_si, jp_si, jj_si, jk_sj, jp_sj, ji_sj, jk_ci, jp_ci, jj_ci, jk_cj, jp_cj, ji_cj, jlng_n, jlng_i, jlng_r, jlng_0]
    · refine pr_id (.int (ji g' 30 29)) hB hR ?_ ?_
      · simp only [show nI 6 = 6 from rfl, s87_0, s87_1c0, s87_1c1, s87_1c2, s87_1c3, s87_1c4, s87_1c5, s87_1c6, s87_1c7, s87_1d, s87_48, s87_49, s87_52, s87_55, s87_56, s87_57, s87_60, s87_63, s87_64, s87_65, s87_68, s87_69, s87_70, s87_73, s87_74, s87_75, s87_78, s87_79, s87_80, s87_83, s87_84, s87_85, s87_88, s87_91, s87_94, s87_95, s87_96, s87_99, s87_100, s87_101, k1 qc, k2 qc, p1_0 qc, p2_4 qc, k7, hal, ↓reduceIte, va_rf_s, va_rf_n, jb_some, jb_none, jtl_s, jtl_n, if_true, if_false, true_and, and_true, false_and, and_false, or_true, true_or, or_false, false_or, not_true_eq_false, not_false_eq_true, jk_si, jp_si, jj_si, jk_sj, jp_sj, ji_sj, jk_ci, jp_ci, jj_ci, jk_cj, jp_cj, ji_cj, jlng_n, jlng_i, jlng_r, jlng_0]
      · simp only [show nI 6 = 6 from rfl, s159_0, s159_1c0, s159_1c1, s159_1c2, s159_1c3, s159_1c4, s159_1c5, s159_1c6, s159_1c7, s159_1d, s159_48, s159_49, s159_52, s159_53, s159_54, s159_57, s159_58, s159_59, s159_62, s159_63, s159_64, s159_67, s159_68, s159_69, s159_72, s159_73, s159_74, s159_77, s159_78, s159_79, s159_82, s159_83, s159_84, s159_87, s159_88, s159_89, k30 qm, ↓reduceIte, va_rf_s, va_rf_n, jb_some, jb_none, jtl_s, jtl_n, if_true, if_false, true_and, and_true, false_and, and_false, or_true, true_or, or_false, false_or, not_true_eq_false, not_false_eq_true, jk_si, jp_si, jj_si, jk_sj, jp_sj, ji_sj, jk_ci, jp_ci, jj_ci, jk_cj, jp_cj, ji_cj, jlng_n, jlng_i, jlng_r, jlng_0]
    · refine pr_id (.int (nI N)) hB hR ?_ ?_
      · simp only [show nI 7 = 7 from rfl, s87_0, s87_1c0, s87_1c1, s87_1c2, s87_1c3, s87_1c4, s87_1c5, s87_1c6, s87_1c7, s87_1d, s87_48, s87_49, s87_52, s87_55, s87_56, s87_57, s87_60, s87_63, s87_64, s87_65, s87_68, s87_69, s87_70, s87_73, s87_74, s87_75, s87_78, s87_79, s87_80, s87_83, s87_84, s87_85, s87_88, s87_91, s87_94, s87_95, s87_96, s87_99, s87_100, s87_101, k1 qc, c1, ↓reduceIte, va_rf_s, va_rf_n, jb_some, jb_none, jtl_s, jtl_n, if_true, if_false, true_and, and_true, false_and, and_false, or_true, true_or, or_false, false_or, not_true_eq_false, not_false_eq_true, jk_si, jp_si, jj_si, jk_sj, jp_sj, ji_sj, jk_ci, jp_ci, jj_ci, jk_cj, jp_cj, ji_cj, jlng_n, jlng_i, jlng_r, jlng_0]
      · simp only [show nI 7 = 7 from rfl, s159_0, s159_1c0, s159_1c1, s159_1c2, s159_1c3, s159_1c4, s159_1c5, s159_1c6, s159_1c7, s159_1d, s159_48, s159_49, s159_52, s159_53, s159_54, s159_57, s159_58, s159_59, s159_62, s159_63, s159_64, s159_67, s159_68, s159_69, s159_72, s159_73, s159_74, s159_77, s159_78, s159_79, s159_82, s159_83, s159_84, s159_87, s159_88, s159_89, k30 qm, c2, ↓reduceIte, va_rf_s, va_rf_n, jb_some, jb_none, jtl_s, jtl_n, if_true, if_false, true_and, and_true, false_and, and_false, or_true, true_or, or_false, false_or, not_true_eq_false, not_false_eq_true, jk_si, jp_si, jj_si, jk_sj, jp_sj, ji_sj, jk_ci, jp_ci, jj_ci, jk_cj, jp_cj, ji_cj, jlng_n, jlng_i, jlng_r, jlng_0]
  · have hx := out_of (M := 7) (n := 7) rfl c
    refine pr_id (.int (-1)) hB hR ?_ ?_
    · simp only [s87_0, s87_1d (hx := hx), s87_100, s87_101, ↓reduceIte, va_rf_s, va_rf_n, jb_some, jb_none, jtl_s, jtl_n, if_true, if_false, true_and, and_true, false_and, and_false, or_true, true_or, or_false, false_or, not_true_eq_false, not_false_eq_true, jk_si, jp_si, jj_si, jk_sj, jp_sj, ji_sj, jk_ci, jp_ci, jj_ci, jk_cj, jp_cj, ji_cj, jlng_n, jlng_i, jlng_r, jlng_0]
    · simp only [s159_0, s159_1d (hx := hx), s159_88, s159_89, ↓reduceIte, va_rf_s, va_rf_n, jb_some, jb_none, jtl_s, jtl_n, if_true, if_false, true_and, and_true, false_and, and_false, or_true, true_or, or_false, false_or, not_true_eq_false, not_false_eq_true, jk_si, jp_si, jj_si, jk_sj, jp_sj, ji_sj, jk_ci, jp_ci, jj_ci, jk_cj, jp_cj, ji_cj, jlng_n, jlng_i, jlng_r, jlng_0]
/-- the scalars of the class's own object and of the reference's -/
theorem RR.sc {B T F N r : Nat} {g g' h h' : jH} {P P' : Nat → Nat → Prop} (hA : AT B g g') (hL : LB g) (hT : TRF T g g') (f : Fr P g h) (f' : Fr P' g' h') (h1 : ∀ b k, P b k → b = 1 ∨ b = 29) (h2 : ∀ b k, P' b k → (b = 30 ∧ 40 ≤ k ∧ k ≤ 47) ∨ b = 67) (h4 : SC4 h h') (hb : T ≤ 24 ∧ F ≤ 8 ∧ r ≤ 2 ∧ (N < F ∨ (N = 0 ∧ F = 0))) (e1 : ji h 1 5 = nI T ∧ ji h' 30 40 = nI T) (e2 : ji h 1 6 = nI F ∧ ji h' 30 42 = nI F) (e3 : ji h 1 7 = nI N ∧ ji h' 30 43 = nI N) (e4 : ji h 1 10 = nI r ∧ ji h' 30 46 = nI r) (hF : FE T F h h') : RR B h h' :=
  ⟨hA.sc f f' (fun b k z => (h1 b k z).elim Or.inl (fun y => Or.inr (Or.inl y))) (fun b k z => (h2 b k z).elim (fun y => Or.inl ⟨y.1, Or.inr y.2⟩) Or.inr), h4, hL.fr f, T, F, N, r, hb, e1, e2, e3, e4, hF, hT.fr f f' (fun b k z y => by have := h1 b k y; omega) (fun b k z1 z2 y => by have := h2 b k y; omega)⟩
theorem p_retries (x : Int32) : PR DD 77 152 [some (.ref 1), some (.int x)] [some (.ref 30), some (.int x)] := by
  intro B g g' hR hB
  obtain ⟨hA, h4, hL, T, F, N, r, ⟨tT, tF, tr, tN⟩, ⟨a1, a2⟩, ⟨b1, b2⟩, ⟨c1, c2⟩, ⟨d1, d2⟩, hF, hT⟩ := id hR; obtain ⟨qc, qm, hRl, hS, hb, hw⟩ := id hA
  obtain ⟨e8, e9, e11, e7⟩ := id h4
  have w1 := c_within x 0 2 g
  have w2 := c_isIn x 0 2 g'
  by_cases c : ¬ x < 0 ∧ ¬ 2 < x
  · rw [jB_t c] at w1 w2
    obtain ⟨k, hk, rfl⟩ := rng (M := 2) (n := 2) rfl c
    have f : Fr (fun b j => b = 1 ∧ j = 10) g (jsi g 1 10 (nI k)) := (Fr.refl g).si ⟨rfl, rfl⟩
    have f' : Fr (fun b j => b = 30 ∧ j = 46) g' (jsi g' 30 46 (nI k)) := (Fr.refl g').si ⟨rfl, rfl⟩
    refine pr_fr (.int 1) hB ?_ ?_ ((RR.sc hA hL hT f f' (fun b k z => Or.inl z.1) (fun b k z => Or.inl ⟨z.1, by omega, by omega⟩) ⟨by rw [f.i (by omega), f'.i (by omega)]; exact e8, by rw [f.i (by omega), f'.i (by omega)]; exact e9, by rw [f.i (by omega), f'.i (by omega)]; exact e11, by rw [f.i (by omega), f'.i (by omega)]; exact e7⟩ ⟨tT, tF, hk, tN⟩ ⟨by rw [f.i (by omega)]; exact a1, by rw [f'.i (by omega)]; exact a2⟩ ⟨by rw [f.i (by omega)]; exact b1, by rw [f'.i (by omega)]; exact b2⟩ ⟨by rw [f.i (by omega)]; exact c1, by rw [f'.i (by omega)]; exact c2⟩ ⟨by simp [ji_si], by simp [ji_si]⟩ (hF.fr f f' (fun k => by omega) (fun k => by omega))).mono (Nat.le_add_right _ _) hB) f f' (fun b k z => by omega) (fun b k z => by omega)
    · simp only [s77_0, s77_1, s77_2, s77_3, s77_6, s77_9, s77_10, s77_11, s77_12, s77_13, s77_16, s77_17, w1, k1 qc, n1, ↓reduceIte, va_rf_s, va_rf_n, jb_some, jb_none, jtl_s, jtl_n, if_true, if_false, true_and, and_true, false_and, and_false, or_true, true_or, or_false, false_or, not_true_eq_false, not_false_eq_true, jk_si, jp_si, jj_si, jk_sj, jp_sj, ji_sj, jk_ci, jp_ci, jj_ci, jk_cj, jp_cj, ji_cj, jlng_n, jlng_i, jlng_r, jlng_0]
    · simp only [s152_0, s152_1, s152_2, s152_3, s152_6, s152_9, s152_10, s152_11, s152_12, s152_13, s152_16, s152_17, w2, k30 qm, n1, ↓reduceIte, va_rf_s, va_rf_n, jb_some, jb_none, jtl_s, jtl_n, if_true, if_false, true_and, and_true, false_and, and_false, or_true, true_or, or_false, false_or, not_true_eq_false, not_false_eq_true, jk_si, jp_si, jj_si, jk_sj, jp_sj, ji_sj, jk_ci, jp_ci, jj_ci, jk_cj, jp_cj, ji_cj, jlng_n, jlng_i, jlng_r, jlng_0]
  · rw [jB_f c] at w1 w2
    refine pr_id (.int 0) hB hR ?_ ?_
    · simp only [s77_0, s77_1, s77_2, s77_3, s77_6, s77_9, s77_10, s77_11, s77_12, s77_13, s77_16, s77_17, w1, ↓reduceIte, va_rf_s, va_rf_n, jb_some, jb_none, jtl_s, jtl_n, if_true, if_false, true_and, and_true, false_and, and_false, or_true, true_or, or_false, false_or, not_true_eq_false, not_false_eq_true, jk_si, jp_si, jj_si, jk_sj, jp_sj, ji_sj, jk_ci, jp_ci, jj_ci, jk_cj, jp_cj, ji_cj, jlng_n, jlng_i, jlng_r, jlng_0]
    · simp only [s152_0, s152_1, s152_2, s152_3, s152_6, s152_9, s152_10, s152_11, s152_12, s152_13, s152_16, s152_17, w2, ↓reduceIte, va_rf_s, va_rf_n, jb_some, jb_none, jtl_s, jtl_n, if_true, if_false, true_and, and_true, false_and, and_false, or_true, true_or, or_false, false_or, not_true_eq_false, not_false_eq_true, jk_si, jp_si, jj_si, jk_sj, jp_sj, ji_sj, jk_ci, jp_ci, jj_ci, jk_cj, jp_cj, ji_cj, jlng_n, jlng_i, jlng_r, jlng_0]
theorem p_period (x : Int32) : PR DD 78 153 [some (.ref 1), some (.int x)] [some (.ref 30), some (.int x)] := by
  intro B g g' hR hB
  obtain ⟨hA, h4, hL, T, F, N, r, ⟨tT, tF, tr, tN⟩, ⟨a1, a2⟩, ⟨b1, b2⟩, ⟨c1, c2⟩, ⟨d1, d2⟩, hF, hT⟩ := id hR; obtain ⟨qc, qm, hRl, hS, hb, hw⟩ := id hA
  obtain ⟨e8, e9, e11, e7⟩ := id h4
  have w1 := c_within x 0 100000 g
  have w2 := c_isIn x 0 100000 g'
  by_cases c : ¬ x < 0 ∧ ¬ 100000 < x
  · rw [jB_t c] at w1 w2
    have f : Fr (fun b j => b = 1 ∧ j = 11) g (jsi g 1 11 x) := (Fr.refl g).si ⟨rfl, rfl⟩
    have f' : Fr (fun b j => b = 30 ∧ j = 47) g' (jsi g' 30 47 x) := (Fr.refl g').si ⟨rfl, rfl⟩
    refine pr_fr (.int 1) hB ?_ ?_ ((RR.sc hA hL hT f f' (fun b k z => Or.inl z.1) (fun b k z => Or.inl ⟨z.1, by omega, by omega⟩) ⟨by rw [f.i (by omega), f'.i (by omega)]; exact e8, by rw [f.i (by omega), f'.i (by omega)]; exact e9, by rw [ji_si, if_pos ⟨rfl, rfl⟩, ji_si, if_pos ⟨rfl, rfl⟩], by rw [f.i (by omega), f'.i (by omega)]; exact e7⟩ ⟨tT, tF, tr, tN⟩ ⟨by rw [f.i (by omega)]; exact a1, by rw [f'.i (by omega)]; exact a2⟩ ⟨by rw [f.i (by omega)]; exact b1, by rw [f'.i (by omega)]; exact b2⟩ ⟨by rw [f.i (by omega)]; exact c1, by rw [f'.i (by omega)]; exact c2⟩ ⟨by rw [f.i (by omega)]; exact d1, by rw [f'.i (by omega)]; exact d2⟩ (hF.fr f f' (fun k => by omega) (fun k => by omega))).mono (Nat.le_add_right _ _) hB) f f' (fun b k z => by omega) (fun b k z => by omega)
    · simp only [s78_0, s78_1, s78_2, s78_4, s78_7, s78_10, s78_11, s78_12, s78_13, s78_14, s78_17, s78_18, w1, k1 qc, n1, ↓reduceIte, va_rf_s, va_rf_n, jb_some, jb_none, jtl_s, jtl_n, if_true, if_false, true_and, and_true, false_and, and_false, or_true, true_or, or_false, false_or, not_true_eq_false, not_false_eq_true, jk_si, jp_si, jj_si, jk_sj, jp_sj, ji_sj, jk_ci, jp_ci, jj_ci, jk_cj, jp_cj, ji_cj, jlng_n, jlng_i, jlng_r, jlng_0]
    · simp only [s153_0, s153_1, s153_2, s153_5, s153_8, s153_11, s153_12, s153_13, s153_14, s153_15, s153_18, s153_19, w2, k30 qm, n1, ↓reduceIte, va_rf_s, va_rf_n, jb_some, jb_none, jtl_s, jtl_n, if_true, if_false, true_and, and_true, false_and, and_false, or_true, true_or, or_false, false_or, not_true_eq_false, not_false_eq_true, jk_si, jp_si, jj_si, jk_sj, jp_sj, ji_sj, jk_ci, jp_ci, jj_ci, jk_cj, jp_cj, ji_cj, jlng_n, jlng_i, jlng_r, jlng_0]
  · rw [jB_f c] at w1 w2
    refine pr_id (.int 0) hB hR ?_ ?_
    · simp only [s78_0, s78_1, s78_2, s78_4, s78_7, s78_10, s78_11, s78_12, s78_13, s78_14, s78_17, s78_18, w1, ↓reduceIte, va_rf_s, va_rf_n, jb_some, jb_none, jtl_s, jtl_n, if_true, if_false, true_and, and_true, false_and, and_false, or_true, true_or, or_false, false_or, not_true_eq_false, not_false_eq_true, jk_si, jp_si, jj_si, jk_sj, jp_sj, ji_sj, jk_ci, jp_ci, jj_ci, jk_cj, jp_cj, ji_cj, jlng_n, jlng_i, jlng_r, jlng_0]
    · simp only [s153_0, s153_1, s153_2, s153_5, s153_8, s153_11, s153_12, s153_13, s153_14, s153_15, s153_18, s153_19, w2, ↓reduceIte, va_rf_s, va_rf_n, jb_some, jb_none, jtl_s, jtl_n, if_true, if_false, true_and, and_true, false_and, and_false, or_true, true_or, or_false, false_or, not_true_eq_false, not_false_eq_true, jk_si, jp_si, jj_si, jk_sj, jp_sj, ji_sj, jk_ci, jp_ci, jj_ci, jk_cj, jp_cj, ji_cj, jlng_n, jlng_i, jlng_r, jlng_0]
theorem p_alter (a : Int32) (v : Int64) : PR DD 80 154 [some (.ref 1), some (.int a), some (.long v), none] [some (.ref 30), some (.int a), some (.long v), none, none] := by
  intro B g g' hR hB
  obtain ⟨hA, h4, hL, T, F, N, r, ⟨tT, tF, tr, tN⟩, ⟨a1, a2⟩, ⟨b1, b2⟩, ⟨c1, c2⟩, ⟨d1, d2⟩, hF, hT⟩ := id hR; obtain ⟨qc, qm, hRl, hS, hb, hw⟩ := id hA
  obtain ⟨e8, e9, e11, e7⟩ := id h4
  obtain ⟨x, G, G', h1, h2, h3, f, f'⟩ := q_alter qc qm hRl a v
  obtain ⟨⟨L1, w1⟩, ⟨L2, w2⟩, ⟨L3, w3⟩, ⟨L4, w4⟩, ⟨L5, w5⟩⟩ := hw
  have hA1 : AT B G G' := ⟨f.cs qc, f'.ms qm, h3, hS.fr f f' (fun b k z => by omega) (fun b k z1 z2 => by omega), hb.fr f f' (fun k => by omega) (fun k => by omega), ⟨L1, w1.fr f (fun b k z1 z2 => by omega)⟩, ⟨L2, w2.fr f (fun b k z1 z2 => by omega)⟩, ⟨L3, w3.fr f (fun b k z1 z2 => by omega)⟩, ⟨L4, w4.fr f (fun b k z1 z2 => by omega)⟩, ⟨L5, w5.fr f (fun b k z1 z2 => by omega)⟩⟩
  have hR1 : RR B G G' := ⟨hA1, ⟨by rw [f.i (by omega), f'.i (by omega)]; exact e8, by rw [f.i (by omega), f'.i (by omega)]; exact e9, by rw [f.i (by omega), f'.i (by omega)]; exact e11, by rw [f.i (by omega), f'.i (by omega)]; exact e7⟩, hL.fr f, T, F, N, r, ⟨tT, tF, tr, tN⟩, ⟨by rw [f.i (by omega)]; exact a1, by rw [f'.i (by omega)]; exact a2⟩, ⟨by rw [f.i (by omega)]; exact b1, by rw [f'.i (by omega)]; exact b2⟩, ⟨by rw [f.i (by omega)]; exact c1, by rw [f'.i (by omega)]; exact c2⟩, ⟨by rw [f.i (by omega)]; exact d1, by rw [f'.i (by omega)]; exact d2⟩, hF.fr f f' (fun k => by omega) (fun k => by omega), hT.fr f f' (fun b k z => by omega) (fun b k z1 z2 => by omega)⟩
  exact pr_fr _ hB h1 h2 (hR1.mono (Nat.le_add_right _ _) hB) f f' (fun b k z => by omega) (fun b k z => by omega)
theorem p_run (x : Int32) : PR DD 79 139 [some (.ref 1), some (.int x), none, none, none, none, none] [some (.ref 30), some (.int x), none, none, none, none, none] := by
  intro B g g' hR hB
  obtain ⟨hA, h4, hL, T, F, N, r, ⟨tT, tF, tr, tN⟩, ⟨a1, a2⟩, ⟨b1, b2⟩, ⟨c1, c2⟩, ⟨d1, d2⟩, hF, hT⟩ := id hR; obtain ⟨qc, qm, hRl, hS, hb, hw⟩ := id hA
  obtain ⟨e8, e9, e11, e7⟩ := id h4
  have w1 := c_within x 1 8 g
  have w2 := c_isIn x 1 8 g'
  by_cases c : ¬ x < 1 ∧ ¬ 8 < x
  · rw [jB_t c] at w1 w2
    obtain ⟨k, hk1, hk, rfl⟩ := rng1 (M := 8) (n := 8) rfl c
    by_cases z : F = 0
    · subst z
      refine pr_id (.int (-1)) hB hR ?_ ?_
      · simp only [s79_0, s79_1, s79_2, s79_4, s79_7, s79_10, s79_11, s79_14, s79_17, s79_18, w1, k1 qc, b1, n1, eq_true (show nI 0 = 0 from rfl), ↓reduceIte, va_rf_s, va_rf_n, jb_some, jb_none, jtl_s, jtl_n, if_true, if_false, true_and, and_true, false_and, and_false, or_true, true_or, or_false, false_or, not_true_eq_false, not_false_eq_true, jk_si, jp_si, jj_si, jk_sj, jp_sj, ji_sj, jk_ci, jp_ci, jj_ci, jk_cj, jp_cj, ji_cj, jlng_n, jlng_i, jlng_r, jlng_0]
      · simp only [s139_0, s139_1, s139_2, s139_4, s139_7, s139_10, s139_11, s139_14, s139_17, s139_18, w2, k30 qm, b2, n1, eq_true (show nI 0 = 0 from rfl), ↓reduceIte, va_rf_s, va_rf_n, jb_some, jb_none, jtl_s, jtl_n, if_true, if_false, true_and, and_true, false_and, and_false, or_true, true_or, or_false, false_or, not_true_eq_false, not_false_eq_true, jk_si, jp_si, jj_si, jk_sj, jp_sj, ji_sj, jk_ci, jp_ci, jj_ci, jk_cj, jp_cj, ji_cj, jlng_n, jlng_i, jlng_r, jlng_0]
    · have nz : ¬ nI F = 0 := fun w => z ((e_eq (b := 0) (by omega) (by omega)).mp w)
      have hle : 303840 * k ≤ 2430720 := Nat.mul_le_mul_left 303840 hk
      obtain ⟨G, G', d, N', r1, r2, r3, r4, r5, r6, r7, r8, r9⟩ := ru_out (many := k) tT tF tr hk k 0 B N g g' 0 none none none none none none (by omega) (by omega) hA h4 ⟨a1, a2⟩ ⟨b1, b2⟩ ⟨c1, c2⟩ ⟨d1, d2⟩ hF hT (Nat.lt_of_le_of_lt (Nat.add_le_add_left hle B) hB)
      rw [show nI 0 = 0 from rfl] at r1 r2
      have hR1 : RR (B + 303840 * k) G G' := ⟨r4, r5, hL.fr r8, T, F, N', r, ⟨tT, tF, tr, Or.inl r3⟩, ⟨by rw [r8.i (by omega)]; exact a1, by rw [r9.i (by omega)]; exact a2⟩, ⟨by rw [r8.i (by omega)]; exact b1, by rw [r9.i (by omega)]; exact b2⟩, r6, ⟨by rw [r8.i (by omega)]; exact d1, by rw [r9.i (by omega)]; exact d2⟩, hF.fr r8 r9 (fun k => by omega) (fun k => by omega), r7⟩
      refine pr_fr (.int d) hB ?_ ?_ (hR1.mono (Nat.add_le_add_left hle B) hB) r8 r9 (fun b k z => by omega) (fun b k z => by omega)
      · simp only [s79_0, s79_1, s79_2, s79_4, s79_7, s79_10, s79_11, s79_14, s79_17, s79_18, s79_19, s79_20, s79_21, s79_22, w1, k1 qc, b1, n1, nz, r1, ↓reduceIte, va_rf_s, va_rf_n, jb_some, jb_none, jtl_s, jtl_n, if_true, if_false, true_and, and_true, false_and, and_false, or_true, true_or, or_false, false_or, not_true_eq_false, not_false_eq_true, jk_si, jp_si, jj_si, jk_sj, jp_sj, ji_sj, jk_ci, jp_ci, jj_ci, jk_cj, jp_cj, ji_cj, jlng_n, jlng_i, jlng_r, jlng_0]
      · simp only [s139_0, s139_1, s139_2, s139_4, s139_7, s139_10, s139_11, s139_14, s139_17, s139_18, s139_19, s139_20, s139_21, s139_22, w2, k30 qm, b2, n1, nz, r2, ↓reduceIte, va_rf_s, va_rf_n, jb_some, jb_none, jtl_s, jtl_n, if_true, if_false, true_and, and_true, false_and, and_false, or_true, true_or, or_false, false_or, not_true_eq_false, not_false_eq_true, jk_si, jp_si, jj_si, jk_sj, jp_sj, ji_sj, jk_ci, jp_ci, jj_ci, jk_cj, jp_cj, ji_cj, jlng_n, jlng_i, jlng_r, jlng_0]
  · rw [jB_f c] at w1 w2
    refine pr_id (.int (-1)) hB hR ?_ ?_
    · simp only [s79_0, s79_1, s79_2, s79_4, s79_7, s79_10, s79_11, s79_14, s79_17, s79_18, w1, ↓reduceIte, va_rf_s, va_rf_n, jb_some, jb_none, jtl_s, jtl_n, if_true, if_false, true_and, and_true, false_and, and_false, or_true, true_or, or_false, false_or, not_true_eq_false, not_false_eq_true, jk_si, jp_si, jj_si, jk_sj, jp_sj, ji_sj, jk_ci, jp_ci, jj_ci, jk_cj, jp_cj, ji_cj, jlng_n, jlng_i, jlng_r, jlng_0]
    · simp only [s139_0, s139_1, s139_2, s139_4, s139_7, s139_10, s139_11, s139_14, s139_17, s139_18, w2, ↓reduceIte, va_rf_s, va_rf_n, jb_some, jb_none, jtl_s, jtl_n, if_true, if_false, true_and, and_true, false_and, and_false, or_true, true_or, or_false, false_or, not_true_eq_false, not_false_eq_true, jk_si, jp_si, jj_si, jk_sj, jp_sj, ji_sj, jk_ci, jp_ci, jj_ci, jk_cj, jp_cj, ji_cj, jlng_n, jlng_i, jlng_r, jlng_0]
