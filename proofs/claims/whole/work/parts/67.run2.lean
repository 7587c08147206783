/-! FRAMES: the loop over them -/
theorem AT.sc {P P' : Nat → Nat → Prop} {B : Nat} {g g' h h' : jH} (hA : AT B g g') (f : Fr P g h) (f' : Fr P' g' h') (h1 : ∀ b k, P b k → b = 1 ∨ b = 29 ∨ (b = 10 ∧ k = 7)) (h2 : ∀ b k, P' b k → (b = 30 ∧ (k = 20 ∨ (40 ≤ k ∧ k ≤ 47))) ∨ b = 67) : AT B h h' := by
  obtain ⟨qc, qm, hR, hT, hb, ⟨L1, w1⟩, ⟨L2, w2⟩, ⟨L3, w3⟩, ⟨L4, w4⟩, ⟨L5, w5⟩⟩ := hA
  have n1 : ∀ b k, ¬ (b = 1 ∨ b = 29 ∨ (b = 10 ∧ k = 7)) → ¬ P b k := fun b k z y => z (h1 b k y)
  have n2 : ∀ b k, ¬ ((b = 30 ∧ (k = 20 ∨ (40 ≤ k ∧ k ≤ 47))) ∨ b = 67) → ¬ P' b k := fun b k z y => z (h2 b k y)
  exact ⟨f.cs qc, f'.ms qm, hR.fr f f' (fun b k z1 z2 => n1 b k (by omega)) (fun k z => n2 30 k (by omega)) (fun b k z1 z2 => n2 b k (by omega)), hT.fr f f' (fun b k z => n1 b k (by omega)) (fun b k z1 z2 => n2 b k (by omega)), hb.fr f f' (fun k => n1 27 k (by omega)) (fun k => n2 57 k (by omega)), ⟨L1, w1.fr f (fun b k z1 z2 => n1 b k (by omega))⟩, ⟨L2, w2.fr f (fun b k z1 z2 => n1 b k (by omega))⟩, ⟨L3, w3.fr f (fun b k z1 z2 => n1 b k (by omega))⟩, ⟨L4, w4.fr f (fun b k z1 z2 => n1 b k (by omega))⟩, ⟨L5, w5.fr f (fun b k z1 z2 => n1 b k (by omega))⟩⟩
theorem AT.time {B : Nat} {g g' : jH} (hA : AT B g g') (x : Int32) : AT B (jsi g 2 6 x) (jsi g' 30 22 x) := by
  obtain ⟨qc, qm, hR, hT, hb, ⟨L1, w1⟩, ⟨L2, w2⟩, ⟨L3, w3⟩, ⟨L4, w4⟩, ⟨L5, w5⟩⟩ := hA
  have f : Fr (fun b k => b = 2) g (jsi g 2 6 x) := (Fr.refl g).si rfl
  have f' : Fr (fun b k => b = 30 ∧ k = 22) g' (jsi g' 30 22 x) := (Fr.refl g').si ⟨rfl, rfl⟩
  exact ⟨f.cs qc, f'.ms qm, RLi_time hR x, hT.fr f f' (fun b k z => by omega) (fun b k z1 z2 => by omega), hb.fr f f' (fun k => by omega) (fun k => by omega), ⟨L1, w1.fr f (fun b k z1 z2 => by omega)⟩, ⟨L2, w2.fr f (fun b k z1 z2 => by omega)⟩, ⟨L3, w3.fr f (fun b k z1 z2 => by omega)⟩, ⟨L4, w4.fr f (fun b k z1 z2 => by omega)⟩, ⟨L5, w5.fr f (fun b k z1 z2 => by omega)⟩⟩
theorem TRF.fr {P P' : Nat → Nat → Prop} {T : Nat} {g g' h h' : jH} (hT : TRF T g g') (f : Fr P g h) (f' : Fr P' g' h') (h1 : ∀ b k, 74 ≤ b → ¬ P b k) (h2 : ∀ b k, 58 ≤ b → b ≤ 66 → ¬ P' b k) : TRF T h h' := by
  obtain ⟨q1, q2, q3⟩ := hT
  refine ⟨fun i hi => ?_, fun i y1 y2 => ?_, fun a b q2 ha hb y1 y2 => q3 a b q2 ha hb (by rw [← f.p]; exact y1) (by rw [← f.p]; exact y2)⟩
  · obtain ⟨q, p1, p2, p3⟩ := q1 i hi
    exact ⟨q, by rw [f.p]; exact p1, p2.fr f f' (fun k _ => h1 q k p2.2.1) (fun l y1 y2 => h2 l i y1 (by omega)), p3.fr f f' (fun k => h1 q k p2.2.1) (fun j hj => h2 66 _ (by omega) (by omega))⟩
  · obtain ⟨z1, z2⟩ := q2 i y1 y2
    exact ⟨by rw [f.p]; exact z1, fun j hj => by rw [f'.i (h2 66 _ (by omega) (by omega))]; exact z2 j hj⟩
theorem FE.fr {P P' : Nat → Nat → Prop} {T F : Nat} {g g' h h' : jH} (hF : FE T F g g') (f : Fr P g h) (f' : Fr P' g' h') (h1 : ∀ k, ¬ P 29 k) (h2 : ∀ k, ¬ P' 67 k) : FE T F h h' := fun k hk => by
  obtain ⟨e, p1, p2, p3⟩ := hF k hk
  exact ⟨e, p1, by rw [f.i (h1 k)]; exact p2, by rw [f'.i (h2 k)]; exact p3⟩
theorem LB.fr {P : Nat → Nat → Prop} {g h : jH} (hL : LB g) (f : Fr P g h) : LB h := by
  obtain ⟨q1, q2, q3⟩ := hL
  refine ⟨by rw [f.x]; exact q1, fun a t ha hp => ?_, fun i q hi hp => ?_⟩
  · rw [f.x]; exact q2 a t ha (by rw [← f.p]; exact hp)
  · rw [f.x]; exact q3 i q hi (by rw [← f.p]; exact hp)
/-- a frame begins -/
theorem q_begin {B : Nat} {g g' : jH} (hA : AT B g g') (h4 : SC4 g g') {many d c : Int32} {x4 x5 x6 : Option Value} : ∃ G G' b, jV 88 0 [some (.ref 1), none] [] g = some (none, G) ∧ jV 139 28 [some (.ref 30), some (.int many), some (.int d), some (.int c), x4, x5, x6] [] g' = jV 139 84 [some (.ref 30), some (.int many), some (.int d), some (.int c), some (.int b), x5, x6] [] G' ∧ AT B G G' ∧ SC4 G G' ∧ Fr (fun b k => (b = 1 ∧ k = 9) ∨ (b = 2 ∧ k = 6)) g G ∧ Fr (fun b k => b = 30 ∧ (k = 45 ∨ k = 22)) g' G' := by
  obtain ⟨qc, qm, hR, _⟩ := id hA
  obtain ⟨e8, e9, e11, e7⟩ := h4
  have htime : ji g 2 6 = ji g' 30 22 := by
    obtain ⟨_, _, _, _, _, _, z, _⟩ := hR
    exact z
  have hm : ∀ (t2 : Int32) (l2 : Int32), (if ji g' 30 47 * ji g' 30 44 < ji g' 30 22 then (1 : Int32) else 0) = l2 → (if ji g' 30 22 < ji g' 30 47 * ji g' 30 44 then ji g' 30 47 * ji g' 30 44 else ji g' 30 22) = t2 → jV 139 28 [some (.ref 30), some (.int many), some (.int d), some (.int c), x4, x5, x6] [] g' = jV 139 84 [some (.ref 30), some (.int many), some (.int d), some (.int c), some (.int (ji g' 30 47 * ji g' 30 44)), x5, x6] [] (jsi (jsi g' 30 45 (ji g' 30 45 + l2)) 30 22 t2) := by
    intro t2 l2 h1 h2
    by_cases c1 : ji g' 30 47 * ji g' 30 44 < ji g' 30 22
    · rw [if_pos c1] at h1
      by_cases c2 : ji g' 30 22 < ji g' 30 47 * ji g' 30 44
      · rw [if_pos c2] at h2
        subst h1
        subst h2
        simp only [s139_28, s139_29, s139_32, s139_33, s139_36, s139_37, s139_39, s139_40, s139_41, s139_44, s139_45, s139_48, s139_50, s139_53, s139_54, s139_57, s139_58, s139_59, s139_62, s139_63, s139_64, s139_67, s139_69, s139_72, s139_74, s139_77, s139_78, s139_81, k30 qm, jk_si, ji_si, c1, c2, Nat.reduceEqDiff, ↓reduceIte, va_rf_s, va_rf_n, jb_some, jb_none, jtl_s, jtl_n, if_true, if_false, true_and, and_true, false_and, and_false, or_true, true_or, or_false, false_or, not_true_eq_false, not_false_eq_true, jk_si, jp_si, jj_si, jk_sj, jp_sj, ji_sj, jk_ci, jp_ci, jj_ci, jk_cj, jp_cj, ji_cj, jlng_n, jlng_i, jlng_r, jlng_0]
      · rw [if_neg c2] at h2
        subst h1
        subst h2
        simp only [s139_28, s139_29, s139_32, s139_33, s139_36, s139_37, s139_39, s139_40, s139_41, s139_44, s139_45, s139_48, s139_50, s139_53, s139_54, s139_57, s139_58, s139_59, s139_62, s139_63, s139_64, s139_67, s139_69, s139_72, s139_74, s139_77, s139_78, s139_81, k30 qm, jk_si, ji_si, c1, c2, Nat.reduceEqDiff, ↓reduceIte, va_rf_s, va_rf_n, jb_some, jb_none, jtl_s, jtl_n, if_true, if_false, true_and, and_true, false_and, and_false, or_true, true_or, or_false, false_or, not_true_eq_false, not_false_eq_true, jk_si, jp_si, jj_si, jk_sj, jp_sj, ji_sj, jk_ci, jp_ci, jj_ci, jk_cj, jp_cj, ji_cj, jlng_n, jlng_i, jlng_r, jlng_0]
    · rw [if_neg c1] at h1
      by_cases c2 : ji g' 30 22 < ji g' 30 47 * ji g' 30 44
      · rw [if_pos c2] at h2
        subst h1
        subst h2
        simp only [s139_28, s139_29, s139_32, s139_33, s139_36, s139_37, s139_39, s139_40, s139_41, s139_44, s139_45, s139_48, s139_50, s139_53, s139_54, s139_57, s139_58, s139_59, s139_62, s139_63, s139_64, s139_67, s139_69, s139_72, s139_74, s139_77, s139_78, s139_81, k30 qm, jk_si, ji_si, c1, c2, Nat.reduceEqDiff, ↓reduceIte, va_rf_s, va_rf_n, jb_some, jb_none, jtl_s, jtl_n, if_true, if_false, true_and, and_true, false_and, and_false, or_true, true_or, or_false, false_or, not_true_eq_false, not_false_eq_true, jk_si, jp_si, jj_si, jk_sj, jp_sj, ji_sj, jk_ci, jp_ci, jj_ci, jk_cj, jp_cj, ji_cj, jlng_n, jlng_i, jlng_r, jlng_0]
      · rw [if_neg c2] at h2
        subst h1
        subst h2
        simp only [s139_28, s139_29, s139_32, s139_33, s139_36, s139_37, s139_39, s139_40, s139_41, s139_44, s139_45, s139_48, s139_50, s139_53, s139_54, s139_57, s139_58, s139_59, s139_62, s139_63, s139_64, s139_67, s139_69, s139_72, s139_74, s139_77, s139_78, s139_81, k30 qm, jk_si, ji_si, c1, c2, Nat.reduceEqDiff, ↓reduceIte, va_rf_s, va_rf_n, jb_some, jb_none, jtl_s, jtl_n, if_true, if_false, true_and, and_true, false_and, and_false, or_true, true_or, or_false, false_or, not_true_eq_false, not_false_eq_true, jk_si, jp_si, jj_si, jk_sj, jp_sj, ji_sj, jk_ci, jp_ci, jj_ci, jk_cj, jp_cj, ji_cj, jlng_n, jlng_i, jlng_r, jlng_0]
  by_cases c1 : ji g' 30 47 * ji g' 30 44 < ji g' 30 22
  · have c2 : ¬ ji g' 30 22 < ji g' 30 47 * ji g' 30 44 := Int32.not_lt.mpr (Int32.le_of_lt c1)
    have f : Fr (fun b k => b = 1 ∧ k = 9) g (jsi g 1 9 (ji g 1 9 + 1)) := (Fr.refl g).si ⟨rfl, rfl⟩
    have f' : Fr (fun b k => b = 30 ∧ k = 45) g' (jsi g' 30 45 (ji g' 30 45 + 1)) := (Fr.refl g').si ⟨rfl, rfl⟩
    have et : ji g' 30 22 = ji (jsi g' 30 45 (ji g' 30 45 + 1)) 30 22 := by rw [ji_si, if_neg (by omega)]
    have e0 := hm (ji g' 30 22) 1 (if_pos c1) (if_neg c2)
    rw [et, si_id] at e0
    refine ⟨_, _, _, ?_, e0, hA.sc f f' (fun b k z => Or.inl z.1) (fun b k z => Or.inl ⟨z.1, by omega⟩), ⟨by rw [f.i (by omega), f'.i (by omega)]; exact e8, by rw [ji_si, if_pos ⟨rfl, rfl⟩, ji_si, if_pos ⟨rfl, rfl⟩, e9], by rw [f.i (by omega), f'.i (by omega)]; exact e11, by rw [f.i (by omega), f'.i (by omega)]; exact e7⟩, f.sub (fun b k z => Or.inl z), f'.sub (fun b k z => ⟨z.1, Or.inl z.2⟩)⟩
    simp only [s88_0, s88_1, s88_4, s88_5, s88_8, s88_9, s88_10, s88_11, s88_14, s88_17, s88_18, s88_21, s88_22, s88_23, s88_26, s88_27, s88_28, s88_31, s88_34, s88_35, s88_38, s88_39, s88_42, k1 qc, k2 qc, p1_0 qc, e8, e11, htime, c1, ↓reduceIte, va_rf_s, va_rf_n, jb_some, jb_none, jtl_s, jtl_n, if_true, if_false, true_and, and_true, false_and, and_false, or_true, true_or, or_false, false_or, not_true_eq_false, not_false_eq_true, jk_si, jp_si, jj_si, jk_sj, jp_sj, ji_sj, jk_ci, jp_ci, jj_ci, jk_cj, jp_cj, ji_cj, jlng_n, jlng_i, jlng_r, jlng_0]
  · have hmt : (if ji g' 30 22 < ji g' 30 47 * ji g' 30 44 then ji g' 30 47 * ji g' 30 44 else ji g' 30 22) = ji g' 30 47 * ji g' 30 44 := by
      by_cases c2 : ji g' 30 22 < ji g' 30 47 * ji g' 30 44
      · rw [if_pos c2]
      · rw [if_neg c2]
        exact Int32.le_antisymm (Int32.not_lt.mp c1) (Int32.not_lt.mp c2)
    have e0 := hm _ 0 (if_neg c1) hmt
    rw [Int32.add_zero, si_id] at e0
    have f : Fr (fun b k => b = 2 ∧ k = 6) g (jsi g 2 6 (ji g' 30 47 * ji g' 30 44)) := (Fr.refl g).si ⟨rfl, rfl⟩
    have f' : Fr (fun b k => b = 30 ∧ k = 22) g' (jsi g' 30 22 (ji g' 30 47 * ji g' 30 44)) := (Fr.refl g').si ⟨rfl, rfl⟩
    refine ⟨_, _, _, ?_, e0, hA.time _, ⟨by rw [f.i (by omega), f'.i (by omega)]; exact e8, by rw [f.i (by omega), f'.i (by omega)]; exact e9, by rw [f.i (by omega), f'.i (by omega)]; exact e11, by rw [f.i (by omega), f'.i (by omega)]; exact e7⟩, f.sub (fun b k z => Or.inr z), f'.sub (fun b k z => ⟨z.1, Or.inr z.2⟩)⟩
    simp only [s88_0, s88_1, s88_4, s88_5, s88_8, s88_9, s88_10, s88_11, s88_14, s88_17, s88_18, s88_21, s88_22, s88_23, s88_26, s88_27, s88_28, s88_31, s88_34, s88_35, s88_38, s88_39, s88_42, k1 qc, k2 qc, p1_0 qc, e8, e11, htime, c1, ↓reduceIte, va_rf_s, va_rf_n, jb_some, jb_none, jtl_s, jtl_n, if_true, if_false, true_and, and_true, false_and, and_false, or_true, true_or, or_false, false_or, not_true_eq_false, not_false_eq_true, jk_si, jp_si, jj_si, jk_sj, jp_sj, ji_sj, jk_ci, jp_ci, jj_ci, jk_cj, jp_cj, ji_cj, jlng_n, jlng_i, jlng_r, jlng_0]
theorem c_frameEnd {g : jH} {k : Nat} (qc : CS g) (hk : k < 8) {e : Int32} (h : ji g 29 k = e) : jV 92 0 [some (.ref 1), some (.int (nI k))] [] g = some (some (.int e), g) := by
  have w := c_within (nI k) 0 7 g
  have nl : ¬ (7 : Int32) < nI k := nI_nlt (a := 7) (by omega) (by omega)
  rw [jB_t ⟨nI_pos (by omega), nl⟩] at w
  have a4 : jin (nI k) 8 = true := jin_nI hk (by omega)
  have a5 : (nI k).toNatClampNeg = k := nI_clamp (by omega)
  simp only [s92_0, s92_1, s92_2, s92_4, s92_7, s92_10, s92_11, s92_14, s92_15, s92_16, s92_19, s92_20, k1 qc, k29 qc, p1_4 qc, w, a4, a5, h, n1, ↓reduceIte, va_rf_s, va_rf_n, jb_some, jb_none, jtl_s, jtl_n, if_true, if_false, true_and, and_true, false_and, and_false, or_true, true_or, or_false, false_or, not_true_eq_false, not_false_eq_true, jk_si, jp_si, jj_si, jk_sj, jp_sj, ji_sj, jk_ci, jp_ci, jj_ci, jk_cj, jp_cj, ji_cj, jlng_n, jlng_i, jlng_r, jlng_0]
abbrev cRn : Nat → Nat → Prop := fun b k => cRp b k ∨ (b = 1 ∧ 7 ≤ k ∧ k ≤ 9)
abbrev mRn : Nat → Nat → Prop := fun b k => mRp b k ∨ (b = 30 ∧ 43 ≤ k ∧ k ≤ 45)
theorem ru_out {T F r : Nat} {many : Nat} (hT24 : T ≤ 24) (hF8 : F ≤ 8) (hr : r ≤ 2) (hmany : many ≤ 8) : ∀ (m c B N : Nat) (g g' : jH) (d : Int32) (x4 x5 x6 y4 y5 y6 : Option Value), c + m = many → N < F → AT B g g' → SC4 g g' → (ji g 1 5 = nI T ∧ ji g' 30 40 = nI T) → (ji g 1 6 = nI F ∧ ji g' 30 42 = nI F) → (ji g 1 7 = nI N ∧ ji g' 30 43 = nI N) → (ji g 1 10 = nI r ∧ ji g' 30 46 = nI r) → FE T F g g' → TRF T g g' → B + 303840 * m < 1610612736 → ∃ G G' d' N', jV 79 23 [some (.ref 1), some (.int (nI many)), some (.int d), some (.int (nI c)), x4, x5, x6] [] g = some (some (.int d'), G) ∧ jV 139 23 [some (.ref 30), some (.int (nI many)), some (.int d), some (.int (nI c)), y4, y5, y6] [] g' = some (some (.int d'), G') ∧ N' < F ∧ AT (B + 303840 * m) G G' ∧ SC4 G G' ∧ (ji G 1 7 = nI N' ∧ ji G' 30 43 = nI N') ∧ TRF T G G' ∧ Fr cRn g G ∧ Fr mRn g' G'
  | 0, c, B, N, g, g', d, x4, x5, x6, y4, y5, y6, h, hN, hA, h4, h5, h6, h7, h10, hF, hT, hB => by
    have lt : ¬ nI c < nI many := nI_nlt (by omega) (by omega)
    exact ⟨g, g', d, N, by simp only [s79_23, s79_24, s79_25, s79_141, s79_142, lt, ↓reduceIte, va_rf_s, va_rf_n, jb_some, jb_none, jtl_s, jtl_n, if_true, if_false, true_and, and_true, false_and, and_false, or_true, true_or, or_false, false_or, not_true_eq_false, not_false_eq_true, jk_si, jp_si, jj_si, jk_sj, jp_sj, ji_sj, jk_ci, jp_ci, jj_ci, jk_cj, jp_cj, ji_cj, jlng_n, jlng_i, jlng_r, jlng_0], by simp only [s139_23, s139_24, s139_25, s139_180, s139_181, lt, ↓reduceIte, va_rf_s, va_rf_n, jb_some, jb_none, jtl_s, jtl_n, if_true, if_false, true_and, and_true, false_and, and_false, or_true, true_or, or_false, false_or, not_true_eq_false, not_false_eq_true, jk_si, jp_si, jj_si, jk_sj, jp_sj, ji_sj, jk_ci, jp_ci, jj_ci, jk_cj, jp_cj, ji_cj, jlng_n, jlng_i, jlng_r, jlng_0], hN, hA, h4, h7, hT, Fr.refl g, Fr.refl g'⟩
  | m + 1, c, B, N, g, g', d, x4, x5, x6, y4, y5, y6, h, hN, hA, h4, h5, h6, h7, h10, hF, hT, hB => by
    obtain ⟨qc, qm, _⟩ := id hA
    have lt : nI c < nI many := nI_lt (by omega) (by omega)
    obtain ⟨g1, g1', b, s1, s2, hA1, h41, f1, f1'⟩ := q_begin (many := nI many) (d := d) (c := nI c) (x4 := y4) (x5 := y5) (x6 := y6) hA h4
    obtain ⟨qc1, qm1, _⟩ := id hA1
    have hF1 : FE T F g1 g1' := hF.fr f1 f1' (fun k => by omega) (fun k => by omega)
    have hT1 : TRF T g1 g1' := hT.fr f1 f1' (fun b k z => by omega) (fun b k z1 z2 => by omega)
    have i5 : ji g1 1 5 = nI T := by rw [f1.i (by omega)]; exact h5.1
    have i6 : ji g1 1 6 = nI F := by rw [f1.i (by omega)]; exact h6.1
    have i7 : ji g1 1 7 = nI N := by rw [f1.i (by omega)]; exact h7.1
    have i10 : ji g1 1 10 = nI r := by rw [f1.i (by omega)]; exact h10.1
    have j6 : ji g1' 30 42 = nI F := by rw [f1'.i (by omega)]; exact h6.2
    have j7 : ji g1' 30 43 = nI N := by rw [f1'.i (by omega)]; exact h7.2
    have j10 : ji g1' 30 46 = nI r := by rw [f1'.i (by omega)]; exact h10.2
    obtain ⟨e, he, e1, e2⟩ := hF1 N hN
    -- where the frame begins
    obtain ⟨s, hs, cs, ms⟩ : ∃ s, s ≤ 24 ∧ jV 79 32 [some (.ref 1), some (.int (nI many)), some (.int d), some (.int (nI c)), x4, x5, x6] [] g1 = jV 79 55 [some (.ref 1), some (.int (nI many)), some (.int d), some (.int (nI c)), some (.int (nI s)), x5, x6] [] g1 ∧ jV 139 84 [some (.ref 30), some (.int (nI many)), some (.int d), some (.int (nI c)), some (.int b), y5, y6] [] g1' = jV 139 112 [some (.ref 30), some (.int (nI many)), some (.int d), some (.int (nI c)), some (.int b), some (.int (nI s)), some (.int (nI s))] [] g1' := by
      by_cases z : N = 0
      · have z' : nI N = 0 := by rw [z]; rfl
        refine ⟨0, by omega, ?_, ?_⟩
        · simp only [s79_32, s79_33, s79_36, s79_39, s79_40, s79_43, s79_44, s79_45, s79_48, s79_49, s79_50, s79_53, k1 qc1, i7, eq_true z', ↓reduceIte, va_rf_s, va_rf_n, jb_some, jb_none, jtl_s, jtl_n, if_true, if_false, true_and, and_true, false_and, and_false, or_true, true_or, or_false, false_or, not_true_eq_false, not_false_eq_true, jk_si, jp_si, jj_si, jk_sj, jp_sj, ji_sj, jk_ci, jp_ci, jj_ci, jk_cj, jp_cj, ji_cj, jlng_n, jlng_i, jlng_r, jlng_0]
          rfl
        · simp only [s139_84, s139_85, s139_88, s139_91, s139_92, s139_95, s139_96, s139_99, s139_100, s139_103, s139_104, s139_105, s139_106, s139_108, s139_110, k30 qm1, j7, eq_true z', ↓reduceIte, va_rf_s, va_rf_n, jb_some, jb_none, jtl_s, jtl_n, if_true, if_false, true_and, and_true, false_and, and_false, or_true, true_or, or_false, false_or, not_true_eq_false, not_false_eq_true, jk_si, jp_si, jj_si, jk_sj, jp_sj, ji_sj, jk_ci, jp_ci, jj_ci, jk_cj, jp_cj, ji_cj, jlng_n, jlng_i, jlng_r, jlng_0]
          rfl
      · have z' : ¬ nI N = 0 := fun w => z ((e_eq (b := 0) (by omega) (by omega)).mp w)
        obtain ⟨e0, he0, e01, e02⟩ := hF1 (N - 1) (by omega)
        have em : nI N - 1 = nI (N - 1) := pk_sub (a := N) (b := 1) (by omega)
        have fe := c_frameEnd qc1 (show N - 1 < 8 by omega) e01
        have a4 : jin (nI (N - 1)) 8 = true := jin_nI (by omega) (by omega)
        have a5 : (nI (N - 1)).toNatClampNeg = N - 1 := nI_clamp (by omega)
        refine ⟨e0, by omega, ?_, ?_⟩
        · simp only [s79_32, s79_33, s79_36, s79_39, s79_40, s79_43, s79_44, s79_45, s79_48, s79_49, s79_50, s79_53, k1 qc1, i7, eq_false z', em, fe, ↓reduceIte, va_rf_s, va_rf_n, jb_some, jb_none, jtl_s, jtl_n, if_true, if_false, true_and, and_true, false_and, and_false, or_true, true_or, or_false, false_or, not_true_eq_false, not_false_eq_true, jk_si, jp_si, jj_si, jk_sj, jp_sj, ji_sj, jk_ci, jp_ci, jj_ci, jk_cj, jp_cj, ji_cj, jlng_n, jlng_i, jlng_r, jlng_0]
        · simp only [s139_84, s139_85, s139_88, s139_91, s139_92, s139_95, s139_96, s139_99, s139_100, s139_103, s139_104, s139_105, s139_106, s139_108, s139_110, k30 qm1, k67 qm1, p30_41 qm1, j7, eq_false z', em, a4, a5, e02, ↓reduceIte, va_rf_s, va_rf_n, jb_some, jb_none, jtl_s, jtl_n, if_true, if_false, true_and, and_true, false_and, and_false, or_true, true_or, or_false, false_or, not_true_eq_false, not_false_eq_true, jk_si, jp_si, jj_si, jk_sj, jp_sj, ji_sj, jk_ci, jp_ci, jj_ci, jk_cj, jp_cj, ji_cj, jlng_n, jlng_i, jlng_r, jlng_0]
    have fe := c_frameEnd qc1 (show N < 8 by omega) e1
    have hle : 12660 * (e - s) ≤ 303840 := Nat.mul_le_mul_left 12660 (show e - s ≤ 24 by omega)
    have hB1 : B + 303840 < 1610612736 := Nat.lt_of_le_of_lt (Nat.add_le_add_left (Nat.le_mul_of_pos_right 303840 (Nat.succ_pos m)) B) hB
    obtain ⟨G, G', d2, z6, w6, r1, r2, r3, r4, r5, r6⟩ := ru_in (many := nI many) (c := nI c) (x4 := nI s) (x5 := 0) (begin := b) (from' := nI s) hT24 he hr (show N < 8 by omega) (e - s) s B g1 g1' d rfl hs hA1 hT1 i5 ⟨i10, j10⟩ ⟨e2, j7⟩ (Nat.lt_of_le_of_lt (Nat.add_le_add_left hle B) hB1)
    have qcG := r3.1
    have qmG := r3.2.1
    have o7 : ji G 1 7 = nI N := by rw [r5.i (by omega)]; exact i7
    have o6 : ji G 1 6 = nI F := by rw [r5.i (by omega)]; exact i6
    have m7 : ji G' 30 43 = nI N := by rw [r6.i (by omega)]; exact j7
    have m6 : ji G' 30 42 = nI F := by rw [r6.i (by omega)]; exact j6
    have h4G : SC4 G G' := by
      obtain ⟨y1, y2, y3, y4⟩ := h41
      exact ⟨by rw [r5.i (by omega), r6.i (by omega)]; exact y1, by rw [r5.i (by omega), r6.i (by omega)]; exact y2, by rw [r5.i (by omega), r6.i (by omega)]; exact y3, by rw [r5.i (by omega), r6.i (by omega)]; exact y4⟩
    have f2 : ∀ v, Fr (fun b k => b = 1 ∧ (k = 7 ∨ k = 8)) G (jsi (jsi G 1 8 (ji G 1 8 + 1)) 1 7 v) := fun v => ((Fr.refl G).si ⟨rfl, Or.inr rfl⟩).si ⟨rfl, Or.inl rfl⟩
    have f2' : ∀ v, Fr (fun b k => b = 30 ∧ (k = 43 ∨ k = 44)) G' (jsi (jsi G' 30 44 (ji G' 30 44 + 1)) 30 43 v) := fun v => ((Fr.refl G').si ⟨rfl, Or.inr rfl⟩).si ⟨rfl, Or.inl rfl⟩
    obtain ⟨N2, hN2, ec, em⟩ : ∃ N2, N2 < F ∧ jV 79 98 [some (.ref 1), some (.int (nI many)), some (.int d2), some (.int (nI c)), some (.int (nI s)), some (.int (nI e)), some (.int z6)] [] G = jV 79 23 [some (.ref 1), some (.int (nI many)), some (.int d2), some (.int (nI (c + 1))), some (.int (nI s)), some (.int (nI e)), some (.int z6)] [] (jsi (jsi G 1 8 (ji G 1 8 + 1)) 1 7 (nI N2)) ∧ jV 139 149 [some (.ref 30), some (.int (nI many)), some (.int d2), some (.int (nI c)), some (.int b), some (.int (nI s)), some (.int w6)] [] G' = jV 139 23 [some (.ref 30), some (.int (nI many)), some (.int d2), some (.int (nI (c + 1))), some (.int b), some (.int (nI s)), some (.int w6)] [] (jsi (jsi G' 30 44 (ji G' 30 44 + 1)) 30 43 (nI N2)) := by
      have ea : nI N + 1 = nI (N + 1) := nI_add N 1
      have eb : nI c + 1 = nI (c + 1) := nI_add c 1
      have er : nI (N + 1) - nI (N + 1) / nI F * nI F = nI ((N + 1) % F) := pk_rem (by omega) (by omega) (by omega)
      have nz : ¬ nI F = 0 := fun w => absurd ((e_eq (b := 0) (by omega) (by omega)).mp w) (by omega)
      refine ⟨(N + 1) % F, Nat.mod_lt _ (by omega), ?_, ?_⟩
      · by_cases z : N + 1 < F
        · rw [Nat.mod_eq_of_lt z]
          have lz : nI (N + 1) < nI F := nI_lt z (by omega)
          simp only [s79_98, s79_99, s79_100, s79_103, s79_104, s79_105, s79_108, s79_109, s79_110, s79_113, s79_114, s79_115, s79_116, s79_119, s79_122, s79_123, s79_126, s79_127, s79_128, s79_131, s79_132, s79_135, s79_138, k1 qcG, jk_si, ji_si, o7, o6, ea, lz, eb, Nat.reduceEqDiff, ↓reduceIte, va_rf_s, va_rf_n, jb_some, jb_none, jtl_s, jtl_n, if_true, if_false, true_and, and_true, false_and, and_false, or_true, true_or, or_false, false_or, not_true_eq_false, not_false_eq_true, jk_si, jp_si, jj_si, jk_sj, jp_sj, ji_sj, jk_ci, jp_ci, jj_ci, jk_cj, jp_cj, ji_cj, jlng_n, jlng_i, jlng_r, jlng_0]
        · rw [show N + 1 = F by omega, Nat.mod_self]
          have lz : ¬ nI (N + 1) < nI F := nI_nlt (by omega) (by omega)
          simp only [s79_98, s79_99, s79_100, s79_103, s79_104, s79_105, s79_108, s79_109, s79_110, s79_113, s79_114, s79_115, s79_116, s79_119, s79_122, s79_123, s79_126, s79_127, s79_128, s79_131, s79_132, s79_135, s79_138, k1 qcG, jk_si, ji_si, o7, o6, ea, lz, eb, Nat.reduceEqDiff, ↓reduceIte, va_rf_s, va_rf_n, jb_some, jb_none, jtl_s, jtl_n, if_true, if_false, true_and, and_true, false_and, and_false, or_true, true_or, or_false, false_or, not_true_eq_false, not_false_eq_true, jk_si, jp_si, jj_si, jk_sj, jp_sj, ji_sj, jk_ci, jp_ci, jj_ci, jk_cj, jp_cj, ji_cj, jlng_n, jlng_i, jlng_r, jlng_0]
          rfl
      · simp only [s139_149, s139_150, s139_151, s139_154, s139_155, s139_156, s139_159, s139_160, s139_161, s139_164, s139_165, s139_166, s139_167, s139_170, s139_171, s139_174, s139_177, k30 qmG, jk_si, ji_si, m7, m6, ea, er, nz, eb, Nat.reduceEqDiff, ↓reduceIte, va_rf_s, va_rf_n, jb_some, jb_none, jtl_s, jtl_n, if_true, if_false, true_and, and_true, false_and, and_false, or_true, true_or, or_false, false_or, not_true_eq_false, not_false_eq_true, jk_si, jp_si, jj_si, jk_sj, jp_sj, ji_sj, jk_ci, jp_ci, jj_ci, jk_cj, jp_cj, ji_cj, jlng_n, jlng_i, jlng_r, jlng_0]
    have hA2 := r3.sc (f2 (nI N2)) (f2' (nI N2)) (fun b k z => Or.inl z.1) (fun b k z => Or.inl ⟨z.1, by omega⟩)
    have h42 : SC4 (jsi (jsi G 1 8 (ji G 1 8 + 1)) 1 7 (nI N2)) (jsi (jsi G' 30 44 (ji G' 30 44 + 1)) 30 43 (nI N2)) := by
      obtain ⟨y1, y2, y3, y4⟩ := h4G
      refine ⟨?_, by rw [(f2 _).i (by omega), (f2' _).i (by omega)]; exact y2, by rw [(f2 _).i (by omega), (f2' _).i (by omega)]; exact y3, by rw [(f2 _).i (by omega), (f2' _).i (by omega)]; exact y4⟩
      simp only [ji_si, Nat.reduceEqDiff, and_false, if_false, and_self, if_true]
      rw [y1]
    have FF : Fr cRn g (jsi (jsi G 1 8 (ji G 1 8 + 1)) 1 7 (nI N2)) := ((f1.sub (fun b k z => by omega)).trans (r5.sub (fun b k z => Or.inl z))).trans ((f2 _).sub (fun b k z => by omega))
    have FF' : Fr mRn g' (jsi (jsi G' 30 44 (ji G' 30 44 + 1)) 30 43 (nI N2)) := ((f1'.sub (fun b k z => by omega)).trans (r6.sub (fun b k z => Or.inl z))).trans ((f2' _).sub (fun b k z => by omega))
    have hAm : AT (B + 303840) (jsi (jsi G 1 8 (ji G 1 8 + 1)) 1 7 (nI N2)) (jsi (jsi G' 30 44 (ji G' 30 44 + 1)) 30 43 (nI N2)) := by
      obtain ⟨w1, w2, w3, w4, w5⟩ := hA2
      exact ⟨w1, w2, w3.mono (Nat.add_le_add_left hle B) hB1, w4.mono (Nat.add_le_add_left hle B) hB1, w5⟩
    have hB2 : B + 303840 + 303840 * m < 1610612736 := by rw [Nat.mul_succ] at hB; omega
    obtain ⟨G3, G3', d3, N3, u1, u2, u3, u4, u5, u6, u7, u8, u9⟩ := ru_out hT24 hF8 hr hmany m (c + 1) (B + 303840) N2 _ _ d2 (some (.int (nI s))) (some (.int (nI e))) (some (.int z6)) (some (.int b)) (some (.int (nI s))) (some (.int w6)) (by omega) hN2 hAm h42 ⟨by rw [FF.i (by omega)]; exact h5.1, by rw [FF'.i (by omega)]; exact h5.2⟩ ⟨by rw [FF.i (by omega)]; exact h6.1, by rw [FF'.i (by omega)]; exact h6.2⟩ ⟨by simp [ji_si], by simp [ji_si]⟩ ⟨by rw [FF.i (by omega)]; exact h10.1, by rw [FF'.i (by omega)]; exact h10.2⟩ (hF.fr FF FF' (fun k => by omega) (fun k => by omega)) (r4.fr (f2 _) (f2' _) (fun b k z => by omega) (fun b k z1 z2 => by omega)) hB2
    refine ⟨G3, G3', d3, N3, ?_, ?_, u3, ?_, u5, u6, u7, FF.trans u8, FF'.trans u9⟩
    · rw [← u1, ← ec, ← r1]
      simp only [s79_23, s79_24, s79_25, s79_28, s79_29, lt, k1 qc, s1, cs, s79_55, s79_56, s79_57, s79_60, s79_63, s79_65, s79_67, k1 qc1, i7, fe, ↓reduceIte, va_rf_s, va_rf_n, jb_some, jb_none, jtl_s, jtl_n, if_true, if_false, true_and, and_true, false_and, and_false, or_true, true_or, or_false, false_or, not_true_eq_false, not_false_eq_true, jk_si, jp_si, jj_si, jk_sj, jp_sj, ji_sj, jk_ci, jp_ci, jj_ci, jk_cj, jp_cj, ji_cj, jlng_n, jlng_i, jlng_r, jlng_0]
    · rw [← u2, ← em, ← r2, ← ms, ← s2]
      simp only [s139_23, s139_24, s139_25, lt, ↓reduceIte, va_rf_s, va_rf_n, jb_some, jb_none, jtl_s, jtl_n, if_true, if_false, true_and, and_true, false_and, and_false, or_true, true_or, or_false, false_or, not_true_eq_false, not_false_eq_true, jk_si, jp_si, jj_si, jk_sj, jp_sj, ji_sj, jk_ci, jp_ci, jj_ci, jk_cj, jp_cj, ji_cj, jlng_n, jlng_i, jlng_r, jlng_0]
    · rw [Nat.mul_succ, show B + (303840 * m + 303840) = B + 303840 + 303840 * m by omega]
      exact u4
