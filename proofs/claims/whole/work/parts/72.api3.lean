/-! THE CALLS on a terminal -/
theorem mTA_rg {a b k : Nat} (z : mTA a b k) : 32 ≤ b ∧ b ≤ 50 := by
  rcases z with ⟨z1, z2⟩ | ⟨z1, z2⟩ | ⟨z1, z2⟩ | ⟨z1, z2⟩ | ⟨z1, z2⟩ <;> omega
theorem RR.tm {B a t : Nat} {g g' h h' : jH} {P P' : Nat → Nat → Prop} (hR : RR B g g') (ha : a < 31) (hp : jp g 11 a = some t) (f : Fr P g h) (f' : Fr P' g' h') (h1 : ∀ b k, P b k → t ≤ b ∧ b ≤ t + 6) (h2 : ∀ b k, P' b k → mTA a b k) (hT1 : TM B h h' a t) : RR B h h' := by
  obtain ⟨hA, h4, hL, T, F, N, r, ⟨tT, tF, tr, tN⟩, ⟨a1, a2⟩, ⟨b1, b2⟩, ⟨c1, c2⟩, ⟨d1, d2⟩, hF, hT⟩ := id hR; obtain ⟨qc, qm, hRl, hS, hb, hw⟩ := id hA
  obtain ⟨e8, e9, e11, e7⟩ := id h4
  obtain ⟨_, hM⟩ := ts_t hS ha hp
  have ht := hM.1.1
  obtain ⟨⟨L1, w1⟩, ⟨L2, w2⟩, ⟨L3, w3⟩, ⟨L4, w4⟩, ⟨L5, w5⟩⟩ := hw
  have n1 : ∀ b k, b < 74 → ¬ P b k := fun b k z y => by have := h1 b k y; omega
  have n2 : ∀ b k, ¬ (32 ≤ b ∧ b ≤ 50) → ¬ P' b k := fun b k z y => z (mTA_rg (h2 b k y))
  have kd := hM.kd
  have nq : ∀ q k, jk g q = (6, 0) → 74 ≤ q → ¬ P q k := fun q k kq hq y => q_out hS kq hq k (Or.inl ⟨a, t, ha, hp, h1 q k y⟩)
  refine ⟨⟨f.cs qc, f'.ms qm, hRl.fr f f' (fun b k z1 z2 => n1 b k (by omega)) (fun k z => n2 30 k (by omega)) (fun b k z1 z2 => n2 b k (by omega)), fun a2 ha2 => ?_, hb.fr f f' (fun k => n1 27 k (by omega)) (fun k => n2 57 k (by omega)), ⟨L1, w1.fr f (fun b k z1 z2 => n1 b k (by omega))⟩, ⟨L2, w2.fr f (fun b k z1 z2 => n1 b k (by omega))⟩, ⟨L3, w3.fr f (fun b k z1 z2 => n1 b k (by omega))⟩, ⟨L4, w4.fr f (fun b k z1 z2 => n1 b k (by omega))⟩, ⟨L5, w5.fr f (fun b k z1 z2 => n1 b k (by omega))⟩⟩, ⟨by rw [f.i (n1 _ _ (by omega)), f'.i (n2 _ _ (by omega))]; exact e8, by rw [f.i (n1 _ _ (by omega)), f'.i (n2 _ _ (by omega))]; exact e9, by rw [f.i (n1 _ _ (by omega)), f'.i (n2 _ _ (by omega))]; exact e11, by rw [f.i (n1 _ _ (by omega)), f'.i (n2 _ _ (by omega))]; exact e7⟩, hL.fr f, T, F, N, r, ⟨tT, tF, tr, tN⟩, ⟨by rw [f.i (n1 _ _ (by omega))]; exact a1, by rw [f'.i (n2 _ _ (by omega))]; exact a2⟩, ⟨by rw [f.i (n1 _ _ (by omega))]; exact b1, by rw [f'.i (n2 _ _ (by omega))]; exact b2⟩, ⟨by rw [f.i (n1 _ _ (by omega))]; exact c1, by rw [f'.i (n2 _ _ (by omega))]; exact c2⟩, ⟨by rw [f.i (n1 _ _ (by omega))]; exact d1, by rw [f'.i (n2 _ _ (by omega))]; exact d2⟩, hF.fr f f' (fun k => n1 29 k (by omega)) (fun k => n2 67 k (by omega)), ?_⟩
  · have e31 : ji h' 31 a2 = ji g' 31 a2 := f'.i (n2 _ _ (by omega))
    by_cases c : a = a2
    · subst c
      rcases hS a ha with ⟨z, _⟩ | ⟨t2, z1, z2, z3⟩
      · exact absurd (z.symm.trans hp) (by simp)
      · exact Or.inr ⟨t, by rw [f.p]; exact hp, by rw [e31]; exact z2, hT1⟩
    · have hm : ∀ b k, mTA a2 b k → ¬ P' b k := fun b k z y => c (mTA_mHp ha ha2 z (Or.inl (h2 b k y)))
      rcases hS a2 ha2 with ⟨z1, z2, z3⟩ | ⟨t2, z1, z2, z3⟩
      · exact Or.inl ⟨by rw [f.p]; exact z1, by rw [e31]; exact z2, z3.fr f' hm⟩
      · exact Or.inr ⟨t2, by rw [f.p]; exact z1, by rw [e31]; exact z2, z3.fr f f' (fun b k y1 y2 y => tm_dis ha2 ha z3 hM (Ne.symm c) y1 y2 (h1 b k y)) hm⟩
  · obtain ⟨q1, q2, q3⟩ := hT
    refine ⟨fun i hi => ?_, fun i y1 y2 => ?_, fun a b q2 ha hb y1 y2 => q3 a b q2 ha hb (by rw [← f.p]; exact y1) (by rw [← f.p]; exact y2)⟩
    · obtain ⟨q, p1, p2, p3⟩ := q1 i hi
      exact ⟨q, by rw [f.p]; exact p1, p2.fr f f' (fun k _ => nq q k p2.2.2.1 p2.2.1) (fun l y1 y2 => n2 l i (by omega)), p3.fr f f' (fun k => nq q k p2.2.2.1 p2.2.1) (fun j hj => n2 66 _ (by omega))⟩
    · obtain ⟨z1, z2⟩ := q2 i y1 y2
      exact ⟨by rw [f.p]; exact z1, fun j hj => by rw [f'.i (n2 66 _ (by omega))]; exact z2 j hj⟩
/-- which terminal is meant -/
theorem q_term {B : Nat} {g g' : jH} (qc : CS g) (qm : MS g') (hS : TS B g g') (x : Int32) : (∃ a t, a < 31 ∧ x = nI a ∧ jp g 11 a = some t ∧ TM B g g' a t ∧ jV 10 0 [some (.ref 10), some (.int x)] [] g = some (some (.ref t), g) ∧ jV 106 0 [some (.ref 30), some (.int x)] [] g' = some (some (.int 1), g')) ∨ (jV 10 0 [some (.ref 10), some (.int x)] [] g = some (some .null, g) ∧ jV 106 0 [some (.ref 30), some (.int x)] [] g' = some (some (.int 0), g')) := by
  have w2 := c_isIn x 0 30 g'
  by_cases c : ¬ x < 0 ∧ ¬ 30 < x
  · rw [jB_t c] at w2
    obtain ⟨a, ha, rfl⟩ := rng (M := 30) (n := 30) rfl c
    have lt : nI a < 31 := nI_lt (b := 31) (by omega) (by omega)
    have b4 : jin (nI a) 31 = true := jin_nI (by omega) (by omega)
    have b5 : (nI a).toNatClampNeg = a := nI_clamp (by omega)
    rcases hS a (by omega) with ⟨z1, z2, z3⟩ | ⟨t, z1, z2, z3⟩
    · refine Or.inr ⟨?_, ?_⟩
      · simp only [s10_0, s10_1, s10_4, s10_5, s10_7, s10_10, s10_11, s10_14, s10_15, s10_16, s10_19, s10_20, s10_20n, k10 qc, k11 qc, p10_1 qc, c.1, lt, b4, b5, z1, ↓reduceIte, va_rf_s, va_rf_n, jb_some, jb_none, jtl_s, jtl_n, if_true, if_false, true_and, and_true, false_and, and_false, or_true, true_or, or_false, false_or, not_true_eq_false, not_false_eq_true, jk_si, jp_si, jj_si, jk_sj, jp_sj, ji_sj, jk_ci, jp_ci, jj_ci, jk_cj, jp_cj, ji_cj, jlng_n, jlng_i, jlng_r, jlng_0]
      · simp only [s106_0, s106_1, s106_2, s106_4, s106_7, s106_10, s106_11, s106_14, s106_15, s106_16, s106_19, s106_20, s106_23, s106_24, k30 qm, k31 qm, p30_0 qm, w2, n1, b4, b5, z2, ↓reduceIte, va_rf_s, va_rf_n, jb_some, jb_none, jtl_s, jtl_n, if_true, if_false, true_and, and_true, false_and, and_false, or_true, true_or, or_false, false_or, not_true_eq_false, not_false_eq_true, jk_si, jp_si, jj_si, jk_sj, jp_sj, ji_sj, jk_ci, jp_ci, jj_ci, jk_cj, jp_cj, ji_cj, jlng_n, jlng_i, jlng_r, jlng_0]
    · refine Or.inl ⟨a, t, by omega, rfl, z1, z3, ?_, ?_⟩
      · simp only [s10_0, s10_1, s10_4, s10_5, s10_7, s10_10, s10_11, s10_14, s10_15, s10_16, s10_19, s10_20, s10_20n, k10 qc, k11 qc, p10_1 qc, c.1, lt, b4, b5, z1, ↓reduceIte, va_rf_s, va_rf_n, jb_some, jb_none, jtl_s, jtl_n, if_true, if_false, true_and, and_true, false_and, and_false, or_true, true_or, or_false, false_or, not_true_eq_false, not_false_eq_true, jk_si, jp_si, jj_si, jk_sj, jp_sj, ji_sj, jk_ci, jp_ci, jj_ci, jk_cj, jp_cj, ji_cj, jlng_n, jlng_i, jlng_r, jlng_0]
      · simp only [s106_0, s106_1, s106_2, s106_4, s106_7, s106_10, s106_11, s106_14, s106_15, s106_16, s106_19, s106_20, s106_23, s106_24, k30 qm, k31 qm, p30_0 qm, w2, n1, b4, b5, z2, ↓reduceIte, va_rf_s, va_rf_n, jb_some, jb_none, jtl_s, jtl_n, if_true, if_false, true_and, and_true, false_and, and_false, or_true, true_or, or_false, false_or, not_true_eq_false, not_false_eq_true, jk_si, jp_si, jj_si, jk_sj, jp_sj, ji_sj, jk_ci, jp_ci, jj_ci, jk_cj, jp_cj, ji_cj, jlng_n, jlng_i, jlng_r, jlng_0]
  · rw [jB_f c] at w2
    refine Or.inr ⟨?_, ?_⟩
    · by_cases d : x < 0
      · simp only [s10_0, s10_1, s10_4, s10_5, s10_7, s10_10, s10_11, s10_14, s10_15, s10_16, s10_19, s10_20, s10_20n, d, ↓reduceIte, va_rf_s, va_rf_n, jb_some, jb_none, jtl_s, jtl_n, if_true, if_false, true_and, and_true, false_and, and_false, or_true, true_or, or_false, false_or, not_true_eq_false, not_false_eq_true, jk_si, jp_si, jj_si, jk_sj, jp_sj, ji_sj, jk_ci, jp_ci, jj_ci, jk_cj, jp_cj, ji_cj, jlng_n, jlng_i, jlng_r, jlng_0]
      · have e : ¬ x < 31 := fun y => c ⟨d, fun z => by
          rw [lt_toInt] at y z
          have h1 : (31 : Int32).toInt = 31 := rfl
          have h2 : (30 : Int32).toInt = 30 := rfl
          omega⟩
        simp only [s10_0, s10_1, s10_4, s10_5, s10_7, s10_10, s10_11, s10_14, s10_15, s10_16, s10_19, s10_20, s10_20n, d, e, ↓reduceIte, va_rf_s, va_rf_n, jb_some, jb_none, jtl_s, jtl_n, if_true, if_false, true_and, and_true, false_and, and_false, or_true, true_or, or_false, false_or, not_true_eq_false, not_false_eq_true, jk_si, jp_si, jj_si, jk_sj, jp_sj, ji_sj, jk_ci, jp_ci, jj_ci, jk_cj, jp_cj, ji_cj, jlng_n, jlng_i, jlng_r, jlng_0]
    · simp only [s106_0, s106_1, s106_2, s106_4, s106_7, s106_10, s106_11, s106_14, s106_15, s106_16, s106_19, s106_20, s106_23, s106_24, w2, ↓reduceIte, va_rf_s, va_rf_n, jb_some, jb_none, jtl_s, jtl_n, if_true, if_false, true_and, and_true, false_and, and_false, or_true, true_or, or_false, false_or, not_true_eq_false, not_false_eq_true, jk_si, jp_si, jj_si, jk_sj, jp_sj, ji_sj, jk_ci, jp_ci, jj_ci, jk_cj, jp_cj, ji_cj, jlng_n, jlng_i, jlng_r, jlng_0]
theorem p_vector (x w : Int32) : PR DD 72 146 [some (.ref 1), some (.int x), some (.int w), none, none] [some (.ref 30), some (.int x), some (.int w), none] := by
  intro B g g' hR hB
  obtain ⟨hA, h4, hL, T, F, N, r, ⟨tT, tF, tr, tN⟩, ⟨a1, a2⟩, ⟨b1, b2⟩, ⟨c1, c2⟩, ⟨d1, d2⟩, hF, hT⟩ := id hR; obtain ⟨qc, qm, hRl, hS, hb, hw⟩ := id hA
  have u1 := c_isBits w g
  have u2 := c_isIn w 0 65535 g'
  rw [jB_cg (e_lt64k w)] at u1
  rcases q_term qc qm hS x with ⟨a, t, ha, rfl, hp, hM, ht1, ht2⟩ | ⟨ht1, ht2⟩
  · obtain ⟨ht, hs, hMu, hBa, hPl⟩ := id hM
    obtain ⟨h0, h33, h34, h42, h7, h8, h9, h10, h11, h12, h14⟩ := id hs
    obtain ⟨ht74, kt, _⟩ := id ht
    have b4 : jin (nI a) 31 = true := jin_nI ha (by omega)
    have b5 : (nI a).toNatClampNeg = a := nI_clamp (by omega)
    have v38 : mv g' a 38 = ji g' 38 a := mv_v (by omega)
    by_cases c : ¬ w < 0 ∧ ¬ 65535 < w
    · rw [jB_t c] at u1 u2
      obtain ⟨m, hm, rfl⟩ := rng (M := 65535) (n := 65535) rfl c
      have f : Fr (fun b k => b = t ∧ k = 8) g (jsi g t 8 (nI m)) := (Fr.refl g).si ⟨rfl, rfl⟩
      have f' : Fr (fun b k => b = 38 ∧ k = a) g' (jsi g' 38 a (nI m)) := (Fr.refl g').si ⟨rfl, rfl⟩
      have hT1 : TM B (jsi g t 8 (nI m)) (jsi g' 38 a (nI m)) a t := by
        refine ⟨ht.fr f, ?_, hMu.fr f f' (by omega) (fun c k z1 z2 => by omega) (by omega) (by omega) (fun i hi => by omega), hBa.fr f f' (fun k => by omega) (fun k z1 z2 => by omega), hPl.fr f f' (fun c k z => by omega) (fun c k z z1 z2 => by omega)⟩
        rw [tv_si, mv_si (by omega)]
        simp only [Sc, upd_e, Nat.reduceEqDiff, if_true, if_false]
        exact ⟨h0, h33, h34, h42, h7, ⟨nI_isD (by omega), trivial⟩, h9, h10, h11, h12, h14⟩
      refine pr_fr (.int (ji g' 38 a)) hB ?_ ?_ ((hR.tm ha hp f f' (fun b k z => ⟨by omega, by omega⟩) (fun b k z => mTA_s (by omega) z.2) hT1).mono (Nat.le_add_right _ _) hB) f f' (fun b k z => by omega) (fun b k z => by omega)
      · simp only [s72_0, s72_1, s72_4, s72_5, s72_8, s72_8n, s72_9, s72_9n, s72_10, s72_10n, s72_13, s72_14, s72_17, s72_20, s72_21, s72_22, s72_22n, s72_23, s72_26, s72_28, s72_28n, s72_29, s72_30, s72_33, s72_35, k1 qc, k10 qc, p1_1 qc, ht1, u1, n1, kt, h8.2, v38, s72_26 (hq := jlng_r t), ↓reduceIte, va_rf_s, va_rf_n, jb_some, jb_none, jtl_s, jtl_n, if_true, if_false, true_and, and_true, false_and, and_false, or_true, true_or, or_false, false_or, not_true_eq_false, not_false_eq_true, jk_si, jp_si, jj_si, jk_sj, jp_sj, ji_sj, jk_ci, jp_ci, jj_ci, jk_cj, jp_cj, ji_cj, jlng_n, jlng_i, jlng_r, jlng_0]
      · simp only [s146_0, s146_1, s146_2, s146_5, s146_8, s146_9, s146_10, s146_12, s146_15, s146_18, s146_19, s146_20, s146_21, s146_24, s146_25, s146_26, s146_27, s146_28, s146_31, s146_32, s146_33, s146_34, s146_35, k30 qm, k38 qm, p30_7 qm, ht2, u2, n1, b4, b5, ↓reduceIte, va_rf_s, va_rf_n, jb_some, jb_none, jtl_s, jtl_n, if_true, if_false, true_and, and_true, false_and, and_false, or_true, true_or, or_false, false_or, not_true_eq_false, not_false_eq_true, jk_si, jp_si, jj_si, jk_sj, jp_sj, ji_sj, jk_ci, jp_ci, jj_ci, jk_cj, jp_cj, ji_cj, jlng_n, jlng_i, jlng_r, jlng_0]
    · rw [jB_f c] at u1 u2
      refine pr_id (.int (-1)) hB hR ?_ ?_
      · simp only [s72_0, s72_1, s72_4, s72_5, s72_8, s72_8n, s72_9, s72_9n, s72_10, s72_10n, s72_13, s72_14, s72_17, s72_20, s72_21, s72_22, s72_22n, s72_23, s72_26, s72_28, s72_28n, s72_29, s72_30, s72_33, s72_35, k1 qc, k10 qc, p1_1 qc, ht1, u1, ↓reduceIte, va_rf_s, va_rf_n, jb_some, jb_none, jtl_s, jtl_n, if_true, if_false, true_and, and_true, false_and, and_false, or_true, true_or, or_false, false_or, not_true_eq_false, not_false_eq_true, jk_si, jp_si, jj_si, jk_sj, jp_sj, ji_sj, jk_ci, jp_ci, jj_ci, jk_cj, jp_cj, ji_cj, jlng_n, jlng_i, jlng_r, jlng_0]
      · simp only [s146_0, s146_1, s146_2, s146_5, s146_8, s146_9, s146_10, s146_12, s146_15, s146_18, s146_19, s146_20, s146_21, s146_24, s146_25, s146_26, s146_27, s146_28, s146_31, s146_32, s146_33, s146_34, s146_35, k30 qm, ht2, u2, n1, ↓reduceIte, va_rf_s, va_rf_n, jb_some, jb_none, jtl_s, jtl_n, if_true, if_false, true_and, and_true, false_and, and_false, or_true, true_or, or_false, false_or, not_true_eq_false, not_false_eq_true, jk_si, jp_si, jj_si, jk_sj, jp_sj, ji_sj, jk_ci, jp_ci, jj_ci, jk_cj, jp_cj, ji_cj, jlng_n, jlng_i, jlng_r, jlng_0]
  · refine pr_id (.int (-1)) hB hR ?_ ?_
    · simp only [s72_0, s72_1, s72_4, s72_5, s72_8, s72_8n, s72_9, s72_9n, s72_10, s72_10n, s72_13, s72_14, s72_17, s72_20, s72_21, s72_22, s72_22n, s72_23, s72_26, s72_28, s72_28n, s72_29, s72_30, s72_33, s72_35, k1 qc, k10 qc, p1_1 qc, ht1, ↓reduceIte, va_rf_s, va_rf_n, jb_some, jb_none, jtl_s, jtl_n, if_true, if_false, true_and, and_true, false_and, and_false, or_true, true_or, or_false, false_or, not_true_eq_false, not_false_eq_true, jk_si, jp_si, jj_si, jk_sj, jp_sj, ji_sj, jk_ci, jp_ci, jj_ci, jk_cj, jp_cj, ji_cj, jlng_n, jlng_i, jlng_r, jlng_0]
    · simp only [s146_0, s146_1, s146_2, s146_5, s146_8, s146_9, s146_10, s146_12, s146_15, s146_18, s146_19, s146_20, s146_21, s146_24, s146_25, s146_26, s146_27, s146_28, s146_31, s146_32, s146_33, s146_34, s146_35, k30 qm, ht2, ↓reduceIte, va_rf_s, va_rf_n, jb_some, jb_none, jtl_s, jtl_n, if_true, if_false, true_and, and_true, false_and, and_false, or_true, true_or, or_false, false_or, not_true_eq_false, not_false_eq_true, jk_si, jp_si, jj_si, jk_sj, jp_sj, ji_sj, jk_ci, jp_ci, jj_ci, jk_cj, jp_cj, ji_cj, jlng_n, jlng_i, jlng_r, jlng_0]
theorem p_note (x w o : Int32) (ho : o = 0 ∨ o = 1) : PR DD 71 145 [some (.ref 1), some (.int x), some (.int w), some (.int o), none, none] [some (.ref 30), some (.int x), some (.int w), some (.int o), none, none] := by
  intro B g g' hR hB
  obtain ⟨hA, h4, hL, T, F, N, r, ⟨tT, tF, tr, tN⟩, ⟨a1, a2⟩, ⟨b1, b2⟩, ⟨c1, c2⟩, ⟨d1, d2⟩, hF, hT⟩ := id hR; obtain ⟨qc, qm, hRl, hS, hb, hw⟩ := id hA
  have u1 := c_isNote w g
  -- the reference's own look at the note
  have u2 : ∀ o' : Option Value, jV 145 0 [some (.ref 30), some (.int x), some (.int w), some (.int o), none, o'] [] g' = jV 145 30 [some (.ref 30), some (.int x), some (.int w), some (.int o), some (.int (jB (w = 256 ∨ w = 8 ∨ w = 4 ∨ w = 1))), o'] [] g' := by
    intro o'
    by_cases z1 : w = 256
    · rw [jB_t (Or.inl z1)]
      simp only [s145_0, s145_1, s145_4, s145_7, s145_8, s145_10, s145_13, s145_14, s145_15, s145_18, s145_19, s145_20, s145_23, s145_24, s145_27, s145_28, eq_true z1, ↓reduceIte, va_rf_s, va_rf_n, jb_some, jb_none, jtl_s, jtl_n, if_true, if_false, true_and, and_true, false_and, and_false, or_true, true_or, or_false, false_or, not_true_eq_false, not_false_eq_true, jk_si, jp_si, jj_si, jk_sj, jp_sj, ji_sj, jk_ci, jp_ci, jj_ci, jk_cj, jp_cj, ji_cj, jlng_n, jlng_i, jlng_r, jlng_0]
    · by_cases z2 : w = 8
      · rw [jB_t (Or.inr (Or.inl z2))]
        simp only [s145_0, s145_1, s145_4, s145_7, s145_8, s145_10, s145_13, s145_14, s145_15, s145_18, s145_19, s145_20, s145_23, s145_24, s145_27, s145_28, eq_false z1, eq_true z2, ↓reduceIte, va_rf_s, va_rf_n, jb_some, jb_none, jtl_s, jtl_n, if_true, if_false, true_and, and_true, false_and, and_false, or_true, true_or, or_false, false_or, not_true_eq_false, not_false_eq_true, jk_si, jp_si, jj_si, jk_sj, jp_sj, ji_sj, jk_ci, jp_ci, jj_ci, jk_cj, jp_cj, ji_cj, jlng_n, jlng_i, jlng_r, jlng_0]
      · by_cases z3 : w = 4
        · rw [jB_t (Or.inr (Or.inr (Or.inl z3)))]
          simp only [s145_0, s145_1, s145_4, s145_7, s145_8, s145_10, s145_13, s145_14, s145_15, s145_18, s145_19, s145_20, s145_23, s145_24, s145_27, s145_28, eq_false z1, eq_false z2, eq_true z3, ↓reduceIte, va_rf_s, va_rf_n, jb_some, jb_none, jtl_s, jtl_n, if_true, if_false, true_and, and_true, false_and, and_false, or_true, true_or, or_false, false_or, not_true_eq_false, not_false_eq_true, jk_si, jp_si, jj_si, jk_sj, jp_sj, ji_sj, jk_ci, jp_ci, jj_ci, jk_cj, jp_cj, ji_cj, jlng_n, jlng_i, jlng_r, jlng_0]
        · by_cases z4 : w = 1
          · rw [jB_t (Or.inr (Or.inr (Or.inr z4)))]
            simp only [s145_0, s145_1, s145_4, s145_7, s145_8, s145_10, s145_13, s145_14, s145_15, s145_18, s145_19, s145_20, s145_23, s145_24, s145_27, s145_28, eq_false z1, eq_false z2, eq_false z3, eq_true z4, ↓reduceIte, va_rf_s, va_rf_n, jb_some, jb_none, jtl_s, jtl_n, if_true, if_false, true_and, and_true, false_and, and_false, or_true, true_or, or_false, false_or, not_true_eq_false, not_false_eq_true, jk_si, jp_si, jj_si, jk_sj, jp_sj, ji_sj, jk_ci, jp_ci, jj_ci, jk_cj, jp_cj, ji_cj, jlng_n, jlng_i, jlng_r, jlng_0]
          · rw [jB_f (by rintro (y | y | y | y) <;> contradiction)]
            simp only [s145_0, s145_1, s145_4, s145_7, s145_8, s145_10, s145_13, s145_14, s145_15, s145_18, s145_19, s145_20, s145_23, s145_24, s145_27, s145_28, eq_false z1, eq_false z2, eq_false z3, eq_false z4, ↓reduceIte, va_rf_s, va_rf_n, jb_some, jb_none, jtl_s, jtl_n, if_true, if_false, true_and, and_true, false_and, and_false, or_true, true_or, or_false, false_or, not_true_eq_false, not_false_eq_true, jk_si, jp_si, jj_si, jk_sj, jp_sj, ji_sj, jk_ci, jp_ci, jj_ci, jk_cj, jp_cj, ji_cj, jlng_n, jlng_i, jlng_r, jlng_0]
  rcases q_term qc qm hS x with ⟨a, t, ha, rfl, hp, hM, ht1, ht2⟩ | ⟨ht1, ht2⟩
  · obtain ⟨ht, hs, hMu, hBa, hPl⟩ := id hM
    obtain ⟨h0, h33, h34, ⟨h42, h43', h44', h6⟩, h7, h8, h9, h10, h11, h12, h14⟩ := id hs
    obtain ⟨ht74, kt, _⟩ := id ht
    have b4 : jin (nI a) 31 = true := jin_nI ha (by omega)
    have b5 : (nI a).toNatClampNeg = a := nI_clamp (by omega)
    have v42 : mv g' a 42 = ji g' 42 a := mv_v (by omega)
    by_cases c : w = 256 ∨ w = 8 ∨ w = 4 ∨ w = 1
    · rw [jB_t c] at u1 u2
      have hin : w ∈ ([256, 8, 4, 1] : List Int32) := by
        rcases c with rfl | rfl | rfl | rfl <;> decide
      obtain ⟨⟨n1', n2'⟩, ⟨n3', n4'⟩, n5'⟩ := fl_n w hin _ h42 _ h43' _ h44'
      have hf := c_hasFlag kt w
      rw [h6, jB_cg (not_congr n5')] at hf
      have upd1 : ∀ (nv : Int32), nv ∈ N16 → RR B (jsi g t 6 (FL nv (mv g' a 43) (mv g' a 44))) (jsi g' 42 a nv) := by
        intro nv hnv
        have f : Fr (fun b k => b = t ∧ k = 6) g (jsi g t 6 (FL nv (mv g' a 43) (mv g' a 44))) := (Fr.refl g).si ⟨rfl, rfl⟩
        have f' : Fr (fun b k => b = 42 ∧ k = a) g' (jsi g' 42 a nv) := (Fr.refl g').si ⟨rfl, rfl⟩
        refine hR.tm ha hp f f' (fun b k z => ⟨by omega, by omega⟩) (fun b k z => mTA_s (by omega) z.2) ⟨ht.fr f, ?_, hMu.fr f f' (by omega) (fun c k z1 z2 => by omega) (by omega) (by omega) (fun i hi => by omega), hBa.fr f f' (fun k => by omega) (fun k z1 z2 => by omega), hPl.fr f f' (fun c k z => by omega) (fun c k z z1 z2 => by omega)⟩
        rw [tv_si, mv_si (by omega)]
        simp only [Sc, upd_e, Nat.reduceEqDiff, if_true, if_false]
        exact ⟨h0, h33, h34, ⟨hnv, h43', h44', trivial⟩, h7, h8, h9, h10, h11, h12, h14⟩
      have ff : ∀ nv, Fr (fun b k => b = t ∧ k = 6) g (jsi g t 6 (FL nv (mv g' a 43) (mv g' a 44))) := fun nv => (Fr.refl g).si ⟨rfl, rfl⟩
      have ff' : ∀ nv, Fr (fun b k => b = 42 ∧ k = a) g' (jsi g' 42 a nv) := fun nv => (Fr.refl g').si ⟨rfl, rfl⟩
      rw [v42] at n1' n2' n3' n4' hf
      rw [v42] at h6
      have was : ∃ b : Int32, (∀ (G : jH), jV 29 0 [some (.ref t), some (.int w), some (.int o)] [] g = some (none, G) → jV 71 0 [some (.ref 1), some (.int (nI a)), some (.int w), some (.int o), none, none] [] g = some (some (.int b), G)) ∧ jV 145 0 [some (.ref 30), some (.int (nI a)), some (.int w), some (.int o), none, none] [] g' = jV 145 63 [some (.ref 30), some (.int (nI a)), some (.int w), some (.int o), some (.int 1), some (.int b)] [] g' := by
        by_cases d : ji g' 42 a &&& w = 0
        · rw [jB_f (fun y => y d)] at hf
          refine ⟨0, fun G hG => ?_, ?_⟩
          · simp only [s71_0, s71_1, s71_4, s71_5, s71_8, s71_8n, s71_10, s71_10n, s71_12, s71_12n, s71_15, s71_16, s71_19, s71_22, s71_23, s71_24, s71_24n, s71_26, s71_27, s71_30, s71_33, s71_34, s71_37, s71_38, s71_40, s71_40n, s71_42, s71_43, s71_44, s71_47, s71_49, k1 qc, k10 qc, p1_1 qc, ht1, u1, n1, kt, hf, hG, s71_38 (hq := jlng_r t), ↓reduceIte, va_rf_s, va_rf_n, jb_some, jb_none, jtl_s, jtl_n, if_true, if_false, true_and, and_true, false_and, and_false, or_true, true_or, or_false, false_or, not_true_eq_false, not_false_eq_true, jk_si, jp_si, jj_si, jk_sj, jp_sj, ji_sj, jk_ci, jp_ci, jj_ci, jk_cj, jp_cj, ji_cj, jlng_n, jlng_i, jlng_r, jlng_0]
          · rw [u2]
            simp only [s145_30, s145_31, s145_32, s145_35, s145_38, s145_40, s145_43, s145_44, s145_45, s145_46, s145_49, s145_50, s145_51, s145_52, s145_53, s145_56, s145_57, s145_60, s145_61, k30 qm, k42 qm, p30_11 qm, ht2, n1, b4, b5, eq_true d, ↓reduceIte, va_rf_s, va_rf_n, jb_some, jb_none, jtl_s, jtl_n, if_true, if_false, true_and, and_true, false_and, and_false, or_true, true_or, or_false, false_or, not_true_eq_false, not_false_eq_true, jk_si, jp_si, jj_si, jk_sj, jp_sj, ji_sj, jk_ci, jp_ci, jj_ci, jk_cj, jp_cj, ji_cj, jlng_n, jlng_i, jlng_r, jlng_0]
        · rw [jB_t d] at hf
          refine ⟨1, fun G hG => ?_, ?_⟩
          · simp only [s71_0, s71_1, s71_4, s71_5, s71_8, s71_8n, s71_10, s71_10n, s71_12, s71_12n, s71_15, s71_16, s71_19, s71_22, s71_23, s71_24, s71_24n, s71_26, s71_27, s71_30, s71_33, s71_34, s71_37, s71_38, s71_40, s71_40n, s71_42, s71_43, s71_44, s71_47, s71_49, k1 qc, k10 qc, p1_1 qc, ht1, u1, n1, kt, hf, hG, s71_38 (hq := jlng_r t), ↓reduceIte, va_rf_s, va_rf_n, jb_some, jb_none, jtl_s, jtl_n, if_true, if_false, true_and, and_true, false_and, and_false, or_true, true_or, or_false, false_or, not_true_eq_false, not_false_eq_true, jk_si, jp_si, jj_si, jk_sj, jp_sj, ji_sj, jk_ci, jp_ci, jj_ci, jk_cj, jp_cj, ji_cj, jlng_n, jlng_i, jlng_r, jlng_0]
          · rw [u2]
            simp only [s145_30, s145_31, s145_32, s145_35, s145_38, s145_40, s145_43, s145_44, s145_45, s145_46, s145_49, s145_50, s145_51, s145_52, s145_53, s145_56, s145_57, s145_60, s145_61, k30 qm, k42 qm, p30_11 qm, ht2, n1, b4, b5, eq_false d, ↓reduceIte, va_rf_s, va_rf_n, jb_some, jb_none, jtl_s, jtl_n, if_true, if_false, true_and, and_true, false_and, and_false, or_true, true_or, or_false, false_or, not_true_eq_false, not_false_eq_true, jk_si, jp_si, jj_si, jk_sj, jp_sj, ji_sj, jk_ci, jp_ci, jj_ci, jk_cj, jp_cj, ji_cj, jlng_n, jlng_i, jlng_r, jlng_0]
      obtain ⟨b, hwc, hwm⟩ := was
      have sf := c_setFlag kt w o
      rw [h6] at sf
      rcases ho with rfl | rfl
      · rw [if_pos rfl, n1'] at sf
        refine pr_fr (.int b) hB (hwc _ sf) ?_ ((upd1 _ n2').mono (Nat.le_add_right _ _) hB) (ff _) (ff' _) (fun b k z => by omega) (fun b k z => by omega)
        rw [hwm]
        simp only [s145_63, s145_64, s145_67, s145_68, s145_69, s145_72, s145_73, s145_76, s145_77, s145_78, s145_79, s145_80, s145_83, s145_84, s145_87, s145_88, s145_89, s145_90, s145_91, s145_92, s145_93, s145_94, s145_96, k30 qm, k42 qm, p30_11 qm, n1, b4, b5, ↓reduceIte, va_rf_s, va_rf_n, jb_some, jb_none, jtl_s, jtl_n, if_true, if_false, true_and, and_true, false_and, and_false, or_true, true_or, or_false, false_or, not_true_eq_false, not_false_eq_true, jk_si, jp_si, jj_si, jk_sj, jp_sj, ji_sj, jk_ci, jp_ci, jj_ci, jk_cj, jp_cj, ji_cj, jlng_n, jlng_i, jlng_r, jlng_0]
      · rw [if_neg n1, n3'] at sf
        refine pr_fr (.int b) hB (hwc _ sf) ?_ ((upd1 _ n4').mono (Nat.le_add_right _ _) hB) (ff _) (ff' _) (fun b k z => by omega) (fun b k z => by omega)
        rw [hwm]
        simp only [s145_63, s145_64, s145_67, s145_68, s145_69, s145_72, s145_73, s145_76, s145_77, s145_78, s145_79, s145_80, s145_83, s145_84, s145_87, s145_88, s145_89, s145_90, s145_91, s145_92, s145_93, s145_94, s145_96, k30 qm, k42 qm, p30_11 qm, n1, b4, b5, ↓reduceIte, va_rf_s, va_rf_n, jb_some, jb_none, jtl_s, jtl_n, if_true, if_false, true_and, and_true, false_and, and_false, or_true, true_or, or_false, false_or, not_true_eq_false, not_false_eq_true, jk_si, jp_si, jj_si, jk_sj, jp_sj, ji_sj, jk_ci, jp_ci, jj_ci, jk_cj, jp_cj, ji_cj, jlng_n, jlng_i, jlng_r, jlng_0]
    · rw [jB_f c] at u1 u2
      refine pr_id (.int (-1)) hB hR ?_ ?_
      · simp only [s71_0, s71_1, s71_4, s71_5, s71_8, s71_8n, s71_10, s71_10n, s71_12, s71_12n, s71_15, s71_16, s71_19, s71_22, s71_23, s71_24, s71_24n, s71_26, s71_27, s71_30, s71_33, s71_34, s71_37, s71_38, s71_40, s71_40n, s71_42, s71_43, s71_44, s71_47, s71_49, k1 qc, k10 qc, p1_1 qc, ht1, u1, ↓reduceIte, va_rf_s, va_rf_n, jb_some, jb_none, jtl_s, jtl_n, if_true, if_false, true_and, and_true, false_and, and_false, or_true, true_or, or_false, false_or, not_true_eq_false, not_false_eq_true, jk_si, jp_si, jj_si, jk_sj, jp_sj, ji_sj, jk_ci, jp_ci, jj_ci, jk_cj, jp_cj, ji_cj, jlng_n, jlng_i, jlng_r, jlng_0]
      · rw [u2]
        simp only [s145_30, s145_31, s145_32, s145_35, s145_38, s145_40, s145_43, s145_44, k30 qm, ht2, n1, ↓reduceIte, va_rf_s, va_rf_n, jb_some, jb_none, jtl_s, jtl_n, if_true, if_false, true_and, and_true, false_and, and_false, or_true, true_or, or_false, false_or, not_true_eq_false, not_false_eq_true, jk_si, jp_si, jj_si, jk_sj, jp_sj, ji_sj, jk_ci, jp_ci, jj_ci, jk_cj, jp_cj, ji_cj, jlng_n, jlng_i, jlng_r, jlng_0]
  · refine pr_id (.int (-1)) hB hR ?_ ?_
    · simp only [s71_0, s71_1, s71_4, s71_5, s71_8, s71_8n, s71_10, s71_10n, s71_12, s71_12n, s71_15, s71_16, s71_19, s71_22, s71_23, s71_24, s71_24n, s71_26, s71_27, s71_30, s71_33, s71_34, s71_37, s71_38, s71_40, s71_40n, s71_42, s71_43, s71_44, s71_47, s71_49, k1 qc, k10 qc, p1_1 qc, ht1, ↓reduceIte, va_rf_s, va_rf_n, jb_some, jb_none, jtl_s, jtl_n, if_true, if_false, true_and, and_true, false_and, and_false, or_true, true_or, or_false, false_or, not_true_eq_false, not_false_eq_true, jk_si, jp_si, jj_si, jk_sj, jp_sj, ji_sj, jk_ci, jp_ci, jj_ci, jk_cj, jp_cj, ji_cj, jlng_n, jlng_i, jlng_r, jlng_0]
    · rw [u2]
      simp only [s145_30, s145_31, s145_32, s145_35, s145_38, s145_40, s145_43, s145_44, k30 qm, ht2, ↓reduceIte, va_rf_s, va_rf_n, jb_some, jb_none, jtl_s, jtl_n, if_true, if_false, true_and, and_true, false_and, and_false, or_true, true_or, or_false, false_or, not_true_eq_false, not_false_eq_true, jk_si, jp_si, jj_si, jk_sj, jp_sj, ji_sj, jk_ci, jp_ci, jj_ci, jk_cj, jp_cj, ji_cj, jlng_n, jlng_i, jlng_r, jlng_0]
