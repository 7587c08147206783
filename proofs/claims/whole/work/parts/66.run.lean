/-! FRAMES ARE RUN -/
theorem si_id (g : jH) (a k : Nat) : jsi g a k (ji g a k) = g := jH_ext (fun b => by rw [jk_si]) (fun b j => by
  rw [ji_si]
  by_cases c : b = a ∧ j = k
  · rw [if_pos c, c.1, c.2]
  · rw [if_neg c]) (fun b j => by rw [jj_si]) (fun b j => by rw [jp_si]) rfl
def FE (T F : Nat) (g g' : jH) : Prop := ∀ k, k < F → ∃ e, e ≤ T ∧ ji g 29 k = nI e ∧ ji g' 67 k = nI e
def TRF (T : Nat) (g g' : jH) : Prop := (∀ i, i < T → ∃ q, jp g 28 i = some q ∧ TK g g' i q ∧ RS g g' i q) ∧ (∀ i, T ≤ i → i < 24 → jp g 28 i = none ∧ ∀ j, j < 6 → ji g' 66 (6 * i + j) = if j = 4 then -1 else 0) ∧ (∀ i j q, i < T → j < T → jp g 28 i = some q → jp g 28 j = some q → i = j)
def LB (g : jH) : Prop := 74 ≤ g.2.1 ∧ (∀ a t, a < 31 → jp g 11 a = some t → t + 6 < g.2.1) ∧ (∀ i q, i < 24 → jp g 28 i = some q → q < g.2.1)
def SC4 (g g' : jH) : Prop := ji g 1 8 = ji g' 30 44 ∧ ji g 1 9 = ji g' 30 45 ∧ ji g 1 11 = ji g' 30 47 ∧ ji g 10 7 = ji g' 30 20
/-- the whole state -/
def RR (B : Nat) (g g' : jH) : Prop := AT B g g' ∧ SC4 g g' ∧ LB g ∧ ∃ T F N r, (T ≤ 24 ∧ F ≤ 8 ∧ r ≤ 2 ∧ (N < F ∨ (N = 0 ∧ F = 0))) ∧ (ji g 1 5 = nI T ∧ ji g' 30 40 = nI T) ∧ (ji g 1 6 = nI F ∧ ji g' 30 42 = nI F) ∧ (ji g 1 7 = nI N ∧ ji g' 30 43 = nI N) ∧ (ji g 1 10 = nI r ∧ ji g' 30 46 = nI r) ∧ FE T F g g' ∧ TRF T g g'
/-- what may change at all -/
abbrev cRp : Nat → Nat → Prop := fun b k => (2 ≤ b ∧ b ≤ 9) ∨ (b = 10 ∧ (k = 8 ∨ k = 9)) ∨ (12 ≤ b ∧ b ≤ 27) ∨ 74 ≤ b
abbrev mRp : Nat → Nat → Prop := fun b k => mEp b k ∨ b = 66 ∨ b = 57
theorem cRp_p {B q : Nat} {g g' : jH} (hT : TS B g g') (hq : 74 ≤ q) {b k : Nat} (z : cPf (jp g 11) q b k) : cRp b k := by
  rcases z with (⟨a, t, ha, hp, y1, y2⟩ | y | y | y) | y | y | y
  · have := (ts_t hT ha hp).2.1.1
    exact Or.inr (Or.inr (Or.inr (by omega)))
  · exact Or.inl y
  · exact Or.inr (Or.inl y)
  · exact Or.inr (Or.inr (Or.inl ⟨by omega, by omega⟩))
  · exact Or.inr (Or.inr (Or.inl ⟨by omega, by omega⟩))
  · exact Or.inr (Or.inr (Or.inr (by omega)))
  · exact Or.inr (Or.inr (Or.inl ⟨by omega, by omega⟩))
theorem RS.fr {P P' : Nat → Nat → Prop} {g g' h h' : jH} {i q : Nat} (hr : RS g g' i q) (f : Fr P g h) (f' : Fr P' g' h') (h1 : ∀ k, ¬ P q k) (h2 : ∀ j, j < 6 → ¬ P' 66 (6 * i + j)) : RS h h' i q := fun j hj => by
  rw [f.i (h1 _), f'.i (h2 j hj)]
  exact hr j hj
/-- one transfer has been tried -/
theorem TRF.step {B T i q : Nat} {g g' G G' : jH} (hS : TS B g g') (hT : TRF T g g') (hT24 : T ≤ 24) (hi : i < T) (hq : jp g 28 i = some q) (hR : RS G G' i q) (F : Fr (cPf (jp g 11) q) g G) (F' : Fr (mPf i) g' G') : TRF T G G' := by
  obtain ⟨h1, h2, h3⟩ := hT
  have out : ∀ j q2, j < T → jp g 28 j = some q2 → ¬ j = i → TK g g' j q2 → ∀ k, ¬ cPf (jp g 11) q q2 k := by
    intro j q2 hj hp hne hk k
    rintro (z | z | z | z)
    · exact q_out hS hk.2.2.1 hk.2.1 k z
    · have := hk.2.1; omega
    · exact hne (h3 j i q2 hj hi hp (by rw [z.1]; exact hq))
    · have := hk.2.1; omega
  refine ⟨fun j hj => ?_, fun j y1 y2 => ?_, fun a b q2 ha hb y1 y2 => h3 a b q2 ha hb (by rw [← F.p]; exact y1) (by rw [← F.p]; exact y2)⟩
  · obtain ⟨q2, p1, p2, p3⟩ := h1 j hj
    by_cases c : j = i
    · subst c
      have e : q2 = q := Option.some.inj (p1.symm.trans hq)
      subst e
      refine ⟨q2, by rw [F.p]; exact p1, p2.fr F F' (fun k hk => ?_) (fun l y1 y2 => by omega), hR⟩
      rintro (z | z | z | z)
      · exact q_out hS p2.2.2.1 p2.2.1 k z
      · have := p2.2.1; omega
      · omega
      · have := p2.2.1; omega
    · exact ⟨q2, by rw [F.p]; exact p1, p2.fr F F' (fun k hk => out j q2 hj p1 c p2 k) (fun l y1 y2 => by omega), p3.fr F F' (out j q2 hj p1 c p2) (fun l hl => by omega)⟩
  · obtain ⟨z1, z2⟩ := h2 j y1 y2
    exact ⟨by rw [F.p]; exact z1, fun l hl => by rw [F'.i (by omega)]; exact z2 l hl⟩
theorem c_transferAt {g : jH} {T i : Nat} (qc : CS g) (hT : T ≤ 24) (h5 : ji g 1 5 = nI T) (hi : i < T) {q : Nat} (hq : jp g 28 i = some q) : jV 91 0 [some (.ref 1), some (.int (nI i))] [] g = some (some (.ref q), g) := by
  have e1 : nI T - 1 = nI (T - 1) := pk_sub (a := T) (b := 1) (by omega)
  have w := c_within (nI i) 0 (nI (T - 1)) g
  rw [jB_t ⟨nI_pos (by omega), nI_nlt (by omega) (by omega)⟩] at w
  have lt : nI i < 24 := nI_lt (b := 24) (by omega) (by omega)
  have a4 : jin (nI i) 24 = true := jin_nI (by omega) (by omega)
  have a5 : (nI i).toNatClampNeg = i := nI_clamp (by omega)
  simp only [s91_0, s91_1, s91_2, s91_3, s91_6, s91_7, s91_8, s91_11, s91_14, s91_15, s91_17, s91_20, s91_21, s91_24, s91_25, s91_26, s91_29, s91_30, s91_30n, k1 qc, k28 qc, p1_3 qc, h5, e1, w, lt, a4, a5, hq, n1, ↓reduceIte, va_rf_s, va_rf_n, jb_some, jb_none, jtl_s, jtl_n, if_true, if_false, true_and, and_true, false_and, and_false, or_true, true_or, or_false, false_or, not_true_eq_false, not_false_eq_true, jk_si, jp_si, jj_si, jk_sj, jp_sj, ji_sj, jk_ci, jp_ci, jj_ci, jk_cj, jp_cj, ji_cj, jlng_n, jlng_i, jlng_r, jlng_0]
theorem ru_in {T e r N : Nat} {many c x4 x5 begin from' : Int32} (hT24 : T ≤ 24) (he : e ≤ T) (hr : r ≤ 2) (hN : N < 8) : ∀ (m s B : Nat) (g g' : jH) (d : Int32), e - s = m → s ≤ 24 → AT B g g' → TRF T g g' → ji g 1 5 = nI T → (ji g 1 10 = nI r ∧ ji g' 30 46 = nI r) → (ji g' 67 N = nI e ∧ ji g' 30 43 = nI N) → B + 12660 * m < 1610612736 → ∃ G G' d' z6 y6, jV 79 69 [some (.ref 1), some (.int many), some (.int d), some (.int c), some (.int x4), some (.int (nI e)), some (.int (nI s))] [] g = jV 79 98 [some (.ref 1), some (.int many), some (.int d'), some (.int c), some (.int x4), some (.int (nI e)), some (.int z6)] [] G ∧ jV 139 112 [some (.ref 30), some (.int many), some (.int d), some (.int c), some (.int begin), some (.int from'), some (.int (nI s))] [] g' = jV 139 149 [some (.ref 30), some (.int many), some (.int d'), some (.int c), some (.int begin), some (.int from'), some (.int y6)] [] G' ∧ AT (B + 12660 * m) G G' ∧ TRF T G G' ∧ Fr cRp g G ∧ Fr mRp g' G'
  | 0, s, B, g, g', d, h, hs, hA, hT, h5, h10, h67, hB => by
    obtain ⟨qc, qm, _⟩ := id hA
    have lt : ¬ nI s < nI e := nI_nlt (by omega) (by omega)
    have a4 : jin (nI N) 8 = true := jin_nI hN (by omega)
    have a5 : (nI N).toNatClampNeg = N := nI_clamp (by omega)
    refine ⟨g, g', d, nI s, nI s, ?_, ?_, hA, hT, Fr.refl g, Fr.refl g'⟩
    · simp only [s79_69, s79_71, s79_73, lt, ↓reduceIte, va_rf_s, va_rf_n, jb_some, jb_none, jtl_s, jtl_n, if_true, if_false, true_and, and_true, false_and, and_false, or_true, true_or, or_false, false_or, not_true_eq_false, not_false_eq_true, jk_si, jp_si, jj_si, jk_sj, jp_sj, ji_sj, jk_ci, jp_ci, jj_ci, jk_cj, jp_cj, ji_cj, jlng_n, jlng_i, jlng_r, jlng_0]
    · simp only [s139_112, s139_114, s139_115, s139_118, s139_119, s139_122, s139_123, k30 qm, k67 qm, p30_41 qm, h67.1, h67.2, a4, a5, lt, ↓reduceIte, va_rf_s, va_rf_n, jb_some, jb_none, jtl_s, jtl_n, if_true, if_false, true_and, and_true, false_and, and_false, or_true, true_or, or_false, false_or, not_true_eq_false, not_false_eq_true, jk_si, jp_si, jj_si, jk_sj, jp_sj, ji_sj, jk_ci, jp_ci, jj_ci, jk_cj, jp_cj, ji_cj, jlng_n, jlng_i, jlng_r, jlng_0]
  | m + 1, s, B, g, g', d, h, hs, hA, hT, h5, h10, h67, hB => by
    obtain ⟨qc, qm, hR, hS, hb, _⟩ := id hA
    have lt : nI s < nI e := nI_lt (by omega) (by omega)
    have a4 : jin (nI N) 8 = true := jin_nI hN (by omega)
    have a5 : (nI N).toNatClampNeg = N := nI_clamp (by omega)
    have e1 : nI s + 1 = nI (s + 1) := nI_add s 1
    have hsT : s < T := by omega
    obtain ⟨q, p1, p2, p3⟩ := hT.1 s hsT
    have hta := c_transferAt qc hT24 h5 hsT p1
    have hB1 : B + 12660 < 1610612736 := Nat.lt_of_le_of_lt (Nat.add_le_add_left (Nat.le_mul_of_pos_right 12660 (Nat.succ_pos m)) B) hB
    obtain ⟨G, G', w, q1, q2, q3, q4, q5, q6, q7⟩ := q_perform hA p2 hr h10.1 h10.2 hB1
    have FA : Fr cRp g G := q6.sub (fun b k z => cRp_p hS p2.2.1 z)
    have FA' : Fr mRp g' G' := q7.sub (fun b k z => z.elim Or.inl (fun y => y.elim (fun w => Or.inr (Or.inl w.1)) (fun w => Or.inr (Or.inr w))))
    have hB2 : B + 12660 + 12660 * m < 1610612736 := by rw [Nat.mul_succ] at hB; omega
    obtain ⟨G2, G2', d2, z6, y6, r1, r2, r3, r4, r5, r6⟩ := ru_in (many := many) (c := c) (x4 := x4) (x5 := x5) (begin := begin) (from' := from') hT24 he hr hN m (s + 1) (B + 12660) G G' (d + w) (by omega) (by omega) q4 (hT.step hS hT24 hsT p1 q5 q6 q7) (by rw [FA.i (by omega)]; exact h5) ⟨by rw [FA.i (by omega)]; exact h10.1, by rw [FA'.i (by omega)]; exact h10.2⟩ ⟨by rw [FA'.i (by omega)]; exact h67.1, by rw [FA'.i (by omega)]; exact h67.2⟩ hB2
    refine ⟨G2, G2', d2, z6, y6, ?_, ?_, ?_, r4, FA.trans r5, FA'.trans r6⟩
    · rw [← r1]
      rcases in_B2 q3 with z | z
      · subst z
        have e0 : d + 0 = d := Int32.add_zero d
        simp only [s79_69 (x := nI s), s79_71, s79_73, s79_76, s79_77, s79_78, s79_80, s79_83, s79_86, s79_89, s79_92, s79_95, lt, k1 qc, hta, q1, e1, e0, ↓reduceIte, va_rf_s, va_rf_n, jb_some, jb_none, jtl_s, jtl_n, if_true, if_false, true_and, and_true, false_and, and_false, or_true, true_or, or_false, false_or, not_true_eq_false, not_false_eq_true, jk_si, jp_si, jj_si, jk_sj, jp_sj, ji_sj, jk_ci, jp_ci, jj_ci, jk_cj, jp_cj, ji_cj, jlng_n, jlng_i, jlng_r, jlng_0]
      · subst z
        simp only [s79_69 (x := nI s), s79_71, s79_73, s79_76, s79_77, s79_78, s79_80, s79_83, s79_86, s79_89, s79_92, s79_95, lt, k1 qc, hta, q1, e1, n1, ↓reduceIte, va_rf_s, va_rf_n, jb_some, jb_none, jtl_s, jtl_n, if_true, if_false, true_and, and_true, false_and, and_false, or_true, true_or, or_false, false_or, not_true_eq_false, not_false_eq_true, jk_si, jp_si, jj_si, jk_sj, jp_sj, ji_sj, jk_ci, jp_ci, jj_ci, jk_cj, jp_cj, ji_cj, jlng_n, jlng_i, jlng_r, jlng_0]
    · rw [← r2]
      rcases in_B2 q3 with z | z
      · subst z
        simp only [s139_112 (x := nI s), s139_114, s139_115, s139_118, s139_119, s139_122, s139_123, s139_126, s139_127, s139_128, s139_130, s139_133, s139_136, s139_137, s139_140, s139_141, s139_142, s139_143, s139_146, k30 qm, k67 qm, p30_41 qm, h67.1, h67.2, a4, a5, lt, q2, e1, ↓reduceIte, va_rf_s, va_rf_n, jb_some, jb_none, jtl_s, jtl_n, if_true, if_false, true_and, and_true, false_and, and_false, or_true, true_or, or_false, false_or, not_true_eq_false, not_false_eq_true, jk_si, jp_si, jj_si, jk_sj, jp_sj, ji_sj, jk_ci, jp_ci, jj_ci, jk_cj, jp_cj, ji_cj, jlng_n, jlng_i, jlng_r, jlng_0]
      · subst z
        simp only [s139_112 (x := nI s), s139_114, s139_115, s139_118, s139_119, s139_122, s139_123, s139_126, s139_127, s139_128, s139_130, s139_133, s139_136, s139_137, s139_140, s139_141, s139_142, s139_143, s139_146, k30 qm, k67 qm, p30_41 qm, h67.1, h67.2, a4, a5, lt, q2, e1, n1, ↓reduceIte, va_rf_s, va_rf_n, jb_some, jb_none, jtl_s, jtl_n, if_true, if_false, true_and, and_true, false_and, and_false, or_true, true_or, or_false, false_or, not_true_eq_false, not_false_eq_true, jk_si, jp_si, jj_si, jk_sj, jp_sj, ji_sj, jk_ci, jp_ci, jj_ci, jk_cj, jp_cj, ji_cj, jlng_n, jlng_i, jlng_r, jlng_0]
    · rw [Nat.mul_succ, show B + (12660 * m + 12660) = B + 12660 + 12660 * m by omega]
      exact r3
