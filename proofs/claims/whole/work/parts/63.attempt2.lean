/-! ONE ATTEMPT, all of it -/
theorem si_si (g : jH) (a k : Nat) (v w : Int32) : jsi (jsi g a k v) a k w = jsi g a k w := jH_ext (fun b => by rw [jk_si, jk_si, jk_si]) (fun b j => by
  rw [ji_si, ji_si, ji_si]
  by_cases c : b = a ∧ j = k
  · rw [if_pos c, if_pos c]
  · rw [if_neg c, if_neg c, if_neg c]) (fun b j => by rw [jj_si, jj_si, jj_si]) (fun b j => by rw [jp_si, jp_si, jp_si]) rfl
theorem KD.cg {f m f' m' : Nat → Int32} (h : KD f m) (hf : ∀ k, k < 7 → f' k = f k) (hm : ∀ l, 58 ≤ l → l ≤ 65 → m' l = m l) : KD f' m' := by
  have f0 := hf 0 (by omega)
  have f1 := hf 1 (by omega)
  have f2 := hf 2 (by omega)
  have f3 := hf 3 (by omega)
  have f4 := hf 4 (by omega)
  have f5 := hf 5 (by omega)
  have m58 := hm 58 (by omega) (by omega)
  have m59 := hm 59 (by omega) (by omega)
  have m60 := hm 60 (by omega) (by omega)
  have m61 := hm 61 (by omega) (by omega)
  have m62 := hm 62 (by omega) (by omega)
  have m63 := hm 63 (by omega) (by omega)
  have m64 := hm 64 (by omega) (by omega)
  unfold KD at h ⊢
  rw [f0, f1, f2, f3, f4, f5, m58, m59, m60, m61, m62, m63, m64]
  exact h
theorem TK.fr {P P' : Nat → Nat → Prop} {g g' h h' : jH} {i q : Nat} (hK : TK g g' i q) (f : Fr P g h) (f' : Fr P' g' h') (h1 : ∀ k, k < 7 → ¬ P q k) (h2 : ∀ l, 58 ≤ l → l ≤ 65 → ¬ P' l i) : TK h h' i q := by
  obtain ⟨q1, q2, q3, ⟨ln, q4, q5, q6⟩, q7⟩ := hK
  exact ⟨q1, q2, by rw [f.k]; exact q3, ⟨ln, q4, by rw [f.i (h1 6 (by omega))]; exact q5, by rw [f'.i (h2 65 (by omega) (by omega))]; exact q6⟩, q7.cg (fun k hk => f.i (h1 k hk)) (fun l y1 y2 => f'.i (h2 l y1 y2))⟩
/-- a transfer is no terminal -/
theorem q_out {B q : Nat} {g g' : jH} (hT : TS B g g') (kq : jk g q = (6, 0)) (hq : 74 ≤ q) (k : Nat) : ¬ cEp (jp g 11) q k := by
  rintro (⟨a, t, ha, hp, z1, z2⟩ | z | z | z)
  · obtain ⟨p0, p1, p2, p3, p4, p5, p6⟩ := (ts_t hT ha hp).2.kd
    rcases (show q = t ∨ q = t + 1 ∨ q = t + 2 ∨ q = t + 3 ∨ q = t + 4 ∨ q = t + 5 ∨ q = t + 6 by omega) with rfl | rfl | rfl | rfl | rfl | rfl | rfl
    · exact absurd (p0.symm.trans kq) (by decide)
    · exact absurd (p1.symm.trans kq) (by decide)
    · exact absurd (p2.symm.trans kq) (by decide)
    · exact absurd (p3.symm.trans kq) (by decide)
    · exact absurd (p4.symm.trans kq) (by decide)
    · exact absurd (p5.symm.trans kq) (by decide)
    · exact absurd (p6.symm.trans kq) (by decide)
  · omega
  · omega
  · omega
/-- a change of one transfer's own fields -/
theorem EX.tr {P P' : Nat → Nat → Prop} {B n q : Nat} {L A0 A1 : List Int32} {g g' h h' : jH} (hE : EX B L g g' n A0 A1) (kq : jk g q = (6, 0)) (hq : 74 ≤ q) (f : Fr P g h) (f' : Fr P' g' h') (h1 : ∀ b k, P b k → b = q) (h2 : ∀ b k, P' b k → b = 66) : EX B L h h' n A0 A1 := by
  obtain ⟨q1, q2, q3, q4, q5, ⟨R0, q6⟩, q7, q8⟩ := hE
  have n1 : ∀ b k, b < 74 → ¬ P b k := fun b k z y => by have := h1 b k y; omega
  have n2 : ∀ b k, ¬ b = 66 → ¬ P' b k := fun b k z y => z (h2 b k y)
  have n3 : ∀ a b k, mTA a b k → ¬ P' b k := fun a b k z => n2 b k (by rcases z with ⟨z1, z2⟩ | ⟨z1, z2⟩ | ⟨z1, z2⟩ | ⟨z1, z2⟩ | ⟨z1, z2⟩ <;> omega)
  refine ⟨f.cs q1, f'.ms q2, q3.fr f f' (fun b k z1 z2 => n1 b k (by omega)) (fun k z => n2 30 k (by omega)) (fun b k z1 z2 => n2 b k (by omega)), q4.fr f (fun b k z1 z2 => n1 b k (by omega)), q5.fr f' (n2 30 49 (by omega)) (fun k => n2 68 k (by omega)), ⟨R0, q6.fr f (fun b k z1 z2 => n1 b k (by omega))⟩, q7.fr f f' (fun b k z1 z2 => n1 b k (by omega)) (n1 10 8 (by omega)) (n2 30 52 (by omega)) (fun b k z => n2 b k (by omega)), fun a ha => ?_⟩
  have e31 : ji h' 31 a = ji g' 31 a := f'.i (n2 _ _ (by omega))
  rcases q8 a ha with ⟨z1, z2, z3⟩ | ⟨t, z1, z2, z3⟩
  · exact Or.inl ⟨by rw [f.p]; exact z1, by rw [e31]; exact z2, z3.fr f' (n3 a)⟩
  · refine Or.inr ⟨t, by rw [f.p]; exact z1, by rw [e31]; exact z2, z3.fr f f' (fun b k y1 y2 y => ?_) (n3 a)⟩
    have e := h1 b k y
    subst e
    exact q_out q8 kq hq 0 (Or.inl ⟨a, t, ha, z1, y1, y2⟩)
theorem EX.time {B n : Nat} {L A0 A1 : List Int32} {g g' : jH} (hE : EX B L g g' n A0 A1) (x : Int32) : EX B L (jsi g 2 6 x) (jsi g' 30 22 x) n A0 A1 := by
  obtain ⟨q1, q2, q3, q4, q5, ⟨R0, q6⟩, q7, q8⟩ := hE
  have f : Fr (fun b k => b = 2) g (jsi g 2 6 x) := (Fr.refl g).si rfl
  have f' : Fr (fun b k => b = 30 ∧ k = 22) g' (jsi g' 30 22 x) := (Fr.refl g').si ⟨rfl, rfl⟩
  exact ⟨f.cs q1, f'.ms q2, RLi_time q3 x, q4.fr f (fun b k z1 z2 => by omega), q5.fr f' (by omega) (fun k => by omega), ⟨R0, q6.fr f (fun b k z1 z2 => by omega)⟩, q7.fr f f' (fun b k z1 z2 => by omega) (by omega) (by omega) (fun b k z => by omega), q8.fr f f' (fun b k z => by omega) (fun b k z1 z2 => by omega)⟩
abbrev cAt (p : Nat → Option Nat) (q : Nat) : Nat → Nat → Prop := fun b k => cEp p b k ∨ (12 ≤ b ∧ b ≤ 17) ∨ (b = q ∧ 8 ≤ k ∧ k ≤ 12)
abbrev mAt (i : Nat) : Nat → Nat → Prop := fun b k => mEp b k ∨ (b = 66 ∧ k = 6 * i + 4)
theorem q_att {B i q l : Nat} {g g' : jH} (hA : AT B g g') (hK : TK g g' i q) (hl : l ≤ 1) (hB : B + 2110 < 1610612736) : ∃ G G' v L n A0 A1, jV 90 0 [some (.ref 1), some (.ref q), some (.int (nI l))] [] g = jV 90 114 [some (.ref 1), some (.ref q), some (.int (nI l))] [] G ∧ jV 137 0 [some (.ref 30), some (.int (nI i)), some (.int (nI l)), none, none, none, none] [] g' = some (some (.int v), G') ∧ EX (B + 2110) L G G' n A0 A1 ∧ (∃ LW, WI G 12 LW) ∧ (ji G q 10 = v ∧ ji G q 8 = ji g q 8 + 1 ∧ ji G q 9 = nI l ∧ ji G q 11 = ji G' 66 (6 * i + 4) ∧ ji G q 12 = ji G' 30 22 ∧ ji G q 7 = ji g q 7) ∧ (v = 0 → ¬ ji g q 4 = 0 → ∃ w, w ≤ 32 ∧ ji g q 3 = nI w ∧ 1 ≤ n ∧ JDt A0 1 w) ∧ Fr (cAt (jp g 11) q) g G ∧ Fr (mAt i) g' G' := by
  obtain ⟨qc, qm, hR, hT, hb, _⟩ := id hA
  obtain ⟨hi, hq74, kq, _⟩ := id hK
  obtain ⟨g1, G0, G0', L, c1, m1, qc1, c2, hE0, h9, F0, F0', LW, W12⟩ := q_tell hA hK hl (by omega)
  obtain ⟨G1, G2, G2', n, A0, A1, c3, c4, qc2, m2, hE2, F2, F2'⟩ := q_all (tt := nI i) (y4 := none) (y5 := none) (y6 := none) hE0 hl h9 (by omega)
  have ep : jp G0 11 = jp g 11 := funext (fun b => F0.p 11 b)
  rw [ep] at F2
  have qcG0 := F0.cs qc
  have qcG2 := F2.cs qcG0
  have f52 : Fr (fun b k => b = 30 ∧ k = 52) G0' (jsi G0' 30 52 0) := (Fr.refl G0').si ⟨rfl, rfl⟩
  have qmG0 : MS G0' := F0'.ms qm
  have FA : Fr (fun b k => cEp (jp g 11) b k ∨ (12 ≤ b ∧ b ≤ 17)) g G2 := (F0.sub (fun b k z => by
    rcases z with z | z | z | z
    · exact Or.inl (Or.inr (Or.inl z))
    · exact Or.inl (Or.inr (Or.inr (Or.inl z)))
    · exact Or.inr z
    · exact Or.inl (Or.inr (Or.inr (Or.inr ⟨by omega, by omega⟩))))).trans (F2.sub (fun b k z => Or.inl z))
  have FA' : Fr mEp g' G2' := ((F0'.sub (fun b k z => by omega)).trans (f52.sub (fun b k z => by omega))).trans F2'
  have qo : ∀ k, ¬ (cEp (jp g 11) q k ∨ (12 ≤ q ∧ q ≤ 17)) := fun k z => z.elim (q_out hT kq hq74 k) (fun y => by omega)
  have hK2 : TK G2 G2' i q := hK.fr FA FA' (fun k _ => qo k) (fun l y1 y2 => by omega)
  have kq2 : jk G2 q = (6, 0) := hK2.2.2.1
  have iq2 : ∀ k, ji G2 q k = ji g q k := fun k => FA.i (qo k)
  -- attempts, line
  have f3 : Fr (fun b k => b = q ∧ (k = 8 ∨ k = 9)) G2 (jsi (jsi G2 q 8 (ji g q 8 + 1)) q 9 (nI l)) := ((Fr.refl G2).si ⟨rfl, Or.inl rfl⟩).si ⟨rfl, Or.inr rfl⟩
  have fm0 : Fr (fun _ _ => False) G2' G2' := Fr.refl G2'
  have hE3 := hE2.tr kq2 hq74 f3 fm0 (fun b k z => z.1) (fun b k z => z.elim)
  have hK3 : TK (jsi (jsi G2 q 8 (ji g q 8 + 1)) q 9 (nI l)) G2' i q := hK2.fr f3 fm0 (fun k hk => by omega) (fun _ _ _ => id)
  obtain ⟨qc3, qm3, _, _, _, _, hA3, _⟩ := id hE3
  obtain ⟨G3, v, s, wt, f4, j1, j2, j3, j4, j5, j6, j7, j8, j9⟩ := q_judge qc3 qm3 hA3 hK3
  have kq3 : jk G3 q = (6, 0) := by rw [j4.k]; exact hK3.2.2.1
  have hE4 := hE3.tr hK3.2.2.1 hq74 j4 fm0 (fun b k z => z.1) (fun b k z => z.elim)
  have qc4 := hE4.1
  have a8 : ji G3 10 8 = nI n := by rw [j4.i (by omega)]; exact hA3.2.1.1
  have a52 : ji G2' 30 52 = nI n := hA3.2.1.2
  have hn2 := hA3.1
  have htime : ji G3 2 6 = ji G2' 30 22 := by
    obtain ⟨_, _, ⟨_, _, _, _, _, _, z, _⟩, _⟩ := hE4
    exact z
  have haw3 := j6 j4 (fun k hk => by omega)
  -- the time
  have fin : ∃ x, (jV 90 62 [some (.ref 1), some (.ref q), some (.int (nI l))] [] G3 = jV 90 114 [some (.ref 1), some (.ref q), some (.int (nI l))] [] (jsi (jsi G3 2 6 x) q 12 x) ∨ jV 90 62 [some (.ref 1), some (.ref q), some (.int (nI l))] [] G3 = jV 90 114 [some (.ref 1), some (.ref q), some (.int (nI l))] [] (jsi (jsi (jsi G3 2 6 (ji G3 2 6 + 14)) 2 6 x) q 12 x)) ∧ jV 137 184 [some (.ref 30), some (.int (nI i)), some (.int (nI l)), some (.int (nI wt)), some (.int f4), some (.int v), none] [] G2' = jV 137 209 [some (.ref 30), some (.int (nI i)), some (.int (nI l)), some (.int (nI wt)), some (.int f4), some (.int v), none] [] (jsi G2' 30 22 x) := by
    by_cases c : n < wt
    · have lt : nI n < nI wt := nI_lt c (by omega)
      refine ⟨ji G2' 30 22 + (14 + 4), Or.inr ?_, ?_⟩
      · have e1 : ji G3 2 6 + 14 + 4 = ji G2' 30 22 + (14 + 4) := by rw [htime, Int32.add_assoc]
        have qcx : CS (jsi G3 2 6 (ji G3 2 6 + 14)) := ((Fr.refl (P := fun b k => b = 2) G3).si rfl).cs qc4
        have qcy : CS (jsi (jsi G3 2 6 (ji G3 2 6 + 14)) 2 6 (ji G3 2 6 + 14 + 4)) := ((Fr.refl (P := fun b k => b = 2) _).si rfl).cs qcx
        rw [← e1]
        simp only [s90_62, s90_63, s90_66, s90_69, s90_70, s90_73, s90_76, s90_77, s90_80, s90_81, s90_84, s90_86, s90_87, s90_90, s90_91, s90_94, s90_95, s90_98, s90_99, s90_100, s90_103, s90_104, s90_105, s90_108, s90_111, k1 qc4, k10 qc4, p1_1 qc4, a8, haw3, lt, kq3, k2 qc4, p1_0 qc4, k1 qcx, k2 qcx, p1_0 qcx, k1 qcy, k2 qcy, p1_0 qcy, ji_si, jk_si, if_true, and_self, ↓reduceIte, va_rf_s, va_rf_n, jb_some, jb_none, jtl_s, jtl_n, if_true, if_false, true_and, and_true, false_and, and_false, or_true, true_or, or_false, false_or, not_true_eq_false, not_false_eq_true, jk_si, jp_si, jj_si, jk_sj, jp_sj, ji_sj, jk_ci, jp_ci, jj_ci, jk_cj, jp_cj, ji_cj, jlng_n, jlng_i, jlng_r, jlng_0]
      · simp only [s137_184, s137_185, s137_186, s137_189, s137_190, s137_193, s137_194, s137_197, s137_199, s137_202, s137_203, s137_204, s137_205, s137_206, k30 qm3, a52, lt, ↓reduceIte, va_rf_s, va_rf_n, jb_some, jb_none, jtl_s, jtl_n, if_true, if_false, true_and, and_true, false_and, and_false, or_true, true_or, or_false, false_or, not_true_eq_false, not_false_eq_true, jk_si, jp_si, jj_si, jk_sj, jp_sj, ji_sj, jk_ci, jp_ci, jj_ci, jk_cj, jp_cj, ji_cj, jlng_n, jlng_i, jlng_r, jlng_0]
    · have lt : ¬ nI n < nI wt := nI_nlt (by omega) (by omega)
      refine ⟨ji G2' 30 22 + 4, Or.inl ?_, ?_⟩
      · have e1 : ji G3 2 6 + 4 = ji G2' 30 22 + 4 := by rw [htime]
        have qcy : CS (jsi G3 2 6 (ji G3 2 6 + 4)) := ((Fr.refl (P := fun b k => b = 2) _).si rfl).cs qc4
        rw [← e1]
        simp only [s90_62, s90_63, s90_66, s90_69, s90_70, s90_73, s90_76, s90_77, s90_80, s90_81, s90_84, s90_86, s90_87, s90_90, s90_91, s90_94, s90_95, s90_98, s90_99, s90_100, s90_103, s90_104, s90_105, s90_108, s90_111, k1 qc4, k10 qc4, p1_1 qc4, a8, haw3, lt, kq3, k2 qc4, p1_0 qc4, k1 qcy, k2 qcy, p1_0 qcy, ji_si, jk_si, if_true, and_self, ↓reduceIte, va_rf_s, va_rf_n, jb_some, jb_none, jtl_s, jtl_n, if_true, if_false, true_and, and_true, false_and, and_false, or_true, true_or, or_false, false_or, not_true_eq_false, not_false_eq_true, jk_si, jp_si, jj_si, jk_sj, jp_sj, ji_sj, jk_ci, jp_ci, jj_ci, jk_cj, jp_cj, ji_cj, jlng_n, jlng_i, jlng_r, jlng_0]
      · have e2 : (0 : Int32) + 4 = 4 := rfl
        simp only [s137_184, s137_185, s137_186, s137_189, s137_190, s137_193, s137_194, s137_197, s137_199, s137_202, s137_203, s137_204, s137_205, s137_206, k30 qm3, a52, lt, e2, ↓reduceIte, va_rf_s, va_rf_n, jb_some, jb_none, jtl_s, jtl_n, if_true, if_false, true_and, and_true, false_and, and_false, or_true, true_or, or_false, false_or, not_true_eq_false, not_false_eq_true, jk_si, jp_si, jj_si, jk_sj, jp_sj, ji_sj, jk_ci, jp_ci, jj_ci, jk_cj, jp_cj, ji_cj, jlng_n, jlng_i, jlng_r, jlng_0]
  obtain ⟨x, hx1, hx2⟩ := fin
  have hx1 : jV 90 62 [some (.ref 1), some (.ref q), some (.int (nI l))] [] G3 = jV 90 114 [some (.ref 1), some (.ref q), some (.int (nI l))] [] (jsi (jsi G3 2 6 x) q 12 x) := by
    rcases hx1 with z | z
    · exact z
    · rw [si_si] at z
      exact z
  have hE5 := hE4.time x
  have f6 : Fr (fun b k => b = q ∧ k = 12) (jsi G3 2 6 x) (jsi (jsi G3 2 6 x) q 12 x) := (Fr.refl _).si ⟨rfl, rfl⟩
  have f6' : Fr (fun b k => b = 66 ∧ k = 6 * i + 4) (jsi G2' 30 22 x) (jsi (jsi G2' 30 22 x) 66 (6 * i + 4) s) := (Fr.refl _).si ⟨rfl, rfl⟩
  have f5 : Fr (fun b k => b = 2) G3 (jsi G3 2 6 x) := (Fr.refl G3).si rfl
  have f5' : Fr (fun b k => b = 30 ∧ k = 22) G2' (jsi G2' 30 22 x) := (Fr.refl G2').si ⟨rfl, rfl⟩
  have hE6 := hE5.tr (q := q) (by rw [f5.k]; exact kq3) hq74 f6 f6' (fun b k z => z.1) (fun b k z => z.1)
  have W12' : ∃ LW, WI (jsi (jsi G3 2 6 x) q 12 x) 12 LW := ⟨LW, ((((W12.fr F2 (fun b k z1 z2 => by
    rintro (⟨a, t, ha, hp, y1, y2⟩ | y | y | y)
    · have := (ts_t hT ha hp).2.1.1; omega
    · omega
    · omega
    · omega)).fr f3 (fun b k z1 z2 => by omega)).fr j4 (fun b k z1 z2 => by omega)).fr f5 (fun b k z1 z2 => by omega)).fr f6 (fun b k z1 z2 => by omega)⟩
  have w2 : ∀ k, ¬ k = 12 → ji (jsi (jsi G3 2 6 x) q 12 x) q k = ji G3 q k := fun k hk => by rw [f6.i (by omega), f5.i (by omega)]
  refine ⟨_, _, v, L, n, A0, A1, ?_, ?_, hE6.mono (by omega) hB, W12', ⟨by rw [w2 10 (by omega)]; exact j2, by rw [w2 8 (by omega), j4.i (by omega), ji_si, if_neg (by omega), ji_si, if_pos ⟨rfl, rfl⟩], by rw [w2 9 (by omega), j4.i (by omega), ji_si, if_pos ⟨rfl, rfl⟩], by rw [w2 11 (by omega), j3, ji_si, if_pos ⟨rfl, rfl⟩], ?_, by rw [w2 7 (by omega), j4.i (by omega), f3.i (by omega), iq2]⟩, fun z1 z2 => ?_, ?_, ?_⟩
  · have i8 : ji G2 q 8 = ji g q 8 := iq2 8
    simp only [s90_0, s90_1, s90_2, s90_5, s90_8, s90_9, s90_12, s90_15, s90_16, s90_19, s90_20, s90_23, s90_24, s90_27, s90_28, s90_31, s90_32, s90_35, s90_36, s90_39, s90_40, s90_41, s90_44, s90_45, s90_46, s90_49, s90_50, s90_51, s90_54, s90_55, s90_56, s90_59, k1 qc, k10 qc, k1 qc1, k10 qc1, p1_1 qc, p1_1 qc1, p1_2 qc, p10_2 qc, kq, c1, c2, k1 qcG0, k10 qcG0, p1_1 qcG0, c3, k1 qc2, k10 qc2, p1_1 qc2, c4, k1 qcG2, p1_1 qcG2, kq2, jk_si, jp_si, i8, k1 qc3, p1_1 qc3, j1, hx1, ↓reduceIte, va_rf_s, va_rf_n, jb_some, jb_none, jtl_s, jtl_n, if_true, if_false, true_and, and_true, false_and, and_false, or_true, true_or, or_false, false_or, not_true_eq_false, not_false_eq_true, jk_si, jp_si, jj_si, jk_sj, jp_sj, ji_sj, jk_ci, jp_ci, jj_ci, jk_cj, jp_cj, ji_cj, jlng_n, jlng_i, jlng_r, jlng_0]
  · have z0 : nI 31 = 31 := rfl
    have m2' := m2 none
    have j7' := j7 (nI l) (nI 31) none none none
    have j8' := j8 (nI l) f4 v none x
    simp only [s137_0, s137_1, s137_2, s137_3, s137_6, s137_7, s137_8, k30 qm, k30 qmG0, m1, m2', j7', hx2, j8', ↓reduceIte, va_rf_s, va_rf_n, jb_some, jb_none, jtl_s, jtl_n, if_true, if_false, true_and, and_true, false_and, and_false, or_true, true_or, or_false, false_or, not_true_eq_false, not_false_eq_true, jk_si, jp_si, jj_si, jk_sj, jp_sj, ji_sj, jk_ci, jp_ci, jj_ci, jk_cj, jp_cj, ji_cj, jlng_n, jlng_i, jlng_r, jlng_0]
  · rw [ji_si, if_pos ⟨rfl, rfl⟩, ji_si, if_neg (by omega), ji_si, if_pos ⟨rfl, rfl⟩]
  · have z2' : ¬ ji (jsi (jsi G2 q 8 (ji g q 8 + 1)) q 9 (nI l)) q 4 = 0 := by rw [f3.i (by omega), iq2]; exact z2
    obtain ⟨w, y1, y2, y3, y4⟩ := j9 z1 z2'
    rw [f3.i (by omega), iq2] at y2
    exact ⟨w, y1, y2, y3, y4⟩
  · refine ((((FA.sub (fun b k z => z.elim Or.inl (fun y => Or.inr (Or.inl y)))).trans (f3.sub (fun b k z => Or.inr (Or.inr ⟨z.1, by omega, by omega⟩)))).trans (j4.sub (fun b k z => Or.inr (Or.inr ⟨z.1, by omega, by omega⟩)))).trans (f5.sub (fun b k z => Or.inl (Or.inr (Or.inl ⟨by omega, by omega⟩))))).trans (f6.sub (fun b k z => Or.inr (Or.inr ⟨z.1, by omega, by omega⟩)))
  · exact ((FA'.sub (fun b k z => Or.inl z)).trans (f5'.sub (fun b k z => Or.inl (Or.inr (Or.inr ⟨z.1, Or.inr (Or.inl z.2)⟩))))).trans (f6'.sub (fun b k z => Or.inr z))
