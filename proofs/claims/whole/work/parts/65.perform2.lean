/-! A TRANSFER IS TRIED: all of it -/
theorem bl_got {G G' G2' : jH} {q w blk : Nat} {A0 : List Int32} (hb : BL G G') (hq : 74 ≤ q) (hblk : blk ≤ 15) (hw : w ≤ 32) (hW : WI G 21 A0) (hJ : JDt A0 1 w) (h1 : 1 ≤ A0.length) (hA : ∀ (j : Nat) (x : Int32), A0[j]? = some x → ji G' 69 j = x) (f' : Fr (fun b j => b = 57 ∧ 32 * blk + 0 ≤ j ∧ j < 32 * blk + w) G' G2') (h2 : ∀ j, 0 ≤ j → j < w → ji G2' 57 (32 * blk + j) = ji G' 69 (1 + j)) : BL (jci (jsi G q 7 1) 27 (va_cpy (ji G 22) (ji G 27) 1 (32 * blk) w)) G2' := by
  intro k hk
  rw [ji_ci, if_pos rfl]
  by_cases c : 32 * blk ≤ k ∧ k < 32 * blk + w
  · rw [pk_cpy_in c.1 c.2]
    have hl := hJ.1
    have hq : A0[1 + (k - 32 * blk)]? = some A0[1 + (k - 32 * blk)] := List.getElem?_eq_getElem (by omega)
    have e1 := hW.2.2.2.1 _ _ hq
    have e2 := h2 (k - 32 * blk) (by omega) (by omega)
    rw [show 32 * blk + (k - 32 * blk) = k by omega, hA _ _ hq] at e2
    have hD : isD A0[1 + (k - 32 * blk)] := (dtl_spec w A0 (by omega)).mp hJ.2 _ _ (by omega) hq
    rw [show 22 = 21 + 1 from rfl, e1, e2]
    exact ⟨rfl, hD⟩
  · rw [pk_cpy_out (by omega), f'.i (by omega)]
    exact hb k hk
theorem q_keep {B n i q : Nat} {L A0 A1 : List Int32} {G G' : jH} {l att ln : Int32} (hE : EX B L G G' n A0 A1) (hK : TK G G' i q) (hb : BL G G') (h10 : ji G q 10 = 0) (hk : ¬ ji G q 4 = 0 → ∃ w, w ≤ 32 ∧ ji G q 3 = nI w ∧ 1 ≤ n ∧ JDt A0 1 w) : ∃ G2 G2', jV 90 114 [some (.ref 1), some (.ref q), some (.int l)] [] G = some (none, G2) ∧ (∃ x5, jV 138 69 [some (.ref 30), some (.int (nI i)), some (.int att), some (.int 0), some (.int ln), none] [] G' = jV 138 138 [some (.ref 30), some (.int (nI i)), some (.int att), some (.int 0), some (.int ln), x5] [] G2') ∧ BL G2 G2' ∧ ji G2 q 7 = 1 ∧ Fr (fun b k => (b = q ∧ k = 7) ∨ b = 27) G G2 ∧ Fr (fun b k => b = 57) G' G2' := by
  obtain ⟨qc, qm, _, _, _, _, hA, _⟩ := id hE
  obtain ⟨hi, hq74, kq, _, hd⟩ := id hK
  have a4 : jin (nI i) 24 = true := jin_nI hi (by omega)
  have a5 : (nI i).toNatClampNeg = i := nI_clamp (by omega)
  have f1 : Fr (fun b k => (b = q ∧ k = 7) ∨ b = 27) G (jsi G q 7 1) := (Fr.refl G).si (Or.inl ⟨rfl, rfl⟩)
  have f0' : Fr (fun b k => b = 57) G' G' := Fr.refl G'
  have hb1 : BL (jsi G q 7 1) G' := hb.fr ((Fr.refl (P := fun b k => b = q) G).si rfl) (Fr.refl (P := fun _ _ => False) G') (fun k => by omega) (fun k => id)
  have i7 : ji (jsi G q 7 1) q 7 = 1 := by rw [ji_si, if_pos ⟨rfl, rfl⟩]
  -- with words
  have words : ∀ w blk, w ≤ 32 → blk ≤ 15 → ji G q 3 = nI w → ji G q 5 = nI blk → ji G' 64 i = nI blk → ¬ ji G q 4 = 0 → JDt A0 1 w → 1 ≤ n → (∀ {P : Nat → Nat → Prop} {h : jH}, Fr P G' h → (∀ l k, ¬ l = 57 → ¬ P l k) → jV 136 0 [some (.ref 30), some (.int (nI i)), none] [] h = some (some (.int (nI w)), h)) → (jV 138 69 [some (.ref 30), some (.int (nI i)), some (.int att), some (.int 0), some (.int ln), none] [] G' = jV 138 96 [some (.ref 30), some (.int (nI i)), some (.int att), some (.int 0), some (.int ln), some (.int (nI 0))] [] G') → ∃ G2 G2', jV 90 114 [some (.ref 1), some (.ref q), some (.int l)] [] G = some (none, G2) ∧ (∃ x5, jV 138 69 [some (.ref 30), some (.int (nI i)), some (.int att), some (.int 0), some (.int ln), none] [] G' = jV 138 138 [some (.ref 30), some (.int (nI i)), some (.int att), some (.int 0), some (.int ln), x5] [] G2') ∧ BL G2 G2' ∧ ji G2 q 7 = 1 ∧ Fr (fun b k => (b = q ∧ k = 7) ∨ b = 27) G G2 ∧ Fr (fun b k => b = 57) G' G2' := by
    intro w blk hw hblk h3 h5 h64 h4 hJ hn hwo hst
    obtain ⟨y1, y2, y3⟩ := hA.2.2.2.2.2.1 hn
    have W21 := hA.2.2.1.1
    have hl : 1 + w ≤ A0.length := by have := hJ.1; omega
    obtain ⟨G2', r1, r2, r3⟩ := ib_loop (x2 := att) (x3 := 0) (x4 := ln) hi hblk hw w 0 G' (by omega) qm h64 hwo
    refine ⟨_, G2', c_keep1 qc kq hq74 h10 h4 h3 h5 hblk hw W21 hl, ⟨_, hst.trans r1⟩, bl_got hb hq74 hblk hw W21 hJ y2 (fun j x hx => (y3 j x hx).1) r2 r3, ?_, f1.ci (fun k hk => absurd (Or.inr rfl) hk), r2.sub (fun b k z => z.1)⟩
    rw [ji_ci, if_neg (by omega)]
    exact i7
  rcases hd with ⟨to, tp, cnt, blk, ⟨r1, r2, r3, r4, r5, r6⟩, ⟨m1, m2, m3, m4, m5⟩, k0, k1, k2, k3, k4, k5⟩ | ⟨fr, fp, cnt, blk, ⟨r1, r2, r3, r4, r5, r6⟩, ⟨m1, m2, m3, m4, m5⟩, k0, k1, k2, k3, k4, k5⟩ | ⟨fr, fp, to, tp, cnt, ⟨r1, r2, r3, r4, r5, r6, r7, r8⟩, ⟨m1, m2, m3, m4, m5, m6⟩, k0, k1, k2, k3, k4⟩ | ⟨to, cod, blk, ⟨r1, r2, r3, r4⟩, ⟨m1, m2, m3, m4⟩, k0, k1, k2, k3, k4, k5⟩
  · have m1 : ji G' 58 i = 0 := m1
    refine ⟨_, G', c_keep0 qc kq h10 k4, ⟨none, ?_⟩, hb1, i7, f1, f0'⟩
    simp only [s138_69, s138_70, s138_73, s138_74, s138_77, s138_78, s138_79, s138_80, s138_83, s138_84, s138_87, s138_88, s138_89, s138_90, k30 qm, k58 qm, p30_31 qm, a4, a5, m1, eq_false (show ¬ (0 : Int32) = 1 by decide), eq_false (show ¬ (0 : Int32) = 3 by decide), ↓reduceIte, va_rf_s, va_rf_n, jb_some, jb_none, jtl_s, jtl_n, if_true, if_false, true_and, and_true, false_and, and_false, or_true, true_or, or_false, false_or, not_true_eq_false, not_false_eq_true, jk_si, jp_si, jj_si, jk_sj, jp_sj, ji_sj, jk_ci, jp_ci, jj_ci, jk_cj, jp_cj, ji_cj, jlng_n, jlng_i, jlng_r, jlng_0]
  · have m1 : ji G' 58 i = 1 := m1
    have m4 : ji G' 63 i = nI cnt := m4
    have m5 : ji G' 64 i = nI blk := m5
    have k4' : ¬ ji G q 4 = 0 := by rw [k4]; exact n1
    obtain ⟨w, e1, e2, e3, e4⟩ := hk k4'
    have ew : w = cnt := (e_eq (by omega) (by omega)).mp (e2.symm.trans k3)
    subst ew
    refine words w blk e1 r6 k3 k5 m5 k4' e4 e3 (fun {P h} f hp => (m_wordsOf (f.ms qm) hi).1 w (by rw [f.i (hp _ _ (by omega))]; exact m4) (Or.inl (by rw [f.i (hp _ _ (by omega))]; exact m1))) ?_
    simp only [s138_69, s138_70, s138_73, s138_74, s138_77, s138_78, s138_79, s138_80, s138_83, s138_84, s138_87, s138_88, s138_89, s138_90, s138_93, s138_94, k30 qm, k58 qm, p30_31 qm, a4, a5, m1, ↓reduceIte, va_rf_s, va_rf_n, jb_some, jb_none, jtl_s, jtl_n, if_true, if_false, true_and, and_true, false_and, and_false, or_true, true_or, or_false, false_or, not_true_eq_false, not_false_eq_true, jk_si, jp_si, jj_si, jk_sj, jp_sj, ji_sj, jk_ci, jp_ci, jj_ci, jk_cj, jp_cj, ji_cj, jlng_n, jlng_i, jlng_r, jlng_0]
    rfl
  · have m1 : ji G' 58 i = 2 := m1
    refine ⟨_, G', c_keep0 qc kq h10 k4, ⟨none, ?_⟩, hb1, i7, f1, f0'⟩
    simp only [s138_69, s138_70, s138_73, s138_74, s138_77, s138_78, s138_79, s138_80, s138_83, s138_84, s138_87, s138_88, s138_89, s138_90, k30 qm, k58 qm, p30_31 qm, a4, a5, m1, eq_false (show ¬ (2 : Int32) = 1 by decide), eq_false (show ¬ (2 : Int32) = 3 by decide), ↓reduceIte, va_rf_s, va_rf_n, jb_some, jb_none, jtl_s, jtl_n, if_true, if_false, true_and, and_true, false_and, and_false, or_true, true_or, or_false, false_or, not_true_eq_false, not_false_eq_true, jk_si, jp_si, jj_si, jk_sj, jp_sj, ji_sj, jk_ci, jp_ci, jj_ci, jk_cj, jp_cj, ji_cj, jlng_n, jlng_i, jlng_r, jlng_0]
  · have m1 : ji G' 58 i = 3 := m1
    have m3 : ji G' 62 i = nI cod := m3
    have m4 : ji G' 64 i = nI blk := m4
    have hwo : ∀ {P : Nat → Nat → Prop} {h : jH}, Fr P G' h → (∀ l k, ¬ l = 57 → ¬ P l k) → jV 136 0 [some (.ref 30), some (.int (nI i)), none] [] h = some (some (.int (nI (if sWd cod then 1 else 0))), h) := fun {P h} f hp => (m_wordsOf (f.ms qm) hi).2.2 cod r2 (by rw [f.i (hp _ _ (by omega))]; exact m3) (by rw [f.i (hp _ _ (by omega))]; exact m1)
    have hst : jV 138 69 [some (.ref 30), some (.int (nI i)), some (.int att), some (.int 0), some (.int ln), none] [] G' = jV 138 96 [some (.ref 30), some (.int (nI i)), some (.int att), some (.int 0), some (.int ln), some (.int (nI 0))] [] G' := by
      simp only [s138_69, s138_70, s138_73, s138_74, s138_77, s138_78, s138_79, s138_80, s138_83, s138_84, s138_87, s138_88, s138_89, s138_90, s138_93, s138_94, k30 qm, k58 qm, p30_31 qm, a4, a5, m1, eq_false (show ¬ (3 : Int32) = 1 by decide), ↓reduceIte, va_rf_s, va_rf_n, jb_some, jb_none, jtl_s, jtl_n, if_true, if_false, true_and, and_true, false_and, and_false, or_true, true_or, or_false, false_or, not_true_eq_false, not_false_eq_true, jk_si, jp_si, jj_si, jk_sj, jp_sj, ji_sj, jk_ci, jp_ci, jj_ci, jk_cj, jp_cj, ji_cj, jlng_n, jlng_i, jlng_r, jlng_0]
      rfl
    by_cases c : sWd cod
    · rw [if_pos c] at k3 k4 hwo
      have k4' : ¬ ji G q 4 = 0 := by rw [k4]; exact n1
      obtain ⟨w, e1, e2, e3, e4⟩ := hk k4'
      have ew : w = 1 := (e_eq (by omega) (by omega)).mp (e2.symm.trans k3)
      subst ew
      exact words 1 blk e1 r3 k3 k5 m4 k4' e4 e3 hwo hst
    · rw [if_neg c] at k3 k4 hwo
      refine ⟨_, G', c_keep0 qc kq h10 k4, ⟨some (.int (nI 0)), ?_⟩, hb1, i7, f1, f0'⟩
      have w0 := hwo (Fr.refl (P := fun _ _ => False) G') (fun _ _ _ => id)
      rw [hst]
      simp only [s138_96, s138_98, s138_99, s138_100, s138_103, k30 qm, w0, eq_false (show ¬ nI 0 < nI 0 by decide), ↓reduceIte, va_rf_s, va_rf_n, jb_some, jb_none, jtl_s, jtl_n, if_true, if_false, true_and, and_true, false_and, and_false, or_true, true_or, or_false, false_or, not_true_eq_false, not_false_eq_true, jk_si, jp_si, jj_si, jk_sj, jp_sj, ji_sj, jk_ci, jp_ci, jj_ci, jk_cj, jp_cj, ji_cj, jlng_n, jlng_i, jlng_r, jlng_0]
abbrev cPf (p : Nat → Option Nat) (q : Nat) : Nat → Nat → Prop := fun b k => cEp p b k ∨ (12 ≤ b ∧ b ≤ 17) ∨ (b = q ∧ 7 ≤ k ∧ k ≤ 12) ∨ b = 27
abbrev mPf (i : Nat) : Nat → Nat → Prop := fun b k => mEp b k ∨ (b = 66 ∧ 6 * i ≤ k ∧ k < 6 * i + 6) ∨ b = 57
/-- how a transfer went, in both -/
def RS (g g' : jH) (i q : Nat) : Prop := ∀ j, j < 6 → ji g q (7 + j) = ji g' 66 (6 * i + j)
theorem cAt_out {B q : Nat} {g g' : jH} (hT : TS B g g') (kq : jk g q = (6, 0)) (hq : 74 ≤ q) {k : Nat} (hk : ¬ (8 ≤ k ∧ k ≤ 12)) : ¬ cAt (jp g 11) q q k := by
  rintro (z | z | z)
  · exact q_out hT kq hq k z
  · omega
  · exact hk z.2
theorem pf_loop {i q r : Nat} (hr : r ≤ 2) : ∀ (m k B : Nat) (g g' : jH) (why line : Int32), k + m = 2 * (r + 1) → AT B g g' → TK g g' i q → ji g q 7 = 2 → ji g q 8 = nI k → ji g' 30 46 = nI r → ¬ why = 0 → (1 ≤ k → ji g q 9 = line ∧ ji g q 10 = why ∧ ji g q 11 = ji g' 66 (6 * i + 4) ∧ ji g q 12 = ji g' 30 22) → B + 2110 * m < 1610612736 → ∃ G G' d, jV 89 25 [some (.ref 1), some (.ref q), some (.int (nI (r + 1))), some (.int (nI k))] [] g = some (some (.int d), G) ∧ jV 138 12 [some (.ref 30), some (.int (nI i)), some (.int (nI k)), some (.int why), some (.int line), none] [] g' = some (some (.int d), G') ∧ d ∈ B2 ∧ AT (B + 2110 * m) G G' ∧ RS G G' i q ∧ Fr (cPf (jp g 11) q) g G ∧ Fr (mPf i) g' G'
  | 0, k, B, g, g', why, line, h, hA, hK, h7, h8, h46, hw, hk, hB => by
    obtain ⟨qc, qm, _⟩ := id hA
    obtain ⟨hi, hq74, kq, _⟩ := id hK
    obtain ⟨s1, s2, s3, s4⟩ := hk (by omega)
    obtain ⟨G', t1, ⟨u0, u1, u2, u3, u4, u5⟩, t3⟩ := id_end qm hi (nI k) why line none
    rw [if_neg hw] at t1 u0
    have lt : ¬ nI k < nI (2 * (r + 1)) := nI_nlt (by omega) (by omega)
    have e2 : (2 : Int32) * nI (r + 1) = nI (2 * (r + 1)) := by
      show nI 2 * nI (r + 1) = _
      rw [pk_mul]
    have e3 : nI r + 1 = nI (r + 1) := nI_add r 1
    refine ⟨g, G', 0, ?_, ?_, B2_0, ?_, ?_, Fr.refl g, t3.sub (fun b k z => Or.inr (Or.inl z))⟩
    · simp only [s89_25, s89_26, s89_27, s89_28, s89_29, s89_69, s89_70, s89_73, s89_74, s89_77, s89_78, s89_81, s89_82, e2, lt, kq, h7, eq_false (show ¬ (2 : Int32) = 1 by decide), ↓reduceIte, va_rf_s, va_rf_n, jb_some, jb_none, jtl_s, jtl_n, if_true, if_false, true_and, and_true, false_and, and_false, or_true, true_or, or_false, false_or, not_true_eq_false, not_false_eq_true, jk_si, jp_si, jj_si, jk_sj, jp_sj, ji_sj, jk_ci, jp_ci, jj_ci, jk_cj, jp_cj, ji_cj, jlng_n, jlng_i, jlng_r, jlng_0]
    · simp only [s138_12, s138_13, s138_16, s138_17, s138_18, s138_19, s138_22, s138_23, s138_24, s138_25, s138_69, s138_70, hw, k30 qm, h46, e3, e2, lt, t1, ↓reduceIte, va_rf_s, va_rf_n, jb_some, jb_none, jtl_s, jtl_n, if_true, if_false, true_and, and_true, false_and, and_false, or_true, true_or, or_false, false_or, not_true_eq_false, not_false_eq_true, jk_si, jp_si, jj_si, jk_sj, jp_sj, ji_sj, jk_ci, jp_ci, jj_ci, jk_cj, jp_cj, ji_cj, jlng_n, jlng_i, jlng_r, jlng_0]
    · exact hA.ch kq hq74 (Fr.refl (P := fun _ _ => False) g) t3 (fun _ _ z => z.elim) (fun b k z => Or.inl z.1) (hA.2.2.2.2.1.fr (Fr.refl (P := fun _ _ => False) g) t3 (fun _ => id) (fun k => by omega))
    · intro j hj
      rcases (show j = 0 ∨ j = 1 ∨ j = 2 ∨ j = 3 ∨ j = 4 ∨ j = 5 by omega) with rfl | rfl | rfl | rfl | rfl | rfl
      · exact h7.trans u0.symm
      · exact h8.trans u1.symm
      · exact s1.trans u2.symm
      · exact s2.trans u3.symm
      · exact s3.trans u4.symm
      · exact s4.trans u5.symm
  | m + 1, k, B, g, g', why, line, h, hA, hK, h7, h8, h46, hw, hk, hB => by
    obtain ⟨qc, qm, hR, hT, hb, _⟩ := id hA
    obtain ⟨hi, hq74, kq, ⟨ln, hln, l6, l65⟩, _⟩ := id hK
    have a4 : jin (nI i) 24 = true := jin_nI hi (by omega)
    have a5 : (nI i).toNatClampNeg = i := nI_clamp (by omega)
    have lt : nI k < nI (2 * (r + 1)) := nI_lt (by omega) (by omega)
    have e2 : (2 : Int32) * nI (r + 1) = nI (2 * (r + 1)) := by
      show nI 2 * nI (r + 1) = _
      rw [pk_mul]
    have e3 : nI r + 1 = nI (r + 1) := nI_add r 1
    have e1 : nI k + 1 = nI (k + 1) := nI_add k 1
    -- the line
    obtain ⟨l, hl, hlc, hlm⟩ : ∃ l, l ≤ 1 ∧ jV 89 25 [some (.ref 1), some (.ref q), some (.int (nI (r + 1))), some (.int (nI k))] [] g = jV 89 60 [some (.ref 1), some (.ref q), some (.int (nI (r + 1))), some (.int (nI k))] [.int (nI l), .ref q, .ref 1] g ∧ jV 138 12 [some (.ref 30), some (.int (nI i)), some (.int (nI k)), some (.int why), some (.int line), none] [] g' = jV 138 55 [some (.ref 30), some (.int (nI i)), some (.int (nI k)), some (.int why), some (.int (nI l)), none] [] g' := by
      by_cases c : k < r + 1
      · have c1 : nI k < nI (r + 1) := nI_lt c (by omega)
        have c2 : ¬ nI r < nI k := nI_nlt (by omega) (by omega)
        refine ⟨ln, hln, ?_, ?_⟩
        · simp only [s89_25 (x := nI k), s89_26, s89_27, s89_28, s89_29, s89_32, s89_33, s89_36, s89_37, s89_40, s89_41, s89_42, s89_43, s89_44, s89_47, s89_48, s89_51, s89_54, s89_55, s89_56, s89_59, e2, lt, kq, h7, c1, l6, ↓reduceIte, va_rf_s, va_rf_n, jb_some, jb_none, jtl_s, jtl_n, if_true, if_false, true_and, and_true, false_and, and_false, or_true, true_or, or_false, false_or, not_true_eq_false, not_false_eq_true, jk_si, jp_si, jj_si, jk_sj, jp_sj, ji_sj, jk_ci, jp_ci, jj_ci, jk_cj, jp_cj, ji_cj, jlng_n, jlng_i, jlng_r, jlng_0]
        · simp only [s138_12, s138_13, s138_16, s138_17, s138_18, s138_19, s138_22, s138_23, s138_24, s138_25, s138_28, s138_29, s138_30, s138_33, s138_36, s138_37, s138_40, s138_41, s138_42, s138_45, s138_46, s138_47, s138_50, s138_51, s138_52, s138_53, hw, k30 qm, k65 qm, p30_38 qm, h46, e3, e2, lt, c2, a4, a5, l65, ↓reduceIte, va_rf_s, va_rf_n, jb_some, jb_none, jtl_s, jtl_n, if_true, if_false, true_and, and_true, false_and, and_false, or_true, true_or, or_false, false_or, not_true_eq_false, not_false_eq_true, jk_si, jp_si, jj_si, jk_sj, jp_sj, ji_sj, jk_ci, jp_ci, jj_ci, jk_cj, jp_cj, ji_cj, jlng_n, jlng_i, jlng_r, jlng_0]
      · have c1 : ¬ nI k < nI (r + 1) := nI_nlt (by omega) (by omega)
        have c2 : nI r < nI k := nI_lt (by omega) (by omega)
        have e4 : (1 : Int32) - nI ln = nI (1 - ln) := pk_sub (a := 1) (b := ln) hln
        refine ⟨1 - ln, by omega, ?_, ?_⟩
        · simp only [s89_25 (x := nI k), s89_26, s89_27, s89_28, s89_29, s89_32, s89_33, s89_36, s89_37, s89_40, s89_41, s89_42, s89_43, s89_44, s89_47, s89_48, s89_51, s89_54, s89_55, s89_56, s89_59, e2, lt, kq, h7, c1, l6, e4, ↓reduceIte, va_rf_s, va_rf_n, jb_some, jb_none, jtl_s, jtl_n, if_true, if_false, true_and, and_true, false_and, and_false, or_true, true_or, or_false, false_or, not_true_eq_false, not_false_eq_true, jk_si, jp_si, jj_si, jk_sj, jp_sj, ji_sj, jk_ci, jp_ci, jj_ci, jk_cj, jp_cj, ji_cj, jlng_n, jlng_i, jlng_r, jlng_0]
        · simp only [s138_12, s138_13, s138_16, s138_17, s138_18, s138_19, s138_22, s138_23, s138_24, s138_25, s138_28, s138_29, s138_30, s138_33, s138_36, s138_37, s138_40, s138_41, s138_42, s138_45, s138_46, s138_47, s138_50, s138_51, s138_52, s138_53, hw, k30 qm, k65 qm, p30_38 qm, h46, e3, e2, lt, c2, a4, a5, l65, e4, ↓reduceIte, va_rf_s, va_rf_n, jb_some, jb_none, jtl_s, jtl_n, if_true, if_false, true_and, and_true, false_and, and_false, or_true, true_or, or_false, false_or, not_true_eq_false, not_false_eq_true, jk_si, jp_si, jj_si, jk_sj, jp_sj, ji_sj, jk_ci, jp_ci, jj_ci, jk_cj, jp_cj, ji_cj, jlng_n, jlng_i, jlng_r, jlng_0]
    obtain ⟨G, G', v, L, n, A0, A1, p1, p2, p3, p4, ⟨p5, p6, p7, p8, p9, p10⟩, p11, p12, p13⟩ := q_att hA hK hl (Nat.lt_of_le_of_lt (Nat.add_le_add_left (Nat.le_mul_of_pos_right 2110 (Nat.succ_pos m)) B) hB)
    have o : ∀ {k}, ¬ (8 ≤ k ∧ k ≤ 12) → ji G q k = ji g q k := fun hk => p12.i (cAt_out hT kq hq74 hk)
    have hK1 : TK G G' i q := hK.fr p12 p13 (fun k hk => cAt_out hT kq hq74 (by omega)) (fun l y1 y2 => by omega)
    have hb1 : BL G G' := hb.fr p12 p13 (fun k => by
      rintro ((⟨a, t, ha, hp, y1, y2⟩ | y | y | y) | y | y)
      · have := (ts_t hT ha hp).2.1.1; omega
      · omega
      · omega
      · omega
      · omega
      · omega) (fun k => by omega)
    have i46 : ji G' 30 46 = nI r := by rw [p13.i (by omega)]; exact h46
    have ep : jp G 11 = jp g 11 := funext (fun b => p12.p 11 b)
    have FA : Fr (cPf (jp g 11) q) g G := p12.sub (fun b k z => z.elim Or.inl (fun y => y.elim (fun w => Or.inr (Or.inl w)) (fun w => Or.inr (Or.inr (Or.inl ⟨w.1, by omega, w.2.2⟩)))))
    have FA' : Fr (mPf i) g' G' := p13.sub (fun b k z => z.elim Or.inl (fun y => Or.inr (Or.inl ⟨y.1, by omega, by omega⟩)))
    have qcG := p3.1
    have qmG := p3.2.1
    have kqG : jk G q = (6, 0) := hK1.2.2.1
    by_cases c : v = 0
    · have hk1 : ¬ ji G q 4 = 0 → ∃ w, w ≤ 32 ∧ ji G q 3 = nI w ∧ 1 ≤ n ∧ JDt A0 1 w := fun z => by
        rw [o (by omega)] at z ⊢
        exact p11 c z
      obtain ⟨G2, G2', r1, ⟨x5, r2⟩, r3, r4, r5, r6⟩ := q_keep (l := nI l) (att := nI (k + 1)) (ln := nI l) p3 hK1 hb1 (p5.trans c) hk1
      obtain ⟨G3', t1, ⟨u0, u1, u2, u3, u4, u5⟩, t3⟩ := id_end (r6.ms qmG) hi (nI (k + 1)) 0 (nI l) x5
      rw [if_pos rfl] at t1 u0
      have hA1 : AT (B + 2110) G G' := AT.of p3 p4 hb1
      have fx : Fr (fun b k => b = 57 ∨ (b = 66 ∧ 6 * i ≤ k ∧ k < 6 * i + 6)) G' G3' := (r6.sub (fun b k z => Or.inl z)).trans (t3.sub (fun b k z => Or.inr z))
      have hA2 : AT (B + 2110) G2 G3' := hA1.ch kqG hq74 r5 fx (fun b k z => z.imp (fun y => y.1) id) (fun b k z => z.elim Or.inr (fun y => Or.inl y.1)) (r3.fr (Fr.refl (P := fun _ _ => False) G2) t3 (fun _ => id) (fun k => by omega))
      have kq2 : jk G2 q = (6, 0) := by rw [r5.k]; exact kqG
      have iq : ∀ k, ¬ k = 7 → ji G2 q k = ji G q k := fun k hk => r5.i (by omega)
      refine ⟨G2, G3', 1, ?_, ?_, B2_1, ?_, ?_, FA.trans (r5.sub (fun b k z => z.elim (fun y => Or.inr (Or.inr (Or.inl ⟨y.1, by omega, by omega⟩))) (fun y => Or.inr (Or.inr (Or.inr y))))), FA'.trans (fx.sub (fun b k z => z.elim (fun y => Or.inr (Or.inr y)) (fun y => Or.inr (Or.inl y))))⟩
      · rw [hlc]
        have p1' := p1.trans r1
        by_cases d : k + 1 < 2 * (r + 1)
        · have lt2 : nI (k + 1) < nI (2 * (r + 1)) := nI_lt d (by omega)
          simp only [s89_60, s89_63, s89_66, k1 qc, p1', e1, s89_25, s89_26, s89_27, s89_28, s89_29, s89_32, s89_33, s89_36, s89_37, s89_69, s89_70, s89_73, s89_74, s89_77, s89_78, s89_81, s89_82, e2, lt2, kq2, r4, eq_false (show ¬ (1 : Int32) = 2 by decide), ↓reduceIte, va_rf_s, va_rf_n, jb_some, jb_none, jtl_s, jtl_n, if_true, if_false, true_and, and_true, false_and, and_false, or_true, true_or, or_false, false_or, not_true_eq_false, not_false_eq_true, jk_si, jp_si, jj_si, jk_sj, jp_sj, ji_sj, jk_ci, jp_ci, jj_ci, jk_cj, jp_cj, ji_cj, jlng_n, jlng_i, jlng_r, jlng_0]
        · have lt2 : ¬ nI (k + 1) < nI (2 * (r + 1)) := nI_nlt (by omega) (by omega)
          simp only [s89_60, s89_63, s89_66, k1 qc, p1', e1, s89_25, s89_26, s89_27, s89_28, s89_29, s89_32, s89_33, s89_36, s89_37, s89_69, s89_70, s89_73, s89_74, s89_77, s89_78, s89_81, s89_82, e2, lt2, kq2, r4, ↓reduceIte, va_rf_s, va_rf_n, jb_some, jb_none, jtl_s, jtl_n, if_true, if_false, true_and, and_true, false_and, and_false, or_true, true_or, or_false, false_or, not_true_eq_false, not_false_eq_true, jk_si, jp_si, jj_si, jk_sj, jp_sj, ji_sj, jk_ci, jp_ci, jj_ci, jk_cj, jp_cj, ji_cj, jlng_n, jlng_i, jlng_r, jlng_0]
      · rw [hlm]
        rw [c] at p2
        simp only [s138_55, s138_56, s138_57, s138_59, s138_62, s138_63, s138_66, k30 qm, p2, e1, s138_12, s138_13, r2, t1, ↓reduceIte, va_rf_s, va_rf_n, jb_some, jb_none, jtl_s, jtl_n, if_true, if_false, true_and, and_true, false_and, and_false, or_true, true_or, or_false, false_or, not_true_eq_false, not_false_eq_true, jk_si, jp_si, jj_si, jk_sj, jp_sj, ji_sj, jk_ci, jp_ci, jj_ci, jk_cj, jp_cj, ji_cj, jlng_n, jlng_i, jlng_r, jlng_0]
      · obtain ⟨w1, w2, w3, w4, w5⟩ := hA2
        exact ⟨w1, w2, w3.mono (by omega) hB, w4.mono (by omega) hB, w5⟩
      · intro j hj
        rcases (show j = 0 ∨ j = 1 ∨ j = 2 ∨ j = 3 ∨ j = 4 ∨ j = 5 by omega) with rfl | rfl | rfl | rfl | rfl | rfl
        · exact r4.trans u0.symm
        · exact (iq 8 (by omega)).trans (p6.trans (by rw [h8, e1]; exact u1.symm))
        · exact (iq 9 (by omega)).trans (p7.trans u2.symm)
        · exact (iq 10 (by omega)).trans ((p5.trans c).trans u3.symm)
        · exact (iq 11 (by omega)).trans (p8.trans (by rw [u4, r6.i (by omega)]))
        · exact (iq 12 (by omega)).trans (p9.trans (by rw [u5, r6.i (by omega)]))
    · have hA1 : AT (B + 2110) G G' := AT.of p3 p4 hb1
      have h114 : jV 90 114 [some (.ref 1), some (.ref q), some (.int (nI l))] [] G = some (none, G) := by
        have z : ¬ ji G q 10 = 0 := by rw [p5]; exact c
        simp only [s90_114, s90_115, s90_118, s90_141, kqG, z, ↓reduceIte, va_rf_s, va_rf_n, jb_some, jb_none, jtl_s, jtl_n, if_true, if_false, true_and, and_true, false_and, and_false, or_true, true_or, or_false, false_or, not_true_eq_false, not_false_eq_true, jk_si, jp_si, jj_si, jk_sj, jp_sj, ji_sj, jk_ci, jp_ci, jj_ci, jk_cj, jp_cj, ji_cj, jlng_n, jlng_i, jlng_r, jlng_0]
      obtain ⟨G2, G2', d, r1, r2, r3, r4, r5, r6, r7⟩ := pf_loop hr m (k + 1) (B + 2110) G G' v (nI l) (by omega) hA1 hK1 (p10.trans h7) (p6.trans (by rw [h8, e1])) i46 c (fun _ => ⟨p7, p5, p8, p9⟩) (by omega)
      rw [ep] at r6
      refine ⟨G2, G2', d, ?_, ?_, r3, by rw [show B + 2110 * (m + 1) = B + 2110 + 2110 * m by omega]; exact r4, r5, FA.trans r6, FA'.trans r7⟩
      · rw [hlc, ← r1]
        have p1' := p1.trans h114
        simp only [s89_60, s89_63, s89_66, k1 qc, p1', e1, ↓reduceIte, va_rf_s, va_rf_n, jb_some, jb_none, jtl_s, jtl_n, if_true, if_false, true_and, and_true, false_and, and_false, or_true, true_or, or_false, false_or, not_true_eq_false, not_false_eq_true, jk_si, jp_si, jj_si, jk_sj, jp_sj, ji_sj, jk_ci, jp_ci, jj_ci, jk_cj, jp_cj, ji_cj, jlng_n, jlng_i, jlng_r, jlng_0]
      · rw [hlm, ← r2]
        simp only [s138_55, s138_56, s138_57, s138_59, s138_62, s138_63, s138_66, k30 qm, p2, e1, ↓reduceIte, va_rf_s, va_rf_n, jb_some, jb_none, jtl_s, jtl_n, if_true, if_false, true_and, and_true, false_and, and_false, or_true, true_or, or_false, false_or, not_true_eq_false, not_false_eq_true, jk_si, jp_si, jj_si, jk_sj, jp_sj, ji_sj, jk_ci, jp_ci, jj_ci, jk_cj, jp_cj, ji_cj, jlng_n, jlng_i, jlng_r, jlng_0]
theorem q_perform {B i q r : Nat} {g g' : jH} (hA : AT B g g') (hK : TK g g' i q) (hr : r ≤ 2) (h10 : ji g 1 10 = nI r) (h46 : ji g' 30 46 = nI r) (hB : B + 12660 < 1610612736) : ∃ G G' d, jV 89 0 [some (.ref 1), some (.ref q), none, none] [] g = some (some (.int d), G) ∧ jV 138 0 [some (.ref 30), some (.int (nI i)), none, none, none, none] [] g' = some (some (.int d), G') ∧ d ∈ B2 ∧ AT (B + 12660) G G' ∧ RS G G' i q ∧ Fr (cPf (jp g 11) q) g G ∧ Fr (mPf i) g' G' := by
  obtain ⟨qc, qm, hR, hT, hb, _⟩ := id hA
  obtain ⟨hi, hq74, kq, ⟨ln, hln, l6, l65⟩, _⟩ := id hK
  have a4 : jin (nI i) 24 = true := jin_nI hi (by omega)
  have a5 : (nI i).toNatClampNeg = i := nI_clamp (by omega)
  have f1 : Fr (fun b k => b = q ∧ (k = 7 ∨ k = 8)) g (jsi (jsi g q 7 2) q 8 0) := ((Fr.refl g).si ⟨rfl, Or.inl rfl⟩).si ⟨rfl, Or.inr rfl⟩
  have f0' : Fr (fun _ _ => False) g' g' := Fr.refl g'
  have hA1 : AT B (jsi (jsi g q 7 2) q 8 0) g' := hA.ch kq hq74 f1 f0' (fun b k z => Or.inl z.1) (fun _ _ z => z.elim) (hb.fr f1 f0' (fun k => by omega) (fun k => id))
  have hK1 : TK (jsi (jsi g q 7 2) q 8 0) g' i q := hK.fr f1 f0' (fun k hk => by omega) (fun _ _ _ => id)
  have hle : 2110 * (2 * (r + 1)) ≤ 12660 := Nat.mul_le_mul_left 2110 (show 2 * (r + 1) ≤ 6 by omega)
  obtain ⟨G, G', d, r1, r2, r3, r4, r5, r6, r7⟩ := pf_loop hr (2 * (r + 1)) 0 B _ g' 1 (nI ln) (by omega) hA1 hK1 (by simp [ji_si]) (by simp [ji_si]; rfl) h46 n1 (fun z => absurd z (by omega)) (Nat.lt_of_le_of_lt (Nat.add_le_add_left (hle : 2110 * (2 * (r + 1)) ≤ 12660) B) hB)
  have e3 : nI r + 1 = nI (r + 1) := nI_add r 1
  have z0 : nI 0 = 0 := rfl
  rw [z0] at r1 r2
  have ep : jp (jsi (jsi g q 7 2) q 8 0) 11 = jp g 11 := funext (fun b => f1.p 11 b)
  rw [ep] at r6
  refine ⟨G, G', d, ?_, ?_, r3, ?_, r5, (f1.sub (fun b k z => Or.inr (Or.inr (Or.inl ⟨z.1, by omega, by omega⟩)))).trans r6, r7⟩
  · simp only [s89_0, s89_1, s89_1n, s89_4, s89_5, s89_6, s89_7, s89_10, s89_11, s89_12, s89_13, s89_14, s89_15, s89_18, s89_19, s89_20, s89_23, s89_24, k1 qc, h10, e3, kq, jk_si, r1, ↓reduceIte, va_rf_s, va_rf_n, jb_some, jb_none, jtl_s, jtl_n, if_true, if_false, true_and, and_true, false_and, and_false, or_true, true_or, or_false, false_or, not_true_eq_false, not_false_eq_true, jk_si, jp_si, jj_si, jk_sj, jp_sj, ji_sj, jk_ci, jp_ci, jj_ci, jk_cj, jp_cj, ji_cj, jlng_n, jlng_i, jlng_r, jlng_0]
  · simp only [s138_0, s138_1, s138_2, s138_3, s138_4, s138_5, s138_8, s138_9, s138_10, k30 qm, k65 qm, p30_38 qm, a4, a5, l65, r2, ↓reduceIte, va_rf_s, va_rf_n, jb_some, jb_none, jtl_s, jtl_n, if_true, if_false, true_and, and_true, false_and, and_false, or_true, true_or, or_false, false_or, not_true_eq_false, not_false_eq_true, jk_si, jp_si, jj_si, jk_sj, jp_sj, ji_sj, jk_ci, jp_ci, jj_ci, jk_cj, jp_cj, ji_cj, jlng_n, jlng_i, jlng_r, jlng_0]
  · obtain ⟨w1, w2, w3, w4, w5⟩ := r4
    exact ⟨w1, w2, w3.mono (Nat.add_le_add_left hle B) hB, w4.mono (Nat.add_le_add_left hle B) hB, w5⟩
