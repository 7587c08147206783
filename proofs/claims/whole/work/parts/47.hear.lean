/-! HEARING a message: take beside hear -/
def TM (B : Nat) (g g' : jH) (a t : Nat) : Prop := TSh g t ∧ Sc (ji g t) (mv g' a) a ∧ Mu B g g' a t ∧ Ba g g' a t ∧ Pl g g' a t
/-- the entries of terminal a in the reference -/
abbrev mTA (a : Nat) : Nat → Nat → Prop := fun b k => (((32 ≤ b ∧ b ≤ 34) ∨ (38 ≤ b ∧ b ≤ 48) ∨ b = 50) ∧ k = a) ∨ ((b = 33 ∨ b = 34) ∧ k = 31 + a) ∨ ((b = 35 ∨ b = 36) ∧ 992 * a ≤ k ∧ k < 992 * a + 992) ∨ (b = 37 ∧ 62 * a ≤ k ∧ k < 62 * a + 62) ∨ (b = 49 ∧ 20 * a ≤ k ∧ k < 20 * a + 20)
theorem mTp_mTA {a b k : Nat} (z : mTp a b k) : mTA a b k := by
  rcases z with ⟨z, y⟩ | z
  · exact Or.inl ⟨by omega, y⟩
  · exact Or.inr (Or.inr (Or.inr (Or.inr z)))
theorem TM.fr {P P' : Nat → Nat → Prop} {g h g' h' : jH} {B a t : Nat} (hT : TM B g g' a t) (f : Fr P g h) (f' : Fr P' g' h') (h1 : ∀ b k, t ≤ b → b ≤ t + 6 → ¬ P b k) (h2 : ∀ b k, mTA a b k → ¬ P' b k) : TM B h h' a t := by
  obtain ⟨q1, q2, q3, q4, q5⟩ := hT
  refine ⟨q1.fr f, ?_, q3.fr f f' (h1 t 13 (by omega) (by omega)) (fun b k z1 z2 => h1 b k (by omega) (by omega)) (h2 47 a (by omega)) (h2 50 a (by omega)) (fun i hi => h2 49 _ (by omega)), q4.fr f f' (fun k => h1 (t + 1) k (by omega) (by omega)) (fun k z1 z2 => h2 37 k (by omega)), q5.fr f f' (fun b k z => h1 b k (by omega) (by omega)) (fun b k z z1 z2 => h2 b k (by omega))⟩
  rw [tv_fr f (fun k => h1 t k (by omega) (by omega)), mv_fr f' (fun l hl => h2 l a (by omega)) (h2 33 _ (by omega)) (h2 34 _ (by omega))]
  exact q2
theorem TM.mono {B B' : Nat} {g g' : jH} {a t : Nat} (h : TM B g g' a t) (hB : B ≤ B') (hB' : B' < 1610612736) : TM B' g g' a t := ⟨h.1, h.2.1, h.2.2.1.mono hB hB', h.2.2.2⟩
/-- the state in which a terminal hears -/
def HC (B : Nat) (L : List Int32) (g g' : jH) (a t n : Nat) (A0 A1 : List Int32) : Prop := a < 31 ∧ CS g ∧ MS g' ∧ TM B g g' a t ∧ RLi B g g' ∧ WI g 15 L ∧ ML g' L ∧ (∃ R0, WI g 18 R0) ∧ An g g' n A0 A1
abbrev cHp (t : Nat) : Nat → Nat → Prop := fun b k => (t ≤ b ∧ b ≤ t + 6) ∨ (2 ≤ b ∧ b ≤ 9) ∨ (b = 10 ∧ k = 8) ∨ (18 ≤ b ∧ b ≤ 26)
abbrev mHp (a : Nat) : Nat → Nat → Prop := fun b k => mTA a b k ∨ (51 ≤ b ∧ b ≤ 56) ∨ (b = 30 ∧ (k = 21 ∨ k = 22 ∨ k = 29 ∨ k = 52 ∨ k = 56)) ∨ b = 69 ∨ b = 70 ∨ b = 73 ∨ ((b = 71 ∨ b = 72) ∧ k = a)
/-- only the terminal (not its mutes), or its entries: the rest stands -/
theorem HC.up {P P' : Nat → Nat → Prop} {B n a t : Nat} {L A0 A1 : List Int32} {g h g' h' : jH} (hC : HC B L g g' a t n A0 A1) (f : Fr P g h) (f' : Fr P' g' h') (h1 : ∀ b k, P b k → t ≤ b ∧ b ≤ t + 6) (h2 : ∀ b k, P' b k → mTA a b k ∨ b = 71 ∨ b = 72) (hT : TM B h h' a t) : HC B L h h' a t n A0 A1 := by
  obtain ⟨ha, qc, qm, hT0, hR, hW, hL, ⟨R0, hR0⟩, hA⟩ := hC
  have ht := hT0.1.1
  have n1 : ∀ b k, b < t → ¬ P b k := fun b k z y => by have := h1 b k y; omega
  have n2 : ∀ b k, ¬ (mTA a b k ∨ b = 71 ∨ b = 72) → ¬ P' b k := fun b k z y => z (h2 b k y)
  exact ⟨ha, f.cs qc, f'.ms qm, hT, hR.fr f f' (fun b k z1 z2 => n1 b k (by omega)) (fun k z => n2 30 k (by omega)) (fun b k z1 z2 => n2 b k (by omega)), hW.fr f (fun b k z1 z2 => n1 b k (by omega)), hL.fr f' (n2 30 49 (by omega)) (fun k => n2 68 k (by omega)), ⟨R0, hR0.fr f (fun b k z1 z2 => n1 b k (by omega))⟩, hA.fr f f' (fun b k z1 z2 => n1 b k (by omega)) (n1 10 8 (by omega)) (n2 30 52 (by omega)) (fun b k z => n2 b k (by omega))⟩
theorem HC.mono {B B' n a t : Nat} {L A0 A1 : List Int32} {g g' : jH} (h : HC B L g g' a t n A0 A1) (hB : B ≤ B') (hB' : B' < 1610612736) : HC B' L g g' a t n A0 A1 := by
  obtain ⟨ha, qc, qm, hT0, hR, hW, hL, hR0, hA⟩ := h
  exact ⟨ha, qc, qm, hT0.mono hB hB', hR.mono hB hB', hW, hL, hR0, hA⟩
/-- the terminal's command is found, and it counts -/
theorem hr_pre {B n a t l : Nat} {L A0 A1 : List Int32} {g g' : jH} (hC : HC B L g g' a t n A0 A1) (hB : B + 1 < 1610612736) (hl : l ≤ 1) (hli : (ji g t 4 >>> (nI l &&& 31)) &&& 1 = 1) : (∀ i x, ¬ LCN a L i x) ∧ jV 31 0 [some (.ref t), some (.ref 15), some (.int (nI l)), some (.ref 18), none, none, none] [] g = some (some (.int 0), g) ∧ jV 126 0 [some (.ref 30), some (.int (nI a)), some (.int (nI l)), none, none, none, none, none, none] [] g' = some (none, g') ∨ ∃ i x G G', LCN a L i x ∧ jV 31 0 [some (.ref t), some (.ref 15), some (.int (nI l)), some (.ref 18), none, none, none] [] g = jV 31 78 [some (.ref t), some (.ref 15), some (.int (nI l)), some (.ref 18), some (.int (nI i)), some (.int (nI (cw x))), some (.int (nI (i + 1)))] [] G ∧ jV 126 0 [some (.ref 30), some (.int (nI a)), some (.int (nI l)), none, none, none, none, none, none] [] g' = jV 126 54 [some (.ref 30), some (.int (nI a)), some (.int (nI l)), some (.int (nI i)), some (.int (nI (cw x))), some (.int (nI (i + 1))), some (.int (jB (aN (cw x) = a))), none, none] [] G' ∧ HC (B + 1) L G G' a t n A0 A1 ∧ ji G t 15 = ji G' 72 a ∧ Fr (cHp t) g G ∧ Fr (mHp a) g' G' ∧ ji G' 71 a = ji g' 71 a := by
  obtain ⟨ha, qc, qm, hT0, hR, hW, hL, hR0, hA⟩ := id hC
  obtain ⟨ht, hs, hMu, hBa, hPl⟩ := id hT0
  obtain ⟨h0, _⟩ := id hs
  obtain ⟨ht74, kt, pt2, pt3, _⟩ := id ht
  have hLl := hL.1
  obtain ⟨r, hr, hrL⟩ := w_last hW (nI a)
  obtain ⟨r', hr', hrL'⟩ := m_commandFor qm hL ha
  rcases LC_n ha hrL with ⟨e, hn⟩ | ⟨i, x, e, hx⟩
  · rcases LC_n ha hrL' with ⟨e', _⟩ | ⟨i, x, _, hx⟩
    · refine Or.inl ⟨hn, ?_, ?_⟩
      · subst e
        simp only [s31_0, s31_1, s31_2, s31_5, s31_8, s31_10, s31_12, s31_13, s31_16, s31_17, s31_20, s31_21, s31_24, s31_27, s31_28, kt, h0.1, k15 qc, hr, ↓reduceIte, va_rf_s, va_rf_n, jb_some, jb_none, jtl_s, jtl_n, if_true, if_false, true_and, and_true, false_and, and_false, or_true, true_or, or_false, false_or, not_true_eq_false, not_false_eq_true, jk_si, jp_si, jj_si, jk_sj, jp_sj, ji_sj, jk_ci, jp_ci, jj_ci, jk_cj, jp_cj, ji_cj, jlng_n, jlng_i, jlng_r, jlng_0]
      · subst e'
        simp only [s126_0, s126_1, s126_2, s126_5, s126_6, s126_7, s126_10, k30 qm, hr', show (-1 : Int32) < 0 by decide, ↓reduceIte, va_rf_s, va_rf_n, jb_some, jb_none, jtl_s, jtl_n, if_true, if_false, true_and, and_true, false_and, and_false, or_true, true_or, or_false, false_or, not_true_eq_false, not_false_eq_true, jk_si, jp_si, jj_si, jk_sj, jp_sj, ji_sj, jk_ci, jp_ci, jj_ci, jk_cj, jp_cj, ji_cj, jlng_n, jlng_i, jlng_r, jlng_0]
    · exact absurd hx (hn i x)
  · rcases LC_n ha hrL' with ⟨_, hn⟩ | ⟨i', x', e', hx'⟩
    · exact absurd hx (hn i x)
    · obtain ⟨rfl, rfl⟩ := LCN_uq hx hx'
      subst e
      subst e'
      have hil := (List.getElem?_eq_some_iff.mp hx.1).1
      have ei : ¬ nI i = -1 := fun z => absurd (z ▸ (by decide) : nI i < 0) (nI_pos (by omega))
      have ep : ¬ nI i < 0 := nI_pos (by omega)
      have hm := hL.2.2 i x hx.1
      have a4 : jin (nI i) 40 = true := jin_nI (by omega) (by omega)
      have a5 : (nI i).toNatClampNeg = i := nI_clamp (by omega)
      have b4 : jin (nI a) 31 = true := jin_nI ha (by omega)
      have b5 : (nI a).toNatClampNeg = a := nI_clamp (by omega)
      obtain ⟨v, g1, k, b, G', h13, hto, fto, htk, hvb, fG', hMu'⟩ := q_takes qm ha hMu hB
      have hb2 : b = 0 ∨ b = 1 := hvb.elim (fun z => Or.inl z.2) (fun z => Or.inr z.2)
      have kt1 : jk g1 t = (4, 0) := by rw [fto.k]; exact kt
      have i13 : ji g1 t 13 = nI k := by rw [fto.i (by unfold tP; omega)]; exact h13
      have qmG : MS G' := fG'.ms qm
      have k4 : jk g (t + 4) = (5, 0) := by
        obtain ⟨_, _, _, _, _, _, z, _⟩ := hMu
        exact z.1.1
      -- the class's store
      have f1 : Fr (fun c j => (t ≤ c ∧ c ≤ t + 6)) g (jsi (jsi g1 t 15 b) t 13 (nI (k + 1))) := (((fto.sub (fun c j z => by unfold tP at z; omega)).si (by omega)).si (by omega))
      have f1' : Fr (fun c j => mTA a c j ∨ (c = 72 ∧ j = a)) g' (jsi G' 72 a b) := (fG'.sub (fun c j z => Or.inl (mTp_mTA z))).si (Or.inr ⟨rfl, rfl⟩)
      have W1 : WI (jsi (jsi g1 t 15 b) t 13 (nI (k + 1))) 15 L := hW.fr f1 (fun c j z1 z2 => by omega)
      have hbits := w_bitsAt W1 (i := i) (by omega)
      rw [List.getD_eq_getElem?_getD, hx.1, Option.getD_some, cw_and] at hbits
      have hcl : jV 31 0 [some (.ref t), some (.ref 15), some (.int (nI l)), some (.ref 18), none, none, none] [] g = jV 31 78 [some (.ref t), some (.ref 15), some (.int (nI l)), some (.ref 18), some (.int (nI i)), some (.int (nI (cw x))), some (.int (nI (i + 1)))] [] (jsi (jsi g1 t 15 b) t 13 (nI (k + 1))) := by
        rcases hvb with ⟨z1, z2⟩ | ⟨z1, z2⟩
        · subst z1
          subst z2
          simp only [s31_0, s31_1, s31_2, s31_5, s31_8, s31_10, s31_12, s31_13, s31_16, s31_17, s31_20, s31_21, s31_24, s31_27, s31_28, s31_29, s31_30, s31_31, s31_34, s31_35, s31_38, s31_41, s31_42, s31_43, s31_46, s31_47, s31_50, s31_51, s31_54, s31_55, s31_56, s31_59, s31_60, s31_61, s31_64, s31_65, s31_67, s31_70, s31_72, s31_74, s31_75, s31_76, kt, kt1, k4, pt3, h0.1, h13, i13, k15 qc, fto.k, hr, ei, c_bitAt, hli, n1, hto, lc0, hbits, ji_si, nI_1, Nat.reduceEqDiff, ↓reduceIte, va_rf_s, va_rf_n, jb_some, jb_none, jtl_s, jtl_n, if_true, if_false, true_and, and_true, false_and, and_false, or_true, true_or, or_false, false_or, not_true_eq_false, not_false_eq_true, jk_si, jp_si, jj_si, jk_sj, jp_sj, ji_sj, jk_ci, jp_ci, jj_ci, jk_cj, jp_cj, ji_cj, jlng_n, jlng_i, jlng_r, jlng_0]
        · subst z2
          simp only [s31_0, s31_1, s31_2, s31_5, s31_8, s31_10, s31_12, s31_13, s31_16, s31_17, s31_20, s31_21, s31_24, s31_27, s31_28, s31_29, s31_30, s31_31, s31_34, s31_35, s31_38, s31_41, s31_42, s31_43, s31_46, s31_47, s31_50, s31_51, s31_54, s31_55, s31_56, s31_59, s31_60, s31_61, s31_64, s31_65, s31_67, s31_70, s31_72, s31_74, s31_75, s31_76, kt, kt1, k4, pt3, h0.1, h13, i13, k15 qc, fto.k, hr, ei, c_bitAt, hli, n1, hto, lc0, z1, hbits, ji_si, nI_1, Nat.reduceEqDiff, show ((1 : Int32) = 0 ∨ (1 : Int32) = 1) by decide, ↓reduceIte, va_rf_s, va_rf_n, jb_some, jb_none, jtl_s, jtl_n, if_true, if_false, true_and, and_true, false_and, and_false, or_true, true_or, or_false, false_or, not_true_eq_false, not_false_eq_true, jk_si, jp_si, jj_si, jk_sj, jp_sj, ji_sj, jk_ci, jp_ci, jj_ci, jk_cj, jp_cj, ji_cj, jlng_n, jlng_i, jlng_r, jlng_0]
      have hmd : jV 126 0 [some (.ref 30), some (.int (nI a)), some (.int (nI l)), none, none, none, none, none, none] [] g' = jV 126 54 [some (.ref 30), some (.int (nI a)), some (.int (nI l)), some (.int (nI i)), some (.int (nI (cw x))), some (.int (nI (i + 1))), some (.int (jB (aN (cw x) = a))), none, none] [] (jsi G' 72 a b) := by
        have oa := o_addressOf (cw_lt x) g'
        by_cases c : aN (cw x) = a
        · rw [jB_t c]
          rw [c] at oa
          simp only [s126_0, s126_1, s126_2, s126_5, s126_6, s126_7, s126_10, s126_11, s126_12, s126_15, s126_16, s126_17, s126_19, s126_20, s126_22, s126_23, s126_24, s126_25, s126_27, s126_29, s126_32, s126_33, s126_36, s126_37, s126_40, s126_41, s126_43, s126_44, s126_47, s126_48, s126_49, s126_50, s126_53, k30 qm, k68 qm, k72 qm, k72 qmG, p30_48 qm, p30_54 qm, hr', ep, a4, a5, b4, b5, hm, cw_and, oa, htk, nI_1, hb2, ↓reduceIte, va_rf_s, va_rf_n, jb_some, jb_none, jtl_s, jtl_n, if_true, if_false, true_and, and_true, false_and, and_false, or_true, true_or, or_false, false_or, not_true_eq_false, not_false_eq_true, jk_si, jp_si, jj_si, jk_sj, jp_sj, ji_sj, jk_ci, jp_ci, jj_ci, jk_cj, jp_cj, ji_cj, jlng_n, jlng_i, jlng_r, jlng_0]
        · rw [jB_f c]
          have hne : ¬ nI (aN (cw x)) = nI a := fun z => c ((e_eq (aN_lt _) (by omega)).mp z)
          simp only [s126_0, s126_1, s126_2, s126_5, s126_6, s126_7, s126_10, s126_11, s126_12, s126_15, s126_16, s126_17, s126_19, s126_20, s126_22, s126_23, s126_24, s126_25, s126_27, s126_29, s126_32, s126_33, s126_36, s126_37, s126_40, s126_41, s126_43, s126_44, s126_47, s126_48, s126_49, s126_50, s126_53, k30 qm, k68 qm, k72 qm, k72 qmG, p30_48 qm, p30_54 qm, hr', ep, a4, a5, b4, b5, hm, cw_and, oa, hne, htk, nI_1, hb2, ↓reduceIte, va_rf_s, va_rf_n, jb_some, jb_none, jtl_s, jtl_n, if_true, if_false, true_and, and_true, false_and, and_false, or_true, true_or, or_false, false_or, not_true_eq_false, not_false_eq_true, jk_si, jp_si, jj_si, jk_sj, jp_sj, ji_sj, jk_ci, jp_ci, jj_ci, jk_cj, jp_cj, ji_cj, jlng_n, jlng_i, jlng_r, jlng_0]
      refine Or.inr ⟨i, x, _, _, hx, hcl, hmd, (hC.mono (B' := B + 1) (by omega) hB).up f1 f1' (fun c j z => z) (fun c j z => z.imp id (fun y => Or.inr y.1)) ?_, by simp [ji_si], f1.sub (fun c j z => Or.inl z), f1'.sub (fun c j z => z.elim Or.inl (fun y => Or.inr (Or.inr (Or.inr (Or.inr (Or.inr (Or.inr ⟨Or.inr y.1, y.2⟩))))))), f1'.i (by omega)⟩
      refine ⟨ht.fr f1, ?_, ?_, hBa.fr (fto.sub (P' := fun c j => t + 4 ≤ c ∨ (c = t ∧ (j = 13 ∨ j = 15))) (fun c j z => by unfold tP at z; omega) |>.si (by omega) |>.si (by omega)) ((fG'.sub (P' := fun c j => c = 47 ∨ c = 49 ∨ c = 50 ∨ c = 72) (fun c j z => by omega)).si (by omega)) (fun j => by omega) (fun j z1 z2 => by omega), hPl.fr (fto.sub (P' := fun c j => t + 4 ≤ c ∨ (c = t ∧ (j = 13 ∨ j = 15))) (fun c j z => by unfold tP at z; omega) |>.si (by omega) |>.si (by omega)) ((fG'.sub (P' := fun c j => c = 47 ∨ c = 49 ∨ c = 50 ∨ c = 72) (fun c j z => by omega)).si (by omega)) (fun c j z => by omega) (fun c j z z1 z2 => by omega)⟩
      · rw [tv_si, tv_si, tv_fr fto (fun j => by unfold tP; omega), mv_no (by omega)]
        have e47 : mv G' a = upd (mv g' a) 47 (mv G' a 47) := by
          funext j
          rw [upd_e]
          by_cases c : j = 47
          · rw [if_pos c, c]
          · rw [if_neg c]
            unfold mv
            rw [fG'.i (show ¬ mTp a 33 (31 + a) by omega), fG'.i (show ¬ mTp a 34 (31 + a) by omega)]
            by_cases d : vL j
            · rw [if_pos d, if_pos d, fG'.i (by omega)]
            · rw [if_neg d, if_neg d]
        rw [e47]
        simp only [Sc, upd_e, Nat.reduceEqDiff, if_true, if_false]
        exact hs
      · have fx : Fr (fun c j => c = t ∧ j = 15) (jsi g1 t 13 (nI (k + 1))) (jsi (jsi g1 t 15 b) t 13 (nI (k + 1))) := ⟨fun c j z => ⟨by
          rw [ji_si, ji_si, ji_si]
          by_cases y : c = t ∧ j = 13
          · rw [if_pos y, if_pos y]
          · rw [if_neg y, if_neg y, if_neg z], by rw [jj_si, jj_si, jj_si]⟩, fun c => by rw [jk_si, jk_si, jk_si], fun c j => by rw [jp_si, jp_si, jp_si], rfl⟩
        exact hMu'.fr (P' := fun c j => c = 72) fx ((Fr.refl G').si rfl) (by omega) (fun c j z1 z2 => by omega) (by omega) (by omega) (fun i hi => by omega)
