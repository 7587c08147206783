/-! MUTES AND COMMANDS TAKEN -/
def MuM (g : jH) (a : Nat) (M : List Int32) : Prop := M.length ≤ 20 ∧ ji g 50 a = nI M.length ∧ ∀ (i : Nat) (x : Int32), M[i]? = some x → ji g 49 (20 * a + i) = x
def Mu (B : Nat) (g g' : jH) (a t : Nat) : Prop := B < 1610612736 ∧ ∃ k S M, k ≤ B ∧ (ji g t 13 = nI k ∧ ji g' 47 a = nI k) ∧ TI g (t + 4) 20 S ∧ MuM g' a M ∧ M.Perm (S.map Prod.fst) ∧ ∀ q ∈ S, (∃ j, k ≤ j ∧ j ≤ B + 500 ∧ q.1 = nI j) ∧ q.2 = 1
theorem MuM.fr {P : Nat → Nat → Prop} {g g' : jH} {a : Nat} {M : List Int32} (h : MuM g a M) (f : Fr P g g') (h1 : ¬ P 50 a) (h2 : ∀ i, i < 20 → ¬ P 49 (20 * a + i)) : MuM g' a M :=
  ⟨h.1, by rw [f.i h1]; exact h.2.1, fun i x hx => by rw [f.i (h2 i (Nat.lt_of_lt_of_le (List.getElem?_eq_some_iff.mp hx).1 h.1))]; exact h.2.2 i x hx⟩
theorem Mu.fr {P P' : Nat → Nat → Prop} {g g1 g' g1' : jH} {B a t : Nat} (h : Mu B g g' a t) (f : Fr P g g1) (f' : Fr P' g' g1') (h1 : ¬ P t 13) (h2 : ∀ b k, t + 4 ≤ b → b ≤ t + 6 → ¬ P b k) (h3 : ¬ P' 47 a) (h4 : ¬ P' 50 a) (h5 : ∀ i, i < 20 → ¬ P' 49 (20 * a + i)) : Mu B g1 g1' a t := by
  obtain ⟨hB, k, S, M, hk, ⟨e1, e2⟩, hT, hM, hP, hS⟩ := h
  exact ⟨hB, k, S, M, hk, ⟨by rw [f.i h1]; exact e1, by rw [f'.i h3]; exact e2⟩, hT.fr f (fun b k h6 h7 => h2 b k h6 (by omega)), hM.fr f' h4 h5, hP, hS⟩
theorem Mu.mono {B B' : Nat} {g g' : jH} {a t : Nat} (h : Mu B g g' a t) (hB : B ≤ B') (hB' : B' < 1610612736) : Mu B' g g' a t := by
  obtain ⟨_, k, S, M, hk, e, hT, hM, hP, hS⟩ := h
  exact ⟨hB', k, S, M, by omega, e, hT, hM, hP, fun q hq => by
    obtain ⟨⟨j, h1, h2, h3⟩, h4⟩ := hS q hq
    exact ⟨⟨j, h1, by omega, h3⟩, h4⟩⟩
theorem mt_no {g : jH} (q : MS g) {a : Nat} (ha : a < 31) {M : List Int32} (hM : MuM g a M) (b : Int32) : ∀ m, m ≤ M.length → (∀ (i : Nat) (x : Int32), i < m → M[i]? = some x → x ≠ ji g 47 a) → jV 119 11 [some (.ref 30), some (.int (nI a)), some (.int b), some (.int (nI m - 1))] [] g = jV 119 80 [some (.ref 30), some (.int (nI a)), some (.int b), some (.int (-1))] [] g
  | 0, _, _ => by
    have a2 : nI 0 - 1 = -1 := by decide
    simp only [s119_11, s119_12, a2, show (-1 : Int32) < 0 by decide, ↓reduceIte, va_rf_s, va_rf_n, jb_some, jb_none, jtl_s, jtl_n, if_true, if_false, true_and, and_true, false_and, and_false, or_true, true_or, or_false, false_or, not_true_eq_false, not_false_eq_true, jk_si, jp_si, jj_si, jk_sj, jp_sj, ji_sj, jk_ci, jp_ci, jj_ci, jk_cj, jp_cj, ji_cj, jlng_n, jlng_i, jlng_r, jlng_0]
  | m + 1, hm, hn => by
    have hl := hM.1
    have ih := mt_no q ha hM b m (by omega) (fun i p hi => hn i p (by omega))
    have e0 : nI (m + 1) - 1 = nI m := nI_pred m
    have a1 : ¬ nI m < 0 := nI_pos (by omega)
    have hq : M[m]? = some M[m] := List.getElem?_eq_getElem (by omega)
    have hne := hn m _ (by omega) hq
    have h1 := hM.2.2 m _ hq
    have e1 : (20 : Int32) * nI a + nI m = nI (20 * a + m) := by
      show nI 20 * nI a + nI m = _
      rw [pk_mul, nI_add]
    have a4 : jin (nI (20 * a + m)) 620 = true := jin_nI (by omega) (by omega)
    have a5 : (nI (20 * a + m)).toNatClampNeg = 20 * a + m := nI_clamp (by omega)
    have b4 : jin (nI a) 31 = true := jin_nI ha (by omega)
    have b5 : (nI a).toNatClampNeg = a := nI_clamp (by omega)
    rw [e0, ← ih]
    simp only [s119_12, s119_15, s119_16, s119_19, s119_21, s119_22, s119_23, s119_24, s119_25, s119_26, s119_27, s119_30, s119_31, s119_32, s119_74, s119_77, s119_11 (x := nI m), a1, k30 q, k47 q, k49 q, p30_16 q, p30_18 q, e1, a4, a5, b4, b5, h1, hne, nI_dec, ↓reduceIte, va_rf_s, va_rf_n, jb_some, jb_none, jtl_s, jtl_n, if_true, if_false, true_and, and_true, false_and, and_false, or_true, true_or, or_false, false_or, not_true_eq_false, not_false_eq_true, jk_si, jp_si, jj_si, jk_sj, jp_sj, ji_sj, jk_ci, jp_ci, jj_ci, jk_cj, jp_cj, ji_cj, jlng_n, jlng_i, jlng_r, jlng_0]
theorem mt_hit {g : jH} (q : MS g) {a : Nat} (ha : a < 31) {M : List Int32} (hM : MuM g a M) (b : Int32) {k : Nat} {y z : Int32} (hk : M[k]? = some y) (hy : y = ji g 47 a) (hz : M[M.length - 1]? = some z) (hn : ∀ (i : Nat) (x : Int32), i ≠ k → M[i]? = some x → x ≠ ji g 47 a) : ∀ m, k < m → m ≤ M.length → jV 119 11 [some (.ref 30), some (.int (nI a)), some (.int b), some (.int (nI m - 1))] [] g = jV 119 80 [some (.ref 30), some (.int (nI a)), some (.int 1), some (.int (-1))] [] (jsi (jsi g 50 a (nI (M.length - 1))) 49 (20 * a + k) z)
  | 0, h0, _ => by omega
  | m + 1, hkm, hm => by
    have hl := hM.1
    have e0 : nI (m + 1) - 1 = nI m := nI_pred m
    have a1 : ¬ nI m < 0 := nI_pos (by omega)
    have hq : M[m]? = some M[m] := List.getElem?_eq_getElem (by omega)
    have h1 := hM.2.2 m _ hq
    have e1 : ∀ m, (20 : Int32) * nI a + nI m = nI (20 * a + m) := by
      intro m
      show nI 20 * nI a + nI m = _
      rw [pk_mul, nI_add]
    have a4 : jin (nI (20 * a + m)) 620 = true := jin_nI (by omega) (by omega)
    have a5 : (nI (20 * a + m)).toNatClampNeg = 20 * a + m := nI_clamp (by omega)
    have b4 : jin (nI a) 31 = true := jin_nI ha (by omega)
    have b5 : (nI a).toNatClampNeg = a := nI_clamp (by omega)
    by_cases c : k = m
    · subst c
      have e3 : M[k] = y := Option.some.inj (hq.symm.trans hk)
      rw [e3, hy] at h1
      have h2 := hM.2.2 _ _ hz
      have e2 : nI M.length - 1 = nI (M.length - 1) := by
        conv => lhs; rw [show M.length = (M.length - 1) + 1 by omega]
        exact nI_pred _
      have c4 : jin (nI (20 * a + (M.length - 1))) 620 = true := jin_nI (by omega) (by omega)
      have c5 : (nI (20 * a + (M.length - 1))).toNatClampNeg = 20 * a + (M.length - 1) := nI_clamp (by omega)
      have hM2 : MuM (jsi (jsi g 50 a (nI (M.length - 1))) 49 (20 * a + k) z) a (M.set k z).dropLast := by
        refine ⟨by rw [List.length_dropLast, List.length_set]; omega, by rw [List.length_dropLast, List.length_set]; simp [ji_si], fun i p hi => ?_⟩
        rw [List.getElem?_dropLast] at hi
        split at hi
        · rw [ji_si]
          by_cases c : i = k
          · subst c
            rw [List.getElem?_set_self (by omega)] at hi
            cases hi
            simp
          · rw [List.getElem?_set_ne (Ne.symm c)] at hi
            have := hM.2.2 i p hi
            rw [if_neg (by omega), ji_si, if_neg (by omega)]
            exact this
        · exact absurd hi (by simp)
      have h3 := mt_no (MS_si (MS_si q)) ha hM2 1 k (by rw [List.length_dropLast, List.length_set]; omega) (by
        intro i p hi hp
        rw [List.getElem?_dropLast] at hp
        split at hp
        · rw [List.getElem?_set_ne (by omega)] at hp
          simp only [ji_si]
          exact hn i p (by omega) hp
        · exact absurd hp (by simp))
      rw [e0, ← h3]
      simp only [s119_12, s119_15, s119_16, s119_19, s119_21, s119_22, s119_23, s119_24, s119_25, s119_26, s119_27, s119_30, s119_31, s119_32, s119_35, s119_36, s119_37, s119_38, s119_41, s119_42, s119_43, s119_44, s119_45, s119_46, s119_47, s119_48, s119_51, s119_53, s119_54, s119_55, s119_56, s119_57, s119_58, s119_61, s119_63, s119_64, s119_65, s119_66, s119_69, s119_70, s119_71, s119_72, s119_73, s119_74, s119_77, s119_11 (x := nI k), a1, k30 q, k47 q, k49 q, k50 q, p30_16 q, p30_18 q, p30_19 q, e1, a4, a5, b4, b5, c4, c5, h1, hM.2.1, e2, ji_si, h2, nI_dec, Nat.reduceEqDiff, ↓reduceIte, va_rf_s, va_rf_n, jb_some, jb_none, jtl_s, jtl_n, if_true, if_false, true_and, and_true, false_and, and_false, or_true, true_or, or_false, false_or, not_true_eq_false, not_false_eq_true, jk_si, jp_si, jj_si, jk_sj, jp_sj, ji_sj, jk_ci, jp_ci, jj_ci, jk_cj, jp_cj, ji_cj, jlng_n, jlng_i, jlng_r, jlng_0]
    · have hne := hn m _ (fun q => c q.symm) hq
      have ih := mt_hit q ha hM b hk hy hz hn m (by omega) (by omega)
      rw [e0, ← ih]
      simp only [s119_12, s119_15, s119_16, s119_19, s119_21, s119_22, s119_23, s119_24, s119_25, s119_26, s119_27, s119_30, s119_31, s119_32, s119_74, s119_77, s119_11 (x := nI m), a1, k30 q, k47 q, k49 q, p30_16 q, p30_18 q, e1, a4, a5, b4, b5, h1, hne, nI_dec, ↓reduceIte, va_rf_s, va_rf_n, jb_some, jb_none, jtl_s, jtl_n, if_true, if_false, true_and, and_true, false_and, and_false, or_true, true_or, or_false, false_or, not_true_eq_false, not_false_eq_true, jk_si, jp_si, jj_si, jk_sj, jp_sj, ji_sj, jk_ci, jp_ci, jj_ci, jk_cj, jp_cj, ji_cj, jlng_n, jlng_i, jlng_r, jlng_0]
abbrev mTp (a : Nat) : Nat → Nat → Prop := fun b k => ((b = 47 ∨ b = 50) ∧ k = a) ∨ (b = 49 ∧ 20 * a ≤ k ∧ k < 20 * a + 20)
theorem mt_end {g : jH} (q : MS g) {a : Nat} (ha : a < 31) {k : Nat} (h47 : ji g 47 a = nI k) {b : Int32} (hb : b = 0 ∨ b = 1) (x : Int32) : jV 119 80 [some (.ref 30), some (.int (nI a)), some (.int b), some (.int x)] [] g = some (some (.int b), jsi g 47 a (nI (k + 1))) := by
  have b4 : jin (nI a) 31 = true := jin_nI ha (by omega)
  have b5 : (nI a).toNatClampNeg = a := nI_clamp (by omega)
  rcases hb with rfl | rfl
  · simp only [s119_80, s119_81, s119_84, s119_85, s119_86, s119_87, s119_88, s119_89, s119_90, s119_91, k30 q, k47 q, p30_16 q, b4, b5, h47, nI_1, ↓reduceIte, va_rf_s, va_rf_n, jb_some, jb_none, jtl_s, jtl_n, if_true, if_false, true_and, and_true, false_and, and_false, or_true, true_or, or_false, false_or, not_true_eq_false, not_false_eq_true, jk_si, jp_si, jj_si, jk_sj, jp_sj, ji_sj, jk_ci, jp_ci, jj_ci, jk_cj, jp_cj, ji_cj, jlng_n, jlng_i, jlng_r, jlng_0]
  · simp only [s119_80, s119_81, s119_84, s119_85, s119_86, s119_87, s119_88, s119_89, s119_90, s119_91, k30 q, k47 q, p30_16 q, b4, b5, h47, nI_1, show ((1 : Int32) = 0 ∨ (1 : Int32) = 1) by decide, ↓reduceIte, va_rf_s, va_rf_n, jb_some, jb_none, jtl_s, jtl_n, if_true, if_false, true_and, and_true, false_and, and_false, or_true, true_or, or_false, false_or, not_true_eq_false, not_false_eq_true, jk_si, jp_si, jj_si, jk_sj, jp_sj, ji_sj, jk_ci, jp_ci, jj_ci, jk_cj, jp_cj, ji_cj, jlng_n, jlng_i, jlng_r, jlng_0]
theorem q_takes {B : Nat} {g g' : jH} (qm : MS g') {a t : Nat} (ha : a < 31) (hm : Mu B g g' a t) (hB : B + 1 < 1610612736) : ∃ (v : Int64) (g1 : jH) (k : Nat) (b : Int32) (G' : jH), ji g t 13 = nI k ∧ jV 48 0 [some (.ref (t + 4)), some (.int (nI k)), none, none] [] g = some (some (.long v), g1) ∧ Off (tP (t + 4)) g g1 ∧ jV 119 0 [some (.ref 30), some (.int (nI a)), none, none] [] g' = some (some (.int b), G') ∧ ((v = 0 ∧ b = 0) ∨ (¬ v = 0 ∧ b = 1)) ∧ Fr (mTp a) g' G' ∧ Mu (B + 1) (jsi g1 t 13 (nI (k + 1))) G' a t := by
  obtain ⟨_, k, S, M, hk, ⟨h13, h47⟩, hT, hM, hP, hS⟩ := hm
  have hl := hM.1
  obtain ⟨v, g1, S', hv, hT1, ho, hcase⟩ := t_takeOut hT (nI k)
  have hsort : S.Pairwise (fun a b => a.1 < b.1) := hT.2.2.2.2
  have b4 : jin (nI a) 31 = true := jin_nI ha (by omega)
  have b5 : (nI a).toNatClampNeg = a := nI_clamp (by omega)
  have m0 : jV 119 0 [some (.ref 30), some (.int (nI a)), none, none] [] g' = jV 119 11 [some (.ref 30), some (.int (nI a)), some (.int 0), some (.int (nI M.length - 1))] [] g' := by
    simp only [s119_0, s119_1, s119_2, s119_3, s119_6, s119_7, s119_8, s119_9, s119_10, k30 qm, k50 qm, p30_19 qm, b4, b5, hM.2.1, ↓reduceIte, va_rf_s, va_rf_n, jb_some, jb_none, jtl_s, jtl_n, if_true, if_false, true_and, and_true, false_and, and_false, or_true, true_or, or_false, false_or, not_true_eq_false, not_false_eq_true, jk_si, jp_si, jj_si, jk_sj, jp_sj, ji_sj, jk_ci, jp_ci, jj_ci, jk_cj, jp_cj, ji_cj, jlng_n, jlng_i, jlng_r, jlng_0]
  have hndS := sorted_nd hsort
  have hTS : ∀ G' : jH, TI (jsi g1 t 13 (nI (k + 1))) (t + 4) 20 S' := fun _ => hT1.fr (P := fun b _ => b = t) ((Fr.refl g1).si rfl) (fun b k h1 h2 => by omega)
  rcases hcase with hS1 | ⟨hv0, hS1, hno⟩
  · have hmem : (nI k, v) ∈ S := by rw [hS1]; exact List.mem_cons_self
    have hv1 : v = 1 := (hS _ hmem).2
    have hmm : nI k ∈ M := hP.mem_iff.mpr (List.mem_map_of_mem (f := Prod.fst) hmem)
    obtain ⟨i, hi⟩ := List.getElem?_of_mem hmm
    have hil := (List.getElem?_eq_some_iff.mp hi).1
    have hz : M[M.length - 1]? = some M[M.length - 1] := List.getElem?_eq_getElem (by omega)
    have hnd : M.Nodup := hP.nodup_iff.mpr hndS
    have hn : ∀ (j : Nat) (x : Int32), j ≠ i → M[j]? = some x → x ≠ ji g' 47 a := by
      intro j x hj hx e
      rw [h47] at e
      subst e
      exact hj ((List.getElem?_inj (List.getElem?_eq_some_iff.mp hx).1 hnd).mp (hx.trans hi.symm))
    have hh := mt_hit qm ha hM 0 hi h47.symm hz hn M.length hil (Nat.le_refl _)
    generalize hzz : M[M.length - 1] = z at hz hh
    have he := mt_end (MS_si (MS_si qm)) ha (show ji (jsi (jsi g' 50 a (nI (M.length - 1))) 49 (20 * a + i) z) 47 a = nI k by simp [ji_si, h47]) (b := 1) (Or.inr rfl) (-1)
    refine ⟨v, g1, k, 1, _, h13, hv, ho, (m0.trans hh).trans he, Or.inr ⟨by rw [hv1]; decide, rfl⟩, ((((Fr.refl g').si (by omega)).si (by omega)).si (by omega)), hB, k + 1, S', (M.set i z).dropLast, by omega, ⟨by simp [ji_si], by simp [ji_si]⟩, hTS g', ?_, ?_, ?_⟩
    · refine ⟨by rw [List.length_dropLast, List.length_set]; omega, by rw [List.length_dropLast, List.length_set]; simp [ji_si], fun j p hj => ?_⟩
      rw [List.getElem?_dropLast] at hj
      split at hj
      · rw [ji_si, if_neg (by omega), ji_si]
        by_cases c : j = i
        · subst c
          rw [List.getElem?_set_self (by omega)] at hj
          cases hj
          simp
        · rw [List.getElem?_set_ne (Ne.symm c)] at hj
          have := hM.2.2 j p hj
          rw [if_neg (by omega), ji_si, if_neg (by omega)]
          exact this
      · exact absurd hj (by simp)
    · have h1 := swp hi hz
      have h2 := h1.symm.trans hP
      rw [hS1] at h2
      exact (List.perm_cons _).mp h2
    · intro p hp
      obtain ⟨⟨j, h1, h2, h3⟩, h4⟩ := hS p (by rw [hS1]; exact List.mem_cons_of_mem _ hp)
      rw [hS1] at hsort
      have h5 := lt_of_sorted hsort hp
      rw [h3] at h5
      have h6 := (nI_ltI (by omega) (by omega)).mp h5
      exact ⟨⟨j, by omega, by omega, h3⟩, h4⟩
  · subst hv0
    subst hS1
    have hbig : ∀ p ∈ S', ∃ j, k < j ∧ j ≤ B + 500 ∧ p.1 = nI j := by
      intro p hp
      cases S' with
      | nil => exact absurd hp (by simp)
      | cons q0 S0 =>
        obtain ⟨⟨j0, h1, h2, h3⟩, _⟩ := hS q0 List.mem_cons_self
        have hj0 : k < j0 := by
          have := hno q0 rfl
          rw [h3] at this
          have h4 : j0 ≠ k := fun e => this (by rw [e])
          omega
        rcases List.mem_cons.mp hp with rfl | hp'
        · exact ⟨j0, hj0, h2, h3⟩
        · obtain ⟨⟨j, g1, g2, g3⟩, _⟩ := hS p hp
          have h5 := lt_of_sorted hsort hp'
          rw [h3, g3] at h5
          have h6 := (nI_ltI (by omega) (by omega)).mp h5
          exact ⟨j, by omega, g2, g3⟩
    have hh := mt_no qm ha hM 0 M.length (Nat.le_refl _) (by
      intro i x _ hx e
      obtain ⟨p, hp, e2⟩ := List.mem_map.mp (hP.mem_iff.mp (List.mem_of_getElem? hx))
      obtain ⟨j, h1, h2, h3⟩ := hbig p hp
      rw [← e2, h3, h47] at e
      have := (nI_eq (by omega) (by omega)).mp e
      omega)
    have he := mt_end qm ha h47 (b := 0) (Or.inl rfl) (-1)
    refine ⟨0, g1, k, 0, _, h13, hv, ho, (m0.trans hh).trans he, Or.inl ⟨rfl, rfl⟩, (Fr.refl g').si (by omega), hB, k + 1, S', M, by omega, ⟨by simp [ji_si], by simp [ji_si]⟩, hTS g', hM.fr (P := fun b j => b = 47) ((Fr.refl g').si rfl) (by omega) (fun i _ => by omega), hP, ?_⟩
    intro p hp
    obtain ⟨j, h1, h2, h3⟩ := hbig p hp
    exact ⟨⟨j, by omega, by omega, h3⟩, (hS p hp).2⟩
