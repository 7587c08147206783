/-! A MESSAGE: composing, telling -/
theorem c_pre {g : jH} {q c1 c2 : Nat} {o1 o2 : Bool} {L0 : List Int32} (qc : CS g) (hq : jk g q = (6, 0)) (hq74 : 74 ≤ q) (hW : WI g 12 L0) (h1 : ji g q 0 = if o1 then nI c1 else -1) (h2 : ji g q 1 = if o2 then nI c2 else -1) (l1 : c1 < 65536) (l2 : c2 < 65536) : ∃ G, jV 51 0 [some (.ref q), some (.ref 12), some (.ref 27), none, none] [] g = jV 51 53 [some (.ref q), some (.ref 12), some (.ref 27), some (.int (ji g q 5 * 32)), some (.int (nI 0))] [] G ∧ WI G 12 ((if o1 then [nI (65536 * 1 + c1)] else []) ++ (if o2 then [nI (65536 * 1 + c2)] else [])) ∧ Off (wP 12) g G := by
  obtain ⟨g1, a1, W1, f1⟩ := w_clear hW
  have e : ∀ c, (65536 : Int32) + nI c = nI (65536 * 1 + c) := fun c => nI_add 65536 c
  have ne : ∀ c, c < 65536 → ¬ nI c = -1 := fun c hc z => absurd (z ▸ (by decide) : nI c < 0) (nI_pos (by omega))
  obtain ⟨g2, a2, W2, f2⟩ := w_add W1 (by simp) (nI (65536 * 1 + c1))
  obtain ⟨g3, a3, W3, f3⟩ := w_add W1 (by simp) (nI (65536 * 1 + c2))
  obtain ⟨g4, a4, W4, f4⟩ := w_add W2 (by simp) (nI (65536 * 1 + c2))
  have i1 : ∀ k, ji g1 q k = ji g q k := fun k => f1.i (by unfold wP; omega)
  have i2 : ∀ k, ji g2 q k = ji g q k := fun k => by rw [f2.i (by unfold wP; omega), i1]
  have i3 : ∀ k, ji g3 q k = ji g q k := fun k => by rw [f3.i (by unfold wP; omega), i1]
  have i4 : ∀ k, ji g4 q k = ji g q k := fun k => by rw [f4.i (by unfold wP; omega), i2]
  have q1 : jk g1 q = (6, 0) := by rw [f1.k]; exact hq
  have q2 : jk g2 q = (6, 0) := by rw [f2.k]; exact q1
  have q3 : jk g3 q = (6, 0) := by rw [f3.k]; exact q1
  have q4 : jk g4 q = (6, 0) := by rw [f4.k]; exact q2
  have qc1 := f1.cs qc
  have qc2 := f2.cs qc1
  cases o1 <;> cases o2
  · refine ⟨g1, ?_, W1, f1⟩
    simp only [Bool.false_eq_true, if_false] at h1 h2
    simp only [s51_0, s51_1, s51_4, s51_5, s51_8, s51_9, s51_12, s51_13, s51_15, s51_16, s51_19, s51_20, s51_23, s51_24, s51_27, s51_28, s51_31, s51_32, s51_34, s51_35, s51_38, s51_39, s51_42, s51_43, s51_46, s51_48, s51_49, s51_50, s51_51, k12 qc, k12 qc1, a1, q1, i1, h1, h2, ↓reduceIte, va_rf_s, va_rf_n, jb_some, jb_none, jtl_s, jtl_n, if_true, if_false, true_and, and_true, false_and, and_false, or_true, true_or, or_false, false_or, not_true_eq_false, not_false_eq_true, jk_si, jp_si, jj_si, jk_sj, jp_sj, ji_sj, jk_ci, jp_ci, jj_ci, jk_cj, jp_cj, ji_cj, jlng_n, jlng_i, jlng_r, jlng_0]
    rfl
  · refine ⟨g3, ?_, W3, f1.trans f3⟩
    simp only [Bool.false_eq_true, if_false, if_true] at h1 h2
    simp only [s51_0, s51_1, s51_4, s51_5, s51_8, s51_9, s51_12, s51_13, s51_15, s51_16, s51_19, s51_20, s51_23, s51_24, s51_27, s51_28, s51_31, s51_32, s51_34, s51_35, s51_38, s51_39, s51_42, s51_43, s51_46, s51_48, s51_49, s51_50, s51_51, k12 qc, k12 qc1, a1, q1, q3, i1, i3, h1, h2, ne c2 l2, e, a3, ↓reduceIte, va_rf_s, va_rf_n, jb_some, jb_none, jtl_s, jtl_n, if_true, if_false, true_and, and_true, false_and, and_false, or_true, true_or, or_false, false_or, not_true_eq_false, not_false_eq_true, jk_si, jp_si, jj_si, jk_sj, jp_sj, ji_sj, jk_ci, jp_ci, jj_ci, jk_cj, jp_cj, ji_cj, jlng_n, jlng_i, jlng_r, jlng_0]
    rfl
  · refine ⟨g2, ?_, W2, f1.trans f2⟩
    simp only [Bool.false_eq_true, if_false, if_true] at h1 h2
    simp only [s51_0, s51_1, s51_4, s51_5, s51_8, s51_9, s51_12, s51_13, s51_15, s51_16, s51_19, s51_20, s51_23, s51_24, s51_27, s51_28, s51_31, s51_32, s51_34, s51_35, s51_38, s51_39, s51_42, s51_43, s51_46, s51_48, s51_49, s51_50, s51_51, k12 qc, k12 qc1, a1, q1, q2, i1, i2, h1, h2, ne c1 l1, e, a2, ↓reduceIte, va_rf_s, va_rf_n, jb_some, jb_none, jtl_s, jtl_n, if_true, if_false, true_and, and_true, false_and, and_false, or_true, true_or, or_false, false_or, not_true_eq_false, not_false_eq_true, jk_si, jp_si, jj_si, jk_sj, jp_sj, ji_sj, jk_ci, jp_ci, jj_ci, jk_cj, jp_cj, ji_cj, jlng_n, jlng_i, jlng_r, jlng_0]
    rfl
  · refine ⟨g4, ?_, W4, (f1.trans f2).trans f4⟩
    simp only [if_true] at h1 h2
    simp only [s51_0, s51_1, s51_4, s51_5, s51_8, s51_9, s51_12, s51_13, s51_15, s51_16, s51_19, s51_20, s51_23, s51_24, s51_27, s51_28, s51_31, s51_32, s51_34, s51_35, s51_38, s51_39, s51_42, s51_43, s51_46, s51_48, s51_49, s51_50, s51_51, k12 qc, k12 qc1, k12 qc2, a1, q1, q2, q4, i1, i2, i4, h1, h2, ne c1 l1, ne c2 l2, e, a2, a4, ↓reduceIte, va_rf_s, va_rf_n, jb_some, jb_none, jtl_s, jtl_n, if_true, if_false, true_and, and_true, false_and, and_false, or_true, true_or, or_false, false_or, not_true_eq_false, not_false_eq_true, jk_si, jp_si, jj_si, jk_sj, jp_sj, ji_sj, jk_ci, jp_ci, jj_ci, jk_cj, jp_cj, ji_cj, jlng_n, jlng_i, jlng_r, jlng_0]
    rfl
/-- nothing of a block is told -/
theorem c_nodata {g : jH} {q : Nat} {f : Int32} (hq : jk g q = (6, 0)) (h2 : ji g q 2 = 0) : jV 51 53 [some (.ref q), some (.ref 12), some (.ref 27), some (.int f), some (.int (nI 0))] [] g = some (none, g) := by
  simp only [s51_53, s51_55, s51_56, s51_59, s51_62, s51_63, s51_66, s51_67, s51_69, s51_70, s51_71, s51_72, s51_75, s51_76, s51_77, s51_78, s51_80, s51_81, s51_82, s51_85, s51_88, s51_91, hq, h2, eq_false (show ¬ nI 0 < 0 by decide), ↓reduceIte, va_rf_s, va_rf_n, jb_some, jb_none, jtl_s, jtl_n, if_true, if_false, true_and, and_true, false_and, and_false, or_true, true_or, or_false, false_or, not_true_eq_false, not_false_eq_true, jk_si, jp_si, jj_si, jk_sj, jp_sj, ji_sj, jk_ci, jp_ci, jj_ci, jk_cj, jp_cj, ji_cj, jlng_n, jlng_i, jlng_r, jlng_0]
theorem c_data {q blk cnt : Nat} (hblk : blk ≤ 15) (hcnt : cnt ≤ 32) (hq74 : 74 ≤ q) : ∀ (n k : Nat) (g : jH) (LW : List Int32), k + n = cnt → CS g → jk g q = (6, 0) → ji g q 2 = nI cnt → WI g 12 LW → LW.length = 1 + k → ∃ G LW', jV 51 53 [some (.ref q), some (.ref 12), some (.ref 27), some (.int (nI (32 * blk))), some (.int (nI k))] [] g = some (none, G) ∧ WI G 12 LW' ∧ LW'.length = 1 + cnt ∧ (∀ j, j < 1 + k → LW'[j]? = LW[j]?) ∧ (∀ j, k ≤ j → j < cnt → LW'[1 + j]? = some (ji g 27 (32 * blk + j))) ∧ Off (wP 12) g G
  | 0, k, g, LW, h, qc, hq, h2, hW, hl => by
    have e : k = cnt := by omega
    subst e
    have lt : ¬ nI k < nI k := nI_nlt (Nat.le_refl k) (by omega)
    exact ⟨g, LW, by simp only [s51_53, s51_55, s51_56, s51_59, s51_62, s51_63, s51_66, s51_67, s51_69, s51_70, s51_71, s51_72, s51_75, s51_76, s51_77, s51_78, s51_80, s51_81, s51_82, s51_85, s51_88, s51_91, hq, h2, lt, ↓reduceIte, va_rf_s, va_rf_n, jb_some, jb_none, jtl_s, jtl_n, if_true, if_false, true_and, and_true, false_and, and_false, or_true, true_or, or_false, false_or, not_true_eq_false, not_false_eq_true, jk_si, jp_si, jj_si, jk_sj, jp_sj, ji_sj, jk_ci, jp_ci, jj_ci, jk_cj, jp_cj, ji_cj, jlng_n, jlng_i, jlng_r, jlng_0], hW, hl, fun _ _ => rfl, fun j h1 h2 => absurd h2 (by omega), Fr.refl g⟩
  | n + 1, k, g, LW, h, qc, hq, h2, hW, hl => by
    have lt : nI k < nI cnt := nI_lt (by omega) (by omega)
    obtain ⟨g1, a1, W1, f1⟩ := w_add hW (by omega) (ji g 27 (32 * blk + k))
    obtain ⟨G, LW', r1, r2, r3, r4, r5, r6⟩ := c_data hblk hcnt hq74 n (k + 1) g1 (LW ++ [ji g 27 (32 * blk + k)]) (by omega) (f1.cs qc) (by rw [f1.k]; exact hq) (by rw [f1.i (by unfold wP; omega)]; exact h2) W1 (by simp; omega)
    have ep : ¬ nI (32 * blk) < 0 := nI_pos (by omega)
    have e2 : nI (32 * blk) + nI k = nI (32 * blk + k) := nI_add _ _
    have lt2 : nI (32 * blk + k) < 512 := nI_lt (b := 512) (by omega) (by omega)
    have c4 : jin (nI (32 * blk + k)) 512 = true := jin_nI (by omega) (by omega)
    have c5 : (nI (32 * blk + k)).toNatClampNeg = 32 * blk + k := nI_clamp (by omega)
    have e1 : nI k + 1 = nI (k + 1) := nI_add k 1
    refine ⟨G, LW', ?_, r2, r3, fun j hj => ?_, fun j h1 h3 => ?_, f1.trans r6⟩
    · rw [← r1]
      have nl : nI 512 = 512 := rfl
      simp only [s51_53 (x := nI k), s51_55, s51_56, s51_59, s51_62, s51_63, s51_66, s51_67, s51_69, s51_70, s51_71, s51_72, s51_75, s51_76, s51_77, s51_78, s51_80, s51_81, s51_82, s51_85, s51_88, hq, h2, lt, k27 qc, k12 qc, ep, e2, nl, lt2, c4, c5, a1, e1, Nat.le_refl, Nat.reduceLeDiff, Nat.reduceEqDiff, ↓reduceIte, va_rf_s, va_rf_n, jb_some, jb_none, jtl_s, jtl_n, if_true, if_false, true_and, and_true, false_and, and_false, or_true, true_or, or_false, false_or, not_true_eq_false, not_false_eq_true, jk_si, jp_si, jj_si, jk_sj, jp_sj, ji_sj, jk_ci, jp_ci, jj_ci, jk_cj, jp_cj, ji_cj, jlng_n, jlng_i, jlng_r, jlng_0]
    · rw [r4 j (by omega), List.getElem?_append_left (by omega)]
    · by_cases c : j = k
      · subst c
        rw [r4 (1 + j) (by omega), List.getElem?_append_right (by omega), hl, Nat.sub_self]
        rfl
      · rw [r5 j (by omega) h3, f1.i (by unfold wP; omega)]
/-- the exchange is made ready -/
theorem sm_head {g : jH} {l : Nat} {L15 L21 L24 : List Int32} (qc : CS g) (h15 : WI g 15 L15) (h21 : WI g 21 L21) (h24 : WI g 24 L24) : ∃ G, jV 12 0 [some (.ref 10), some (.int (nI l)), none] [] g = jV 12 33 [some (.ref 10), some (.int (nI l)), some (.int (nI 0))] [] G ∧ WI G 15 [] ∧ WI G 21 [] ∧ WI G 24 [] ∧ ji G 10 8 = 0 ∧ ji G 10 9 = 0 ∧ Fr (fun b k => (15 ≤ b ∧ b ≤ 17) ∨ (21 ≤ b ∧ b ≤ 26) ∨ (b = 10 ∧ (k = 8 ∨ k = 9))) g G := by
  obtain ⟨g1, a1, W1, f1⟩ := w_clear h15
  obtain ⟨g2, a2, W2, f2⟩ := w_clear (h21.fr f1 (fun b k z1 z2 => by unfold wP; omega))
  obtain ⟨g3, a3, W3, f3⟩ := w_clear ((h24.fr f1 (fun b k z1 z2 => by unfold wP; omega)).fr f2 (fun b k z1 z2 => by unfold wP; omega))
  have f4 : Fr (fun b k => b = 10 ∧ (k = 8 ∨ k = 9)) g3 (jsi (jsi g3 10 8 0) 10 9 0) := ((Fr.refl g3).si ⟨rfl, Or.inl rfl⟩).si ⟨rfl, Or.inr rfl⟩
  have qc1 := f1.cs qc
  have qc2 := f2.cs qc1
  have qc3 := f3.cs qc2
  refine ⟨_, ?_, ((W1.fr f2 (fun b k z1 z2 => by unfold wP; omega)).fr f3 (fun b k z1 z2 => by unfold wP; omega)).fr f4 (fun b k z1 z2 => by omega), (W2.fr f3 (fun b k z1 z2 => by unfold wP; omega)).fr f4 (fun b k z1 z2 => by omega), W3.fr f4 (fun b k z1 z2 => by omega), by simp [ji_si], by simp [ji_si], (((f1.sub (fun b k z => by unfold wP at z; omega)).trans (f2.sub (fun b k z => by unfold wP at z; omega))).trans (f3.sub (fun b k z => by unfold wP at z; omega))).trans (f4.sub (fun b k z => Or.inr (Or.inr z)))⟩
  simp only [s12_0, s12_1, s12_4, s12_7, s12_8, s12_11, s12_14, s12_15, s12_18, s12_21, s12_22, s12_23, s12_26, s12_27, s12_28, s12_31, s12_32, k10 qc, k10 qc1, k10 qc2, k10 qc3, k15 qc, k21 qc1, k24 qc2, p10_3 qc, p10_5 qc1, p10_6 qc2, a1, a2, a3, ↓reduceIte, va_rf_s, va_rf_n, jb_some, jb_none, jtl_s, jtl_n, if_true, if_false, true_and, and_true, false_and, and_false, or_true, true_or, or_false, false_or, not_true_eq_false, not_false_eq_true, jk_si, jp_si, jj_si, jk_sj, jp_sj, ji_sj, jk_ci, jp_ci, jj_ci, jk_cj, jp_cj, ji_cj, jlng_n, jlng_i, jlng_r, jlng_0]
  rfl
theorem sm_end {g : jH} {l : Nat} {LW : List Int32} (qc : CS g) (hT : WI g 12 LW) : jV 12 33 [some (.ref 10), some (.int (nI l)), some (.int (nI LW.length))] [] g = some (none, g) := by
  have hl := hT.2.1
  have lt : ¬ nI LW.length < nI LW.length := nI_nlt (Nat.le_refl _) (by omega)
  simp only [s12_33, s12_34, s12_35, s12_38, s12_41, s12_44, s12_45, s12_48, s12_49, s12_52, s12_53, s12_56, s12_57, s12_60, s12_61, s12_63, s12_66, s12_69, s12_72, s12_75, k10 qc, k12 qc, p10_2 qc, hT.len.1, lt, ↓reduceIte, va_rf_s, va_rf_n, jb_some, jb_none, jtl_s, jtl_n, if_true, if_false, true_and, and_true, false_and, and_false, or_true, true_or, or_false, false_or, not_true_eq_false, not_false_eq_true, jk_si, jp_si, jj_si, jk_sj, jp_sj, ji_sj, jk_ci, jp_ci, jj_ci, jk_cj, jp_cj, ji_cj, jlng_n, jlng_i, jlng_r, jlng_0]
/-- the blocks -/
def BL (g g' : jH) : Prop := ∀ k, k < 512 → ji g 27 k = ji g' 57 k ∧ isD (ji g' 57 k)
/-- the state between attempts -/
def AT (B : Nat) (g g' : jH) : Prop := CS g ∧ MS g' ∧ RLi B g g' ∧ TS B g g' ∧ BL g g' ∧ ((∃ L, WI g 12 L) ∧ (∃ L, WI g 15 L) ∧ (∃ L, WI g 18 L) ∧ (∃ L, WI g 21 L) ∧ ∃ L, WI g 24 L)
abbrev hWd (k : Nat) : Prop := k = 17 ∨ k = 20 ∨ k = 21
abbrev sWd (k : Nat) : Prop := k = 16 ∨ k = 18 ∨ k = 19
/-- what a transfer is, in both -/
def KD (f m : Nat → Int32) : Prop :=
  (∃ to tp cnt blk, (to ≤ 31 ∧ 1 ≤ tp ∧ tp ≤ 30 ∧ 1 ≤ cnt ∧ cnt ≤ 32 ∧ blk ≤ 15) ∧ (m 58 = 0 ∧ m 61 = nI to ∧ m 62 = nI tp ∧ m 63 = nI cnt ∧ m 64 = nI blk) ∧ f 0 = nI (CM to 0 tp cnt) ∧ f 1 = -1 ∧ f 2 = nI cnt ∧ f 3 = nI 0 ∧ f 4 = 0 ∧ f 5 = nI blk) ∨
  (∃ fr fp cnt blk, (fr ≤ 30 ∧ 1 ≤ fp ∧ fp ≤ 30 ∧ 1 ≤ cnt ∧ cnt ≤ 32 ∧ blk ≤ 15) ∧ (m 58 = 1 ∧ m 59 = nI fr ∧ m 60 = nI fp ∧ m 63 = nI cnt ∧ m 64 = nI blk) ∧ f 0 = -1 ∧ f 1 = nI (CM fr 1 fp cnt) ∧ f 2 = 0 ∧ f 3 = nI cnt ∧ f 4 = 1 ∧ f 5 = nI blk) ∨
  (∃ fr fp to tp cnt, (fr ≤ 30 ∧ 1 ≤ fp ∧ fp ≤ 30 ∧ to ≤ 31 ∧ 1 ≤ tp ∧ tp ≤ 30 ∧ 1 ≤ cnt ∧ cnt ≤ 32) ∧ (m 58 = 2 ∧ m 59 = nI fr ∧ m 60 = nI fp ∧ m 61 = nI to ∧ m 62 = nI tp ∧ m 63 = nI cnt) ∧ f 0 = nI (CM to 0 tp cnt) ∧ f 1 = nI (CM fr 1 fp cnt) ∧ f 2 = 0 ∧ f 3 = nI cnt ∧ f 4 = 0) ∨
  (∃ to cod blk, (to ≤ 31 ∧ cod < 32 ∧ blk ≤ 15 ∧ (sWd cod → ¬ to = 31)) ∧ (m 58 = 3 ∧ m 61 = nI to ∧ m 62 = nI cod ∧ m 64 = nI blk) ∧ f 0 = nI (CM to (if hWd cod then 0 else 1) 0 cod) ∧ f 1 = -1 ∧ f 2 = nI (if hWd cod then 1 else 0) ∧ f 3 = nI (if sWd cod then 1 else 0) ∧ f 4 = nI (if sWd cod then 1 else 0) ∧ f 5 = nI blk)
/-- the fixed part of transfer i, at q -/
def TK (g g' : jH) (i q : Nat) : Prop := i < 24 ∧ 74 ≤ q ∧ jk g q = (6, 0) ∧ (∃ ln, ln ≤ 1 ∧ ji g q 6 = nI ln ∧ ji g' 65 i = nI ln) ∧ KD (ji g q) (fun l => ji g' l i)
abbrev cTp : Nat → Nat → Prop := fun b k => (2 ≤ b ∧ b ≤ 9) ∨ (b = 10 ∧ (k = 8 ∨ k = 9)) ∨ (12 ≤ b ∧ b ≤ 17) ∨ (21 ≤ b ∧ b ≤ 26)
theorem TS.fr {P P' : Nat → Nat → Prop} {B : Nat} {g g' h h' : jH} (hT : TS B g g') (f : Fr P g h) (f' : Fr P' g' h') (h1 : ∀ b k, 74 ≤ b → ¬ P b k) (h2 : ∀ b k, 31 ≤ b → b ≤ 50 → ¬ P' b k) : TS B h h' := by
  intro a ha
  have e31 : ji h' 31 a = ji g' 31 a := f'.i (h2 _ _ (by omega) (by omega))
  have hm : ∀ b k, mTA a b k → ¬ P' b k := fun b k z => h2 b k (by rcases z with ⟨z1, z2⟩ | ⟨z1, z2⟩ | ⟨z1, z2⟩ | ⟨z1, z2⟩ | ⟨z1, z2⟩ <;> omega) (by rcases z with ⟨z1, z2⟩ | ⟨z1, z2⟩ | ⟨z1, z2⟩ | ⟨z1, z2⟩ | ⟨z1, z2⟩ <;> omega)
  rcases hT a ha with ⟨z1, z2, z3⟩ | ⟨t, z1, z2, z3⟩
  · exact Or.inl ⟨by rw [f.p]; exact z1, by rw [e31]; exact z2, z3.fr f' hm⟩
  · exact Or.inr ⟨t, by rw [f.p]; exact z1, by rw [e31]; exact z2, z3.fr f f' (fun b k y1 y2 => h1 b k (by have := z3.1.1; omega)) hm⟩
theorem TS.mono {B B' : Nat} {g g' : jH} (h : TS B g g') (hB : B ≤ B') (hB' : B' < 1610612736) : TS B' g g' := fun a ha => (h a ha).imp id (fun ⟨t, y1, y2, y3⟩ => ⟨t, y1, y2, y3.mono hB hB'⟩)
/-- the message has been said -/
theorem tell_fin {B B' : Nat} {g g' G G0' : jH} {L : List Int32} (hA : AT B g g') (hBB : B ≤ B') (hB : B' < 1610612736) (F : Fr cTp g G) (F' : Fr mMp g' G0') (hR : RLi B' G G0') (W15 : WI G 15 L) (hL : ML G0' L) (W21 : WI G 21 []) (W24 : WI G 24 []) (h8 : ji G 10 8 = 0) : EX B' L G (jsi G0' 30 52 0) 0 [] [] := by
  obtain ⟨qc, qm, _, hT, _, _, _, ⟨L18, W18⟩, _, _⟩ := hA
  have f1 : Fr (fun b k => b = 30 ∧ k = 52) G0' (jsi G0' 30 52 0) := (Fr.refl G0').si ⟨rfl, rfl⟩
  have f0 : Fr (fun _ _ => False) G G := Fr.refl G
  refine ⟨F.cs qc, f1.ms (F'.ms qm), hR.fr f0 f1 (fun _ _ _ _ => id) (fun k z => by omega) (fun b k z1 z2 => by omega), W15, hL.fr f1 (by omega) (fun k => by omega), ⟨L18, W18.fr F (fun b k z1 z2 => by omega)⟩, ⟨by omega, ⟨h8, by rw [ji_si, if_pos ⟨rfl, rfl⟩]; rfl⟩, ⟨W21, W24⟩, fun _ => rfl, fun _ => rfl, fun z => absurd z (by omega), fun z => absurd z (by omega)⟩, ?_⟩
  exact ((hT.fr F F' (fun b k z => by omega) (fun b k z1 z2 => by omega)).mono hBB hB).fr f0 f1 (fun _ _ _ => id) (fun b k z1 z2 => by omega)
