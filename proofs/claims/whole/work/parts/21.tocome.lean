/-! CONTRACTS 3: the copy of a row; numbers to come -/
theorem w_copyTo {g : jH} {w : Nat} {L : List Int32} (h : WI g w L) {t N f d n : Nat} (ht : jk g t = (20, N)) (hN : N < 1610612736) (h1 : f + n ≤ L.length) (h2 : d + n ≤ N) : jV 65 0 [some (.ref w), some (.int (nI f)), some (.ref t), some (.int (nI d)), some (.int (nI n))] [] g = some (none, jci g t (va_cpy (ji g (w + 1)) (ji g t) f d n)) := by
  obtain ⟨⟨k1, k2, k3, k4, k5⟩, k6, ⟨k7, k8, k9⟩, k10, k11⟩ := id h
  have a1 : ¬ nI f < 0 := nI_pos (by omega)
  have a2 : ¬ nI d < 0 := nI_pos (by omega)
  have a3 : ¬ nI n < 0 := nI_pos (by omega)
  have b1 : (nI f).toNatClampNeg = f := nI_clamp (by omega)
  have b2 : (nI d).toNatClampNeg = d := nI_clamp (by omega)
  have b3 : (nI n).toNatClampNeg = n := nI_clamp (by omega)
  have e1 : nI f + nI n = nI (f + n) := nI_add f n
  have e2 : nI d + nI n = nI (d + n) := nI_add d n
  have c1 : ¬ nI L.length < nI (f + n) := nI_nlt h1 (by omega)
  have c2 : ¬ nI N < nI (d + n) := nI_nlt h2 (by omega)
  have d1 : f + n ≤ 33 := by omega
  have w1 : (jk g t).1 = 20 := by rw [ht]
  have w2 : (jk g (w + 1)).1 = 20 := by rw [k4]
  simp only [s65_0, s65_1, s65_4, s65_6, s65_9, s65_10, s65_13, s65_14, s65_16, s65_17, s65_18, s65_21, s65_24, s65_25, s65_27, s65_28, s65_29, s65_30, s65_33, s65_34, s65_37, s65_38, s65_39, s65_40, s65_45, k1, k2, k4, k7, ht, a1, a2, a3, e1, e2, c1, c2, ↓reduceIte, va_rf_s, va_rf_n, jb_some, jb_none, jtl_s, jtl_n, if_true, if_false, true_and, and_true, false_and, and_false, or_true, true_or, or_false, false_or, not_true_eq_false, not_false_eq_true, jk_si, jp_si, jj_si, jk_sj, jp_sj, ji_sj, jk_ci, jp_ci, jj_ci, jk_cj, jp_cj, ji_cj, jlng_n, jlng_i, jlng_r, jlng_0]
  simp only [Nat.le_refl, Nat.reduceLeDiff, ↓reduceIte, va_rf_s, va_rf_n, jb_some, jb_none, jtl_s, jtl_n, if_true, if_false, true_and, and_true, false_and, and_false, or_true, true_or, or_false, false_or, not_true_eq_false, not_false_eq_true, jk_si, jp_si, jj_si, jk_sj, jp_sj, ji_sj, jk_ci, jp_ci, jj_ci, jk_cj, jp_cj, ji_cj, jlng_n, jlng_i, jlng_r, jlng_0]
  rw [s65_42 (h := g) (k1 := w2) (k2 := w1)]
  simp only [s65_45, a1, a2, a3, b1, b2, b3, k4, ht, h2, d1, ↓reduceIte, va_rf_s, va_rf_n, jb_some, jb_none, jtl_s, jtl_n, if_true, if_false, true_and, and_true, false_and, and_false, or_true, true_or, or_false, false_or, not_true_eq_false, not_false_eq_true, jk_si, jp_si, jj_si, jk_sj, jp_sj, ji_sj, jk_ci, jp_ci, jj_ci, jk_cj, jp_cj, ji_cj, jlng_n, jlng_i, jlng_r, jlng_0]
/-- the object at t holds the pairs S, in rising order -/
def TI (g : jH) (t N : Nat) (S : List (Int32 × Int64)) : Prop :=
  (jk g t = (5, 0) ∧ jp g t 0 = some (t + 1) ∧ jp g t 1 = some (t + 2) ∧ jk g (t + 1) = (20, N) ∧ jk g (t + 2) = (21, N)) ∧ (N ≤ 1000 ∧ S.length ≤ N) ∧ ji g t 2 = nI S.length ∧ (∀ (i : Nat) (q : Int32 × Int64), S[i]? = some q → ji g (t + 1) i = q.1 ∧ jj g (t + 2) i = q.2) ∧ S.Pairwise (fun a b => a.1 < b.1)
theorem TI.fr {g g' : jH} {t N : Nat} {S : List (Int32 × Int64)} (h : TI g t N S) {P : Nat → Nat → Prop} (ho : Fr P g g') (hp : ∀ a k, t ≤ a → a ≤ t + 2 → ¬ P a k) : TI g' t N S := by
  obtain ⟨⟨h1, h2, h3, h4, h5⟩, h6, h7, h8, h9⟩ := h
  have p0 := fun k => hp t k (by omega) (by omega)
  have p1 := fun k => hp (t + 1) k (by omega) (by omega)
  have p2 := fun k => hp (t + 2) k (by omega) (by omega)
  exact ⟨⟨by rw [ho.k]; exact h1, by rw [ho.p]; exact h2, by rw [ho.p]; exact h3, by rw [ho.k]; exact h4, by rw [ho.k]; exact h5⟩, h6, by rw [ho.i (p0 _)]; exact h7, fun i q hi => by rw [ho.i (p1 _), ho.j (p2 _)]; exact h8 i q hi, h9⟩
/-- p is the place for x -/
def PF (S : List (Int32 × Int64)) (x : Int32) (p : Nat) : Prop := p ≤ S.length ∧ (∀ (j : Nat) (q : Int32 × Int64), j < p → S[j]? = some q → q.1 < x) ∧ ∀ q : Int32 × Int64, S[p]? = some q → ¬ q.1 < x
theorem t_place_loop {g : jH} {t N : Nat} {S : List (Int32 × Int64)} (h : TI g t N S) (x : Int32) : ∀ (n i : Nat), i + n = S.length → (∀ (j : Nat) (q : Int32 × Int64), j < i → S[j]? = some q → q.1 < x) → ∃ p, jV 49 2 [some (.ref t), some (.int x), some (.int (nI i))] [] g = some (some (.int (nI p)), g) ∧ PF S x p
  | 0, i, hi, hs => by
    obtain ⟨⟨h1, h2, h3, h4, h5⟩, ⟨hN, h6⟩, h7, h8, h9⟩ := id h
    have e : i = S.length := by omega
    subst e
    have a1 : ¬ nI S.length < nI S.length := nI_nlt (Nat.le_refl _) (by omega)
    refine ⟨S.length, ?_, Nat.le_refl _, hs, fun q hq => ?_⟩
    · simp only [s49_0, s49_1, s49_2, s49_3, s49_4, s49_7, s49_10, s49_11, s49_14, s49_15, s49_16, s49_17, s49_20, s49_23, s49_26, s49_27, h1, h2, h7, a1, ↓reduceIte, va_rf_s, va_rf_n, jb_some, jb_none, jtl_s, jtl_n, if_true, if_false, true_and, and_true, false_and, and_false, or_true, true_or, or_false, false_or, not_true_eq_false, not_false_eq_true, jk_si, jp_si, jj_si, jk_sj, jp_sj, ji_sj, jk_ci, jp_ci, jj_ci, jk_cj, jp_cj, ji_cj, jlng_n, jlng_i, jlng_r, jlng_0]
    · rw [List.getElem?_eq_none (Nat.le_refl _)] at hq; cases hq
  | n + 1, i, hi, hs => by
    obtain ⟨⟨h1, h2, h3, h4, h5⟩, ⟨hN, h6⟩, h7, h8, h9⟩ := id h
    have hlt : i < S.length := by omega
    have a1 : nI i < nI S.length := nI_lt hlt (by omega)
    have a4 : jin (nI i) N = true := jin_nI (by omega) (by omega)
    have a7 : (nI i).toNatClampNeg = i := nI_clamp (by omega)
    have hq := List.getElem?_eq_getElem hlt
    generalize S[i] = q at hq
    have e1 := (h8 i q hq).1
    by_cases c : q.1 < x
    · obtain ⟨p, hp, hP⟩ := t_place_loop h x n (i + 1) (by omega) (fun j q2 hj hq2 => by
        rcases Nat.lt_or_eq_of_le (Nat.le_of_lt_succ hj) with z | z
        · exact hs j q2 z hq2
        · subst z; rw [hq] at hq2; cases hq2; exact c)
      refine ⟨p, ?_, hP⟩
      rw [← hp]
      have e2 : nI i + 1 = nI (i + 1) := nI_1 i
      simp only [s49_3, s49_4, s49_7, s49_10, s49_11, s49_14, s49_15, s49_16, s49_17, s49_20, s49_23, s49_26, s49_27, s49_2 (x := nI i), h1, h2, h4, h7, a1, a4, a7, e1, c, e2, ↓reduceIte, va_rf_s, va_rf_n, jb_some, jb_none, jtl_s, jtl_n, if_true, if_false, true_and, and_true, false_and, and_false, or_true, true_or, or_false, false_or, not_true_eq_false, not_false_eq_true, jk_si, jp_si, jj_si, jk_sj, jp_sj, ji_sj, jk_ci, jp_ci, jj_ci, jk_cj, jp_cj, ji_cj, jlng_n, jlng_i, jlng_r, jlng_0]
    · refine ⟨i, ?_, by omega, hs, fun q2 hq2 => by rw [hq] at hq2; cases hq2; exact c⟩
      simp only [s49_0, s49_1, s49_2, s49_3, s49_4, s49_7, s49_10, s49_11, s49_14, s49_15, s49_16, s49_17, s49_20, s49_23, s49_26, s49_27, h1, h2, h4, h7, a1, a4, a7, e1, c, ↓reduceIte, va_rf_s, va_rf_n, jb_some, jb_none, jtl_s, jtl_n, if_true, if_false, true_and, and_true, false_and, and_false, or_true, true_or, or_false, false_or, not_true_eq_false, not_false_eq_true, jk_si, jp_si, jj_si, jk_sj, jp_sj, ji_sj, jk_ci, jp_ci, jj_ci, jk_cj, jp_cj, ji_cj, jlng_n, jlng_i, jlng_r, jlng_0]
theorem t_place {g : jH} {t N : Nat} {S : List (Int32 × Int64)} (h : TI g t N S) (x : Int32) : ∃ p, jV 49 0 [some (.ref t), some (.int x), none] [] g = some (some (.int (nI p)), g) ∧ PF S x p := by
  obtain ⟨p, hp, hP⟩ := t_place_loop h x S.length 0 (by omega) (fun j q hj => absurd hj (by omega))
  refine ⟨p, ?_, hP⟩
  rw [← hp]
  simp only [s49_0, s49_1, ↓reduceIte, va_rf_s, va_rf_n, jb_some, jb_none, jtl_s, jtl_n, if_true, if_false, true_and, and_true, false_and, and_false, or_true, true_or, or_false, false_or, not_true_eq_false, not_false_eq_true, jk_si, jp_si, jj_si, jk_sj, jp_sj, ji_sj, jk_ci, jp_ci, jj_ci, jk_cj, jp_cj, ji_cj, jlng_n, jlng_i, jlng_r, jlng_0]
  rfl
/-- the pair of a number -/
theorem PF.has {S : List (Int32 × Int64)} {x : Int32} {p : Nat} (hP : PF S x p) (hs : S.Pairwise (fun a b => a.1 < b.1)) : (∃ q, S[p]? = some q ∧ q.1 = x) ↔ ∃ v, (x, v) ∈ S := by
  constructor
  · rintro ⟨q, hq, rfl⟩
    exact ⟨q.2, List.mem_of_getElem? hq⟩
  · rintro ⟨v, hv⟩
    obtain ⟨i, hi⟩ := List.getElem?_of_mem hv
    have hil := (List.getElem?_eq_some_iff.mp hi).1
    have h1 : ¬ i < p := fun q => Int32.lt_irrefl (hP.2.1 i _ q hi)
    rcases Nat.lt_or_eq_of_le (Nat.not_lt.mp h1) with h2 | h2
    · exfalso
      have hpl : p < S.length := by omega
      have hq := List.getElem?_eq_getElem hpl
      have h3 := (List.pairwise_iff_getElem.mp hs) p i hpl hil h2
      have h4 := hP.2.2 _ hq
      rw [(List.getElem?_eq_some_iff.mp hi).2] at h3
      exact h4 h3
    · subst h2
      exact ⟨_, hi, rfl⟩
theorem t_has {g : jH} {t N : Nat} {S : List (Int32 × Int64)} (h : TI g t N S) (x : Int32) : ∃ b : Int32, jV 46 0 [some (.ref t), some (.int x), none] [] g = some (some (.int b), g) ∧ ((b = 1 ∧ ∃ v, (x, v) ∈ S) ∨ (b = 0 ∧ ¬ ∃ v, (x, v) ∈ S)) := by
  obtain ⟨⟨h1, h2, h3, h4, h5⟩, ⟨hN, h6⟩, h7, h8, h9⟩ := id h
  obtain ⟨p, hp, hP⟩ := t_place h x
  have hPl := hP.1
  by_cases c : p < S.length
  · have hq := List.getElem?_eq_getElem c
    generalize S[p] = q at hq
    have e1 := (h8 p q hq).1
    have a1 : nI p < nI S.length := nI_lt c (by omega)
    have a4 : jin (nI p) N = true := jin_nI (by omega) (by omega)
    have a7 : (nI p).toNatClampNeg = p := nI_clamp (by omega)
    by_cases c2 : q.1 = x
    · refine ⟨1, ?_, Or.inl ⟨rfl, (hP.has h9).mp ⟨q, hq, c2⟩⟩⟩
      simp only [s46_0, s46_1, s46_2, s46_5, s46_6, s46_7, s46_8, s46_11, s46_14, s46_15, s46_18, s46_19, s46_20, s46_21, s46_24, s46_25, s46_28, s46_29, h1, h2, h4, h7, hp, a1, a4, a7, e1, c2, ↓reduceIte, va_rf_s, va_rf_n, jb_some, jb_none, jtl_s, jtl_n, if_true, if_false, true_and, and_true, false_and, and_false, or_true, true_or, or_false, false_or, not_true_eq_false, not_false_eq_true, jk_si, jp_si, jj_si, jk_sj, jp_sj, ji_sj, jk_ci, jp_ci, jj_ci, jk_cj, jp_cj, ji_cj, jlng_n, jlng_i, jlng_r, jlng_0]
    · refine ⟨0, ?_, Or.inr ⟨rfl, fun z => ?_⟩⟩
      · simp only [s46_0, s46_1, s46_2, s46_5, s46_6, s46_7, s46_8, s46_11, s46_14, s46_15, s46_18, s46_19, s46_20, s46_21, s46_24, s46_25, s46_28, s46_29, h1, h2, h4, h7, hp, a1, a4, a7, e1, c2, ↓reduceIte, va_rf_s, va_rf_n, jb_some, jb_none, jtl_s, jtl_n, if_true, if_false, true_and, and_true, false_and, and_false, or_true, true_or, or_false, false_or, not_true_eq_false, not_false_eq_true, jk_si, jp_si, jj_si, jk_sj, jp_sj, ji_sj, jk_ci, jp_ci, jj_ci, jk_cj, jp_cj, ji_cj, jlng_n, jlng_i, jlng_r, jlng_0]
      · obtain ⟨q2, hq2, hx⟩ := (hP.has h9).mpr z
        rw [hq] at hq2; cases hq2; exact c2 hx
  · have a1 : ¬ nI p < nI S.length := nI_nlt (by omega) (by omega)
    refine ⟨0, ?_, Or.inr ⟨rfl, fun z => ?_⟩⟩
    · simp only [s46_0, s46_1, s46_2, s46_5, s46_6, s46_7, s46_8, s46_11, s46_14, s46_15, s46_18, s46_19, s46_20, s46_21, s46_24, s46_25, s46_28, s46_29, h1, h2, h7, hp, a1, ↓reduceIte, va_rf_s, va_rf_n, jb_some, jb_none, jtl_s, jtl_n, if_true, if_false, true_and, and_true, false_and, and_false, or_true, true_or, or_false, false_or, not_true_eq_false, not_false_eq_true, jk_si, jp_si, jj_si, jk_sj, jp_sj, ji_sj, jk_ci, jp_ci, jj_ci, jk_cj, jp_cj, ji_cj, jlng_n, jlng_i, jlng_r, jlng_0]
    · obtain ⟨q2, hq2, hx⟩ := (hP.has h9).mpr z
      exact c (List.getElem?_eq_some_iff.mp hq2).1
/-- the labels of a ToCome -/
def tP (t : Nat) : Nat → Prop := fun a => t ≤ a ∧ a ≤ t + 2
theorem t_takeOut {g : jH} {t N : Nat} {S : List (Int32 × Int64)} (h : TI g t N S) (x : Int32) : ∃ (v : Int64) (g' : jH) (S' : List (Int32 × Int64)), jV 48 0 [some (.ref t), some (.int x), none, none] [] g = some (some (.long v), g') ∧ TI g' t N S' ∧ Off (tP t) g g' ∧ ((S = (x, v) :: S') ∨ (v = 0 ∧ S' = S ∧ ∀ q, S[0]? = some q → q.1 ≠ x)) := by
  obtain ⟨⟨h1, h2, h3, h4, h5⟩, ⟨hN, h6⟩, h7, h8, h9⟩ := id h
  cases S with
  | nil =>
    refine ⟨0, g, [], ?_, h, Off.refl g, Or.inr ⟨rfl, rfl, fun q hq => (by simp at hq)⟩⟩
    have a1 : ¬ 0 < nI ([] : List (Int32 × Int64)).length := by decide
    simp only [s48_0, s48_1, s48_4, s48_7, s48_8, s48_11, s48_12, s48_13, s48_14, s48_17, s48_18, h1, h7, a1, ↓reduceIte, va_rf_s, va_rf_n, jb_some, jb_none, jtl_s, jtl_n, if_true, if_false, true_and, and_true, false_and, and_false, or_true, true_or, or_false, false_or, not_true_eq_false, not_false_eq_true, jk_si, jp_si, jj_si, jk_sj, jp_sj, ji_sj, jk_ci, jp_ci, jj_ci, jk_cj, jp_cj, ji_cj, jlng_n, jlng_i, jlng_r, jlng_0]
  | cons q S =>
    have a1 : 0 < nI (q :: S).length := nI_lt (a := 0) (by simp) (by simp at h6 ⊢; omega)
    have hl : S.length + 1 ≤ N := by simpa using h6
    have a4 : jin 0 N = true := jin_nI (j := 0) (by omega) (by omega)
    have e1 := h8 0 q rfl
    by_cases c : q.1 = x
    · have e2 : nI (q :: S).length - 1 = nI S.length := by rw [List.length_cons]; exact nI_pred _
      have b0 : (0 : Int32).toNatClampNeg = 0 := by decide
      have b1 : (1 : Int32).toNatClampNeg = 1 := by decide
      have b2 : (nI S.length).toNatClampNeg = S.length := nI_clamp (by omega)
      have b3 : ¬ nI S.length < 0 := nI_pos (by omega)
      refine ⟨q.2, jcj (jci (jsi g t 2 (nI S.length)) (t + 1) (va_cpy (ji g (t + 1)) (ji g (t + 1)) 1 0 S.length)) (t + 2) (va_cpy (jj g (t + 2)) (jj g (t + 2)) 1 0 S.length), S, ?_, ⟨⟨?_, ?_, ?_, ?_, ?_⟩, ⟨hN, by omega⟩, ?_, fun i q2 hi => ?_, (List.pairwise_cons.mp h9).2⟩, ?_, Or.inl (by rw [← c])⟩
      · simp only [s48_0, s48_1, s48_4, s48_7, s48_8, s48_11, s48_12, s48_13, s48_14, s48_17, s48_18, s48_19, s48_20, s48_23, s48_24, s48_25, s48_26, s48_27, s48_28, s48_31, s48_32, s48_33, s48_36, s48_37, s48_40, s48_41, s48_42, s48_45, s48_46, s48_47, h1, h2, h3, h4, h5, h7, a1, a4, b0, e1.1, e1.2, c, e2, ji_si, ↓reduceIte, va_rf_s, va_rf_n, jb_some, jb_none, jtl_s, jtl_n, if_true, if_false, true_and, and_true, false_and, and_false, or_true, true_or, or_false, false_or, not_true_eq_false, not_false_eq_true, jk_si, jp_si, jj_si, jk_sj, jp_sj, ji_sj, jk_ci, jp_ci, jj_ci, jk_cj, jp_cj, ji_cj, jlng_n, jlng_i, jlng_r, jlng_0]
        rw [s48_50 (h := jsi g t 2 (nI S.length)) (k1 := by rw [jk_si, h4]) (k2 := by rw [jk_si, h4])]
        have w1 : ji (jsi g t 2 (nI S.length)) (t + 1) = ji g (t + 1) := by funext k; simp [ji_si]
        simp only [w1, h1, h2, h3, h4, h5, b0, b1, b2, b3, show ¬ (1 : Int32) < 0 by decide, show ¬ (0 : Int32) < 0 by decide, show 1 + S.length ≤ N by omega, show 0 + S.length ≤ N by omega, s48_53, s48_54, s48_57, s48_58, s48_59, s48_62, s48_63, s48_64, ji_si, ji_ci, ↓reduceIte, va_rf_s, va_rf_n, jb_some, jb_none, jtl_s, jtl_n, if_true, if_false, true_and, and_true, false_and, and_false, or_true, true_or, or_false, false_or, not_true_eq_false, not_false_eq_true, jk_si, jp_si, jj_si, jk_sj, jp_sj, ji_sj, jk_ci, jp_ci, jj_ci, jk_cj, jp_cj, ji_cj, jlng_n, jlng_i, jlng_r, jlng_0]
        simp only [show ¬ (t = t + 1) by omega, ↓reduceIte, va_rf_s, va_rf_n, jb_some, jb_none, jtl_s, jtl_n, if_true, if_false, true_and, and_true, false_and, and_false, or_true, true_or, or_false, false_or, not_true_eq_false, not_false_eq_true, jk_si, jp_si, jj_si, jk_sj, jp_sj, ji_sj, jk_ci, jp_ci, jj_ci, jk_cj, jp_cj, ji_cj, jlng_n, jlng_i, jlng_r, jlng_0]
        rw [s48_67j (h := jci (jsi g t 2 (nI S.length)) (t + 1) (va_cpy (ji g (t + 1)) (ji g (t + 1)) 1 0 S.length)) (k1 := by rw [jk_ci, jk_si, h5]) (k2 := by rw [jk_ci, jk_si, h5])]
        have w2 : jj (jci (jsi g t 2 (nI S.length)) (t + 1) (va_cpy (ji g (t + 1)) (ji g (t + 1)) 1 0 S.length)) (t + 2) = jj g (t + 2) := by funext k; simp [jj_ci, jj_si]
        simp only [w2, h5, b0, b1, b2, b3, show ¬ (1 : Int32) < 0 by decide, show ¬ (0 : Int32) < 0 by decide, show 1 + S.length ≤ N by omega, show 0 + S.length ≤ N by omega, s48_70, s48_71, ↓reduceIte, va_rf_s, va_rf_n, jb_some, jb_none, jtl_s, jtl_n, if_true, if_false, true_and, and_true, false_and, and_false, or_true, true_or, or_false, false_or, not_true_eq_false, not_false_eq_true, jk_si, jp_si, jj_si, jk_sj, jp_sj, ji_sj, jk_ci, jp_ci, jj_ci, jk_cj, jp_cj, ji_cj, jlng_n, jlng_i, jlng_r, jlng_0]
      · simp only [↓reduceIte, va_rf_s, va_rf_n, jb_some, jb_none, jtl_s, jtl_n, if_true, if_false, true_and, and_true, false_and, and_false, or_true, true_or, or_false, false_or, not_true_eq_false, not_false_eq_true, jk_si, jp_si, jj_si, jk_sj, jp_sj, ji_sj, jk_ci, jp_ci, jj_ci, jk_cj, jp_cj, ji_cj, jlng_n, jlng_i, jlng_r, jlng_0]; exact h1
      · simp only [↓reduceIte, va_rf_s, va_rf_n, jb_some, jb_none, jtl_s, jtl_n, if_true, if_false, true_and, and_true, false_and, and_false, or_true, true_or, or_false, false_or, not_true_eq_false, not_false_eq_true, jk_si, jp_si, jj_si, jk_sj, jp_sj, ji_sj, jk_ci, jp_ci, jj_ci, jk_cj, jp_cj, ji_cj, jlng_n, jlng_i, jlng_r, jlng_0]; exact h2
      · simp only [↓reduceIte, va_rf_s, va_rf_n, jb_some, jb_none, jtl_s, jtl_n, if_true, if_false, true_and, and_true, false_and, and_false, or_true, true_or, or_false, false_or, not_true_eq_false, not_false_eq_true, jk_si, jp_si, jj_si, jk_sj, jp_sj, ji_sj, jk_ci, jp_ci, jj_ci, jk_cj, jp_cj, ji_cj, jlng_n, jlng_i, jlng_r, jlng_0]; exact h3
      · simp only [↓reduceIte, va_rf_s, va_rf_n, jb_some, jb_none, jtl_s, jtl_n, if_true, if_false, true_and, and_true, false_and, and_false, or_true, true_or, or_false, false_or, not_true_eq_false, not_false_eq_true, jk_si, jp_si, jj_si, jk_sj, jp_sj, ji_sj, jk_ci, jp_ci, jj_ci, jk_cj, jp_cj, ji_cj, jlng_n, jlng_i, jlng_r, jlng_0]; exact h4
      · simp only [↓reduceIte, va_rf_s, va_rf_n, jb_some, jb_none, jtl_s, jtl_n, if_true, if_false, true_and, and_true, false_and, and_false, or_true, true_or, or_false, false_or, not_true_eq_false, not_false_eq_true, jk_si, jp_si, jj_si, jk_sj, jp_sj, ji_sj, jk_ci, jp_ci, jj_ci, jk_cj, jp_cj, ji_cj, jlng_n, jlng_i, jlng_r, jlng_0]; exact h5
      · simp [ji_cj, ji_ci, ji_si]
      · have hil := (List.getElem?_eq_some_iff.mp hi).1
        have e3 := h8 (i + 1) q2 (by simpa using hi)
        constructor
        · rw [ji_cj, ji_ci, if_pos rfl]
          unfold va_cpy
          rw [if_pos ⟨by omega, by omega⟩, show 1 + (i - 0) = i + 1 by omega]
          exact e3.1
        · rw [jj_cj, if_pos rfl]
          unfold va_cpy
          rw [if_pos ⟨by omega, by omega⟩, show 1 + (i - 0) = i + 1 by omega]
          exact e3.2
      · exact ((Off.si ⟨by omega, by omega⟩).trans (Off.ci ⟨by omega, by omega⟩)).trans (Off.cj ⟨by omega, by omega⟩)
    · refine ⟨0, g, q :: S, ?_, h, Off.refl g, Or.inr ⟨rfl, rfl, fun q2 hq2 => by cases hq2; exact c⟩⟩
      have b0 : (0 : Int32).toNatClampNeg = 0 := by decide
      simp only [s48_0, s48_1, s48_4, s48_7, s48_8, s48_11, s48_12, s48_13, s48_14, s48_17, s48_18, h1, h2, h4, h7, a1, a4, b0, e1.1, c, ↓reduceIte, va_rf_s, va_rf_n, jb_some, jb_none, jtl_s, jtl_n, if_true, if_false, true_and, and_true, false_and, and_false, or_true, true_or, or_false, false_or, not_true_eq_false, not_false_eq_true, jk_si, jp_si, jj_si, jk_sj, jp_sj, ji_sj, jk_ci, jp_ci, jj_ci, jk_cj, jp_cj, ji_cj, jlng_n, jlng_i, jlng_r, jlng_0]
