/-! CONTRACTS 4: ToCome.put -/
/-- a pair put in at its place -/
theorem ins_get {α : Type} (S : List α) (p : Nat) (x : α) (hp : p ≤ S.length) (i : Nat) : (S.take p ++ x :: S.drop p)[i]? = if i < p then S[i]? else if i = p then some x else S[i - 1]? := by
  have hl : (S.take p).length = p := by rw [List.length_take]; omega
  by_cases c : i < p
  · rw [if_pos c, List.getElem?_append_left (by omega), List.getElem?_take_of_lt c]
  · rw [if_neg c, List.getElem?_append_right (by omega), hl]
    by_cases c2 : i = p
    · subst c2; rw [if_pos rfl, Nat.sub_self]; rfl
    · rw [if_neg c2]
      obtain ⟨k, rfl⟩ : ∃ k, i = p + (k + 1) := ⟨i - p - 1, by omega⟩
      rw [show p + (k + 1) - p = k + 1 by omega, List.getElem?_cons_succ, List.getElem?_drop]
      congr 1
theorem ins_sorted {S : List (Int32 × Int64)} {x : Int32} {v : Int64} {p : Nat} (hs : S.Pairwise (fun a b => a.1 < b.1)) (hP : PF S x p) (hx : ∀ q, S[p]? = some q → q.1 ≠ x) : (S.take p ++ (x, v) :: S.drop p).Pairwise (fun a b => a.1 < b.1) := by
  have hgt : ∀ q ∈ S.drop p, x < q.1 := by
    intro q hq
    obtain ⟨i, hi⟩ := List.getElem?_of_mem hq
    rw [List.getElem?_drop] at hi
    have hpl : p < S.length := by
      have := (List.getElem?_eq_some_iff.mp hi).1
      omega
    have h0 := List.getElem?_eq_getElem hpl
    have h1 : x < S[p].1 := by
      have h2 := hP.2.2 _ h0
      have h3 := hx _ h0
      rcases Int32.lt_or_eq_of_le (Int32.not_lt.mp h2) with z | z
      · exact z
      · exact absurd z.symm h3
    rcases Nat.eq_zero_or_pos i with z | z
    · subst z
      rw [Nat.add_zero, h0] at hi
      cases hi
      exact h1
    · have hil := (List.getElem?_eq_some_iff.mp hi)
      have := (List.pairwise_iff_getElem.mp hs) p (p + i) hpl hil.1 (by omega)
      rw [hil.2] at this
      exact Int32.lt_trans h1 this
  have hlt : ∀ q ∈ S.take p, q.1 < x := by
    intro q hq
    obtain ⟨i, hi⟩ := List.getElem?_of_mem hq
    have hil := (List.getElem?_eq_some_iff.mp hi).1
    rw [List.length_take] at hil
    rw [List.getElem?_take_of_lt (by omega)] at hi
    exact hP.2.1 i q (by omega) hi
  refine List.pairwise_append.mpr ⟨hs.sublist (List.take_sublist _ _), List.pairwise_cons.mpr ⟨hgt, hs.sublist (List.drop_sublist _ _)⟩, fun a ha b hb => ?_⟩
  rcases List.mem_cons.mp hb with rfl | hb
  · exact hlt a ha
  · exact Int32.lt_trans (hlt a ha) (hgt b hb)
theorem set_sorted {S : List (Int32 × Int64)} {x : Int32} {v w : Int64} {p : Nat} (hs : S.Pairwise (fun a b => a.1 < b.1)) (hp : S[p]? = some (x, w)) : (S.set p (x, v)).Pairwise (fun a b => a.1 < b.1) := by
  have e : ∀ (i : Nat) (h : i < (S.set p (x, v)).length), ((S.set p (x, v))[i]).1 = (S[i]'(by simpa using h)).1 := by
    intro i h
    by_cases c : i = p
    · subst c
      rw [List.getElem_set_self, (List.getElem?_eq_some_iff.mp hp).2]
    · rw [List.getElem_set_ne (fun q => c q.symm)]
  refine List.pairwise_iff_getElem.mpr fun i j hi hj hij => ?_
  rw [e i hi, e j hj]
  exact (List.pairwise_iff_getElem.mp hs) i j _ _ hij
set_option maxHeartbeats 1000000 in
theorem t_put {g : jH} {t N : Nat} {S : List (Int32 × Int64)} (h : TI g t N S) (x : Int32) (v : Int64) : ∃ (b : Int32) (g' : jH) (S' : List (Int32 × Int64)), jV 47 0 [some (.ref t), some (.int x), some (.long v), none, none] [] g = some (some (.int b), g') ∧ TI g' t N S' ∧ Off (tP t) g g' ∧
    ((b = 1 ∧ (∃ w, (x, w) ∈ S) ∧ S'.length = S.length ∧ ∀ y u, (y, u) ∈ S' ↔ (if y = x then u = v else (y, u) ∈ S)) ∨ (b = 0 ∧ S' = S ∧ S.length = N ∧ ¬ ∃ w, (x, w) ∈ S) ∨ (b = 1 ∧ (¬ ∃ w, (x, w) ∈ S) ∧ S.length < N ∧ S'.length = S.length + 1 ∧ ∀ y u, (y, u) ∈ S' ↔ (if y = x then u = v else (y, u) ∈ S))) := by
  obtain ⟨⟨h1, h2, h3, h4, h5⟩, ⟨hN, h6⟩, h7, h8, h9⟩ := id h
  obtain ⟨p, hp, hP⟩ := t_place h x
  have hPl := hP.1
  have a7 : (nI p).toNatClampNeg = p := nI_clamp (by omega)
  by_cases c : ∃ q, S[p]? = some q ∧ q.1 = x
  · obtain ⟨q, hq, hqx⟩ := id c
    have hpl := (List.getElem?_eq_some_iff.mp hq).1
    have e1 := (h8 p q hq).1
    have a1 : nI p < nI S.length := nI_lt hpl (by omega)
    have a4 : jin (nI p) N = true := jin_nI (by omega) (by omega)
    have hq' : S[p]? = some (x, q.2) := by rw [hq, ← hqx]
    refine ⟨1, jsj g (t + 2) p v, S.set p (x, v), ?_, ⟨⟨?_, ?_, ?_, ?_, ?_⟩, ⟨hN, by simpa using h6⟩, ?_, fun i q2 hi => ?_, set_sorted h9 hq'⟩, Off.sj ⟨by omega, by omega⟩, Or.inl ⟨rfl, ⟨q.2, List.mem_of_getElem? hq'⟩, by simp, fun y u => ?_⟩⟩
    · simp only [s47_0, s47_1, s47_2, s47_5, s47_7, s47_9, s47_10, s47_13, s47_16, s47_17, s47_20, s47_22, s47_23, s47_24, s47_27, s47_28, s47_31, s47_33, s47_34, s47_35, s47_36, h1, h2, h3, h4, h5, h7, hp, a1, a4, a7, e1, hqx, ↓reduceIte, va_rf_s, va_rf_n, jb_some, jb_none, jtl_s, jtl_n, if_true, if_false, true_and, and_true, false_and, and_false, or_true, true_or, or_false, false_or, not_true_eq_false, not_false_eq_true, jk_si, jp_si, jj_si, jk_sj, jp_sj, ji_sj, jk_ci, jp_ci, jj_ci, jk_cj, jp_cj, ji_cj, jlng_n, jlng_i, jlng_r, jlng_0]
    · simp only [↓reduceIte, va_rf_s, va_rf_n, jb_some, jb_none, jtl_s, jtl_n, if_true, if_false, true_and, and_true, false_and, and_false, or_true, true_or, or_false, false_or, not_true_eq_false, not_false_eq_true, jk_si, jp_si, jj_si, jk_sj, jp_sj, ji_sj, jk_ci, jp_ci, jj_ci, jk_cj, jp_cj, ji_cj, jlng_n, jlng_i, jlng_r, jlng_0]; exact h1
    · simp only [↓reduceIte, va_rf_s, va_rf_n, jb_some, jb_none, jtl_s, jtl_n, if_true, if_false, true_and, and_true, false_and, and_false, or_true, true_or, or_false, false_or, not_true_eq_false, not_false_eq_true, jk_si, jp_si, jj_si, jk_sj, jp_sj, ji_sj, jk_ci, jp_ci, jj_ci, jk_cj, jp_cj, ji_cj, jlng_n, jlng_i, jlng_r, jlng_0]; exact h2
    · simp only [↓reduceIte, va_rf_s, va_rf_n, jb_some, jb_none, jtl_s, jtl_n, if_true, if_false, true_and, and_true, false_and, and_false, or_true, true_or, or_false, false_or, not_true_eq_false, not_false_eq_true, jk_si, jp_si, jj_si, jk_sj, jp_sj, ji_sj, jk_ci, jp_ci, jj_ci, jk_cj, jp_cj, ji_cj, jlng_n, jlng_i, jlng_r, jlng_0]; exact h3
    · simp only [↓reduceIte, va_rf_s, va_rf_n, jb_some, jb_none, jtl_s, jtl_n, if_true, if_false, true_and, and_true, false_and, and_false, or_true, true_or, or_false, false_or, not_true_eq_false, not_false_eq_true, jk_si, jp_si, jj_si, jk_sj, jp_sj, ji_sj, jk_ci, jp_ci, jj_ci, jk_cj, jp_cj, ji_cj, jlng_n, jlng_i, jlng_r, jlng_0]; exact h4
    · simp only [↓reduceIte, va_rf_s, va_rf_n, jb_some, jb_none, jtl_s, jtl_n, if_true, if_false, true_and, and_true, false_and, and_false, or_true, true_or, or_false, false_or, not_true_eq_false, not_false_eq_true, jk_si, jp_si, jj_si, jk_sj, jp_sj, ji_sj, jk_ci, jp_ci, jj_ci, jk_cj, jp_cj, ji_cj, jlng_n, jlng_i, jlng_r, jlng_0]; exact h5
    · rw [ji_sj, h7]; simp
    · rw [ji_sj, jj_sj]
      by_cases ci : i = p
      · subst ci
        rw [List.getElem?_set_self hpl] at hi
        cases hi
        exact ⟨by rw [e1, hqx], by rw [if_pos ⟨rfl, rfl⟩]⟩
      · rw [List.getElem?_set_ne (fun z => ci z.symm)] at hi
        rw [if_neg (fun z => ci z.2)]
        exact h8 i q2 hi
    · constructor
      · intro hm
        obtain ⟨i, hi⟩ := List.getElem?_of_mem hm
        by_cases ci : i = p
        · subst ci
          rw [List.getElem?_set_self hpl] at hi
          cases hi
          rw [if_pos rfl]
        · rw [List.getElem?_set_ne (fun z => ci z.symm)] at hi
          have hne : y ≠ x := by
            intro z
            subst z
            have hil := List.getElem?_eq_some_iff.mp hi
            have hql := List.getElem?_eq_some_iff.mp hq'
            rcases Nat.lt_or_gt_of_ne ci with z | z
            · have := (List.pairwise_iff_getElem.mp h9) i p hil.1 hql.1 z
              rw [hil.2, hql.2] at this
              exact Int32.lt_irrefl this
            · have := (List.pairwise_iff_getElem.mp h9) p i hql.1 hil.1 z
              rw [hil.2, hql.2] at this
              exact Int32.lt_irrefl this
          rw [if_neg hne]
          exact List.mem_of_getElem? hi
      · intro hm
        by_cases ce : y = x
        · rw [if_pos ce] at hm
          subst ce hm
          exact List.mem_of_getElem? (i := p) (List.getElem?_set_self hpl)
        · rw [if_neg ce] at hm
          obtain ⟨i, hi⟩ := List.getElem?_of_mem hm
          have ci : i ≠ p := fun z => by subst z; rw [hq'] at hi; cases hi; exact ce rfl
          exact List.mem_of_getElem? (i := i) (by rw [List.getElem?_set_ne (fun z => ci z.symm)]; exact hi)
  · have hno : ¬ ∃ w, (x, w) ∈ S := fun z => c ((hP.has h9).mpr z)
    have hxq : ∀ q, S[p]? = some q → q.1 ≠ x := fun q hq z => c ⟨q, hq, z⟩
    have step : jV 47 0 [some (.ref t), some (.int x), some (.long v), none, none] [] g = jV 47 37 [some (.ref t), some (.int x), some (.long v), none, some (.int (nI p))] [] g := by
      by_cases c2 : p < S.length
      · have hq := List.getElem?_eq_getElem c2
        generalize S[p] = q at hq
        have e1 := (h8 p q hq).1
        have a1 : nI p < nI S.length := nI_lt c2 (by omega)
        have a4 : jin (nI p) N = true := jin_nI (by omega) (by omega)
        have e3 := hxq q hq
        simp only [s47_0, s47_1, s47_2, s47_5, s47_7, s47_9, s47_10, s47_13, s47_16, s47_17, s47_20, s47_22, s47_23, s47_24, s47_27, s47_28, s47_31, s47_33, s47_34, s47_35, s47_36, h1, h2, h3, h4, h5, h7, hp, a1, a4, a7, e1, e3, ↓reduceIte, va_rf_s, va_rf_n, jb_some, jb_none, jtl_s, jtl_n, if_true, if_false, true_and, and_true, false_and, and_false, or_true, true_or, or_false, false_or, not_true_eq_false, not_false_eq_true, jk_si, jp_si, jj_si, jk_sj, jp_sj, ji_sj, jk_ci, jp_ci, jj_ci, jk_cj, jp_cj, ji_cj, jlng_n, jlng_i, jlng_r, jlng_0]
      · have a1 : ¬ nI p < nI S.length := nI_nlt (by omega) (by omega)
        simp only [s47_0, s47_1, s47_2, s47_5, s47_7, s47_9, s47_10, s47_13, s47_16, s47_17, s47_20, s47_22, s47_23, s47_24, s47_27, s47_28, s47_31, s47_33, s47_34, s47_35, s47_36, h1, h2, h3, h4, h5, h7, hp, a1, ↓reduceIte, va_rf_s, va_rf_n, jb_some, jb_none, jtl_s, jtl_n, if_true, if_false, true_and, and_true, false_and, and_false, or_true, true_or, or_false, false_or, not_true_eq_false, not_false_eq_true, jk_si, jp_si, jj_si, jk_sj, jp_sj, ji_sj, jk_ci, jp_ci, jj_ci, jk_cj, jp_cj, ji_cj, jlng_n, jlng_i, jlng_r, jlng_0]
    rw [step]
    by_cases c3 : S.length < N
    · have b1 : nI S.length < nI N := nI_lt c3 (by omega)
      have b2 : nI p + 1 = nI (p + 1) := nI_1 p
      have b3 : nI S.length - nI p = nI (S.length - p) := pk_sub hPl
      have b4 : (nI (p + 1)).toNatClampNeg = p + 1 := nI_clamp (by omega)
      have b5 : (nI (S.length - p)).toNatClampNeg = S.length - p := nI_clamp (by omega)
      have b6 : ¬ nI p < 0 := nI_pos (by omega)
      have b7 : ¬ nI (p + 1) < 0 := nI_pos (by omega)
      have b8 : ¬ nI (S.length - p) < 0 := nI_pos (by omega)
      have b9 : jin (nI p) N = true := jin_nI (by omega) (by omega)
      have b10 : nI S.length + 1 = nI (S.length + 1) := nI_1 _
      refine ⟨1, jsi (jsj (jsi (jcj (jci g (t + 1) (va_cpy (ji g (t + 1)) (ji g (t + 1)) p (p + 1) (S.length - p))) (t + 2) (va_cpy (jj g (t + 2)) (jj g (t + 2)) p (p + 1) (S.length - p))) (t + 1) p x) (t + 2) p v) t 2 (nI (S.length + 1)), S.take p ++ (x, v) :: S.drop p, ?_, ⟨⟨?_, ?_, ?_, ?_, ?_⟩, ⟨hN, ?_⟩, ?_, fun i q2 hi => ?_, ins_sorted h9 hP hxq⟩, ?_, Or.inr (Or.inr ⟨rfl, hno, c3, ?_, fun y u => ?_⟩)⟩
      · simp only [s47_37, s47_38, s47_41, s47_42, s47_45, s47_46, s47_49, s47_50, s47_51, s47_52, s47_55, s47_57, s47_58, s47_61, s47_63, s47_64, s47_65, s47_66, s47_69, s47_71, h1, h2, h3, h4, h5, h7, b1, b2, b3, ↓reduceIte, va_rf_s, va_rf_n, jb_some, jb_none, jtl_s, jtl_n, if_true, if_false, true_and, and_true, false_and, and_false, or_true, true_or, or_false, false_or, not_true_eq_false, not_false_eq_true, jk_si, jp_si, jj_si, jk_sj, jp_sj, ji_sj, jk_ci, jp_ci, jj_ci, jk_cj, jp_cj, ji_cj, jlng_n, jlng_i, jlng_r, jlng_0]
        simp only [Nat.le_refl, Nat.reduceLeDiff, b1, s47_37, s47_38, s47_41, s47_42, s47_45, s47_46, s47_49, s47_50, s47_51, s47_52, s47_55, s47_57, s47_58, s47_61, s47_63, s47_64, s47_65, s47_66, s47_69, s47_71, h1, h2, h3, h4, h5, h7, b1, b2, b3, ↓reduceIte, va_rf_s, va_rf_n, jb_some, jb_none, jtl_s, jtl_n, if_true, if_false, true_and, and_true, false_and, and_false, or_true, true_or, or_false, false_or, not_true_eq_false, not_false_eq_true, jk_si, jp_si, jj_si, jk_sj, jp_sj, ji_sj, jk_ci, jp_ci, jj_ci, jk_cj, jp_cj, ji_cj, jlng_n, jlng_i, jlng_r, jlng_0]
        rw [s47_72 (h := g) (k1 := by rw [h4]) (k2 := by rw [h4])]
        simp only [h1, h2, h3, h4, h5, h7, a7, b2, b3, b4, b5, b6, b7, b8, show p + (S.length - p) ≤ N by omega, show p + 1 + (S.length - p) ≤ N by omega, s47_75, s47_76, s47_79, s47_81, s47_82, s47_85, s47_87, s47_88, s47_89, s47_90, s47_93, s47_95, ji_ci, ↓reduceIte, va_rf_s, va_rf_n, jb_some, jb_none, jtl_s, jtl_n, if_true, if_false, true_and, and_true, false_and, and_false, or_true, true_or, or_false, false_or, not_true_eq_false, not_false_eq_true, jk_si, jp_si, jj_si, jk_sj, jp_sj, ji_sj, jk_ci, jp_ci, jj_ci, jk_cj, jp_cj, ji_cj, jlng_n, jlng_i, jlng_r, jlng_0]
        simp only [show ¬ (t = t + 1) by omega, h7, b3, ↓reduceIte, va_rf_s, va_rf_n, jb_some, jb_none, jtl_s, jtl_n, if_true, if_false, true_and, and_true, false_and, and_false, or_true, true_or, or_false, false_or, not_true_eq_false, not_false_eq_true, jk_si, jp_si, jj_si, jk_sj, jp_sj, ji_sj, jk_ci, jp_ci, jj_ci, jk_cj, jp_cj, ji_cj, jlng_n, jlng_i, jlng_r, jlng_0]
        rw [s47_96j (h := jci g (t + 1) (va_cpy (ji g (t + 1)) (ji g (t + 1)) p (p + 1) (S.length - p))) (k1 := by rw [jk_ci, h5]) (k2 := by rw [jk_ci, h5])]
        have w2 : jj (jci g (t + 1) (va_cpy (ji g (t + 1)) (ji g (t + 1)) p (p + 1) (S.length - p))) (t + 2) = jj g (t + 2) := by funext k; simp [jj_ci]
        simp only [w2, h1, h2, h3, h4, h5, a7, b4, b5, b6, b7, b8, b9, show p + (S.length - p) ≤ N by omega, show p + 1 + (S.length - p) ≤ N by omega, s47_99, s47_100, s47_103, s47_105, s47_106, s47_107, s47_108, s47_111, s47_113, s47_114, s47_115, s47_116, s47_117, s47_120, s47_121, s47_122, s47_125, s47_126, ji_si, ji_ci, ↓reduceIte, va_rf_s, va_rf_n, jb_some, jb_none, jtl_s, jtl_n, if_true, if_false, true_and, and_true, false_and, and_false, or_true, true_or, or_false, false_or, not_true_eq_false, not_false_eq_true, jk_si, jp_si, jj_si, jk_sj, jp_sj, ji_sj, jk_ci, jp_ci, jj_ci, jk_cj, jp_cj, ji_cj, jlng_n, jlng_i, jlng_r, jlng_0]
        simp only [show ¬ (t = t + 1) by omega, h7, b10, ↓reduceIte, va_rf_s, va_rf_n, jb_some, jb_none, jtl_s, jtl_n, if_true, if_false, true_and, and_true, false_and, and_false, or_true, true_or, or_false, false_or, not_true_eq_false, not_false_eq_true, jk_si, jp_si, jj_si, jk_sj, jp_sj, ji_sj, jk_ci, jp_ci, jj_ci, jk_cj, jp_cj, ji_cj, jlng_n, jlng_i, jlng_r, jlng_0]
      · simp only [↓reduceIte, va_rf_s, va_rf_n, jb_some, jb_none, jtl_s, jtl_n, if_true, if_false, true_and, and_true, false_and, and_false, or_true, true_or, or_false, false_or, not_true_eq_false, not_false_eq_true, jk_si, jp_si, jj_si, jk_sj, jp_sj, ji_sj, jk_ci, jp_ci, jj_ci, jk_cj, jp_cj, ji_cj, jlng_n, jlng_i, jlng_r, jlng_0]; exact h1
      · simp only [↓reduceIte, va_rf_s, va_rf_n, jb_some, jb_none, jtl_s, jtl_n, if_true, if_false, true_and, and_true, false_and, and_false, or_true, true_or, or_false, false_or, not_true_eq_false, not_false_eq_true, jk_si, jp_si, jj_si, jk_sj, jp_sj, ji_sj, jk_ci, jp_ci, jj_ci, jk_cj, jp_cj, ji_cj, jlng_n, jlng_i, jlng_r, jlng_0]; exact h2
      · simp only [↓reduceIte, va_rf_s, va_rf_n, jb_some, jb_none, jtl_s, jtl_n, if_true, if_false, true_and, and_true, false_and, and_false, or_true, true_or, or_false, false_or, not_true_eq_false, not_false_eq_true, jk_si, jp_si, jj_si, jk_sj, jp_sj, ji_sj, jk_ci, jp_ci, jj_ci, jk_cj, jp_cj, ji_cj, jlng_n, jlng_i, jlng_r, jlng_0]; exact h3
      · simp only [↓reduceIte, va_rf_s, va_rf_n, jb_some, jb_none, jtl_s, jtl_n, if_true, if_false, true_and, and_true, false_and, and_false, or_true, true_or, or_false, false_or, not_true_eq_false, not_false_eq_true, jk_si, jp_si, jj_si, jk_sj, jp_sj, ji_sj, jk_ci, jp_ci, jj_ci, jk_cj, jp_cj, ji_cj, jlng_n, jlng_i, jlng_r, jlng_0]; exact h4
      · simp only [↓reduceIte, va_rf_s, va_rf_n, jb_some, jb_none, jtl_s, jtl_n, if_true, if_false, true_and, and_true, false_and, and_false, or_true, true_or, or_false, false_or, not_true_eq_false, not_false_eq_true, jk_si, jp_si, jj_si, jk_sj, jp_sj, ji_sj, jk_ci, jp_ci, jj_ci, jk_cj, jp_cj, ji_cj, jlng_n, jlng_i, jlng_r, jlng_0]; exact h5
      · simp; omega
      · rw [ji_si, if_pos ⟨rfl, rfl⟩]
        congr 1
        simp
        omega
      · rw [ins_get _ _ _ hPl] at hi
        simp only [ji_si, jj_si, ji_sj, jj_sj, ji_cj, jj_cj, ji_ci, jj_ci, show ¬ (t + 1 = t) by omega, show ¬ (t + 2 = t) by omega, ↓reduceIte, va_rf_s, va_rf_n, jb_some, jb_none, jtl_s, jtl_n, if_true, if_false, true_and, and_true, false_and, and_false, or_true, true_or, or_false, false_or, not_true_eq_false, not_false_eq_true, jk_si, jp_si, jj_si, jk_sj, jp_sj, ji_sj, jk_ci, jp_ci, jj_ci, jk_cj, jp_cj, ji_cj, jlng_n, jlng_i, jlng_r, jlng_0]
        by_cases c5 : i < p
        · rw [if_pos c5] at hi
          rw [if_neg (by omega), if_neg (by omega)]
          unfold va_cpy
          rw [if_neg (by omega), if_neg (by omega)]
          exact h8 i q2 hi
        · rw [if_neg c5] at hi
          by_cases c6 : i = p
          · rw [if_pos c6] at hi
            cases hi
            rw [if_pos c6, if_pos c6]
            exact ⟨rfl, rfl⟩
          · rw [if_neg c6] at hi
            have hil := (List.getElem?_eq_some_iff.mp hi).1
            rw [if_neg c6, if_neg c6]
            unfold va_cpy
            rw [if_pos (by omega), if_pos (by omega), show p + (i - (p + 1)) = i - 1 by omega]
            exact h8 (i - 1) q2 hi
      · exact ((((Off.ci ⟨by omega, by omega⟩).trans (Off.cj ⟨by omega, by omega⟩)).trans (Off.si ⟨by omega, by omega⟩)).trans (Off.sj ⟨by omega, by omega⟩)).trans (Off.si ⟨by omega, by omega⟩)
      · simp; omega
      · have hm : ((y, u) ∈ S.take p ++ (x, v) :: S.drop p) ↔ (y, u) = (x, v) ∨ (y, u) ∈ S := by
          rw [List.mem_append, List.mem_cons]
          have : (y, u) ∈ S ↔ (y, u) ∈ S.take p ∨ (y, u) ∈ S.drop p := by
            rw [← List.mem_append, List.take_append_drop]
          rw [this]
          constructor
          · rintro (z | z | z)
            · exact Or.inr (Or.inl z)
            · exact Or.inl z
            · exact Or.inr (Or.inr z)
          · rintro (z | z | z)
            · exact Or.inr (Or.inl z)
            · exact Or.inl z
            · exact Or.inr (Or.inr z)
        rw [hm]
        by_cases ce : y = x
        · rw [if_pos ce]
          subst ce
          constructor
          · rintro (z | z)
            · exact (Prod.mk.inj z).2
            · exact absurd ⟨u, z⟩ hno
          · intro z; exact Or.inl (by rw [z])
        · rw [if_neg ce]
          constructor
          · rintro (z | z)
            · exact absurd (Prod.mk.inj z).1 ce
            · exact z
          · intro z; exact Or.inr z
    · have b1 : ¬ nI S.length < nI N := nI_nlt (by omega) (by omega)
      refine ⟨0, g, S, ?_, h, Off.refl g, Or.inr (Or.inl ⟨rfl, rfl, by omega, hno⟩)⟩
      simp only [s47_37, s47_38, s47_41, s47_42, s47_45, s47_46, s47_49, s47_50, h1, h2, h3, h4, h5, h7, b1, ↓reduceIte, va_rf_s, va_rf_n, jb_some, jb_none, jtl_s, jtl_n, if_true, if_false, true_and, and_true, false_and, and_false, or_true, true_or, or_false, false_or, not_true_eq_false, not_false_eq_true, jk_si, jp_si, jj_si, jk_sj, jp_sj, ji_sj, jk_ci, jp_ci, jj_ci, jk_cj, jp_cj, ji_cj, jlng_n, jlng_i, jlng_r, jlng_0]
      try rfl
