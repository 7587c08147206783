/-! MESSAGES: what rests behind a command -/
theorem dtl_spec : ∀ (n : Nat) (L : List Int32), n ≤ L.length → (n ≤ dtl L ↔ ∀ (j : Nat) (x : Int32), L.length - n ≤ j → L[j]? = some x → isD x)
  | 0, L, _ => by
    refine ⟨fun _ j x h1 h2 => ?_, fun _ => Nat.zero_le _⟩
    have := (List.getElem?_eq_some_iff.mp h2).1
    omega
  | n + 1, L, h => by
    rcases List.eq_nil_or_concat L with rfl | ⟨L', x, rfl⟩
    · simp at h
    · rw [List.concat_eq_append] at h ⊢
      rw [List.length_append, List.length_singleton] at h ⊢
      rw [dtl_snoc]
      have ih := dtl_spec n L' (by omega)
      constructor
      · intro h1 j y h2 h3
        by_cases c : isD x
        · rw [if_pos c] at h1
          rcases Nat.lt_or_ge j L'.length with z | z
          · rw [List.getElem?_append_left z] at h3
            exact ih.mp (by omega) j y (by omega) h3
          · have hj := (List.getElem?_eq_some_iff.mp h3).1
            rw [List.length_append, List.length_singleton] at hj
            rw [show j = L'.length by omega, List.getElem?_concat_length] at h3
            cases h3
            exact c
        · rw [if_neg c] at h1
          omega
      · intro h1
        have c : isD x := h1 L'.length x (by omega) (by rw [List.getElem?_concat_length])
        rw [if_pos c]
        have := ih.mpr (fun j y h2 h3 => h1 j y (by omega) (by rw [List.getElem?_append_left (List.getElem?_eq_some_iff.mp h3).1]; exact h3))
        omega
theorem dtl_step {L : List Int32} {i : Nat} {x : Int32} (hx : L[i]? = some x) : L.length - i ≤ dtl L ↔ isD x ∧ L.length - (i + 1) ≤ dtl L := by
  have hl := (List.getElem?_eq_some_iff.mp hx).1
  rw [dtl_spec _ L (by omega), dtl_spec _ L (by omega)]
  constructor
  · intro h
    exact ⟨h i x (by omega) hx, fun j y h1 h2 => h j y (by omega) h2⟩
  · intro h j y h1 h2
    rcases Nat.eq_or_lt_of_le (show i ≤ j by omega) with z | z
    · subst z
      rw [hx] at h2
      cases h2
      exact h.1
    · exact h.2 j y (by omega) h2
abbrev JDt (L : List Int32) (f n : Nat) : Prop := L.length - f = n ∧ n ≤ dtl L
theorem mr_loop {g : jH} (q : MS g) {L : List Int32} (hL : ML g L) (l1 : Option Value) (l2 : Int32) : ∀ (n i : Nat), i + n = L.length → jV 120 19 [some (.ref 30), l1, some (.int l2), some (.int 1), some (.int (nI i))] [] g = some (some (.int (jB (L.length - i ≤ dtl L))), g)
  | 0, i, hi => by
    have hl := hL.1
    have a1 : ¬ nI i < nI L.length := nI_nlt (by omega) (by omega)
    rw [jB_t (by omega)]
    simp only [s120_19, s120_21, s120_22, s120_25, s120_28, s120_29, s120_32, s120_33, s120_36, s120_38, s120_39, s120_42, s120_43, s120_46, s120_49, s120_50, k30 q, hL.2.1, a1, ↓reduceIte, va_rf_s, va_rf_n, jb_some, jb_none, jtl_s, jtl_n, if_true, if_false, true_and, and_true, false_and, and_false, or_true, true_or, or_false, false_or, not_true_eq_false, not_false_eq_true, jk_si, jp_si, jj_si, jk_sj, jp_sj, ji_sj, jk_ci, jp_ci, jj_ci, jk_cj, jp_cj, ji_cj, jlng_n, jlng_i, jlng_r, jlng_0]
  | n + 1, i, hi => by
    have hl := hL.1
    have a1 : nI i < nI L.length := nI_lt (by omega) (by omega)
    have hq : L[i]? = some L[i] := List.getElem?_eq_getElem (by omega)
    have h1 := hL.2.2 i _ hq
    have a4 : jin (nI i) 40 = true := jin_nI (by omega) (by omega)
    have a5 : (nI i).toNatClampNeg = i := nI_clamp (by omega)
    generalize hx : L[i] = x at hq h1
    have od := o_isData x g
    have ds := dtl_step hq
    by_cases c : isD x
    · rw [jB_t c] at od
      have ih := mr_loop q hL l1 l2 n (i + 1) (by omega)
      rw [jB_cg (show L.length - i ≤ dtl L ↔ L.length - (i + 1) ≤ dtl L from ⟨fun z => (ds.mp z).2, fun z => ds.mpr ⟨c, z⟩⟩), ← ih]
      simp only [s120_21, s120_22, s120_25, s120_28, s120_29, s120_32, s120_33, s120_36, s120_38, s120_39, s120_42, s120_43, s120_46, s120_19 (x := nI i), k30 q, k68 q, p30_48 q, hL.2.1, a1, a4, a5, h1, od, nI_1, show ¬ (1 : Int32) = 0 by decide, ↓reduceIte, va_rf_s, va_rf_n, jb_some, jb_none, jtl_s, jtl_n, if_true, if_false, true_and, and_true, false_and, and_false, or_true, true_or, or_false, false_or, not_true_eq_false, not_false_eq_true, jk_si, jp_si, jj_si, jk_sj, jp_sj, ji_sj, jk_ci, jp_ci, jj_ci, jk_cj, jp_cj, ji_cj, jlng_n, jlng_i, jlng_r, jlng_0]
    · rw [jB_f c] at od
      rw [jB_f (fun z => c (ds.mp z).1)]
      by_cases e : i + 1 < L.length
      · have a6 : nI (i + 1) < nI L.length := nI_lt (by omega) (by omega)
        simp only [s120_19, s120_21, s120_22, s120_25, s120_28, s120_29, s120_32, s120_33, s120_36, s120_38, s120_39, s120_42, s120_43, s120_46, s120_49, s120_50, k30 q, k68 q, p30_48 q, hL.2.1, a1, a4, a5, a6, h1, od, nI_1, show ¬ (1 : Int32) = 0 by decide, ↓reduceIte, va_rf_s, va_rf_n, jb_some, jb_none, jtl_s, jtl_n, if_true, if_false, true_and, and_true, false_and, and_false, or_true, true_or, or_false, false_or, not_true_eq_false, not_false_eq_true, jk_si, jp_si, jj_si, jk_sj, jp_sj, ji_sj, jk_ci, jp_ci, jj_ci, jk_cj, jp_cj, ji_cj, jlng_n, jlng_i, jlng_r, jlng_0]
      · have a6 : ¬ nI (i + 1) < nI L.length := nI_nlt (by omega) (by omega)
        simp only [s120_19, s120_21, s120_22, s120_25, s120_28, s120_29, s120_32, s120_33, s120_36, s120_38, s120_39, s120_42, s120_43, s120_46, s120_49, s120_50, k30 q, k68 q, p30_48 q, hL.2.1, a1, a4, a5, a6, h1, od, nI_1, show ¬ (1 : Int32) = 0 by decide, ↓reduceIte, va_rf_s, va_rf_n, jb_some, jb_none, jtl_s, jtl_n, if_true, if_false, true_and, and_true, false_and, and_false, or_true, true_or, or_false, false_or, not_true_eq_false, not_false_eq_true, jk_si, jp_si, jj_si, jk_sj, jp_sj, ji_sj, jk_ci, jp_ci, jj_ci, jk_cj, jp_cj, ji_cj, jlng_n, jlng_i, jlng_r, jlng_0]
theorem m_isRestData {g : jH} (q : MS g) {L : List Int32} (hL : ML g L) {f n : Nat} (hf : f ≤ L.length) (hn : n ≤ 32) : jV 120 0 [some (.ref 30), some (.int (nI f)), some (.int (nI n)), none, none] [] g = some (some (.int (jB (JDt L f n))), g) := by
  have hl := hL.1
  have e1 : nI L.length - nI f = nI (L.length - f) := pk_sub hf
  by_cases c : L.length - f = n
  · have h2 := mr_loop q hL (some (.int (nI f))) (nI n) (L.length - f) f (by omega)
    rw [jB_cg (show JDt L f n ↔ L.length - f ≤ dtl L from ⟨fun z => by rw [c]; exact z.2, fun z => ⟨c, by rw [← c]; exact z⟩⟩), ← h2]
    have a1 : nI (L.length - f) = nI n := by rw [c]
    simp only [s120_0, s120_1, s120_4, s120_5, s120_6, s120_7, s120_10, s120_11, s120_14, s120_15, s120_16, s120_17, k30 q, hL.2.1, e1, a1, ↓reduceIte, va_rf_s, va_rf_n, jb_some, jb_none, jtl_s, jtl_n, if_true, if_false, true_and, and_true, false_and, and_false, or_true, true_or, or_false, false_or, not_true_eq_false, not_false_eq_true, jk_si, jp_si, jj_si, jk_sj, jp_sj, ji_sj, jk_ci, jp_ci, jj_ci, jk_cj, jp_cj, ji_cj, jlng_n, jlng_i, jlng_r, jlng_0]
  · have a1 : ¬ nI (L.length - f) = nI n := fun z => c ((e_eq (by omega) (by omega)).mp z)
    rw [jB_f (fun z => c z.1)]
    by_cases e : f < L.length
    · have a6 : nI f < nI L.length := nI_lt (by omega) (by omega)
      simp only [s120_0, s120_1, s120_4, s120_5, s120_6, s120_7, s120_10, s120_11, s120_14, s120_15, s120_16, s120_17, s120_19, s120_21, s120_22, s120_25, s120_28, s120_29, s120_32, s120_33, s120_36, s120_38, s120_39, s120_42, s120_43, s120_46, s120_49, s120_50, k30 q, hL.2.1, e1, a1, a6, ↓reduceIte, va_rf_s, va_rf_n, jb_some, jb_none, jtl_s, jtl_n, if_true, if_false, true_and, and_true, false_and, and_false, or_true, true_or, or_false, false_or, not_true_eq_false, not_false_eq_true, jk_si, jp_si, jj_si, jk_sj, jp_sj, ji_sj, jk_ci, jp_ci, jj_ci, jk_cj, jp_cj, ji_cj, jlng_n, jlng_i, jlng_r, jlng_0]
    · have a6 : ¬ nI f < nI L.length := nI_nlt (by omega) (by omega)
      simp only [s120_0, s120_1, s120_4, s120_5, s120_6, s120_7, s120_10, s120_11, s120_14, s120_15, s120_16, s120_17, s120_19, s120_21, s120_22, s120_25, s120_28, s120_29, s120_32, s120_33, s120_36, s120_38, s120_39, s120_42, s120_43, s120_46, s120_49, s120_50, k30 q, hL.2.1, e1, a1, a6, ↓reduceIte, va_rf_s, va_rf_n, jb_some, jb_none, jtl_s, jtl_n, if_true, if_false, true_and, and_true, false_and, and_false, or_true, true_or, or_false, false_or, not_true_eq_false, not_false_eq_true, jk_si, jp_si, jj_si, jk_sj, jp_sj, ji_sj, jk_ci, jp_ci, jj_ci, jk_cj, jp_cj, ji_cj, jlng_n, jlng_i, jlng_r, jlng_0]
/-- a relay: its one word behind is another's command to send as many -/
abbrev RLY (L : List Int32) (a c f : Nat) : Prop := L.length - f = 1 ∧ isC (L.getD f (-1)) ∧ sN (cw (L.getD f (-1))) ∧ ¬ aN (cw (L.getD f (-1))) = a ∧ ¬ aN (cw (L.getD f (-1))) = 31 ∧ ¬ dN (cw (L.getD f (-1))) ∧ cN (cw (L.getD f (-1))) = cN c
theorem n1 : ¬ (1 : Int32) = 0 := by decide
theorem m_isRelay {g : jH} (q : MS g) {L : List Int32} (hL : ML g L) {a c f : Nat} (ha : a < 31) (hc : c < 65536) (hf : f ≤ L.length) : jV 121 0 [some (.ref 30), some (.int (nI a)), some (.int (nI c)), some (.int (nI f)), none] [] g = some (some (.int (jB (RLY L a c f))), g) := by
  have hl := hL.1
  have e1 : nI L.length - nI f = nI (L.length - f) := pk_sub hf
  by_cases c1 : L.length - f = 1
  · have hq : L[f]? = some L[f] := List.getElem?_eq_getElem (by omega)
    have hg : L.getD f (-1) = L[f] := by rw [List.getD_eq_getElem?_getD, hq]; rfl
    have h1 := hL.2.2 f _ hq
    unfold RLY
    rw [hg]
    generalize hx : L[f] = x at hq h1
    have a1 : nI (L.length - f) = 1 := by rw [c1]; rfl
    have a4 : jin (nI f) 40 = true := jin_nI (by omega) (by omega)
    have a5 : (nI f).toNatClampNeg = f := nI_clamp (by omega)
    have oc := o_isCommand x g
    by_cases d1 : isC x
    · rw [jB_t d1] at oc
      have os := o_isToSend (cw_lt x) g
      by_cases d2 : sN (cw x)
      · rw [jB_t d2] at os
        have oa := o_addressOf (cw_lt x) g
        by_cases d3 : aN (cw x) = a
        · rw [jB_f (fun z => z.2.2.2.1 d3)]
          have b3 : nI (aN (cw x)) = nI a := by rw [d3]
          rw [b3] at oa
          simp only [s121_0, s121_1, s121_4, s121_5, s121_6, s121_7, s121_10, s121_11, s121_14, s121_15, s121_16, s121_19, s121_22, s121_23, s121_24, s121_25, s121_28, s121_29, s121_30, s121_32, s121_33, s121_35, s121_37, s121_40, s121_43, s121_45, s121_48, s121_49, s121_52, s121_54, s121_57, s121_59, s121_62, s121_64, s121_67, s121_70, s121_72, s121_75, s121_76, s121_79, s121_82, s121_83, s121_86, s121_87, k30 q, k68 q, p30_48 q, hL.2.1, e1, a1, a4, a5, h1, oc, os, oa, cw_and x, n1, ↓reduceIte, va_rf_s, va_rf_n, jb_some, jb_none, jtl_s, jtl_n, if_true, if_false, true_and, and_true, false_and, and_false, or_true, true_or, or_false, false_or, not_true_eq_false, not_false_eq_true, jk_si, jp_si, jj_si, jk_sj, jp_sj, ji_sj, jk_ci, jp_ci, jj_ci, jk_cj, jp_cj, ji_cj, jlng_n, jlng_i, jlng_r, jlng_0]
        · have b3 : ¬ nI (aN (cw x)) = nI a := fun z => d3 ((e_eq (aN_lt _) (by omega)).mp z)
          by_cases d4 : aN (cw x) = 31
          · rw [jB_f (fun z => z.2.2.2.2.1 d4)]
            have b4 : nI (aN (cw x)) = 31 := by rw [d4]; rfl
            rw [b4] at oa b3
            simp only [s121_0, s121_1, s121_4, s121_5, s121_6, s121_7, s121_10, s121_11, s121_14, s121_15, s121_16, s121_19, s121_22, s121_23, s121_24, s121_25, s121_28, s121_29, s121_30, s121_32, s121_33, s121_35, s121_37, s121_40, s121_43, s121_45, s121_48, s121_49, s121_52, s121_54, s121_57, s121_59, s121_62, s121_64, s121_67, s121_70, s121_72, s121_75, s121_76, s121_79, s121_82, s121_83, s121_86, s121_87, k30 q, k68 q, p30_48 q, hL.2.1, e1, a1, a4, a5, h1, oc, os, oa, cw_and x, n1, b3, ↓reduceIte, va_rf_s, va_rf_n, jb_some, jb_none, jtl_s, jtl_n, if_true, if_false, true_and, and_true, false_and, and_false, or_true, true_or, or_false, false_or, not_true_eq_false, not_false_eq_true, jk_si, jp_si, jj_si, jk_sj, jp_sj, ji_sj, jk_ci, jp_ci, jj_ci, jk_cj, jp_cj, ji_cj, jlng_n, jlng_i, jlng_r, jlng_0]
          · have b4 : ¬ nI (aN (cw x)) = 31 := fun z => d4 ((e_eq (b := 31) (aN_lt _) (by omega)).mp z)
            have om := o_isMode (cw_lt x) g
            by_cases d5 : dN (cw x)
            · rw [jB_t d5] at om
              rw [jB_f (fun z => z.2.2.2.2.2.1 d5)]
              simp only [s121_0, s121_1, s121_4, s121_5, s121_6, s121_7, s121_10, s121_11, s121_14, s121_15, s121_16, s121_19, s121_22, s121_23, s121_24, s121_25, s121_28, s121_29, s121_30, s121_32, s121_33, s121_35, s121_37, s121_40, s121_43, s121_45, s121_48, s121_49, s121_52, s121_54, s121_57, s121_59, s121_62, s121_64, s121_67, s121_70, s121_72, s121_75, s121_76, s121_79, s121_82, s121_83, s121_86, s121_87, k30 q, k68 q, p30_48 q, hL.2.1, e1, a1, a4, a5, h1, oc, os, oa, om, cw_and x, n1, b3, b4, ↓reduceIte, va_rf_s, va_rf_n, jb_some, jb_none, jtl_s, jtl_n, if_true, if_false, true_and, and_true, false_and, and_false, or_true, true_or, or_false, false_or, not_true_eq_false, not_false_eq_true, jk_si, jp_si, jj_si, jk_sj, jp_sj, ji_sj, jk_ci, jp_ci, jj_ci, jk_cj, jp_cj, ji_cj, jlng_n, jlng_i, jlng_r, jlng_0]
            · rw [jB_f d5] at om
              have on1 := o_countOf (cw_lt x) g
              have on2 := o_countOf hc g
              have z1 := cN_le (cw x)
              have z2 := cN_le c
              by_cases d6 : cN (cw x) = cN c
              · rw [jB_t ⟨c1, d1, d2, d3, d4, d5, d6⟩]
                rw [d6] at on1
                simp only [s121_0, s121_1, s121_4, s121_5, s121_6, s121_7, s121_10, s121_11, s121_14, s121_15, s121_16, s121_19, s121_22, s121_23, s121_24, s121_25, s121_28, s121_29, s121_30, s121_32, s121_33, s121_35, s121_37, s121_40, s121_43, s121_45, s121_48, s121_49, s121_52, s121_54, s121_57, s121_59, s121_62, s121_64, s121_67, s121_70, s121_72, s121_75, s121_76, s121_79, s121_82, s121_83, s121_86, s121_87, k30 q, k68 q, p30_48 q, hL.2.1, e1, a1, a4, a5, h1, oc, os, oa, om, on1, on2, cw_and x, n1, b3, b4, ↓reduceIte, va_rf_s, va_rf_n, jb_some, jb_none, jtl_s, jtl_n, if_true, if_false, true_and, and_true, false_and, and_false, or_true, true_or, or_false, false_or, not_true_eq_false, not_false_eq_true, jk_si, jp_si, jj_si, jk_sj, jp_sj, ji_sj, jk_ci, jp_ci, jj_ci, jk_cj, jp_cj, ji_cj, jlng_n, jlng_i, jlng_r, jlng_0]
              · rw [jB_f (fun z => d6 z.2.2.2.2.2.2)]
                have b6 : ¬ nI (cN (cw x)) = nI (cN c) := fun z => d6 ((e_eq (by omega) (by omega)).mp z)
                simp only [s121_0, s121_1, s121_4, s121_5, s121_6, s121_7, s121_10, s121_11, s121_14, s121_15, s121_16, s121_19, s121_22, s121_23, s121_24, s121_25, s121_28, s121_29, s121_30, s121_32, s121_33, s121_35, s121_37, s121_40, s121_43, s121_45, s121_48, s121_49, s121_52, s121_54, s121_57, s121_59, s121_62, s121_64, s121_67, s121_70, s121_72, s121_75, s121_76, s121_79, s121_82, s121_83, s121_86, s121_87, k30 q, k68 q, p30_48 q, hL.2.1, e1, a1, a4, a5, h1, oc, os, oa, om, on1, on2, cw_and x, n1, b3, b4, b6, ↓reduceIte, va_rf_s, va_rf_n, jb_some, jb_none, jtl_s, jtl_n, if_true, if_false, true_and, and_true, false_and, and_false, or_true, true_or, or_false, false_or, not_true_eq_false, not_false_eq_true, jk_si, jp_si, jj_si, jk_sj, jp_sj, ji_sj, jk_ci, jp_ci, jj_ci, jk_cj, jp_cj, ji_cj, jlng_n, jlng_i, jlng_r, jlng_0]
      · rw [jB_f d2] at os
        rw [jB_f (fun z => d2 z.2.2.1)]
        simp only [s121_0, s121_1, s121_4, s121_5, s121_6, s121_7, s121_10, s121_11, s121_14, s121_15, s121_16, s121_19, s121_22, s121_23, s121_24, s121_25, s121_28, s121_29, s121_30, s121_32, s121_33, s121_35, s121_37, s121_40, s121_43, s121_45, s121_48, s121_49, s121_52, s121_54, s121_57, s121_59, s121_62, s121_64, s121_67, s121_70, s121_72, s121_75, s121_76, s121_79, s121_82, s121_83, s121_86, s121_87, k30 q, k68 q, p30_48 q, hL.2.1, e1, a1, a4, a5, h1, oc, os, cw_and x, n1, ↓reduceIte, va_rf_s, va_rf_n, jb_some, jb_none, jtl_s, jtl_n, if_true, if_false, true_and, and_true, false_and, and_false, or_true, true_or, or_false, false_or, not_true_eq_false, not_false_eq_true, jk_si, jp_si, jj_si, jk_sj, jp_sj, ji_sj, jk_ci, jp_ci, jj_ci, jk_cj, jp_cj, ji_cj, jlng_n, jlng_i, jlng_r, jlng_0]
    · rw [jB_f d1] at oc
      rw [jB_f (fun z => d1 z.2.1)]
      simp only [s121_0, s121_1, s121_4, s121_5, s121_6, s121_7, s121_10, s121_11, s121_14, s121_15, s121_16, s121_19, s121_22, s121_23, s121_24, s121_25, s121_28, s121_29, s121_30, s121_32, s121_33, s121_35, s121_37, s121_40, s121_43, s121_45, s121_48, s121_49, s121_52, s121_54, s121_57, s121_59, s121_62, s121_64, s121_67, s121_70, s121_72, s121_75, s121_76, s121_79, s121_82, s121_83, s121_86, s121_87, k30 q, k68 q, p30_48 q, hL.2.1, e1, a1, a4, a5, h1, oc, n1, ↓reduceIte, va_rf_s, va_rf_n, jb_some, jb_none, jtl_s, jtl_n, if_true, if_false, true_and, and_true, false_and, and_false, or_true, true_or, or_false, false_or, not_true_eq_false, not_false_eq_true, jk_si, jp_si, jj_si, jk_sj, jp_sj, ji_sj, jk_ci, jp_ci, jj_ci, jk_cj, jp_cj, ji_cj, jlng_n, jlng_i, jlng_r, jlng_0]
  · have a1 : ¬ nI (L.length - f) = 1 := fun z => c1 ((e_eq (b := 1) (by omega) (by omega)).mp z)
    rw [jB_f (fun z => c1 z.1)]
    simp only [s121_0, s121_1, s121_4, s121_5, s121_6, s121_7, s121_10, s121_11, s121_14, s121_15, s121_16, s121_19, s121_22, s121_23, s121_24, s121_25, s121_28, s121_29, s121_30, s121_32, s121_33, s121_35, s121_37, s121_40, s121_43, s121_45, s121_48, s121_49, s121_52, s121_54, s121_57, s121_59, s121_62, s121_64, s121_67, s121_70, s121_72, s121_75, s121_76, s121_79, s121_82, s121_83, s121_86, s121_87, k30 q, hL.2.1, e1, a1, ↓reduceIte, va_rf_s, va_rf_n, jb_some, jb_none, jtl_s, jtl_n, if_true, if_false, true_and, and_true, false_and, and_false, or_true, true_or, or_false, false_or, not_true_eq_false, not_false_eq_true, jk_si, jp_si, jj_si, jk_sj, jp_sj, ji_sj, jk_ci, jp_ci, jj_ci, jk_cj, jp_cj, ji_cj, jlng_n, jlng_i, jlng_r, jlng_0]
/-- a mode command that a terminal does -/
abbrev MTD (L : List Int32) (c f : Nat) : Prop := (¬ sN c ∧ JDt L f 1 ∧ (c % 32 = 17 ∨ c % 32 = 20 ∨ c % 32 = 21)) ∨ (sN c ∧ f = L.length ∧ ((c % 32 = 1 ∨ (3 ≤ c % 32 ∧ c % 32 ≤ 8)) ∨ ((c % 32 = 0 ∨ c % 32 = 16 ∨ c % 32 = 19) ∧ ¬ aN c = 31)))
theorem each_in {k : Nat} (hk : k < 32) : (¬ nI k < 3 ∧ ¬ 8 < nI k) ↔ (3 ≤ k ∧ k ≤ 8) := by
  have h1 : nI k < 3 ↔ k < 3 := nI_ltI (b := 3) (by omega) (by omega)
  have h2 : 8 < nI k ↔ 8 < k := nI_ltI (a := 8) (by omega) (by omega)
  rw [h1, h2]
  omega
theorem m_isModeToDo {g : jH} (q : MS g) {L : List Int32} (hL : ML g L) {c f : Nat} (hc : c < 65536) (hf : f ≤ L.length) : jV 122 0 [some (.ref 30), some (.int (nI c)), some (.int (nI f)), none, none, none] [] g = some (some (.int (jB (MTD L c f))), g) := by
  have hl := hL.1
  have os := o_isToSend hc g
  have e1 := e_cod hc
  have hk : c % 32 < 32 := Nat.mod_lt _ (by decide)
  have E : ∀ j, j < 32 → (nI (c % 32) = nI j ↔ c % 32 = j) := fun j hj => e_eq (by omega) (by omega)
  have E0 : nI (c % 32) = 0 ↔ c % 32 = 0 := E 0 (by omega)
  have E1 : nI (c % 32) = 1 ↔ c % 32 = 1 := E 1 (by omega)
  have E16 : nI (c % 32) = 16 ↔ c % 32 = 16 := E 16 (by omega)
  have E17 : nI (c % 32) = 17 ↔ c % 32 = 17 := E 17 (by omega)
  have E19 : nI (c % 32) = 19 ↔ c % 32 = 19 := E 19 (by omega)
  have E20 : nI (c % 32) = 20 ↔ c % 32 = 20 := E 20 (by omega)
  have E21 : nI (c % 32) = 21 ↔ c % 32 = 21 := E 21 (by omega)
  by_cases d1 : sN c
  · rw [jB_t d1] at os
    have oi := c_isIn (nI (c % 32)) 3 8 g
    rw [jB_cg (each_in hk)] at oi
    have oa := o_addressOf hc g
    have A31 : nI (aN c) = 31 ↔ aN c = 31 := e_eq (b := 31) (aN_lt c) (by omega)
    by_cases d2 : f = L.length
    · have b1 : nI f = nI L.length := by rw [d2]
      unfold MTD
      rw [jB_cg (show _ ↔ ((c % 32 = 1 ∨ (3 ≤ c % 32 ∧ c % 32 ≤ 8)) ∨ ((c % 32 = 0 ∨ c % 32 = 16 ∨ c % 32 = 19) ∧ ¬ aN c = 31)) from ⟨fun z => z.elim (fun y => absurd d1 y.1) (fun y => y.2.2), fun z => Or.inr ⟨d1, d2, z⟩⟩)]
      generalize aN c = aa at oa A31 ⊢
      generalize c % 32 = k at *
      have F : ∀ (j : Nat) (p : Prop), (p ↔ k = j) → ¬ k = j → p = False := fun j p h z => eq_false fun y => z (h.mp y)
      by_cases x1 : k = 1
      · rw [jB_t (Or.inl (Or.inl x1))]
        simp only [s122_0, s122_1, s122_3, s122_4, s122_5, s122_6, s122_9, s122_12, s122_13, s122_14, s122_15, s122_18, s122_21, s122_22, s122_24, s122_27, s122_28, s122_30, s122_33, s122_34, s122_36, s122_39, s122_40, s122_43, s122_44, s122_45, s122_46, s122_47, s122_50, s122_51, s122_52, s122_54, s122_57, s122_60, s122_61, s122_64, s122_65, s122_67, s122_68, s122_71, s122_72, s122_74, s122_77, s122_78, s122_80, s122_83, s122_84, s122_87, s122_88, s122_90, s122_91, s122_92, s122_95, s122_98, s122_100, s122_103, s122_105, s122_108, s122_109, s122_112, s122_114, s122_117, s122_118, s122_121, s122_122, k30 q, hL.2.1, os, e1, b1, eq_true (E1.mpr x1), F 0 _ E0 (by omega), F 16 _ E16 (by omega), F 19 _ E19 (by omega), n1, ↓reduceIte, va_rf_s, va_rf_n, jb_some, jb_none, jtl_s, jtl_n, if_true, if_false, true_and, and_true, false_and, and_false, or_true, true_or, or_false, false_or, not_true_eq_false, not_false_eq_true, jk_si, jp_si, jj_si, jk_sj, jp_sj, ji_sj, jk_ci, jp_ci, jj_ci, jk_cj, jp_cj, ji_cj, jlng_n, jlng_i, jlng_r, jlng_0]
      · by_cases x2 : 3 ≤ k ∧ k ≤ 8
        · rw [jB_t x2] at oi
          rw [jB_t (Or.inl (Or.inr x2))]
          simp only [s122_0, s122_1, s122_3, s122_4, s122_5, s122_6, s122_9, s122_12, s122_13, s122_14, s122_15, s122_18, s122_21, s122_22, s122_24, s122_27, s122_28, s122_30, s122_33, s122_34, s122_36, s122_39, s122_40, s122_43, s122_44, s122_45, s122_46, s122_47, s122_50, s122_51, s122_52, s122_54, s122_57, s122_60, s122_61, s122_64, s122_65, s122_67, s122_68, s122_71, s122_72, s122_74, s122_77, s122_78, s122_80, s122_83, s122_84, s122_87, s122_88, s122_90, s122_91, s122_92, s122_95, s122_98, s122_100, s122_103, s122_105, s122_108, s122_109, s122_112, s122_114, s122_117, s122_118, s122_121, s122_122, k30 q, hL.2.1, os, e1, b1, oi, F 1 _ E1 x1, F 0 _ E0 (by omega), F 16 _ E16 (by omega), F 19 _ E19 (by omega), n1, ↓reduceIte, va_rf_s, va_rf_n, jb_some, jb_none, jtl_s, jtl_n, if_true, if_false, true_and, and_true, false_and, and_false, or_true, true_or, or_false, false_or, not_true_eq_false, not_false_eq_true, jk_si, jp_si, jj_si, jk_sj, jp_sj, ji_sj, jk_ci, jp_ci, jj_ci, jk_cj, jp_cj, ji_cj, jlng_n, jlng_i, jlng_r, jlng_0]
        · rw [jB_f x2] at oi
          by_cases x3 : k = 0 ∨ k = 16 ∨ k = 19
          · have w : ∀ r : Int32, (if nI aa = 31 then (0 : Int32) else 1) = r → jV 122 0 [some (.ref 30), some (.int (nI c)), some (.int (nI f)), none, none, none] [] g = some (some (.int r), g) := by
              intro r hr
              by_cases x4 : nI aa = 31
              · rw [if_pos x4] at hr
                subst hr
                rcases x3 with x3 | x3 | x3
                · simp only [s122_0, s122_1, s122_3, s122_4, s122_5, s122_6, s122_9, s122_12, s122_13, s122_14, s122_15, s122_18, s122_21, s122_22, s122_24, s122_27, s122_28, s122_30, s122_33, s122_34, s122_36, s122_39, s122_40, s122_43, s122_44, s122_45, s122_46, s122_47, s122_50, s122_51, s122_52, s122_54, s122_57, s122_60, s122_61, s122_64, s122_65, s122_67, s122_68, s122_71, s122_72, s122_74, s122_77, s122_78, s122_80, s122_83, s122_84, s122_87, s122_88, s122_90, s122_91, s122_92, s122_95, s122_98, s122_100, s122_103, s122_105, s122_108, s122_109, s122_112, s122_114, s122_117, s122_118, s122_121, s122_122, k30 q, hL.2.1, os, e1, b1, oi, oa, F 1 _ E1 x1, eq_true (E0.mpr x3), eq_true x4, n1, ↓reduceIte, va_rf_s, va_rf_n, jb_some, jb_none, jtl_s, jtl_n, if_true, if_false, true_and, and_true, false_and, and_false, or_true, true_or, or_false, false_or, not_true_eq_false, not_false_eq_true, jk_si, jp_si, jj_si, jk_sj, jp_sj, ji_sj, jk_ci, jp_ci, jj_ci, jk_cj, jp_cj, ji_cj, jlng_n, jlng_i, jlng_r, jlng_0]
                · simp only [s122_0, s122_1, s122_3, s122_4, s122_5, s122_6, s122_9, s122_12, s122_13, s122_14, s122_15, s122_18, s122_21, s122_22, s122_24, s122_27, s122_28, s122_30, s122_33, s122_34, s122_36, s122_39, s122_40, s122_43, s122_44, s122_45, s122_46, s122_47, s122_50, s122_51, s122_52, s122_54, s122_57, s122_60, s122_61, s122_64, s122_65, s122_67, s122_68, s122_71, s122_72, s122_74, s122_77, s122_78, s122_80, s122_83, s122_84, s122_87, s122_88, s122_90, s122_91, s122_92, s122_95, s122_98, s122_100, s122_103, s122_105, s122_108, s122_109, s122_112, s122_114, s122_117, s122_118, s122_121, s122_122, k30 q, hL.2.1, os, e1, b1, oi, oa, F 1 _ E1 x1, F 0 _ E0 (by omega), eq_true (E16.mpr x3), eq_true x4, n1, ↓reduceIte, va_rf_s, va_rf_n, jb_some, jb_none, jtl_s, jtl_n, if_true, if_false, true_and, and_true, false_and, and_false, or_true, true_or, or_false, false_or, not_true_eq_false, not_false_eq_true, jk_si, jp_si, jj_si, jk_sj, jp_sj, ji_sj, jk_ci, jp_ci, jj_ci, jk_cj, jp_cj, ji_cj, jlng_n, jlng_i, jlng_r, jlng_0]
                · simp only [s122_0, s122_1, s122_3, s122_4, s122_5, s122_6, s122_9, s122_12, s122_13, s122_14, s122_15, s122_18, s122_21, s122_22, s122_24, s122_27, s122_28, s122_30, s122_33, s122_34, s122_36, s122_39, s122_40, s122_43, s122_44, s122_45, s122_46, s122_47, s122_50, s122_51, s122_52, s122_54, s122_57, s122_60, s122_61, s122_64, s122_65, s122_67, s122_68, s122_71, s122_72, s122_74, s122_77, s122_78, s122_80, s122_83, s122_84, s122_87, s122_88, s122_90, s122_91, s122_92, s122_95, s122_98, s122_100, s122_103, s122_105, s122_108, s122_109, s122_112, s122_114, s122_117, s122_118, s122_121, s122_122, k30 q, hL.2.1, os, e1, b1, oi, oa, F 1 _ E1 x1, F 0 _ E0 (by omega), F 16 _ E16 (by omega), eq_true (E19.mpr x3), eq_true x4, n1, ↓reduceIte, va_rf_s, va_rf_n, jb_some, jb_none, jtl_s, jtl_n, if_true, if_false, true_and, and_true, false_and, and_false, or_true, true_or, or_false, false_or, not_true_eq_false, not_false_eq_true, jk_si, jp_si, jj_si, jk_sj, jp_sj, ji_sj, jk_ci, jp_ci, jj_ci, jk_cj, jp_cj, ji_cj, jlng_n, jlng_i, jlng_r, jlng_0]
              · rw [if_neg x4] at hr
                subst hr
                rcases x3 with x3 | x3 | x3
                · simp only [s122_0, s122_1, s122_3, s122_4, s122_5, s122_6, s122_9, s122_12, s122_13, s122_14, s122_15, s122_18, s122_21, s122_22, s122_24, s122_27, s122_28, s122_30, s122_33, s122_34, s122_36, s122_39, s122_40, s122_43, s122_44, s122_45, s122_46, s122_47, s122_50, s122_51, s122_52, s122_54, s122_57, s122_60, s122_61, s122_64, s122_65, s122_67, s122_68, s122_71, s122_72, s122_74, s122_77, s122_78, s122_80, s122_83, s122_84, s122_87, s122_88, s122_90, s122_91, s122_92, s122_95, s122_98, s122_100, s122_103, s122_105, s122_108, s122_109, s122_112, s122_114, s122_117, s122_118, s122_121, s122_122, k30 q, hL.2.1, os, e1, b1, oi, oa, F 1 _ E1 x1, eq_true (E0.mpr x3), x4, n1, ↓reduceIte, va_rf_s, va_rf_n, jb_some, jb_none, jtl_s, jtl_n, if_true, if_false, true_and, and_true, false_and, and_false, or_true, true_or, or_false, false_or, not_true_eq_false, not_false_eq_true, jk_si, jp_si, jj_si, jk_sj, jp_sj, ji_sj, jk_ci, jp_ci, jj_ci, jk_cj, jp_cj, ji_cj, jlng_n, jlng_i, jlng_r, jlng_0]
                · simp only [s122_0, s122_1, s122_3, s122_4, s122_5, s122_6, s122_9, s122_12, s122_13, s122_14, s122_15, s122_18, s122_21, s122_22, s122_24, s122_27, s122_28, s122_30, s122_33, s122_34, s122_36, s122_39, s122_40, s122_43, s122_44, s122_45, s122_46, s122_47, s122_50, s122_51, s122_52, s122_54, s122_57, s122_60, s122_61, s122_64, s122_65, s122_67, s122_68, s122_71, s122_72, s122_74, s122_77, s122_78, s122_80, s122_83, s122_84, s122_87, s122_88, s122_90, s122_91, s122_92, s122_95, s122_98, s122_100, s122_103, s122_105, s122_108, s122_109, s122_112, s122_114, s122_117, s122_118, s122_121, s122_122, k30 q, hL.2.1, os, e1, b1, oi, oa, F 1 _ E1 x1, F 0 _ E0 (by omega), eq_true (E16.mpr x3), x4, n1, ↓reduceIte, va_rf_s, va_rf_n, jb_some, jb_none, jtl_s, jtl_n, if_true, if_false, true_and, and_true, false_and, and_false, or_true, true_or, or_false, false_or, not_true_eq_false, not_false_eq_true, jk_si, jp_si, jj_si, jk_sj, jp_sj, ji_sj, jk_ci, jp_ci, jj_ci, jk_cj, jp_cj, ji_cj, jlng_n, jlng_i, jlng_r, jlng_0]
                · simp only [s122_0, s122_1, s122_3, s122_4, s122_5, s122_6, s122_9, s122_12, s122_13, s122_14, s122_15, s122_18, s122_21, s122_22, s122_24, s122_27, s122_28, s122_30, s122_33, s122_34, s122_36, s122_39, s122_40, s122_43, s122_44, s122_45, s122_46, s122_47, s122_50, s122_51, s122_52, s122_54, s122_57, s122_60, s122_61, s122_64, s122_65, s122_67, s122_68, s122_71, s122_72, s122_74, s122_77, s122_78, s122_80, s122_83, s122_84, s122_87, s122_88, s122_90, s122_91, s122_92, s122_95, s122_98, s122_100, s122_103, s122_105, s122_108, s122_109, s122_112, s122_114, s122_117, s122_118, s122_121, s122_122, k30 q, hL.2.1, os, e1, b1, oi, oa, F 1 _ E1 x1, F 0 _ E0 (by omega), F 16 _ E16 (by omega), eq_true (E19.mpr x3), x4, n1, ↓reduceIte, va_rf_s, va_rf_n, jb_some, jb_none, jtl_s, jtl_n, if_true, if_false, true_and, and_true, false_and, and_false, or_true, true_or, or_false, false_or, not_true_eq_false, not_false_eq_true, jk_si, jp_si, jj_si, jk_sj, jp_sj, ji_sj, jk_ci, jp_ci, jj_ci, jk_cj, jp_cj, ji_cj, jlng_n, jlng_i, jlng_r, jlng_0]
            by_cases x4 : aa = 31
            · rw [jB_f (by rintro ((z | z) | ⟨_, z⟩); exact x1 z; exact x2 z; exact z x4)]
              exact w 0 (if_pos (A31.mpr x4))
            · rw [jB_t (Or.inr ⟨x3, x4⟩)]
              exact w 1 (if_neg (fun z => x4 (A31.mp z)))
          · rw [jB_f (by rintro ((z | z) | ⟨z, _⟩); exact x1 z; exact x2 z; exact x3 z)]
            simp only [s122_0, s122_1, s122_3, s122_4, s122_5, s122_6, s122_9, s122_12, s122_13, s122_14, s122_15, s122_18, s122_21, s122_22, s122_24, s122_27, s122_28, s122_30, s122_33, s122_34, s122_36, s122_39, s122_40, s122_43, s122_44, s122_45, s122_46, s122_47, s122_50, s122_51, s122_52, s122_54, s122_57, s122_60, s122_61, s122_64, s122_65, s122_67, s122_68, s122_71, s122_72, s122_74, s122_77, s122_78, s122_80, s122_83, s122_84, s122_87, s122_88, s122_90, s122_91, s122_92, s122_95, s122_98, s122_100, s122_103, s122_105, s122_108, s122_109, s122_112, s122_114, s122_117, s122_118, s122_121, s122_122, k30 q, hL.2.1, os, e1, b1, oi, F 1 _ E1 x1, F 0 _ E0 (by omega), F 16 _ E16 (by omega), F 19 _ E19 (by omega), n1, ↓reduceIte, va_rf_s, va_rf_n, jb_some, jb_none, jtl_s, jtl_n, if_true, if_false, true_and, and_true, false_and, and_false, or_true, true_or, or_false, false_or, not_true_eq_false, not_false_eq_true, jk_si, jp_si, jj_si, jk_sj, jp_sj, ji_sj, jk_ci, jp_ci, jj_ci, jk_cj, jp_cj, ji_cj, jlng_n, jlng_i, jlng_r, jlng_0]
    · have b1 : ¬ nI f = nI L.length := fun z => d2 ((e_eq (by omega) (by omega)).mp z)
      rw [jB_f (by rintro (z | z); exact z.1 d1; exact d2 z.2.1)]
      clear E E17 E20 E21
      generalize c % 32 = k at *
      have tail : ∀ v4 v5 : Int32, jV 122 90 [some (.ref 30), some (.int (nI c)), some (.int (nI f)), some (.int (nI k)), some (.int v4), some (.int v5)] [] g = some (some (.int 0), g) := by
        intro v4 v5
        simp only [s122_90, s122_91, s122_92, s122_95, s122_98, s122_100, s122_103, s122_105, s122_108, s122_109, s122_112, s122_114, s122_117, s122_118, s122_121, s122_122, k30 q, hL.2.1, b1, ↓reduceIte, va_rf_s, va_rf_n, jb_some, jb_none, jtl_s, jtl_n, if_true, if_false, true_and, and_true, false_and, and_false, or_true, true_or, or_false, false_or, not_true_eq_false, not_false_eq_true, jk_si, jp_si, jj_si, jk_sj, jp_sj, ji_sj, jk_ci, jp_ci, jj_ci, jk_cj, jp_cj, ji_cj, jlng_n, jlng_i, jlng_r, jlng_0]
      have mid : ∀ v4 : Int32, jV 122 67 [some (.ref 30), some (.int (nI c)), some (.int (nI f)), some (.int (nI k)), some (.int v4), none] [] g = some (some (.int 0), g) := by
        intro v4
        by_cases y0 : nI k = 0
        · simp only [s122_67, s122_68, s122_71, s122_72, s122_74, s122_77, s122_78, s122_80, s122_83, s122_84, s122_87, s122_88, eq_true y0, tail, ↓reduceIte, va_rf_s, va_rf_n, jb_some, jb_none, jtl_s, jtl_n, if_true, if_false, true_and, and_true, false_and, and_false, or_true, true_or, or_false, false_or, not_true_eq_false, not_false_eq_true, jk_si, jp_si, jj_si, jk_sj, jp_sj, ji_sj, jk_ci, jp_ci, jj_ci, jk_cj, jp_cj, ji_cj, jlng_n, jlng_i, jlng_r, jlng_0]
        · by_cases y16 : nI k = 16
          · simp only [s122_67, s122_68, s122_71, s122_72, s122_74, s122_77, s122_78, s122_80, s122_83, s122_84, s122_87, s122_88, y0, eq_true y16, tail, ↓reduceIte, va_rf_s, va_rf_n, jb_some, jb_none, jtl_s, jtl_n, if_true, if_false, true_and, and_true, false_and, and_false, or_true, true_or, or_false, false_or, not_true_eq_false, not_false_eq_true, jk_si, jp_si, jj_si, jk_sj, jp_sj, ji_sj, jk_ci, jp_ci, jj_ci, jk_cj, jp_cj, ji_cj, jlng_n, jlng_i, jlng_r, jlng_0]
          · by_cases y19 : nI k = 19
            · simp only [s122_67, s122_68, s122_71, s122_72, s122_74, s122_77, s122_78, s122_80, s122_83, s122_84, s122_87, s122_88, y0, y16, eq_true y19, tail, ↓reduceIte, va_rf_s, va_rf_n, jb_some, jb_none, jtl_s, jtl_n, if_true, if_false, true_and, and_true, false_and, and_false, or_true, true_or, or_false, false_or, not_true_eq_false, not_false_eq_true, jk_si, jp_si, jj_si, jk_sj, jp_sj, ji_sj, jk_ci, jp_ci, jj_ci, jk_cj, jp_cj, ji_cj, jlng_n, jlng_i, jlng_r, jlng_0]
            · simp only [s122_67, s122_68, s122_71, s122_72, s122_74, s122_77, s122_78, s122_80, s122_83, s122_84, s122_87, s122_88, y0, y16, y19, tail, ↓reduceIte, va_rf_s, va_rf_n, jb_some, jb_none, jtl_s, jtl_n, if_true, if_false, true_and, and_true, false_and, and_false, or_true, true_or, or_false, false_or, not_true_eq_false, not_false_eq_true, jk_si, jp_si, jj_si, jk_sj, jp_sj, ji_sj, jk_ci, jp_ci, jj_ci, jk_cj, jp_cj, ji_cj, jlng_n, jlng_i, jlng_r, jlng_0]
      by_cases x1 : nI k = 1
      · simp only [s122_0, s122_1, s122_3, s122_4, s122_5, s122_6, s122_9, s122_12, s122_13, s122_14, s122_15, s122_18, s122_21, s122_22, s122_24, s122_27, s122_28, s122_30, s122_33, s122_34, s122_36, s122_39, s122_40, s122_43, s122_44, s122_45, s122_46, s122_47, s122_50, s122_51, s122_52, s122_54, s122_57, s122_60, s122_61, s122_64, s122_65, os, e1, eq_true x1, mid, n1, ↓reduceIte, va_rf_s, va_rf_n, jb_some, jb_none, jtl_s, jtl_n, if_true, if_false, true_and, and_true, false_and, and_false, or_true, true_or, or_false, false_or, not_true_eq_false, not_false_eq_true, jk_si, jp_si, jj_si, jk_sj, jp_sj, ji_sj, jk_ci, jp_ci, jj_ci, jk_cj, jp_cj, ji_cj, jlng_n, jlng_i, jlng_r, jlng_0]
      · by_cases x2 : 3 ≤ k ∧ k ≤ 8
        · rw [jB_t x2] at oi
          simp only [s122_0, s122_1, s122_3, s122_4, s122_5, s122_6, s122_9, s122_12, s122_13, s122_14, s122_15, s122_18, s122_21, s122_22, s122_24, s122_27, s122_28, s122_30, s122_33, s122_34, s122_36, s122_39, s122_40, s122_43, s122_44, s122_45, s122_46, s122_47, s122_50, s122_51, s122_52, s122_54, s122_57, s122_60, s122_61, s122_64, s122_65, os, e1, oi, x1, mid, n1, ↓reduceIte, va_rf_s, va_rf_n, jb_some, jb_none, jtl_s, jtl_n, if_true, if_false, true_and, and_true, false_and, and_false, or_true, true_or, or_false, false_or, not_true_eq_false, not_false_eq_true, jk_si, jp_si, jj_si, jk_sj, jp_sj, ji_sj, jk_ci, jp_ci, jj_ci, jk_cj, jp_cj, ji_cj, jlng_n, jlng_i, jlng_r, jlng_0]
        · rw [jB_f x2] at oi
          simp only [s122_0, s122_1, s122_3, s122_4, s122_5, s122_6, s122_9, s122_12, s122_13, s122_14, s122_15, s122_18, s122_21, s122_22, s122_24, s122_27, s122_28, s122_30, s122_33, s122_34, s122_36, s122_39, s122_40, s122_43, s122_44, s122_45, s122_46, s122_47, s122_50, s122_51, s122_52, s122_54, s122_57, s122_60, s122_61, s122_64, s122_65, os, e1, oi, x1, mid, n1, ↓reduceIte, va_rf_s, va_rf_n, jb_some, jb_none, jtl_s, jtl_n, if_true, if_false, true_and, and_true, false_and, and_false, or_true, true_or, or_false, false_or, not_true_eq_false, not_false_eq_true, jk_si, jp_si, jj_si, jk_sj, jp_sj, ji_sj, jk_ci, jp_ci, jj_ci, jk_cj, jp_cj, ji_cj, jlng_n, jlng_i, jlng_r, jlng_0]
  · rw [jB_f d1] at os
    have or1 := m_isRestData q hL hf (n := 1) (by omega)
    have e1' : nI 1 = 1 := rfl
    rw [e1'] at or1
    by_cases d2 : JDt L f 1
    · rw [jB_t d2] at or1
      unfold MTD
      rw [jB_cg (show _ ↔ (c % 32 = 17 ∨ c % 32 = 20 ∨ c % 32 = 21) from ⟨fun z => z.elim (fun y => y.2.2) (fun y => absurd y.1 d1), fun z => Or.inl ⟨d1, d2, z⟩⟩)]
      by_cases x1 : c % 32 = 17
      · rw [jB_t (Or.inl x1)]
        simp only [s122_0, s122_1, s122_3, s122_4, s122_5, s122_6, s122_9, s122_12, s122_13, s122_14, s122_15, s122_18, s122_21, s122_22, s122_24, s122_27, s122_28, s122_30, s122_33, s122_34, s122_36, s122_39, s122_40, s122_43, s122_44, s122_45, s122_46, s122_47, s122_50, s122_51, s122_52, s122_54, s122_57, s122_60, s122_61, s122_64, s122_65, s122_67, s122_68, s122_71, s122_72, s122_74, s122_77, s122_78, s122_80, s122_83, s122_84, s122_87, s122_88, s122_90, s122_91, s122_92, s122_95, s122_98, s122_100, s122_103, s122_105, s122_108, s122_109, s122_112, s122_114, s122_117, s122_118, s122_121, s122_122, k30 q, os, e1, or1, eq_true (E17.mpr x1), n1, ↓reduceIte, va_rf_s, va_rf_n, jb_some, jb_none, jtl_s, jtl_n, if_true, if_false, true_and, and_true, false_and, and_false, or_true, true_or, or_false, false_or, not_true_eq_false, not_false_eq_true, jk_si, jp_si, jj_si, jk_sj, jp_sj, ji_sj, jk_ci, jp_ci, jj_ci, jk_cj, jp_cj, ji_cj, jlng_n, jlng_i, jlng_r, jlng_0]
      · by_cases x2 : c % 32 = 20
        · rw [jB_t (Or.inr (Or.inl x2))]
          simp only [s122_0, s122_1, s122_3, s122_4, s122_5, s122_6, s122_9, s122_12, s122_13, s122_14, s122_15, s122_18, s122_21, s122_22, s122_24, s122_27, s122_28, s122_30, s122_33, s122_34, s122_36, s122_39, s122_40, s122_43, s122_44, s122_45, s122_46, s122_47, s122_50, s122_51, s122_52, s122_54, s122_57, s122_60, s122_61, s122_64, s122_65, s122_67, s122_68, s122_71, s122_72, s122_74, s122_77, s122_78, s122_80, s122_83, s122_84, s122_87, s122_88, s122_90, s122_91, s122_92, s122_95, s122_98, s122_100, s122_103, s122_105, s122_108, s122_109, s122_112, s122_114, s122_117, s122_118, s122_121, s122_122, k30 q, os, e1, or1, eq_false (fun z => x1 (E17.mp z)), eq_true (E20.mpr x2), n1, ↓reduceIte, va_rf_s, va_rf_n, jb_some, jb_none, jtl_s, jtl_n, if_true, if_false, true_and, and_true, false_and, and_false, or_true, true_or, or_false, false_or, not_true_eq_false, not_false_eq_true, jk_si, jp_si, jj_si, jk_sj, jp_sj, ji_sj, jk_ci, jp_ci, jj_ci, jk_cj, jp_cj, ji_cj, jlng_n, jlng_i, jlng_r, jlng_0]
        · by_cases x3 : c % 32 = 21
          · rw [jB_t (Or.inr (Or.inr x3))]
            simp only [s122_0, s122_1, s122_3, s122_4, s122_5, s122_6, s122_9, s122_12, s122_13, s122_14, s122_15, s122_18, s122_21, s122_22, s122_24, s122_27, s122_28, s122_30, s122_33, s122_34, s122_36, s122_39, s122_40, s122_43, s122_44, s122_45, s122_46, s122_47, s122_50, s122_51, s122_52, s122_54, s122_57, s122_60, s122_61, s122_64, s122_65, s122_67, s122_68, s122_71, s122_72, s122_74, s122_77, s122_78, s122_80, s122_83, s122_84, s122_87, s122_88, s122_90, s122_91, s122_92, s122_95, s122_98, s122_100, s122_103, s122_105, s122_108, s122_109, s122_112, s122_114, s122_117, s122_118, s122_121, s122_122, k30 q, os, e1, or1, eq_false (fun z => x1 (E17.mp z)), eq_false (fun z => x2 (E20.mp z)), eq_true (E21.mpr x3), n1, ↓reduceIte, va_rf_s, va_rf_n, jb_some, jb_none, jtl_s, jtl_n, if_true, if_false, true_and, and_true, false_and, and_false, or_true, true_or, or_false, false_or, not_true_eq_false, not_false_eq_true, jk_si, jp_si, jj_si, jk_sj, jp_sj, ji_sj, jk_ci, jp_ci, jj_ci, jk_cj, jp_cj, ji_cj, jlng_n, jlng_i, jlng_r, jlng_0]
          · rw [jB_f (by omega)]
            simp only [s122_0, s122_1, s122_3, s122_4, s122_5, s122_6, s122_9, s122_12, s122_13, s122_14, s122_15, s122_18, s122_21, s122_22, s122_24, s122_27, s122_28, s122_30, s122_33, s122_34, s122_36, s122_39, s122_40, s122_43, s122_44, s122_45, s122_46, s122_47, s122_50, s122_51, s122_52, s122_54, s122_57, s122_60, s122_61, s122_64, s122_65, s122_67, s122_68, s122_71, s122_72, s122_74, s122_77, s122_78, s122_80, s122_83, s122_84, s122_87, s122_88, s122_90, s122_91, s122_92, s122_95, s122_98, s122_100, s122_103, s122_105, s122_108, s122_109, s122_112, s122_114, s122_117, s122_118, s122_121, s122_122, k30 q, os, e1, or1, eq_false (fun z => x1 (E17.mp z)), eq_false (fun z => x2 (E20.mp z)), eq_false (fun z => x3 (E21.mp z)), n1, ↓reduceIte, va_rf_s, va_rf_n, jb_some, jb_none, jtl_s, jtl_n, if_true, if_false, true_and, and_true, false_and, and_false, or_true, true_or, or_false, false_or, not_true_eq_false, not_false_eq_true, jk_si, jp_si, jj_si, jk_sj, jp_sj, ji_sj, jk_ci, jp_ci, jj_ci, jk_cj, jp_cj, ji_cj, jlng_n, jlng_i, jlng_r, jlng_0]
    · rw [jB_f d2] at or1
      rw [jB_f (by rintro (z | z); exact d2 z.2.1; exact d1 z.1)]
      simp only [s122_0, s122_1, s122_3, s122_4, s122_5, s122_6, s122_9, s122_12, s122_13, s122_14, s122_15, s122_18, s122_21, s122_22, s122_24, s122_27, s122_28, s122_30, s122_33, s122_34, s122_36, s122_39, s122_40, s122_43, s122_44, s122_45, s122_46, s122_47, s122_50, s122_51, s122_52, s122_54, s122_57, s122_60, s122_61, s122_64, s122_65, s122_67, s122_68, s122_71, s122_72, s122_74, s122_77, s122_78, s122_80, s122_83, s122_84, s122_87, s122_88, s122_90, s122_91, s122_92, s122_95, s122_98, s122_100, s122_103, s122_105, s122_108, s122_109, s122_112, s122_114, s122_117, s122_118, s122_121, s122_122, k30 q, os, e1, or1, ↓reduceIte, va_rf_s, va_rf_n, jb_some, jb_none, jtl_s, jtl_n, if_true, if_false, true_and, and_true, false_and, and_false, or_true, true_or, or_false, false_or, not_true_eq_false, not_false_eq_true, jk_si, jp_si, jj_si, jk_sj, jp_sj, ji_sj, jk_ci, jp_ci, jj_ci, jk_cj, jp_cj, ji_cj, jlng_n, jlng_i, jlng_r, jlng_0]
