/-! HEARING the partner's answer -/
abbrev RA (a : Nat) (L : List Int32) : Prop := ∃ x, L[L.length - 2]? = some x ∧ aN (cw x) = a
def HP (B : Nat) (L : List Int32) (g g' : jH) (a t l n : Nat) (A0 A1 : List Int32) (cls mdl : Option (Option Value × jH)) : Prop := ∃ o G, cls = some (some (.int o), G) ∧
  ((o = 0 ∧ ∃ G', mdl = some (none, G') ∧ HC B L G G' a t n A0 A1 ∧ Fr (cHp t) g G ∧ Fr (mHp a) g' G' ∧ ji G' 71 a = ji g' 71 a) ∨
   (o = 1 ∧ CS G ∧ ∃ G1 G' n' A0' A1', jV 15 0 [some (.ref 10), some (.ref t), some (.int (nI l)), none, none] [] G = some (none, G1) ∧ mdl = some (none, G') ∧ HC B L G1 G' a t n' A0' A1' ∧ n' ≤ n + 1 ∧ RA a L ∧ Fr (cHp t) g G1 ∧ Fr (mHp a) g' G' ∧ ji G' 71 a = ji g' 71 a))
theorem gd_loop {g : jH} (q : MS g) {A : List Int32} (hA : ∀ (j : Nat) (x : Int32), A[j]? = some x → ji g 69 j = x) (hl : A.length ≤ 33) (l1 l2 l3 l4 : Int32) : ∀ (n j : Nat), j + n = A.length → 1 ≤ j → ∃ v, jV 129 91 [some (.ref 30), some (.int l1), some (.int l2), some (.int l3), some (.int l4), some (.int (nI (A.length - 1))), some (.int 1), some (.int (nI j))] [] g = jV 129 121 [some (.ref 30), some (.int l1), some (.int l2), some (.int l3), some (.int l4), some (.int (nI (A.length - 1))), some (.int (jB (A.length - j ≤ dtl A))), some (.int v)] [] g
  | 0, j, h, h1 => by
    have a1 : nI (A.length - 1) < nI j := nI_lt (by omega) (by omega)
    refine ⟨nI j, ?_⟩
    rw [jB_t (show A.length - j ≤ dtl A by omega)]
    simp only [s129_91, s129_93, s129_95, s129_98, s129_100, s129_103, s129_104, s129_107, s129_109, s129_110, s129_113, s129_115, s129_118, a1, ↓reduceIte, va_rf_s, va_rf_n, jb_some, jb_none, jtl_s, jtl_n, if_true, if_false, true_and, and_true, false_and, and_false, or_true, true_or, or_false, false_or, not_true_eq_false, not_false_eq_true, jk_si, jp_si, jj_si, jk_sj, jp_sj, ji_sj, jk_ci, jp_ci, jj_ci, jk_cj, jp_cj, ji_cj, jlng_n, jlng_i, jlng_r, jlng_0]
  | n + 1, j, h, h1 => by
    have a1 : ¬ nI (A.length - 1) < nI j := nI_nlt (by omega) (by omega)
    have a4 : jin (nI j) 80 = true := jin_nI (by omega) (by omega)
    have a5 : (nI j).toNatClampNeg = j := nI_clamp (by omega)
    have hq : A[j]? = some A[j] := List.getElem?_eq_getElem (by omega)
    have h2 := hA j _ hq
    generalize hx : A[j] = x at hq h2
    have od := o_isData x g
    have ds := dtl_step hq
    by_cases c : isD x
    · rw [jB_t c] at od
      obtain ⟨v, ih⟩ := gd_loop q hA hl l1 l2 l3 l4 n (j + 1) (by omega) (by omega)
      refine ⟨v, ?_⟩
      rw [jB_cg (show A.length - j ≤ dtl A ↔ A.length - (j + 1) ≤ dtl A from ⟨fun z => (ds.mp z).2, fun z => ds.mpr ⟨c, z⟩⟩), ← ih]
      simp only [s129_91 (x := nI j), s129_93, s129_95, s129_98, s129_100, s129_103, s129_104, s129_107, s129_109, s129_110, s129_113, s129_115, s129_118, k30 q, k69 q, p30_50 q, a1, a4, a5, h2, od, nI_1, n1, ↓reduceIte, va_rf_s, va_rf_n, jb_some, jb_none, jtl_s, jtl_n, if_true, if_false, true_and, and_true, false_and, and_false, or_true, true_or, or_false, false_or, not_true_eq_false, not_false_eq_true, jk_si, jp_si, jj_si, jk_sj, jp_sj, ji_sj, jk_ci, jp_ci, jj_ci, jk_cj, jp_cj, ji_cj, jlng_n, jlng_i, jlng_r, jlng_0]
    · rw [jB_f c] at od
      refine ⟨nI (j + 1), ?_⟩
      rw [jB_f (fun z => c (ds.mp z).1)]
      by_cases e : j + 1 < A.length
      · have a6 : ¬ nI (A.length - 1) < nI (j + 1) := nI_nlt (by omega) (by omega)
        simp only [s129_91, s129_93, s129_95, s129_98, s129_100, s129_103, s129_104, s129_107, s129_109, s129_110, s129_113, s129_115, s129_118, k30 q, k69 q, p30_50 q, a1, a4, a5, a6, h2, od, nI_1, n1, ↓reduceIte, va_rf_s, va_rf_n, jb_some, jb_none, jtl_s, jtl_n, if_true, if_false, true_and, and_true, false_and, and_false, or_true, true_or, or_false, false_or, not_true_eq_false, not_false_eq_true, jk_si, jp_si, jj_si, jk_sj, jp_sj, ji_sj, jk_ci, jp_ci, jj_ci, jk_cj, jp_cj, ji_cj, jlng_n, jlng_i, jlng_r, jlng_0]
      · have a6 : nI (A.length - 1) < nI (j + 1) := nI_lt (by omega) (by omega)
        simp only [s129_91, s129_93, s129_95, s129_98, s129_100, s129_103, s129_104, s129_107, s129_109, s129_110, s129_113, s129_115, s129_118, k30 q, k69 q, p30_50 q, a1, a4, a5, a6, h2, od, nI_1, n1, ↓reduceIte, va_rf_s, va_rf_n, jb_some, jb_none, jtl_s, jtl_n, if_true, if_false, true_and, and_true, false_and, and_false, or_true, true_or, or_false, false_or, not_true_eq_false, not_false_eq_true, jk_si, jp_si, jj_si, jk_sj, jp_sj, ji_sj, jk_ci, jp_ci, jj_ci, jk_cj, jp_cj, ji_cj, jlng_n, jlng_i, jlng_r, jlng_0]
/-- what a partner's answer must be -/
abbrev HD (A : List Int32) (c r : Nat) : Prop := isC (A.getD 0 (-1)) ∧ aN (cw (A.getD 0 (-1))) = r ∧ JDt A 1 (cN c)
theorem m_heard {g g' : jH} {L A0 A1 : List Int32} {a c n : Nat} {l : Int32} (q : MS g') (ha : a < 31) (hA : An g g' n A0 A1) (hL : ML g' L) (h2 : 2 ≤ L.length) (hc : c < 65536) (h41 : ji g' 41 a = nI c) : ∃ v, jV 129 0 [some (.ref 30), some (.int (nI a)), some (.int l), none, none, none, none, none] [] g' = jV 129 121 [some (.ref 30), some (.int (nI a)), some (.int l), some (.int (nI c)), some (.int (nI (aN (cw (L.getD (L.length - 1) (-1)))))), some (.int (nI (cN c))), some (.int (jB (HD A0 c (aN (cw (L.getD (L.length - 1) (-1))))))), some (.int v)] [] g' := by
  obtain ⟨q1, ⟨q2, q3⟩, ⟨q4, q5⟩, q6, q7, q8, q9⟩ := hA
  have hLl := hL.1
  have hcn := cN_le c
  have b4 : jin (nI a) 31 = true := jin_nI ha (by omega)
  have b5 : (nI a).toNatClampNeg = a := nI_clamp (by omega)
  have hq : L[L.length - 1]? = some L[L.length - 1] := List.getElem?_eq_getElem (by omega)
  have hg : L.getD (L.length - 1) (-1) = L[L.length - 1] := by rw [List.getD_eq_getElem?_getD, hq]; rfl
  have hm := hL.2.2 _ _ hq
  rw [hg]
  generalize L[L.length - 1] = y at hm
  have oy := o_addressOf (cw_lt y) g'
  have oc := o_countOf hc g'
  have e1 : nI L.length - 1 = nI (L.length - 1) := pk_sub (a := L.length) (b := 1) (by omega)
  have c4 : jin (nI (L.length - 1)) 40 = true := jin_nI (by omega) (by omega)
  have c5 : (nI (L.length - 1)).toNatClampNeg = L.length - 1 := nI_clamp (by omega)
  have lt1 : ¬ nI (cN c) < 1 := nI_nlt (a := cN c) (b := 1) (by omega) (by omega)
  have r4 : jin 0 80 = true := by decide
  have r42 : jin 0 2 = true := by decide
  have r5 : (0 : Int32).toNatClampNeg = 0 := by decide
  by_cases z : n = 0
  · have zA := q6 z
    subst z
    subst zA
    refine ⟨1, ?_⟩
    rw [jB_f (fun y => absurd y.1 (by decide))]
    have q3' : ji g' 30 52 = 0 := q3
    have nle : ¬ (0 : Int32) < 0 := by decide
    simp only [s129_0, s129_1, s129_4, s129_5, s129_6, s129_7, s129_8, s129_11, s129_12, s129_15, s129_16, s129_17, s129_18, s129_20, s129_21, s129_24, s129_26, s129_27, s129_30, s129_32, s129_33, s129_36, s129_39, s129_40, s129_43, s129_44, s129_45, s129_46, s129_48, s129_49, s129_52, s129_53, s129_56, s129_57, s129_58, s129_61, s129_64, s129_65, s129_68, s129_69, s129_70, s129_72, s129_73, s129_76, s129_78, s129_81, s129_82, s129_85, s129_86, s129_88, s129_89, s129_91, s129_93, s129_95, s129_98, s129_100, s129_103, s129_104, s129_107, s129_109, s129_110, s129_113, s129_115, s129_118, k30 q, k41 q, k68 q, p30_10 q, p30_48 q, b4, b5, c4, c5, h41, hL.2.1, e1, hm, cw_and, oy, oc, q3', nle, lt1, ↓reduceIte, va_rf_s, va_rf_n, jb_some, jb_none, jtl_s, jtl_n, if_true, if_false, true_and, and_true, false_and, and_false, or_true, true_or, or_false, false_or, not_true_eq_false, not_false_eq_true, jk_si, jp_si, jj_si, jk_sj, jp_sj, ji_sj, jk_ci, jp_ci, jj_ci, jk_cj, jp_cj, ji_cj, jlng_n, jlng_i, jlng_r, jlng_0]
  · obtain ⟨p1, p2, p3⟩ := q8 (by omega)
    have gt0 : (0 : Int32) < ji g' 30 52 := by rw [q3]; exact nI_lt (a := 0) (by omega) (by omega)
    have hl33 : A0.length ≤ 33 := q4.2.1
    have hq0 : A0[0]? = some A0[0] := List.getElem?_eq_getElem (by omega)
    have hg0 : A0.getD 0 (-1) = A0[0] := by rw [List.getD_eq_getElem?_getD, hq0]; rfl
    have h69 := (p3 _ _ hq0).1
    have e2 : (1 : Int32) + nI (cN c) = nI (1 + cN c) := nI_add 1 (cN c)
    unfold HD
    rw [hg0]
    generalize A0[0] = x at h69
    have ox := o_addressOf (cw_lt x) g'
    have oi := o_isCommand x g'
    by_cases d1 : A0.length = 1 + cN c
    · have z1 := eq_true (show nI A0.length = nI (1 + cN c) by rw [d1])
      by_cases d2 : isC x
      · rw [jB_t d2] at oi
        by_cases d3 : aN (cw x) = aN (cw y)
        · obtain ⟨v, hv⟩ := gd_loop q (fun j x hx => (p3 j x hx).1) hl33 (nI a) l (nI c) (nI (aN (cw y))) (A0.length - 1) 1 (by omega) (by omega)
          refine ⟨v, ?_⟩
          rw [show A0.length - 1 = cN c by omega, show nI 1 = 1 from rfl] at hv
          rw [jB_cg (show (isC x ∧ aN (cw x) = aN (cw y) ∧ JDt A0 1 (cN c)) ↔ cN c ≤ dtl A0 from ⟨fun w => w.2.2.2, fun w => ⟨d2, d3, by omega, w⟩⟩), ← hv]
          simp only [s129_0, s129_1, s129_4, s129_5, s129_6, s129_7, s129_8, s129_11, s129_12, s129_15, s129_16, s129_17, s129_18, s129_20, s129_21, s129_24, s129_26, s129_27, s129_30, s129_32, s129_33, s129_36, s129_39, s129_40, s129_43, s129_44, s129_45, s129_46, s129_48, s129_49, s129_52, s129_53, s129_56, s129_57, s129_58, s129_61, s129_64, s129_65, s129_68, s129_69, s129_70, s129_72, s129_73, s129_76, s129_78, s129_81, s129_82, s129_85, s129_86, s129_88, s129_89, k30 q, k41 q, k68 q, k69 q, k70 q, p30_10 q, p30_48 q, p30_50 q, p30_51 q, b4, b5, c4, c5, r4, r42, r5, h41, hL.2.1, e1, e2, hm, cw_and, oy, oc, ox, oi, gt0, p1, z1, h69, d3, n1, ↓reduceIte, va_rf_s, va_rf_n, jb_some, jb_none, jtl_s, jtl_n, if_true, if_false, true_and, and_true, false_and, and_false, or_true, true_or, or_false, false_or, not_true_eq_false, not_false_eq_true, jk_si, jp_si, jj_si, jk_sj, jp_sj, ji_sj, jk_ci, jp_ci, jj_ci, jk_cj, jp_cj, ji_cj, jlng_n, jlng_i, jlng_r, jlng_0]
        · refine ⟨1, ?_⟩
          rw [jB_f (fun w => d3 w.2.1)]
          have z3 := eq_false (fun w => d3 ((e_eq (aN_lt (cw x)) (aN_lt (cw y))).mp w))
          simp only [s129_0, s129_1, s129_4, s129_5, s129_6, s129_7, s129_8, s129_11, s129_12, s129_15, s129_16, s129_17, s129_18, s129_20, s129_21, s129_24, s129_26, s129_27, s129_30, s129_32, s129_33, s129_36, s129_39, s129_40, s129_43, s129_44, s129_45, s129_46, s129_48, s129_49, s129_52, s129_53, s129_56, s129_57, s129_58, s129_61, s129_64, s129_65, s129_68, s129_69, s129_70, s129_72, s129_73, s129_76, s129_78, s129_81, s129_82, s129_85, s129_86, s129_88, s129_89, s129_91, s129_93, s129_95, s129_98, s129_100, s129_103, s129_104, s129_107, s129_109, s129_110, s129_113, s129_115, s129_118, k30 q, k41 q, k68 q, k69 q, k70 q, p30_10 q, p30_48 q, p30_50 q, p30_51 q, b4, b5, c4, c5, r4, r42, r5, h41, hL.2.1, e1, e2, hm, cw_and, oy, oc, ox, oi, gt0, p1, z1, z3, h69, lt1, n1, ↓reduceIte, va_rf_s, va_rf_n, jb_some, jb_none, jtl_s, jtl_n, if_true, if_false, true_and, and_true, false_and, and_false, or_true, true_or, or_false, false_or, not_true_eq_false, not_false_eq_true, jk_si, jp_si, jj_si, jk_sj, jp_sj, ji_sj, jk_ci, jp_ci, jj_ci, jk_cj, jp_cj, ji_cj, jlng_n, jlng_i, jlng_r, jlng_0]
      · refine ⟨1, ?_⟩
        rw [jB_f d2] at oi
        rw [jB_f (fun w => d2 w.1)]
        simp only [s129_0, s129_1, s129_4, s129_5, s129_6, s129_7, s129_8, s129_11, s129_12, s129_15, s129_16, s129_17, s129_18, s129_20, s129_21, s129_24, s129_26, s129_27, s129_30, s129_32, s129_33, s129_36, s129_39, s129_40, s129_43, s129_44, s129_45, s129_46, s129_48, s129_49, s129_52, s129_53, s129_56, s129_57, s129_58, s129_61, s129_64, s129_65, s129_68, s129_69, s129_70, s129_72, s129_73, s129_76, s129_78, s129_81, s129_82, s129_85, s129_86, s129_88, s129_89, s129_91, s129_93, s129_95, s129_98, s129_100, s129_103, s129_104, s129_107, s129_109, s129_110, s129_113, s129_115, s129_118, k30 q, k41 q, k68 q, k69 q, k70 q, p30_10 q, p30_48 q, p30_50 q, p30_51 q, b4, b5, c4, c5, r4, r42, r5, h41, hL.2.1, e1, e2, hm, cw_and, oy, oc, oi, gt0, p1, z1, h69, lt1, n1, ↓reduceIte, va_rf_s, va_rf_n, jb_some, jb_none, jtl_s, jtl_n, if_true, if_false, true_and, and_true, false_and, and_false, or_true, true_or, or_false, false_or, not_true_eq_false, not_false_eq_true, jk_si, jp_si, jj_si, jk_sj, jp_sj, ji_sj, jk_ci, jp_ci, jj_ci, jk_cj, jp_cj, ji_cj, jlng_n, jlng_i, jlng_r, jlng_0]
    · refine ⟨1, ?_⟩
      have z1 := eq_false (fun w => d1 ((e_eq (a := A0.length) (b := 1 + cN c) (by omega) (by omega)).mp w))
      rw [jB_f (fun w => d1 (by have := w.2.2.1; omega))]
      simp only [s129_0, s129_1, s129_4, s129_5, s129_6, s129_7, s129_8, s129_11, s129_12, s129_15, s129_16, s129_17, s129_18, s129_20, s129_21, s129_24, s129_26, s129_27, s129_30, s129_32, s129_33, s129_36, s129_39, s129_40, s129_43, s129_44, s129_45, s129_46, s129_48, s129_49, s129_52, s129_53, s129_56, s129_57, s129_58, s129_61, s129_64, s129_65, s129_68, s129_69, s129_70, s129_72, s129_73, s129_76, s129_78, s129_81, s129_82, s129_85, s129_86, s129_88, s129_89, s129_91, s129_93, s129_95, s129_98, s129_100, s129_103, s129_104, s129_107, s129_109, s129_110, s129_113, s129_115, s129_118, k30 q, k41 q, k68 q, k70 q, p30_10 q, p30_48 q, p30_51 q, b4, b5, c4, c5, r42, r5, h41, hL.2.1, e1, e2, hm, cw_and, oy, oc, gt0, p1, z1, lt1, n1, ↓reduceIte, va_rf_s, va_rf_n, jb_some, jb_none, jtl_s, jtl_n, if_true, if_false, true_and, and_true, false_and, and_false, or_true, true_or, or_false, false_or, not_true_eq_false, not_false_eq_true, jk_si, jp_si, jj_si, jk_sj, jp_sj, ji_sj, jk_ci, jp_ci, jj_ci, jk_cj, jp_cj, ji_cj, jlng_n, jlng_i, jlng_r, jlng_0]
/-- hearPartner beside getAnswer -/
theorem q_partner {B n a t l : Nat} {L A0 A1 : List Int32} {g g' : jH} (hC : HC B L g g' a t n A0 A1) (hB : B + 33 < 1610612736) (hl : l ≤ 1) (hn1 : RA a L → n ≤ 1) (hry : RY L g g' a t) : HP (B + 33) L g g' a t l n A0 A1 (jV 32 0 [some (.ref t), some (.ref 21), some (.ref 18), none] [] g) (jV 129 0 [some (.ref 30), some (.int (nI a)), some (.int (nI l)), none, none, none, none, none] [] g') := by
  obtain ⟨ha, qc, qm, hT0, hR, hW, hL, ⟨R0, hR0⟩, hA⟩ := id hC
  obtain ⟨ht, hs, hMu, hBa, hPl⟩ := id hT0
  obtain ⟨h0, h33, h34, ⟨h42, h43', h44', h6⟩, h7, h8, h9, h10, h11, h12', h14⟩ := id hs
  obtain ⟨ht74, kt, pt2, pt3, kt1, pt10, pt11, kt2, kt3⟩ := id ht
  obtain ⟨h15, c, hcw, hd, h12, h43, h44, hl2, h16, x, hx, hxc, ecx⟩ := hry
  have hp := not_mode hd
  have hcn := cN_le c
  have b4 : jin (nI a) 31 = true := jin_nI ha (by omega)
  have b5 : (nI a).toNatClampNeg = a := nI_clamp (by omega)
  have h41 : ji g' 41 a = nI c := by rw [← mv_v (g := g') (l := 41) (by omega), ← h12'.2]; exact h12
  obtain ⟨v, hmd⟩ := m_heard (l := nI l) qm ha hA hL hl2 hcw h41
  have W21 : WI g 21 A0 := hA.2.2.1.1
  have hL21 := W21.2.1
  have i21 : ji g t 16 = nI (aN (cw (L.getD (L.length - 1) (-1)))) := h16
  revert hmd i21 h16
  generalize hr : aN (cw (L.getD (L.length - 1) (-1))) = r
  intro h16 hmd i21
  have hr32 : r < 65536 := by rw [← hr]; exact aN_lt _
  have wc := w_isCommand W21 (i := 0) (by omega)
  have wb := w_bitsAt W21 (i := 0) (by omega)
  rw [cw_and] at wb
  rw [show nI 0 = 0 from rfl] at wc wb
  have na := n_addressOf (cw_lt (A0.getD 0 (-1))) g
  have nc := n_countOf hcw g
  by_cases d : HD A0 c r
  · rw [jB_t d] at hmd
    obtain ⟨d1, d2, d3⟩ := d
    rw [jB_t d1] at wc
    have hlen : 1 ≤ A0.length := by have := d3.1; omega
    have njd := w_isJustData W21 (f := 1) hlen (n := cN c) (by omega)
    rw [jB_t d3, show nI 1 = 1 from rfl] at njd
    have hjl : 1 + cN c ≤ A0.length := by have := d3.1; omega
    obtain ⟨rr, g1, g1', hif, hmay, hrr, hs1, f1, f1'⟩ := q_may qm ha ht hs hBa hcw hp (sd := 0) (by omega) h12 h43
    rw [show nI 0 = 0 from rfl] at hmay
    have op := o_placeOf hcw g'
    have ht1 : TSh g1 t := ht.fr f1
    have qm1 : MS g1' := f1'.ms qm
    have W1 : WI g1 21 A0 := W21.fr f1 (fun c k z1 z2 => by omega)
    have An1 : An g1 g1' n A0 A1 := hA.fr f1 f1' (fun b k z1 z2 => by omega) (by omega) (by omega) (fun b k z => by omega)
    have nn : 1 ≤ n := Classical.byContradiction fun w => by have := hA.2.2.2.1 (by omega); rw [this] at hlen; exact absurd hlen (by decide)
    have v44 : mv g1' a 44 = mv g' a 44 := by rw [mv_v (by omega), mv_v (by omega), f1'.i (by omega)]
    have hM1 : TM B g1 g1' a t := ⟨ht1, hs1, hMu.fr f1 f1' (by omega) (fun c k z1 z2 => by omega) (by omega) (by omega) (fun i hi => by omega), hBa.fr f1 f1' (fun k => by omega) (fun k z1 z2 => by omega), hPl.fr f1 f1' (fun c k z => by omega) (fun c k z z1 z2 => by omega)⟩
    have mid : ∃ g2 g2' l7, (∀ o G, jV 44 0 [some (.ref t), some (.ref 18)] [] g2 = some (some (.int o), G) → jV 32 0 [some (.ref t), some (.ref 21), some (.ref 18), none] [] g = some (some (.int o), G)) ∧ jV 129 0 [some (.ref 30), some (.int (nI a)), some (.int (nI l)), none, none, none, none, none] [] g' = jV 129 193 [some (.ref 30), some (.int (nI a)), some (.int (nI l)), some (.int (nI c)), some (.int (nI r)), some (.int (nI (cN c))), some (.int 1), some (.int l7)] [] g2' ∧ TM B g2 g2' a t ∧ mv g2' a 44 = mv g' a 44 ∧ Fr (fun c k => (c = t ∧ k = 6) ∨ c = t + 3) g g2 ∧ Fr (fun c k => (c = 43 ∧ k = a) ∨ (c = 36 ∧ 992 * a ≤ k ∧ k < 992 * a + 992)) g' g2' := by
      rcases in_B2 hrr with z | z
      · refine ⟨g1, g1', v, ?_, ?_, hM1, v44, f1.sub (fun c k z => Or.inl z), f1'.sub (fun c k z => Or.inl z)⟩
        · intro o G hans
          have := c_recv0 (w := 21) (f := 1) kt ht1.2.1 hif z hans
          simp only [s32_0, s32_1, s32_2, s32_5, s32_8, s32_9, s32_10, s32_13, s32_16, s32_17, s32_20, s32_23, s32_24, s32_27, s32_28, s32_29, s32_30, s32_33, s32_34, s32_35, s32_36, s32_39, s32_42, s32_45, s32_48, s32_49, s32_50, s32_51, s32_52, s32_55, s32_56, s32_57, s32_60, kt, k21 qc, wc, wb, na, d2, i21, h12, nc, njd, n1, this, ↓reduceIte, va_rf_s, va_rf_n, jb_some, jb_none, jtl_s, jtl_n, if_true, if_false, true_and, and_true, false_and, and_false, or_true, true_or, or_false, false_or, not_true_eq_false, not_false_eq_true, jk_si, jp_si, jj_si, jk_sj, jp_sj, ji_sj, jk_ci, jp_ci, jj_ci, jk_cj, jp_cj, ji_cj, jlng_n, jlng_i, jlng_r, jlng_0]
        · subst z
          rw [hmd]
          simp only [s129_121, s129_123, s129_126, s129_127, s129_130, s129_131, s129_132, s129_133, s129_134, s129_135, s129_136, s129_137, s129_138, s129_141, s129_144, op, k30 qm, n1, hmay, ↓reduceIte, va_rf_s, va_rf_n, jb_some, jb_none, jtl_s, jtl_n, if_true, if_false, true_and, and_true, false_and, and_false, or_true, true_or, or_false, false_or, not_true_eq_false, not_false_eq_true, jk_si, jp_si, jj_si, jk_sj, jp_sj, ji_sj, jk_ci, jp_ci, jj_ci, jk_cj, jp_cj, ji_cj, jlng_n, jlng_i, jlng_r, jlng_0]
      · obtain ⟨G2, e1, e2, e3, e4⟩ := mga_loop ha hcw (p := pN c) rfl (cnt := cN c) rfl hp.1 hp.2 (nI l) (nI r) 1 (cN c) 0 g1' (by omega) qm1
        have hP2 := pl_got (f := 1) hM1.2.2.2.2 hp.1 hp.2 hcn.2 W1 (by omega) hjl e2 (fun j y hj hy => by rw [e3 j (by omega) hj]; exact ((An1.2.2.2.2.2.1 nn).2.2 _ _ hy).1)
        have f2 : Fr (fun c k => c = t + 3) g1 (jci g1 (t + 3) (va_cpy (ji g1 (21 + 1)) (ji g1 (t + 3)) 1 ((pN c - 1) * 32) (cN c))) := (Fr.refl g1).ci (fun k z => absurd rfl z)
        have f2' : Fr (fun c k => c = 36 ∧ 992 * a ≤ k ∧ k < 992 * a + 992) g1' G2 := e2.sub (fun c k z => by omega)
        refine ⟨_, G2, nI (cN c), ?_, ?_, ⟨ht1.fr f2, ?_, hM1.2.2.1.fr f2 f2' (by omega) (fun c k z1 z2 => by omega) (by omega) (by omega) (fun i hi => by omega), hM1.2.2.2.1.fr f2 f2' (fun k => by omega) (fun k z1 z2 => by omega), hP2⟩, ?_, (f1.sub (fun c k z => Or.inl z)).trans (f2.sub (fun c k z => Or.inr z)), (f1'.sub (fun c k z => Or.inl z)).trans (f2'.sub (fun c k z => Or.inr z))⟩
        · intro o G hans
          have := c_recv1 (c := c) (f := 1) ht1 kt hif z hcw hp (by rw [f1.i (by omega)]; exact h12) W1 hjl hans
          rw [show nI 1 = 1 from rfl] at this
          simp only [s32_0, s32_1, s32_2, s32_5, s32_8, s32_9, s32_10, s32_13, s32_16, s32_17, s32_20, s32_23, s32_24, s32_27, s32_28, s32_29, s32_30, s32_33, s32_34, s32_35, s32_36, s32_39, s32_42, s32_45, s32_48, s32_49, s32_50, s32_51, s32_52, s32_55, s32_56, s32_57, s32_60, kt, k21 qc, wc, wb, na, d2, i21, h12, nc, njd, n1, this, ↓reduceIte, va_rf_s, va_rf_n, jb_some, jb_none, jtl_s, jtl_n, if_true, if_false, true_and, and_true, false_and, and_false, or_true, true_or, or_false, false_or, not_true_eq_false, not_false_eq_true, jk_si, jp_si, jj_si, jk_sj, jp_sj, ji_sj, jk_ci, jp_ci, jj_ci, jk_cj, jp_cj, ji_cj, jlng_n, jlng_i, jlng_r, jlng_0]
        · subst z
          rw [show nI 0 = 0 from rfl] at e1
          rw [hmd]
          simp only [s129_121, s129_123, s129_126, s129_127, s129_130, s129_131, s129_132, s129_133, s129_134, s129_135, s129_136, s129_137, s129_138, s129_141, s129_144, s129_147, s129_148, op, k30 qm, n1, hmay, e1, ↓reduceIte, va_rf_s, va_rf_n, jb_some, jb_none, jtl_s, jtl_n, if_true, if_false, true_and, and_true, false_and, and_false, or_true, true_or, or_false, false_or, not_true_eq_false, not_false_eq_true, jk_si, jp_si, jj_si, jk_sj, jp_sj, ji_sj, jk_ci, jp_ci, jj_ci, jk_cj, jp_cj, ji_cj, jlng_n, jlng_i, jlng_r, jlng_0]
        · rw [tv_fr f2 (fun k => by omega), mv_fr f2' (fun l hl => by omega) (by omega) (by omega)]
          exact hs1
        · rw [mv_fr f2' (fun l hl => by omega) (by omega) (by omega)]
          exact v44
    obtain ⟨g2, g2', l7, hcl, hmd2, hM2, v2, f2, f2'⟩ := mid
    have qm2 : MS g2' := f2'.ms qm
    have W18 : WI g2 18 R0 := hR0.fr f2 (fun c k z1 z2 => by omega)
    obtain ⟨G, b, c1, c2, f3, hRp⟩ := c_answerStatus ha hM2.1 hM2.2.1 W18
    have f3' : Fr (fun c k => c = 73 ∨ (c = 30 ∧ k = 56)) g2' (jsi (jsi g2' 73 0 (stI (mv g2' a) a)) 30 56 1) := ((Fr.refl g2').si (Or.inl rfl)).si (Or.inr ⟨rfl, rfl⟩)
    have hM3 := hM2.fr f3 f3' (fun c k z1 z2 => by unfold wP; omega) (fun c k z y => by omega)
    have p2 : ∀ c k, ((c = t ∧ k = 6) ∨ c = t + 3) → t ≤ c ∧ c ≤ t + 6 := fun c k z => by omega
    have p2' : ∀ c k, ((c = 43 ∧ k = a) ∨ (c = 36 ∧ 992 * a ≤ k ∧ k < 992 * a + 992)) → mTA a c k := fun c k z => z.elim (fun y => mTA_s (by omega) y.2) (fun y => Or.inr (Or.inr (Or.inl ⟨Or.inr y.1, y.2⟩)))
    have hC3 : HC B L G (jsi (jsi g2' 73 0 (stI (mv g2' a) a)) 30 56 1) a t n A0 A1 := hC.up2 ((f2.sub (fun c k z => Or.inl (p2 c k z))).trans (f3.sub (fun c k z => Or.inr z))) ((f2'.sub (fun c k z => up_t (p2' c k z))).trans (f3'.sub (fun c k z => up_r z))) (fun c k z => z) (fun c k z => z) hM3 ⟨_, (hRp g2').2.1⟩
    have F3 : Fr (cHp t) g G := (f2.sub (fun c k z => cHp_r (Or.inl (p2 c k z)))).trans (f3.sub (fun c k z => cHp_r (Or.inr z)))
    have F3' : Fr (mHp a) g' (jsi (jsi g2' 73 0 (stI (mv g2' a) a)) 30 56 1) := (f2'.sub (fun c k z => Or.inl (p2' c k z))).trans (f3'.sub (fun c k z => mHp_73 z))
    have mst := m_statusOf qm2 ha
    have mrw := m_replyWith qm2 (stI (mv g2' a) a)
    have oa := o_addressOf hcw (jsi (jsi g2' 73 0 (stI (mv g2' a) a)) 30 56 1)
    have E71 : ji (jsi (jsi g2' 73 0 (stI (mv g2' a) a)) 30 56 1) 71 a = ji g' 71 a := by rw [f3'.i (by omega), f2'.i (by omega)]
    rw [v2] at c1
    rcases h44 with ⟨z1, z2⟩ | ⟨z1, z2⟩
    · rw [if_pos z2] at c1
      have hRA : RA a L := ⟨x, hx, by rw [ecx]; exact z1⟩
      obtain ⟨G4, G4', n', A0', A1', q1, q2, q3, q4, q5, q6⟩ := fin_ans hC3 hB hl (hn1 hRA) (by rw [f3.i (by unfold wP; omega), f3'.i (by omega), f2.i (by omega), f2'.i (by omega)]; exact h15) (hRp g2')
      refine ⟨1, G, hcl _ _ c1, Or.inr ⟨rfl, hC3.2.1, G4, G4', n', A0', A1', q1, ?_, q3, q4, hRA, F3.trans (q5.sub (fun c k z => cHp_y z)), F3'.trans (q6.sub (fun c k z => mHp_y z)), by rw [q6.i (by omega)]; exact E71⟩⟩
      rw [hmd2]
      rw [z1] at oa
      simp only [s129_193, s129_194, s129_195, s129_196, s129_199, s129_202, s129_203, s129_204, s129_205, s129_206, s129_209, s129_210, s129_213, s129_214, s129_217, s129_218, s129_221, k30 qm2, mst, mrw, oa, n1, q2, ↓reduceIte, va_rf_s, va_rf_n, jb_some, jb_none, jtl_s, jtl_n, if_true, if_false, true_and, and_true, false_and, and_false, or_true, true_or, or_false, false_or, not_true_eq_false, not_false_eq_true, jk_si, jp_si, jj_si, jk_sj, jp_sj, ji_sj, jk_ci, jp_ci, jj_ci, jk_cj, jp_cj, ji_cj, jlng_n, jlng_i, jlng_r, jlng_0]
    · rw [if_neg (by rw [z2]; exact n1)] at c1
      refine ⟨0, G, hcl _ _ c1, Or.inl ⟨rfl, _, ?_, hC3.mono (by omega) hB, F3, F3', E71⟩⟩
      rw [hmd2]
      have ne : ¬ nI (aN c) = nI a := fun w => by have := (e_eq (aN_lt c) (by omega)).mp w; rw [z1] at this; omega
      simp only [s129_193, s129_194, s129_195, s129_196, s129_199, s129_202, s129_203, s129_204, s129_205, s129_206, s129_209, s129_210, s129_213, s129_214, s129_217, s129_218, s129_221, k30 qm2, mst, mrw, oa, ne, m_answer0, ↓reduceIte, va_rf_s, va_rf_n, jb_some, jb_none, jtl_s, jtl_n, if_true, if_false, true_and, and_true, false_and, and_false, or_true, true_or, or_false, false_or, not_true_eq_false, not_false_eq_true, jk_si, jp_si, jj_si, jk_sj, jp_sj, ji_sj, jk_ci, jp_ci, jj_ci, jk_cj, jp_cj, ji_cj, jlng_n, jlng_i, jlng_r, jlng_0]
  · rw [jB_f d] at hmd
    obtain ⟨Gr, rf, hCr, fr, fr'⟩ := rf_both hC
    refine ⟨0, Gr, ?_, Or.inl ⟨rfl, jsi g' 43 a 1, ?_, hCr.mono (by omega) hB, fr.sub (fun c k z => Or.inl ⟨by omega, by omega⟩), fr'.sub (fun c k z => Or.inl (mTA_s (by omega) z.2)), fr'.i (by omega)⟩⟩
    · by_cases d1 : isC (A0.getD 0 (-1))
      · rw [jB_t d1] at wc
        by_cases d2 : aN (cw (A0.getD 0 (-1))) = r
        · have hlen : 1 ≤ A0.length := by
            rcases A0 with _ | ⟨y, A0⟩
            · exact absurd d1 (by decide)
            · simp
          have njd := w_isJustData W21 (f := 1) hlen (n := cN c) (by omega)
          rw [jB_f (fun w => d ⟨d1, d2, w⟩), show nI 1 = 1 from rfl] at njd
          simp only [s32_0, s32_1, s32_2, s32_5, s32_8, s32_9, s32_10, s32_13, s32_16, s32_17, s32_20, s32_23, s32_24, s32_27, s32_28, s32_29, s32_30, s32_33, s32_34, s32_35, s32_36, s32_39, s32_42, s32_45, s32_48, s32_49, s32_50, s32_51, s32_52, s32_55, s32_56, s32_57, s32_60, kt, k21 qc, wc, wb, na, d2, i21, h12, nc, njd, n1, rf, ↓reduceIte, va_rf_s, va_rf_n, jb_some, jb_none, jtl_s, jtl_n, if_true, if_false, true_and, and_true, false_and, and_false, or_true, true_or, or_false, false_or, not_true_eq_false, not_false_eq_true, jk_si, jp_si, jj_si, jk_sj, jp_sj, ji_sj, jk_ci, jp_ci, jj_ci, jk_cj, jp_cj, ji_cj, jlng_n, jlng_i, jlng_r, jlng_0]
        · have ne : ¬ nI (aN (cw (A0.getD 0 (-1)))) = nI r := fun w => d2 ((e_eq (aN_lt _) hr32).mp w)
          simp only [s32_0, s32_1, s32_2, s32_5, s32_8, s32_9, s32_10, s32_13, s32_16, s32_17, s32_20, s32_23, s32_24, s32_27, s32_28, s32_29, s32_30, s32_33, s32_34, s32_35, s32_36, s32_39, s32_42, s32_45, s32_48, s32_49, s32_50, s32_51, s32_52, s32_55, s32_56, s32_57, s32_60, kt, k21 qc, wc, wb, na, ne, i21, n1, rf, ↓reduceIte, va_rf_s, va_rf_n, jb_some, jb_none, jtl_s, jtl_n, if_true, if_false, true_and, and_true, false_and, and_false, or_true, true_or, or_false, false_or, not_true_eq_false, not_false_eq_true, jk_si, jp_si, jj_si, jk_sj, jp_sj, ji_sj, jk_ci, jp_ci, jj_ci, jk_cj, jp_cj, ji_cj, jlng_n, jlng_i, jlng_r, jlng_0]
      · rw [jB_f d1] at wc
        simp only [s32_0, s32_1, s32_2, s32_5, s32_8, s32_9, s32_10, s32_13, s32_16, s32_17, s32_20, s32_23, s32_24, s32_27, s32_28, s32_29, s32_30, s32_33, s32_34, s32_35, s32_36, s32_39, s32_42, s32_45, s32_48, s32_49, s32_50, s32_51, s32_52, s32_55, s32_56, s32_57, s32_60, kt, k21 qc, wc, rf, ↓reduceIte, va_rf_s, va_rf_n, jb_some, jb_none, jtl_s, jtl_n, if_true, if_false, true_and, and_true, false_and, and_false, or_true, true_or, or_false, false_or, not_true_eq_false, not_false_eq_true, jk_si, jp_si, jj_si, jk_sj, jp_sj, ji_sj, jk_ci, jp_ci, jj_ci, jk_cj, jp_cj, ji_cj, jlng_n, jlng_i, jlng_r, jlng_0]
    · rw [hmd]
      simp only [s129_121, s129_123, s129_126, s129_127, s129_130, s129_131, s129_132, s129_133, k30 qm, k43 qm, p30_12 qm, b4, b5, show ((1 : Int32) = 0 ∨ (1 : Int32) = 1) by decide, ↓reduceIte, va_rf_s, va_rf_n, jb_some, jb_none, jtl_s, jtl_n, if_true, if_false, true_and, and_true, false_and, and_false, or_true, true_or, or_false, false_or, not_true_eq_false, not_false_eq_true, jk_si, jp_si, jj_si, jk_sj, jp_sj, ji_sj, jk_ci, jp_ci, jj_ci, jk_cj, jp_cj, ji_cj, jlng_n, jlng_i, jlng_r, jlng_0]
