/-! PLACES, BARS, REPLIES -/
def Ba (g g' : jH) (a t : Nat) : Prop := ∀ p, 1 ≤ p → p ≤ 30 → (ji g' 37 (62 * a + p) ∈ B2 ∧ (ji g (t + 1) 2 >>> (nI p &&& 31)) &&& 1 = ji g' 37 (62 * a + p)) ∧ (ji g' 37 (62 * a + 31 + p) ∈ B2 ∧ (ji g (t + 1) 3 >>> (nI p &&& 31)) &&& 1 = ji g' 37 (62 * a + 31 + p))
theorem Ba.fr {P P' : Nat → Nat → Prop} {g h g' h' : jH} {a t : Nat} (hb : Ba g g' a t) (f : Fr P g h) (f' : Fr P' g' h') (h1 : ∀ k, ¬ P (t + 1) k) (h2 : ∀ k, 62 * a ≤ k → k < 62 * a + 62 → ¬ P' 37 k) : Ba h h' a t := by
  intro p h3 h4
  rw [f.i (h1 2), f.i (h1 3), f'.i (h2 (62 * a + p) (by omega) (by omega)), f'.i (h2 (62 * a + 31 + p) (by omega) (by omega))]
  exact hb p h3 h4
def Pl (g g' : jH) (a t : Nat) : Prop := ∀ i, i < 960 → (isD (ji g (t + 2) i) ∧ ji g (t + 2) i = ji g' 35 (992 * a + 32 + i)) ∧ ji g (t + 3) i = ji g' 36 (992 * a + 32 + i)
theorem Pl.fr {P P' : Nat → Nat → Prop} {g h g' h' : jH} {a t : Nat} (hb : Pl g g' a t) (f : Fr P g h) (f' : Fr P' g' h') (h1 : ∀ b k, b = t + 2 ∨ b = t + 3 → ¬ P b k) (h2 : ∀ b k, b = 35 ∨ b = 36 → 992 * a ≤ k → k < 992 * a + 992 → ¬ P' b k) : Pl h h' a t := by
  intro i hi
  rw [f.i (h1 (t + 2) i (Or.inl rfl)), f.i (h1 (t + 3) i (Or.inr rfl)), f'.i (h2 35 _ (by omega) (by omega) (by omega)), f'.i (h2 36 _ (by omega) (by omega) (by omega))]
  exact hb i hi
theorem q_may {g g' : jH} (qm : MS g') {a t : Nat} (ha : a < 31) (ht : TSh g t) (hs : Sc (ji g t) (mv g' a) a) (hb : Ba g g' a t) {c sd : Nat} (hc : c < 65536) (hp : 1 ≤ pN c ∧ pN c ≤ 30) (hsd : sd ≤ 1) (h12 : ji g t 12 = nI c) (h43 : ji g' 43 a = 0) : ∃ r G G', jV 42 0 [some (.ref t), some (.int (nI sd))] [] g = some (some (.int r), G) ∧ jV 125 0 [some (.ref 30), some (.int (nI a)), some (.int (nI sd)), some (.int (nI (pN c))), none] [] g' = some (some (.int r), G') ∧ r ∈ B2 ∧ Sc (ji G t) (mv G' a) a ∧ Fr (fun b k => b = t ∧ k = 6) g G ∧ Fr (fun b k => b = 43 ∧ k = a) g' G' := by
  obtain ⟨h0, h1, h2, ⟨h42, h43', h44, h6⟩, h7, h8, h9, h10, h11, h12', h14⟩ := id hs
  obtain ⟨ht74, kt, pt2, pt3, kt1, _⟩ := id ht
  have v42 : mv g' a 42 = ji g' 42 a := mv_v (by omega)
  have v43 : mv g' a 43 = 0 := by rw [mv_v (by omega)]; exact h43
  have b4 : jin (nI a) 31 = true := jin_nI ha (by omega)
  have b5 : (nI a).toNatClampNeg = a := nI_clamp (by omega)
  generalize hpp : pN c = p at hp
  have hpo := n_placeOf hc g
  rw [hpp] at hpo
  have e1 : ((62 : Int32) * nI a + 31 * nI sd) + nI p = nI (62 * a + 31 * sd + p) := by
    show (nI 62 * nI a + nI 31 * nI sd) + nI p = _
    rw [pk_mul, pk_mul, nI_add, nI_add]
  have d4 : jin (nI (62 * a + 31 * sd + p)) 1922 = true := jin_nI (by omega) (by omega)
  have d5 : (nI (62 * a + 31 * sd + p)).toNatClampNeg = 62 * a + 31 * sd + p := nI_clamp (by omega)
  have hx : ji g' 37 (62 * a + 31 * sd + p) ∈ B2 ∧ jV 22 0 [some (.ref (t + 1)), some (.int (nI sd)), some (.int (nI p))] [] g = some (some (.int (ji g' 37 (62 * a + 31 * sd + p))), g) := by
    obtain ⟨⟨y1, y2⟩, y3, y4⟩ := hb p hp.1 hp.2
    rcases (show sd = 0 ∨ sd = 1 by omega) with rfl | rfl
    · rw [show 62 * a + 31 * 0 + p = 62 * a + p by omega]
      refine ⟨y1, ?_⟩
      rcases in_B2 y1 with z | z
      · rw [z] at y2 ⊢
        simp only [s22_0, s22_1, s22_4, s22_5, s22_8, s22_11, s22_12, s22_15, s22_16, s22_17, s22_18, s22_19, s22_20, s22_23, s22_24, s22_27, s22_28, kt1, y2, eq_true (show nI 0 = 0 from rfl), show ¬ (0 : Int32) = 1 by decide, ↓reduceIte, va_rf_s, va_rf_n, jb_some, jb_none, jtl_s, jtl_n, if_true, if_false, true_and, and_true, false_and, and_false, or_true, true_or, or_false, false_or, not_true_eq_false, not_false_eq_true, jk_si, jp_si, jj_si, jk_sj, jp_sj, ji_sj, jk_ci, jp_ci, jj_ci, jk_cj, jp_cj, ji_cj, jlng_n, jlng_i, jlng_r, jlng_0]
      · rw [z] at y2 ⊢
        simp only [s22_0, s22_1, s22_4, s22_5, s22_8, s22_11, s22_12, s22_15, s22_16, s22_17, s22_18, s22_19, s22_20, s22_23, s22_24, s22_27, s22_28, kt1, y2, eq_true (show nI 0 = 0 from rfl), ↓reduceIte, va_rf_s, va_rf_n, jb_some, jb_none, jtl_s, jtl_n, if_true, if_false, true_and, and_true, false_and, and_false, or_true, true_or, or_false, false_or, not_true_eq_false, not_false_eq_true, jk_si, jp_si, jj_si, jk_sj, jp_sj, ji_sj, jk_ci, jp_ci, jj_ci, jk_cj, jp_cj, ji_cj, jlng_n, jlng_i, jlng_r, jlng_0]
    · rw [show 62 * a + 31 * 1 + p = 62 * a + 31 + p by omega]
      refine ⟨y3, ?_⟩
      rcases in_B2 y3 with z | z
      · rw [z] at y4 ⊢
        simp only [s22_0, s22_1, s22_4, s22_5, s22_8, s22_11, s22_12, s22_15, s22_16, s22_17, s22_18, s22_19, s22_20, s22_23, s22_24, s22_27, s22_28, kt1, y4, eq_false (show ¬ nI 1 = 0 by decide), show ¬ (0 : Int32) = 1 by decide, ↓reduceIte, va_rf_s, va_rf_n, jb_some, jb_none, jtl_s, jtl_n, if_true, if_false, true_and, and_true, false_and, and_false, or_true, true_or, or_false, false_or, not_true_eq_false, not_false_eq_true, jk_si, jp_si, jj_si, jk_sj, jp_sj, ji_sj, jk_ci, jp_ci, jj_ci, jk_cj, jp_cj, ji_cj, jlng_n, jlng_i, jlng_r, jlng_0]
      · rw [z] at y4 ⊢
        simp only [s22_0, s22_1, s22_4, s22_5, s22_8, s22_11, s22_12, s22_15, s22_16, s22_17, s22_18, s22_19, s22_20, s22_23, s22_24, s22_27, s22_28, kt1, y4, eq_false (show ¬ nI 1 = 0 by decide), ↓reduceIte, va_rf_s, va_rf_n, jb_some, jb_none, jtl_s, jtl_n, if_true, if_false, true_and, and_true, false_and, and_false, or_true, true_or, or_false, false_or, not_true_eq_false, not_false_eq_true, jk_si, jp_si, jj_si, jk_sj, jp_sj, ji_sj, jk_ci, jp_ci, jj_ci, jk_cj, jp_cj, ji_cj, jlng_n, jlng_i, jlng_r, jlng_0]
  obtain ⟨hx, hib⟩ := hx
  rcases in_B2 hx with z | z
  · rw [z] at hib
    have f1 := c_hasFlag kt 1024
    have f2 := c_hasFlag kt 8
    rw [h6] at f1 f2
    rw [jB_f (fun y => y ((fl_err _ h42 _ h43' _ h44).mpr v43))] at f1
    have w8 := fl_busy _ h42 _ h43' _ h44
    have hSc : Sc (ji g t) (mv (jsi g' 43 a 0) a) a := by
      rw [mv_si (by omega)]
      simp only [Sc, upd_e, Nat.reduceEqDiff, if_true, if_false]
      exact ⟨h0, h1, h2, ⟨h42, B2_0, h44, by rw [h6, v43]⟩, h7, h8, h9, h10, h11, h12', h14⟩
    by_cases n8 : mv g' a 42 &&& 8 = 0
    · rw [jB_f (fun y => y (w8.mpr n8))] at f2
      rw [v42] at n8
      refine ⟨1, g, jsi g' 43 a 0, ?_, ?_, B2_1, hSc, Fr.refl g, (Fr.refl g').si ⟨rfl, rfl⟩⟩
      · simp only [s42_0, s42_1, s42_4, s42_5, s42_6, s42_9, s42_12, s42_15, s42_18, s42_19, s42_22, s42_23, s42_26, s42_27, s42_30, s42_33, s42_36, s42_37, s42_39, s42_42, s42_45, s42_46, s42_49, s42_50, kt, pt2, kt1, h12, hpo, hib, f1, f2, ↓reduceIte, va_rf_s, va_rf_n, jb_some, jb_none, jtl_s, jtl_n, if_true, if_false, true_and, and_true, false_and, and_false, or_true, true_or, or_false, false_or, not_true_eq_false, not_false_eq_true, jk_si, jp_si, jj_si, jk_sj, jp_sj, ji_sj, jk_ci, jp_ci, jj_ci, jk_cj, jp_cj, ji_cj, jlng_n, jlng_i, jlng_r, jlng_0]
      · simp only [s125_0, s125_1, s125_4, s125_6, s125_7, s125_8, s125_10, s125_11, s125_12, s125_13, s125_14, s125_15, s125_16, s125_18, s125_19, s125_22, s125_23, s125_24, s125_27, s125_28, s125_29, s125_32, s125_34, s125_37, s125_38, s125_41, s125_42, s125_43, s125_45, s125_48, s125_49, s125_52, s125_53, s125_54, s125_56, s125_57, s125_60, s125_61, s125_64, s125_65, k30 qm, k37 qm, k42 qm, k43 qm, p30_6 qm, p30_11 qm, p30_12 qm, e1, d4, d5, b4, b5, z, h43, n8, ji_si, Nat.reduceEqDiff, ↓reduceIte, va_rf_s, va_rf_n, jb_some, jb_none, jtl_s, jtl_n, if_true, if_false, true_and, and_true, false_and, and_false, or_true, true_or, or_false, false_or, not_true_eq_false, not_false_eq_true, jk_si, jp_si, jj_si, jk_sj, jp_sj, ji_sj, jk_ci, jp_ci, jj_ci, jk_cj, jp_cj, ji_cj, jlng_n, jlng_i, jlng_r, jlng_0]
    · rw [jB_t ((not_congr w8).mpr n8)] at f2
      rw [v42] at n8
      refine ⟨0, g, jsi g' 43 a 0, ?_, ?_, B2_0, hSc, Fr.refl g, (Fr.refl g').si ⟨rfl, rfl⟩⟩
      · simp only [s42_0, s42_1, s42_4, s42_5, s42_6, s42_9, s42_12, s42_15, s42_18, s42_19, s42_22, s42_23, s42_26, s42_27, s42_30, s42_33, s42_36, s42_37, s42_39, s42_42, s42_45, s42_46, s42_49, s42_50, kt, pt2, kt1, h12, hpo, hib, f1, f2, n1, ↓reduceIte, va_rf_s, va_rf_n, jb_some, jb_none, jtl_s, jtl_n, if_true, if_false, true_and, and_true, false_and, and_false, or_true, true_or, or_false, false_or, not_true_eq_false, not_false_eq_true, jk_si, jp_si, jj_si, jk_sj, jp_sj, ji_sj, jk_ci, jp_ci, jj_ci, jk_cj, jp_cj, ji_cj, jlng_n, jlng_i, jlng_r, jlng_0]
      · simp only [s125_0, s125_1, s125_4, s125_6, s125_7, s125_8, s125_10, s125_11, s125_12, s125_13, s125_14, s125_15, s125_16, s125_18, s125_19, s125_22, s125_23, s125_24, s125_27, s125_28, s125_29, s125_32, s125_34, s125_37, s125_38, s125_41, s125_42, s125_43, s125_45, s125_48, s125_49, s125_52, s125_53, s125_54, s125_56, s125_57, s125_60, s125_61, s125_64, s125_65, k30 qm, k37 qm, k42 qm, k43 qm, p30_6 qm, p30_11 qm, p30_12 qm, e1, d4, d5, b4, b5, z, h43, n8, ji_si, Nat.reduceEqDiff, ↓reduceIte, va_rf_s, va_rf_n, jb_some, jb_none, jtl_s, jtl_n, if_true, if_false, true_and, and_true, false_and, and_false, or_true, true_or, or_false, false_or, not_true_eq_false, not_false_eq_true, jk_si, jp_si, jj_si, jk_sj, jp_sj, ji_sj, jk_ci, jp_ci, jj_ci, jk_cj, jp_cj, ji_cj, jlng_n, jlng_i, jlng_r, jlng_0]
  · rw [z] at hib
    have s1 := c_setFlag kt 1024 1
    rw [h6, if_neg n1, fl_e1 _ h42 _ h43' _ h44] at s1
    have kt' : jk (jsi g t 6 (FL (mv g' a 42) 1 (mv g' a 44))) t = (4, 0) := by rw [jk_si]; exact kt
    have f1 := c_hasFlag kt' 1024
    rw [ji_si, if_pos ⟨rfl, rfl⟩, jB_t ((not_congr (fl_err _ h42 _ B2_1 _ h44)).mpr n1)] at f1
    refine ⟨0, jsi g t 6 (FL (mv g' a 42) 1 (mv g' a 44)), jsi g' 43 a 1, ?_, ?_, B2_0, ?_, (Fr.refl g).si ⟨rfl, rfl⟩, (Fr.refl g').si ⟨rfl, rfl⟩⟩
    · simp only [s42_0, s42_1, s42_4, s42_5, s42_6, s42_9, s42_12, s42_15, s42_18, s42_19, s42_22, s42_23, s42_26, s42_27, s42_30, s42_33, s42_36, s42_37, s42_39, s42_42, s42_45, s42_46, s42_49, s42_50, kt, pt2, kt1, h12, hpo, hib, s1, f1, n1, ↓reduceIte, va_rf_s, va_rf_n, jb_some, jb_none, jtl_s, jtl_n, if_true, if_false, true_and, and_true, false_and, and_false, or_true, true_or, or_false, false_or, not_true_eq_false, not_false_eq_true, jk_si, jp_si, jj_si, jk_sj, jp_sj, ji_sj, jk_ci, jp_ci, jj_ci, jk_cj, jp_cj, ji_cj, jlng_n, jlng_i, jlng_r, jlng_0]
    · simp only [s125_0, s125_1, s125_4, s125_6, s125_7, s125_8, s125_10, s125_11, s125_12, s125_13, s125_14, s125_15, s125_16, s125_18, s125_19, s125_22, s125_23, s125_24, s125_27, s125_28, s125_29, s125_32, s125_34, s125_37, s125_38, s125_41, s125_42, s125_43, s125_45, s125_48, s125_49, s125_52, s125_53, s125_54, s125_56, s125_57, s125_60, s125_61, s125_64, s125_65, k30 qm, k37 qm, k42 qm, k43 qm, p30_6 qm, p30_11 qm, p30_12 qm, e1, d4, d5, b4, b5, z, h43, n1, show ((1 : Int32) = 0 ∨ (1 : Int32) = 1) by decide, ↓reduceIte, va_rf_s, va_rf_n, jb_some, jb_none, jtl_s, jtl_n, if_true, if_false, true_and, and_true, false_and, and_false, or_true, true_or, or_false, false_or, not_true_eq_false, not_false_eq_true, jk_si, jp_si, jj_si, jk_sj, jp_sj, ji_sj, jk_ci, jp_ci, jj_ci, jk_cj, jp_cj, ji_cj, jlng_n, jlng_i, jlng_r, jlng_0]
    · rw [mv_si (by omega), tv_si]
      simp only [Sc, upd_e, Nat.reduceEqDiff, if_true, if_false]
      exact ⟨h0, h1, h2, ⟨h42, B2_1, h44, trivial⟩, h7, h8, h9, h10, h11, h12', h14⟩
theorem m_replyWith {g : jH} (q : MS g) (x : Int32) : jV 124 0 [some (.ref 30), some (.int x)] [] g = some (none, jsi (jsi g 73 0 x) 30 56 1) := by
  simp only [s124_0, s124_1, s124_4, s124_5, s124_6, s124_7, s124_8, s124_9, s124_12, k30 q, k73 q, p30_55 q, show jin 0 33 = true from by decide, show (0 : Int32).toNatClampNeg = 0 by decide, ↓reduceIte, va_rf_s, va_rf_n, jb_some, jb_none, jtl_s, jtl_n, if_true, if_false, true_and, and_true, false_and, and_false, or_true, true_or, or_false, false_or, not_true_eq_false, not_false_eq_true, jk_si, jp_si, jj_si, jk_sj, jp_sj, ji_sj, jk_ci, jp_ci, jj_ci, jk_cj, jp_cj, ji_cj, jlng_n, jlng_i, jlng_r, jlng_0]
/-- the first word of a reply -/
theorem rp_head {g2 g' : jH} {st : Int32} {b : Nat} (hb : b < 65536) (e : st = nI b) (h2 : WI g2 18 ([] ++ [65536 + st])) : Rp g2 (jsi (jsi g' 73 0 st) 30 56 1) [b] := by
  subst e
  refine ⟨⟨by simp, by simp, fun x hx => ?_⟩, ?_, by simp [ji_si]; rfl, fun i x hx => ?_⟩
  · rw [List.mem_singleton] at hx
    omega
  · have e : (65536 : Int32) + nI b = nI (65536 * 1 + b) := nI_add 65536 b
    rw [e] at h2
    exact h2
  · cases i with
    | zero =>
      simp at hx
      subst hx
      simp [ji_si]
    | succ j => simp at hx
/-- one data word more in a reply -/
theorem wl_snoc {bs : List Nat} (h : 1 ≤ bs.length) (b : Nat) : wl (bs ++ [b]) = wl bs ++ [nI b] := by
  cases bs with
  | nil => simp at h
  | cons c r =>
    show nI _ :: (r ++ [b]).map _ = _
    rw [List.map_append, List.map_singleton, Nat.mul_zero, Nat.zero_add]
    rfl
theorem rp_snoc {g g1 g' : jH} {bs : List Nat} (h : Rp g g' bs) (hl : bs.length < 33) {b : Nat} (hb : b < 65536) (h1 : WI g1 18 (wl bs ++ [nI b])) {s : Int32} (hs : s = nI (bs.length + 1)) : Rp g1 (jsi (jsi g' 73 bs.length (nI b)) 30 56 s) (bs ++ [b]) := by
  obtain ⟨⟨q1, q2, q3⟩, q4, q5, q6⟩ := h
  refine ⟨⟨by simp, by simp; omega, fun x hx => ?_⟩, by rw [wl_snoc q1]; exact h1, by rw [List.length_append, List.length_singleton, hs]; simp [ji_si], fun i x hx => ?_⟩
  · rcases List.mem_append.mp hx with z | z
    · exact q3 x z
    · rw [List.mem_singleton] at z
      omega
  · rw [ji_si, if_neg (by omega), ji_si]
    by_cases c : i = bs.length
    · subst c
      rw [List.getElem?_concat_length] at hx
      cases hx
      rw [if_pos ⟨rfl, rfl⟩]
    · have hl := (List.getElem?_eq_some_iff.mp hx).1
      rw [List.length_append, List.length_singleton] at hl
      rw [List.getElem?_append_left (by omega)] at hx
      rw [if_neg (by omega)]
      exact q6 i x hx
/-- answerStatus -/
theorem c_answerStatus {g g' : jH} {a t : Nat} (ha : a < 31) (ht : TSh g t) (hs : Sc (ji g t) (mv g' a) a) {R0 : List Int32} (hW : WI g 18 R0) : ∃ G b, jV 44 0 [some (.ref t), some (.ref 18)] [] g = some (some (.int (if mv g' a 44 = 0 then 1 else 0)), G) ∧ stI (mv g' a) a = nI b ∧ Off (wP 18) g G ∧ ∀ h' : jH, Rp G (jsi (jsi h' 73 0 (stI (mv g' a) a)) 30 56 1) [b] := by
  obtain ⟨h0, h1, h2, ⟨h42, h43, h44, h6⟩, h7, _⟩ := id hs
  obtain ⟨ht74, kt, _⟩ := id ht
  obtain ⟨g1, c1, W1, f1⟩ := w_clear hW
  obtain ⟨g2, c2, W2, f2⟩ := w_add W1 (by simp) (65536 + stI (mv g' a) a)
  have kt1 : jk g1 t = (4, 0) := by rw [f1.k]; exact kt
  have kt2 : jk g2 t = (4, 0) := by rw [f2.k]; exact kt1
  have i1 : ∀ k, ji g1 t k = ji g t k := fun k => f1.i (by unfold wP; omega)
  have i2 : ∀ k, ji g2 t k = ji g t k := fun k => (f2.i (by unfold wP; omega)).trans (i1 k)
  obtain ⟨e1, e2⟩ := st_eq ha hs
  have cs := c_status kt1
  rw [i1, i1, i1, e1] at cs
  have hf := c_hasFlag kt2 16
  rw [i2, h6] at hf
  have w16 := fl_all _ h42 _ h43 _ h44
  obtain ⟨b, hb, e3⟩ := isD_nI e2
  refine ⟨g2, b, ?_, e3, f1.trans f2, fun h' => rp_head hb e3 W2⟩
  by_cases z : mv g' a 44 = 0
  · rw [if_pos z]
    rw [jB_f (fun y => y (w16.mpr z))] at hf
    simp only [s44_0, s44_1, s44_4, s44_5, s44_7, s44_8, s44_11, s44_12, s44_15, s44_16, s44_18, s44_21, s44_24, s44_25, s44_28, s44_29, hW.1.1, W1.1.1, kt, kt1, kt2, c1, cs, c2, hf, ↓reduceIte, va_rf_s, va_rf_n, jb_some, jb_none, jtl_s, jtl_n, if_true, if_false, true_and, and_true, false_and, and_false, or_true, true_or, or_false, false_or, not_true_eq_false, not_false_eq_true, jk_si, jp_si, jj_si, jk_sj, jp_sj, ji_sj, jk_ci, jp_ci, jj_ci, jk_cj, jp_cj, ji_cj, jlng_n, jlng_i, jlng_r, jlng_0]
  · rw [if_neg z]
    rw [jB_t ((not_congr w16).mpr z)] at hf
    simp only [s44_0, s44_1, s44_4, s44_5, s44_7, s44_8, s44_11, s44_12, s44_15, s44_16, s44_18, s44_21, s44_24, s44_25, s44_28, s44_29, hW.1.1, W1.1.1, kt, kt1, kt2, c1, cs, c2, hf, n1, ↓reduceIte, va_rf_s, va_rf_n, jb_some, jb_none, jtl_s, jtl_n, if_true, if_false, true_and, and_true, false_and, and_false, or_true, true_or, or_false, false_or, not_true_eq_false, not_false_eq_true, jk_si, jp_si, jj_si, jk_sj, jp_sj, ji_sj, jk_ci, jp_ci, jj_ci, jk_cj, jp_cj, ji_cj, jlng_n, jlng_i, jlng_r, jlng_0]
/-- what a terminal sends: Places.send beside the loop of hear -/
theorem q_send {a t c : Nat} (ha : a < 31) {p cnt : Nat} (hc : c < 65536) (hp : pN c = p) (hcnt : cN c = cnt) (hp1 : 1 ≤ p) (hp30 : p ≤ 30) (l2 l3 l5 l6 : Int32) (lp : Option Value) : ∀ (n i : Nat) (g g' : jH) (bs : List Nat) (l7 : Option Value), i + n = cnt → CS g → MS g' → TSh g t → Pl g g' a t → Rp g g' bs → bs.length = 1 + i → ∃ G G' bs', jV 24 10 [some (.ref (t + 1)), lp, some (.int (nI cnt)), some (.ref 18), some (.int (nI ((p - 1) * 32))), some (.int (nI i)), l7] [] g = some (none, G) ∧ jV 126 410 [some (.ref 30), some (.int (nI a)), some (.int l2), some (.int l3), some (.int (nI c)), some (.int l5), some (.int l6), some (.int 1), some (.int (nI i))] [] g' = jV 126 472 [some (.ref 30), some (.int (nI a)), some (.int l2), some (.int l3), some (.int (nI c)), some (.int l5), some (.int l6), some (.int 1), some (.int (nI cnt))] [] G' ∧ Rp G G' bs' ∧ Off (wP 18) g G ∧ Fr (fun b k => b = 73 ∨ (b = 30 ∧ k = 56)) g' G'
  | 0, i, g, g', bs, l7, hi, qc, qm, ht, hP, hR, hl => by
    have hcl := (cN_le c).2
    have a1 : ¬ nI i < nI cnt := nI_nlt (by omega) (by omega)
    have on := o_countOf hc g'
    rw [hcnt] at on
    refine ⟨g, g', bs, ?_, ?_, hR, Fr.refl g, Fr.refl g'⟩
    · simp only [s24_10, s24_12, s24_13, s24_55, a1, ↓reduceIte, va_rf_s, va_rf_n, jb_some, jb_none, jtl_s, jtl_n, if_true, if_false, true_and, and_true, false_and, and_false, or_true, true_or, or_false, false_or, not_true_eq_false, not_false_eq_true, jk_si, jp_si, jj_si, jk_sj, jp_sj, ji_sj, jk_ci, jp_ci, jj_ci, jk_cj, jp_cj, ji_cj, jlng_n, jlng_i, jlng_r, jlng_0]
    · rw [show i = cnt by omega] at a1 ⊢
      simp only [s126_410, s126_412, s126_414, s126_417, on, a1, ↓reduceIte, va_rf_s, va_rf_n, jb_some, jb_none, jtl_s, jtl_n, if_true, if_false, true_and, and_true, false_and, and_false, or_true, true_or, or_false, false_or, not_true_eq_false, not_false_eq_true, jk_si, jp_si, jj_si, jk_sj, jp_sj, ji_sj, jk_ci, jp_ci, jj_ci, jk_cj, jp_cj, ji_cj, jlng_n, jlng_i, jlng_r, jlng_0]
  | n + 1, i, g, g', bs, l7, hi, qc, qm, ht, hP, hR, hl => by
    have hcl := (cN_le c).2
    obtain ⟨ht74, kt, pt2, pt3, kt1, pt10, pt11, kt2, kt3⟩ := id ht
    have a1 : nI i < nI cnt := nI_lt (by omega) (by omega)
    have on := o_countOf hc g'
    rw [hcnt] at on
    have op := o_placeOf hc g'
    rw [hp] at op
    obtain ⟨⟨hd, he⟩, _⟩ := hP ((p - 1) * 32 + i) (by omega)
    obtain ⟨b, hb, eb⟩ := isD_nI hd
    rw [eb] at he
    have he' : ji g' 35 (992 * a + 32 * p + i) = nI b := by rw [he]; congr 1; omega
    have e1 : nI ((p - 1) * 32) + nI i = nI ((p - 1) * 32 + i) := nI_add _ _
    have e2 : ((992 : Int32) * nI a + 32 * nI p) + nI i = nI (992 * a + 32 * p + i) := by
      show (nI 992 * nI a + nI 32 * nI p) + nI i = _
      rw [pk_mul, pk_mul, nI_add, nI_add]
    have e3 : (1 : Int32) + nI i = nI (1 + i) := nI_add 1 i
    have a2 : ¬ nI ((p - 1) * 32 + i) < 0 := nI_pos (by omega)
    have a3 : nI ((p - 1) * 32 + i) < nI 960 := nI_lt (by omega) (by omega)
    have a4 : jin (nI ((p - 1) * 32 + i)) 960 = true := jin_nI (by omega) (by omega)
    have a5 : (nI ((p - 1) * 32 + i)).toNatClampNeg = (p - 1) * 32 + i := nI_clamp (by omega)
    have b4 : jin (nI (992 * a + 32 * p + i)) 30752 = true := jin_nI (by omega) (by omega)
    have b5 : (nI (992 * a + 32 * p + i)).toNatClampNeg = 992 * a + 32 * p + i := nI_clamp (by omega)
    have d4 : jin (nI (1 + i)) 33 = true := jin_nI (by omega) (by omega)
    have d5 : (nI (1 + i)).toNatClampNeg = 1 + i := nI_clamp (by omega)
    obtain ⟨⟨q1, q2, q3⟩, hW, h56, h73⟩ := id hR
    obtain ⟨g1, hadd, hW1, f1⟩ := w_add hW (by rw [wl_len]; omega) (nI b)
    have hR1 := rp_snoc hR (by omega) hb hW1 (s := nI (bs.length + 1)) rfl
    have f1' : Fr (fun b k => b = 73 ∨ (b = 30 ∧ k = 56)) g' (jsi (jsi g' 73 bs.length (nI b)) 30 56 (nI (bs.length + 1))) := ((Fr.refl g').si (Or.inl rfl)).si (Or.inr ⟨rfl, rfl⟩)
    have hP1 : Pl g1 (jsi (jsi g' 73 bs.length (nI b)) 30 56 (nI (bs.length + 1))) a t := hP.fr f1 f1' (fun b k z => by unfold wP; omega) (fun b k z _ _ => by omega)
    obtain ⟨G, G', bs', hG, hG', hRG, fG, fG'⟩ := q_send ha hc hp hcnt hp1 hp30 l2 l3 l5 l6 lp n (i + 1) g1 _ (bs ++ [b]) (some (.int (nI ((p - 1) * 32 + i)))) (by omega) (f1.cs qc) (f1'.ms qm) (ht.fr f1) hP1 hR1 (by rw [List.length_append, List.length_singleton]; omega)
    refine ⟨G, G', bs', ?_, ?_, hRG, f1.trans fG, f1'.trans fG'⟩
    · rw [← hG]
      simp only [s24_12, s24_13, s24_16, s24_18, s24_20, s24_21, s24_23, s24_25, s24_28, s24_30, s24_31, s24_34, s24_35, s24_38, s24_39, s24_40, s24_43, s24_45, s24_46, s24_49, s24_52, s24_10 (x := nI i), a1, e1, a2, kt1, pt10, kt2, a3, a4, a5, eb, hW.1.1, hadd, nI_1, Nat.le_refl, Nat.reduceLeDiff, Nat.reduceEqDiff, ↓reduceIte, va_rf_s, va_rf_n, jb_some, jb_none, jtl_s, jtl_n, if_true, if_false, true_and, and_true, false_and, and_false, or_true, true_or, or_false, false_or, not_true_eq_false, not_false_eq_true, jk_si, jp_si, jj_si, jk_sj, jp_sj, ji_sj, jk_ci, jp_ci, jj_ci, jk_cj, jp_cj, ji_cj, jlng_n, jlng_i, jlng_r, jlng_0]
    · rw [← hG']
      simp only [s126_412, s126_414, s126_417, s126_420, s126_422, s126_425, s126_426, s126_429, s126_430, s126_432, s126_433, s126_434, s126_437, s126_440, s126_441, s126_442, s126_444, s126_446, s126_449, s126_450, s126_451, s126_453, s126_454, s126_455, s126_456, s126_457, s126_458, s126_461, s126_462, s126_463, s126_466, s126_469, s126_410 (x := nI i), on, op, a1, k30 qm, k35 qm, k73 qm, p30_4 qm, p30_55 qm, e2, e3, b4, b5, d4, d5, he', h56, hl, n1, nI_1, ji_si, Nat.reduceEqDiff, ↓reduceIte, va_rf_s, va_rf_n, jb_some, jb_none, jtl_s, jtl_n, if_true, if_false, true_and, and_true, false_and, and_false, or_true, true_or, or_false, false_or, not_true_eq_false, not_false_eq_true, jk_si, jp_si, jj_si, jk_sj, jp_sj, ji_sj, jk_ci, jp_ci, jj_ci, jk_cj, jp_cj, ji_cj, jlng_n, jlng_i, jlng_r, jlng_0]
/-- what a terminal gets: the reference's loops -/
theorem mg_loop {a c f : Nat} (ha : a < 31) {p cnt : Nat} (hc : c < 65536) (hp : pN c = p) (hcnt : cN c = cnt) (hp1 : 1 ≤ p) (hp30 : p ≤ 30) (hf : f + cnt ≤ 40) (l2 l3 l6 : Int32) (l8 : Option Value) : ∀ (n i : Nat) (g : jH), i + n = cnt → MS g → ∃ G, jV 126 249 [some (.ref 30), some (.int (nI a)), some (.int l2), some (.int l3), some (.int (nI c)), some (.int (nI f)), some (.int l6), some (.int (nI i)), l8] [] g = jV 126 297 [some (.ref 30), some (.int (nI a)), some (.int l2), some (.int l3), some (.int (nI c)), some (.int (nI f)), some (.int l6), some (.int (nI cnt)), l8] [] G ∧ Fr (fun b k => b = 36 ∧ 992 * a + 32 * p ≤ k ∧ k < 992 * a + 32 * p + cnt) g G ∧ (∀ j, i ≤ j → j < cnt → ji G 36 (992 * a + 32 * p + j) = ji g 68 (f + j)) ∧ ∀ j, j < i → ji G 36 (992 * a + 32 * p + j) = ji g 36 (992 * a + 32 * p + j)
  | 0, i, g, hi, qm => by
    have hcl := (cN_le c).2
    have a1 : ¬ nI i < nI cnt := nI_nlt (by omega) (by omega)
    have on := o_countOf hc g
    rw [hcnt] at on
    refine ⟨g, ?_, Fr.refl g, fun j h1 h2 => by omega, fun _ _ => rfl⟩
    rw [show i = cnt by omega] at a1 ⊢
    simp only [s126_249, s126_251, s126_253, s126_256, on, a1, ↓reduceIte, va_rf_s, va_rf_n, jb_some, jb_none, jtl_s, jtl_n, if_true, if_false, true_and, and_true, false_and, and_false, or_true, true_or, or_false, false_or, not_true_eq_false, not_false_eq_true, jk_si, jp_si, jj_si, jk_sj, jp_sj, ji_sj, jk_ci, jp_ci, jj_ci, jk_cj, jp_cj, ji_cj, jlng_n, jlng_i, jlng_r, jlng_0]
  | n + 1, i, g, hi, qm => by
    have hcl := (cN_le c).2
    have a1 : nI i < nI cnt := nI_lt (by omega) (by omega)
    have on := o_countOf hc g
    rw [hcnt] at on
    have op := o_placeOf hc g
    rw [hp] at op
    have e2 : ((992 : Int32) * nI a + 32 * nI p) + nI i = nI (992 * a + 32 * p + i) := by
      show (nI 992 * nI a + nI 32 * nI p) + nI i = _
      rw [pk_mul, pk_mul, nI_add, nI_add]
    have e3 : nI f + nI i = nI (f + i) := nI_add f i
    have b4 : jin (nI (992 * a + 32 * p + i)) 30752 = true := jin_nI (by omega) (by omega)
    have b5 : (nI (992 * a + 32 * p + i)).toNatClampNeg = 992 * a + 32 * p + i := nI_clamp (by omega)
    have d4 : jin (nI (f + i)) 40 = true := jin_nI (by omega) (by omega)
    have d5 : (nI (f + i)).toNatClampNeg = f + i := nI_clamp (by omega)
    have f1 : Fr (fun b k => b = 36 ∧ 992 * a + 32 * p ≤ k ∧ k < 992 * a + 32 * p + cnt) g (jsi g 36 (992 * a + 32 * p + i) (ji g 68 (f + i))) := (Fr.refl g).si ⟨rfl, by omega, by omega⟩
    obtain ⟨G, hG, fG, h1, h2⟩ := mg_loop ha hc hp hcnt hp1 hp30 hf l2 l3 l6 l8 n (i + 1) (jsi g 36 (992 * a + 32 * p + i) (ji g 68 (f + i))) (by omega) (f1.ms qm)
    refine ⟨G, ?_, f1.trans fG, fun j h3 h4 => ?_, fun j h3 => ?_⟩
    · rw [← hG]
      simp only [s126_251, s126_253, s126_256, s126_259, s126_260, s126_263, s126_266, s126_267, s126_268, s126_270, s126_272, s126_275, s126_276, s126_277, s126_279, s126_280, s126_281, s126_284, s126_286, s126_288, s126_289, s126_290, s126_291, s126_294, s126_249 (x := nI i), on, op, a1, k30 qm, k36 qm, k68 qm, p30_5 qm, p30_48 qm, e2, e3, b4, b5, d4, d5, nI_1, ↓reduceIte, va_rf_s, va_rf_n, jb_some, jb_none, jtl_s, jtl_n, if_true, if_false, true_and, and_true, false_and, and_false, or_true, true_or, or_false, false_or, not_true_eq_false, not_false_eq_true, jk_si, jp_si, jj_si, jk_sj, jp_sj, ji_sj, jk_ci, jp_ci, jj_ci, jk_cj, jp_cj, ji_cj, jlng_n, jlng_i, jlng_r, jlng_0]
    · rcases Nat.eq_or_lt_of_le h3 with z | z
      · subst z
        rw [h2 i (by omega), ji_si, if_pos ⟨rfl, rfl⟩]
      · rw [h1 j (by omega) h4, ji_si, if_neg (by omega)]
    · rw [h2 j (by omega), ji_si, if_neg (by omega)]
theorem mga_loop {a c : Nat} (ha : a < 31) {p cnt : Nat} (hc : c < 65536) (hp : pN c = p) (hcnt : cN c = cnt) (hp1 : 1 ≤ p) (hp30 : p ≤ 30) (l2 l4 l6 : Int32) : ∀ (n i : Nat) (g : jH), i + n = cnt → MS g → ∃ G, jV 129 150 [some (.ref 30), some (.int (nI a)), some (.int l2), some (.int (nI c)), some (.int l4), some (.int (nI cnt)), some (.int l6), some (.int (nI i))] [] g = jV 129 193 [some (.ref 30), some (.int (nI a)), some (.int l2), some (.int (nI c)), some (.int l4), some (.int (nI cnt)), some (.int l6), some (.int (nI cnt))] [] G ∧ Fr (fun b k => b = 36 ∧ 992 * a + 32 * p ≤ k ∧ k < 992 * a + 32 * p + cnt) g G ∧ (∀ j, i ≤ j → j < cnt → ji G 36 (992 * a + 32 * p + j) = ji g 69 (1 + j)) ∧ ∀ j, j < i → ji G 36 (992 * a + 32 * p + j) = ji g 36 (992 * a + 32 * p + j)
  | 0, i, g, hi, qm => by
    have hcl := (cN_le c).2
    have a1 : ¬ nI i < nI cnt := nI_nlt (by omega) (by omega)
    refine ⟨g, ?_, Fr.refl g, fun j h1 h2 => by omega, fun _ _ => rfl⟩
    rw [show i = cnt by omega] at a1 ⊢
    simp only [s129_150, s129_152, s129_154, a1, ↓reduceIte, va_rf_s, va_rf_n, jb_some, jb_none, jtl_s, jtl_n, if_true, if_false, true_and, and_true, false_and, and_false, or_true, true_or, or_false, false_or, not_true_eq_false, not_false_eq_true, jk_si, jp_si, jj_si, jk_sj, jp_sj, ji_sj, jk_ci, jp_ci, jj_ci, jk_cj, jp_cj, ji_cj, jlng_n, jlng_i, jlng_r, jlng_0]
  | n + 1, i, g, hi, qm => by
    have hcl := (cN_le c).2
    have a1 : nI i < nI cnt := nI_lt (by omega) (by omega)
    have op := o_placeOf hc g
    rw [hp] at op
    have e2 : ((992 : Int32) * nI a + 32 * nI p) + nI i = nI (992 * a + 32 * p + i) := by
      show (nI 992 * nI a + nI 32 * nI p) + nI i = _
      rw [pk_mul, pk_mul, nI_add, nI_add]
    have e3 : (1 : Int32) + nI i = nI (1 + i) := nI_add 1 i
    have b4 : jin (nI (992 * a + 32 * p + i)) 30752 = true := jin_nI (by omega) (by omega)
    have b5 : (nI (992 * a + 32 * p + i)).toNatClampNeg = 992 * a + 32 * p + i := nI_clamp (by omega)
    have d4 : jin (nI (1 + i)) 80 = true := jin_nI (by omega) (by omega)
    have d5 : (nI (1 + i)).toNatClampNeg = 1 + i := nI_clamp (by omega)
    have f1 : Fr (fun b k => b = 36 ∧ 992 * a + 32 * p ≤ k ∧ k < 992 * a + 32 * p + cnt) g (jsi g 36 (992 * a + 32 * p + i) (ji g 69 (1 + i))) := (Fr.refl g).si ⟨rfl, by omega, by omega⟩
    obtain ⟨G, hG, fG, h1, h2⟩ := mga_loop ha hc hp hcnt hp1 hp30 l2 l4 l6 n (i + 1) (jsi g 36 (992 * a + 32 * p + i) (ji g 69 (1 + i))) (by omega) (f1.ms qm)
    refine ⟨G, ?_, f1.trans fG, fun j h3 h4 => ?_, fun j h3 => ?_⟩
    · rw [← hG]
      simp only [s129_152, s129_154, s129_157, s129_158, s129_161, s129_164, s129_165, s129_166, s129_168, s129_169, s129_172, s129_173, s129_174, s129_176, s129_177, s129_178, s129_181, s129_182, s129_184, s129_185, s129_186, s129_187, s129_190, s129_150 (x := nI i), op, a1, k30 qm, k36 qm, k69 qm, p30_5 qm, p30_50 qm, e2, e3, b4, b5, d4, d5, nI_1, ↓reduceIte, va_rf_s, va_rf_n, jb_some, jb_none, jtl_s, jtl_n, if_true, if_false, true_and, and_true, false_and, and_false, or_true, true_or, or_false, false_or, not_true_eq_false, not_false_eq_true, jk_si, jp_si, jj_si, jk_sj, jp_sj, ji_sj, jk_ci, jp_ci, jj_ci, jk_cj, jp_cj, ji_cj, jlng_n, jlng_i, jlng_r, jlng_0]
    · rcases Nat.eq_or_lt_of_le h3 with z | z
      · subst z
        rw [h2 i (by omega), ji_si, if_pos ⟨rfl, rfl⟩]
      · rw [h1 j (by omega) h4, ji_si, if_neg (by omega)]
    · rw [h2 j (by omega), ji_si, if_neg (by omega)]
/-- the words got, in both -/
theorem pl_got {g g' G' : jH} {a t p cnt w f : Nat} {L : List Int32} (hP : Pl g g' a t) (hp1 : 1 ≤ p) (hp30 : p ≤ 30) (hcnt : cnt ≤ 32) (hW : WI g w L) (hw : w + 2 < t) (hf : f + cnt ≤ L.length) (fG : Fr (fun b k => b = 36 ∧ 992 * a + 32 * p ≤ k ∧ k < 992 * a + 32 * p + cnt) g' G') (hG : ∀ (j : Nat) (x : Int32), j < cnt → L[f + j]? = some x → ji G' 36 (992 * a + 32 * p + j) = x) : Pl (jci g (t + 3) (va_cpy (ji g (w + 1)) (ji g (t + 3)) f ((p - 1) * 32) cnt)) G' a t := by
  intro i hi
  obtain ⟨h1, h2⟩ := hP i hi
  rw [ji_ci, if_neg (by omega), ji_ci, if_pos rfl, fG.i (show ¬ (35 = 36 ∧ _) by omega)]
  refine ⟨h1, ?_⟩
  by_cases c : (p - 1) * 32 ≤ i ∧ i < (p - 1) * 32 + cnt
  · rw [pk_cpy_in c.1 c.2]
    have hq : L[f + (i - (p - 1) * 32)]? = some L[f + (i - (p - 1) * 32)] := List.getElem?_eq_getElem (by omega)
    have h3 := hG (i - (p - 1) * 32) _ (by omega) hq
    rw [hW.2.2.2.1 _ _ hq, ← h3]
    congr 1
    omega
  · rw [pk_cpy_out (by omega), fG.i (by omega)]
    exact h2
