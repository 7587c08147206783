/-! A NEW TRANSFER -/
def nR (g : jH) (n : Nat) (tc fc sd aw kp b l : Int32) : jH := jsi (jsi (jsi (jsi (jsi (jsi (jsi (jsi (jsi (jnew g 6 0 13) n 7 0) n 11 (-1)) n 0 tc) n 1 fc) n 2 sd) n 3 aw) n 4 kp) n 5 b) n 6 l
theorem nR_x (g : jH) (n : Nat) (tc fc sd aw kp b l : Int32) : (nR g n tc fc sd aw kp b l).2 = (g.2.1 + 1, g.2.2 + 13) := rfl
theorem nR_old {g : jH} {n : Nat} (hn : g.2.1 = n) (tc fc sd aw kp b' l : Int32) {b : Nat} (hb : b < n) : (nR g n tc fc sd aw kp b' l).1 b = g.1 b := by
  unfold nR
  rw [cl_si _ _ _ _ _ (by omega), cl_si _ _ _ _ _ (by omega), cl_si _ _ _ _ _ (by omega), cl_si _ _ _ _ _ (by omega), cl_si _ _ _ _ _ (by omega), cl_si _ _ _ _ _ (by omega), cl_si _ _ _ _ _ (by omega), cl_si _ _ _ _ _ (by omega), cl_si _ _ _ _ _ (by omega), cl_new _ _ _ _ _ (by omega)]
theorem nR_k {g : jH} {n : Nat} (hn : g.2.1 = n) (tc fc sd aw kp b l : Int32) : jk (nR g n tc fc sd aw kp b l) n = (6, 0) := by
  unfold nR
  simp [jk_si, jk_new, hn]
theorem nR_i {g : jH} {n : Nat} (hn : g.2.1 = n) (tc fc sd aw kp b l : Int32) (k : Nat) : ji (nR g n tc fc sd aw kp b l) n k = if k = 6 then l else if k = 5 then b else if k = 4 then kp else if k = 3 then aw else if k = 2 then sd else if k = 1 then fc else if k = 0 then tc else if k = 11 then -1 else 0 := by
  unfold nR
  simp only [ji_si, true_and]
  by_cases c6 : k = 6
  · rw [if_pos c6, if_pos c6]
  · rw [if_neg c6, if_neg c6]
    by_cases c5 : k = 5
    · rw [if_pos c5, if_pos c5]
    · rw [if_neg c5, if_neg c5]
      by_cases c4 : k = 4
      · rw [if_pos c4, if_pos c4]
      · rw [if_neg c4, if_neg c4]
        by_cases c3 : k = 3
        · rw [if_pos c3, if_pos c3]
        · rw [if_neg c3, if_neg c3]
          by_cases c2 : k = 2
          · rw [if_pos c2, if_pos c2]
          · rw [if_neg c2, if_neg c2]
            by_cases c1 : k = 1
            · rw [if_pos c1, if_pos c1]
            · rw [if_neg c1, if_neg c1]
              by_cases c0 : k = 0
              · rw [if_pos c0, if_pos c0]
              · rw [if_neg c0, if_neg c0]
                by_cases c11 : k = 11
                · rw [if_pos c11, if_pos c11]
                · rw [if_neg c11, if_neg c11]
                  by_cases c7 : k = 7
                  · rw [if_pos c7]
                  · rw [if_neg c7, ji_new, if_pos hn.symm]
theorem in_snd : ∀ k : Fin 32, (¬ nI k.val < 0 ∧ nI k.val < 32 ∧ ((851968 : Int32) >>> (nI k.val &&& 31)) &&& 1 = 1) ↔ sWd k.val := by decide +kernel
theorem c_cm {a s p c : Nat} (ha : a < 32) (hs : s ≤ 1) (hp : p < 32) (hc : c < 65536) (h : jH) : jV 2 0 [some (.int (nI a)), some (.int (nI s)), some (.int (nI p)), some (.int (nI c))] [] h = some (some (.int (nI (CM a s p c))), h) := by
  rw [c_of, ← CM_e ha hs hp hc]
  rcases (show s = 0 ∨ s = 1 by omega) with rfl | rfl
  · rfl
  · rfl
theorem i_transfer {g : jH} {n : Nat} (hn : g.2.1 = n) (tc fc c b l : Int32) : (jV 50 0 [some (.ref n), some (.int 0), some (.int tc), some (.int (-1)), some (.int c), some (.int b), some (.int l), none, none, none] [] (jnew g 6 0 13) = some (none, nR g n tc (-1) c 0 0 b l)) ∧ (¬ fc = -1 → jV 50 0 [some (.ref n), some (.int 1), some (.int tc), some (.int fc), some (.int c), some (.int b), some (.int l), none, none, none] [] (jnew g 6 0 13) = some (none, nR g n tc fc 0 c 1 b l)) ∧ (¬ fc = -1 → jV 50 0 [some (.ref n), some (.int 2), some (.int tc), some (.int fc), some (.int c), some (.int b), some (.int l), none, none, none] [] (jnew g 6 0 13) = some (none, nR g n tc fc 0 c 0 b l)) ∧ (∀ k, k < 32 → tc &&& 31 = nI k → jV 50 0 [some (.ref n), some (.int 3), some (.int tc), some (.int (-1)), some (.int c), some (.int b), some (.int l), none, none, none] [] (jnew g 6 0 13) = some (none, nR g n tc (-1) (nI (if hWd k then 1 else 0)) (nI (if sWd k then 1 else 0)) (nI (if sWd k then 1 else 0)) b l)) := by
  have k1 : jk (jnew g 6 0 13) n = (6, 0) := by rw [jk_new, if_pos hn.symm]
  have b0 : ((0 : Int32) = 0 ∨ (0 : Int32) = 1) := Or.inl rfl
  have b1 : ((1 : Int32) = 0 ∨ (1 : Int32) = 1) := Or.inr rfl
  refine ⟨?_, fun h => ?_, fun h => ?_, fun k hk hc => ?_⟩
  · unfold nR
    simp only [s50_0, s50_1, s50_4, s50_5, s50_6, s50_9, s50_10, s50_11, s50_14, s50_15, s50_18, s50_20, s50_21, s50_22, s50_25, s50_27, s50_29, s50_32, s50_35, s50_36, s50_39, s50_40, s50_42, s50_43, s50_44, s50_47, s50_49, s50_51, s50_54, s50_57, s50_58, s50_61, s50_62, s50_64, s50_65, s50_66, s50_69, s50_70, s50_71, s50_74, s50_75, s50_76, s50_79, s50_81, s50_84, s50_86, s50_89, s50_90, s50_93, s50_94, s50_97, s50_98, s50_99, s50_100, s50_103, s50_105, s50_108, s50_110, s50_113, s50_114, s50_117, s50_118, s50_121, s50_122, s50_123, s50_124, s50_127, s50_129, s50_132, s50_133, s50_136, s50_137, s50_140, s50_141, s50_143, s50_146, s50_147, s50_149, s50_152, k1, jk_si, c_codeOf, eq_false (show ¬ (0 : Int32) = 3 by decide), eq_false (show ¬ (0 : Int32) = 1 by decide), b0, ↓reduceIte, va_rf_s, va_rf_n, jb_some, jb_none, jtl_s, jtl_n, if_true, if_false, true_and, and_true, false_and, and_false, or_true, true_or, or_false, false_or, not_true_eq_false, not_false_eq_true, jk_si, jp_si, jj_si, jk_sj, jp_sj, ji_sj, jk_ci, jp_ci, jj_ci, jk_cj, jp_cj, ji_cj, jlng_n, jlng_i, jlng_r, jlng_0]
  · unfold nR
    simp only [s50_0, s50_1, s50_4, s50_5, s50_6, s50_9, s50_10, s50_11, s50_14, s50_15, s50_18, s50_20, s50_21, s50_22, s50_25, s50_27, s50_29, s50_32, s50_35, s50_36, s50_39, s50_40, s50_42, s50_43, s50_44, s50_47, s50_49, s50_51, s50_54, s50_57, s50_58, s50_61, s50_62, s50_64, s50_65, s50_66, s50_69, s50_70, s50_71, s50_74, s50_75, s50_76, s50_79, s50_81, s50_84, s50_86, s50_89, s50_90, s50_93, s50_94, s50_97, s50_98, s50_99, s50_100, s50_103, s50_105, s50_108, s50_110, s50_113, s50_114, s50_117, s50_118, s50_121, s50_122, s50_123, s50_124, s50_127, s50_129, s50_132, s50_133, s50_136, s50_137, s50_140, s50_141, s50_143, s50_146, s50_147, s50_149, s50_152, k1, jk_si, c_codeOf, eq_false (show ¬ (1 : Int32) = 3 by decide), eq_false h, n1, b1, ↓reduceIte, va_rf_s, va_rf_n, jb_some, jb_none, jtl_s, jtl_n, if_true, if_false, true_and, and_true, false_and, and_false, or_true, true_or, or_false, false_or, not_true_eq_false, not_false_eq_true, jk_si, jp_si, jj_si, jk_sj, jp_sj, ji_sj, jk_ci, jp_ci, jj_ci, jk_cj, jp_cj, ji_cj, jlng_n, jlng_i, jlng_r, jlng_0]
  · unfold nR
    simp only [s50_0, s50_1, s50_4, s50_5, s50_6, s50_9, s50_10, s50_11, s50_14, s50_15, s50_18, s50_20, s50_21, s50_22, s50_25, s50_27, s50_29, s50_32, s50_35, s50_36, s50_39, s50_40, s50_42, s50_43, s50_44, s50_47, s50_49, s50_51, s50_54, s50_57, s50_58, s50_61, s50_62, s50_64, s50_65, s50_66, s50_69, s50_70, s50_71, s50_74, s50_75, s50_76, s50_79, s50_81, s50_84, s50_86, s50_89, s50_90, s50_93, s50_94, s50_97, s50_98, s50_99, s50_100, s50_103, s50_105, s50_108, s50_110, s50_113, s50_114, s50_117, s50_118, s50_121, s50_122, s50_123, s50_124, s50_127, s50_129, s50_132, s50_133, s50_136, s50_137, s50_140, s50_141, s50_143, s50_146, s50_147, s50_149, s50_152, k1, jk_si, c_codeOf, eq_false (show ¬ (2 : Int32) = 3 by decide), eq_false (show ¬ (2 : Int32) = 1 by decide), eq_false (show ¬ (2 : Int32) = 0 by decide), eq_false h, b0, ↓reduceIte, va_rf_s, va_rf_n, jb_some, jb_none, jtl_s, jtl_n, if_true, if_false, true_and, and_true, false_and, and_false, or_true, true_or, or_false, false_or, not_true_eq_false, not_false_eq_true, jk_si, jp_si, jj_si, jk_sj, jp_sj, ji_sj, jk_ci, jp_ci, jj_ci, jk_cj, jp_cj, ji_cj, jlng_n, jlng_i, jlng_r, jlng_0]
  · have i3 := fun h : jH => (c_inSet 3276800 (nI k) h).trans (by rw [jB_cg (inTold ⟨k, hk⟩)])
    have i8 := fun h : jH => (c_inSet 851968 (nI k) h).trans (by rw [jB_cg (in_snd ⟨k, hk⟩)])
    unfold nR
    by_cases c1 : hWd k
    · have c2 : ¬ sWd k := by rintro (y | y | y) <;> rcases c1 with z | z | z <;> omega
      rw [if_pos c1, if_neg c2]
      have i3' : ∀ h : jH, jV 101 0 [some (.int 3276800), some (.int (nI k))] [] h = some (some (.int 1), h) := fun h => (i3 h).trans (by rw [jB_t (show (⟨k, hk⟩ : Fin 32).val = 17 ∨ (⟨k, hk⟩ : Fin 32).val = 20 ∨ (⟨k, hk⟩ : Fin 32).val = 21 from c1)])
      have i8' : ∀ h : jH, jV 101 0 [some (.int 851968), some (.int (nI k))] [] h = some (some (.int 0), h) := fun h => (i8 h).trans (by rw [jB_f (show ¬ sWd (⟨k, hk⟩ : Fin 32).val from c2)])
      simp only [s50_0, s50_1, s50_4, s50_5, s50_6, s50_9, s50_10, s50_11, s50_14, s50_15, s50_18, s50_20, s50_21, s50_22, s50_25, s50_27, s50_29, s50_32, s50_35, s50_36, s50_39, s50_40, s50_42, s50_43, s50_44, s50_47, s50_49, s50_51, s50_54, s50_57, s50_58, s50_61, s50_62, s50_64, s50_65, s50_66, s50_69, s50_70, s50_71, s50_74, s50_75, s50_76, s50_79, s50_81, s50_84, s50_86, s50_89, s50_90, s50_93, s50_94, s50_97, s50_98, s50_99, s50_100, s50_103, s50_105, s50_108, s50_110, s50_113, s50_114, s50_117, s50_118, s50_121, s50_122, s50_123, s50_124, s50_127, s50_129, s50_132, s50_133, s50_136, s50_137, s50_140, s50_141, s50_143, s50_146, s50_147, s50_149, s50_152, k1, jk_si, c_codeOf, hc, i3', i8', n1, eq_false (show ¬ (3 : Int32) = 0 by decide), eq_false (show ¬ (3 : Int32) = 1 by decide), b0, ↓reduceIte, va_rf_s, va_rf_n, jb_some, jb_none, jtl_s, jtl_n, if_true, if_false, true_and, and_true, false_and, and_false, or_true, true_or, or_false, false_or, not_true_eq_false, not_false_eq_true, jk_si, jp_si, jj_si, jk_sj, jp_sj, ji_sj, jk_ci, jp_ci, jj_ci, jk_cj, jp_cj, ji_cj, jlng_n, jlng_i, jlng_r, jlng_0]
      rfl
    · rw [if_neg c1]
      have i3' : ∀ h : jH, jV 101 0 [some (.int 3276800), some (.int (nI k))] [] h = some (some (.int 0), h) := fun h => (i3 h).trans (by rw [jB_f (show ¬ ((⟨k, hk⟩ : Fin 32).val = 17 ∨ (⟨k, hk⟩ : Fin 32).val = 20 ∨ (⟨k, hk⟩ : Fin 32).val = 21) from c1)])
      by_cases c2 : sWd k
      · rw [if_pos c2]
        have i8' : ∀ h : jH, jV 101 0 [some (.int 851968), some (.int (nI k))] [] h = some (some (.int 1), h) := fun h => (i8 h).trans (by rw [jB_t (show sWd (⟨k, hk⟩ : Fin 32).val from c2)])
        simp only [s50_0, s50_1, s50_4, s50_5, s50_6, s50_9, s50_10, s50_11, s50_14, s50_15, s50_18, s50_20, s50_21, s50_22, s50_25, s50_27, s50_29, s50_32, s50_35, s50_36, s50_39, s50_40, s50_42, s50_43, s50_44, s50_47, s50_49, s50_51, s50_54, s50_57, s50_58, s50_61, s50_62, s50_64, s50_65, s50_66, s50_69, s50_70, s50_71, s50_74, s50_75, s50_76, s50_79, s50_81, s50_84, s50_86, s50_89, s50_90, s50_93, s50_94, s50_97, s50_98, s50_99, s50_100, s50_103, s50_105, s50_108, s50_110, s50_113, s50_114, s50_117, s50_118, s50_121, s50_122, s50_123, s50_124, s50_127, s50_129, s50_132, s50_133, s50_136, s50_137, s50_140, s50_141, s50_143, s50_146, s50_147, s50_149, s50_152, k1, jk_si, c_codeOf, hc, i3', i8', n1, eq_false (show ¬ (3 : Int32) = 0 by decide), eq_false (show ¬ (3 : Int32) = 1 by decide), b1, ↓reduceIte, va_rf_s, va_rf_n, jb_some, jb_none, jtl_s, jtl_n, if_true, if_false, true_and, and_true, false_and, and_false, or_true, true_or, or_false, false_or, not_true_eq_false, not_false_eq_true, jk_si, jp_si, jj_si, jk_sj, jp_sj, ji_sj, jk_ci, jp_ci, jj_ci, jk_cj, jp_cj, ji_cj, jlng_n, jlng_i, jlng_r, jlng_0]
        rfl
      · rw [if_neg c2]
        have i8' : ∀ h : jH, jV 101 0 [some (.int 851968), some (.int (nI k))] [] h = some (some (.int 0), h) := fun h => (i8 h).trans (by rw [jB_f (show ¬ sWd (⟨k, hk⟩ : Fin 32).val from c2)])
        simp only [s50_0, s50_1, s50_4, s50_5, s50_6, s50_9, s50_10, s50_11, s50_14, s50_15, s50_18, s50_20, s50_21, s50_22, s50_25, s50_27, s50_29, s50_32, s50_35, s50_36, s50_39, s50_40, s50_42, s50_43, s50_44, s50_47, s50_49, s50_51, s50_54, s50_57, s50_58, s50_61, s50_62, s50_64, s50_65, s50_66, s50_69, s50_70, s50_71, s50_74, s50_75, s50_76, s50_79, s50_81, s50_84, s50_86, s50_89, s50_90, s50_93, s50_94, s50_97, s50_98, s50_99, s50_100, s50_103, s50_105, s50_108, s50_110, s50_113, s50_114, s50_117, s50_118, s50_121, s50_122, s50_123, s50_124, s50_127, s50_129, s50_132, s50_133, s50_136, s50_137, s50_140, s50_141, s50_143, s50_146, s50_147, s50_149, s50_152, k1, jk_si, c_codeOf, hc, i3', i8', n1, eq_false (show ¬ (3 : Int32) = 0 by decide), eq_false (show ¬ (3 : Int32) = 1 by decide), b0, ↓reduceIte, va_rf_s, va_rf_n, jb_some, jb_none, jtl_s, jtl_n, if_true, if_false, true_and, and_true, false_and, and_false, or_true, true_or, or_false, false_or, not_true_eq_false, not_false_eq_true, jk_si, jp_si, jj_si, jk_sj, jp_sj, ji_sj, jk_ci, jp_ci, jj_ci, jk_cj, jp_cj, ji_cj, jlng_n, jlng_i, jlng_r, jlng_0]
        rfl
/-- the class's store with one transfer more -/
def cR (g : jH) (n T : Nat) (tc fc sd aw kp b l : Int32) : jH := jsi (jsp (nR g n tc fc sd aw kp b l) 28 T (some n)) 1 5 (nI (T + 1))
/-- the reference's -/
def mR (g : jH) (T : Nat) (k f fp t tp c b l : Int32) : jH := jsi (jsi (jsi (jsi (jsi (jsi (jsi (jsi (jsi g 58 T k) 59 T f) 60 T fp) 61 T t) 62 T tp) 63 T c) 64 T b) 65 T l) 30 40 (nI (T + 1))
theorem mR_fr (g : jH) (T : Nat) (k f fp t tp c b l : Int32) : Fr (fun b k => (58 ≤ b ∧ b ≤ 65 ∧ k = T) ∨ (b = 30 ∧ k = 40)) g (mR g T k f fp t tp c b l) := by
  unfold mR
  exact (((((((((Fr.refl g).si (Or.inl ⟨by omega, by omega, rfl⟩)).si (Or.inl ⟨by omega, by omega, rfl⟩)).si (Or.inl ⟨by omega, by omega, rfl⟩)).si (Or.inl ⟨by omega, by omega, rfl⟩)).si (Or.inl ⟨by omega, by omega, rfl⟩)).si (Or.inl ⟨by omega, by omega, rfl⟩)).si (Or.inl ⟨by omega, by omega, rfl⟩)).si (Or.inl ⟨by omega, by omega, rfl⟩)).si (Or.inr ⟨rfl, rfl⟩)
theorem mR_i (g : jH) (T : Nat) (k f fp t tp c b l : Int32) : ji (mR g T k f fp t tp c b l) 58 T = k ∧ ji (mR g T k f fp t tp c b l) 59 T = f ∧ ji (mR g T k f fp t tp c b l) 60 T = fp ∧ ji (mR g T k f fp t tp c b l) 61 T = t ∧ ji (mR g T k f fp t tp c b l) 62 T = tp ∧ ji (mR g T k f fp t tp c b l) 63 T = c ∧ ji (mR g T k f fp t tp c b l) 64 T = b ∧ ji (mR g T k f fp t tp c b l) 65 T = l ∧ ji (mR g T k f fp t tp c b l) 30 40 = nI (T + 1) := by
  unfold mR
  simp [ji_si]
theorem tr_add {B T n : Nat} {g g' : jH} {k f fp t tp c b l tc fc sd aw kp bb : Int32} {C M : Option (Option Value × jH)} {Q : Value → Prop} (hR : RR B g g') (hB : B + 2430720 < 1610612736) (hT5 : ji g 1 5 = nI T) (hT24 : T < 24) (hn : g.2.1 = n) (hC : C = some (some (.int (nI T)), cR g n T tc fc sd aw kp bb l)) (hM : M = some (some (.int (nI T)), mR g' T k f fp t tp c b l)) (hl : l = 0 ∨ l = 1) (hK : KD (fun j => if j = 6 then l else if j = 5 then bb else if j = 4 then kp else if j = 3 then aw else if j = 2 then sd else if j = 1 then fc else if j = 0 then tc else if j = 11 then -1 else 0) (fun j => if j = 58 then k else if j = 59 then f else if j = 60 then fp else if j = 61 then t else if j = 62 then tp else if j = 63 then c else if j = 64 then b else l)) (hQ : Q (.int (nI T)) := by exact (show ∃ r, _ = Value.int r from ⟨_, rfl⟩)) : ∃ v G G', C = some (some v, G) ∧ M = some (some v, G') ∧ RR (B + 2430720) G G' ∧ (∀ b, 30 ≤ b → b ≤ 73 → G.1 b = g.1 b) ∧ (∀ b, ¬ (30 ≤ b ∧ b ≤ 73) → G'.1 b = g'.1 b) ∧ (G.1 0 = g.1 0) ∧ (g.2.1 ≤ G.2.1 ∧ G.2.1 ≤ g.2.1 + 7 ∧ G.2.2 ≤ g.2.2 + 2100) ∧ G'.2 = g'.2 ∧ Q v := by
  obtain ⟨hA, h4, hL, T', F, N, r, ⟨tT, tF, tr, tN⟩, ⟨a1, a2⟩, ⟨b1, b2⟩, ⟨c1, c2⟩, ⟨d1, d2⟩, hF, hTR⟩ := id hR
  have eT : T' = T := (e_eq (by omega) (by omega)).mp (a1.symm.trans hT5)
  subst eT
  obtain ⟨qc, qm, hRl, hS, hb, hw⟩ := id hA
  obtain ⟨e8, e9, e11, e7⟩ := id h4
  have h74 : 74 ≤ n := by rw [← hn]; exact hL.1
  have f' := mR_fr g' T' k f fp t tp c b l
  obtain ⟨m58, m59, m60, m61, m62, m63, m64, m65, m40⟩ := mR_i g' T' k f fp t tp c b l
  have old : ∀ b, b < n → (nR g n tc fc sd aw kp bb l).1 b = g.1 b := fun b hb => nR_old hn _ _ _ _ _ _ _ hb
  have nk := nR_k hn tc fc sd aw kp bb l
  have ni := nR_i hn tc fc sd aw kp bb l
  obtain ⟨G, hG⟩ : ∃ G, G = cR g n T' tc fc sd aw kp bb l := ⟨_, rfl⟩
  obtain ⟨G', hG'⟩ : ∃ G', G' = mR g' T' k f fp t tp c b l := ⟨_, rfl⟩
  rw [← hG] at hC
  rw [← hG'] at hM f' m58 m59 m60 m61 m62 m63 m64 m65 m40
  have hG2 : G = jsi (jsp (nR g n tc fc sd aw kp bb l) 28 T' (some n)) 1 5 (nI (T' + 1)) := hG
  have cE : ∀ b, ¬ b = 1 → ¬ b = 28 → G.1 b = (nR g n tc fc sd aw kp bb l).1 b := fun b h1 h2 => by rw [hG2, cl_si _ _ _ _ _ h1, cl_sp _ _ _ _ _ h2]
  have cO : ∀ b, b < n → ¬ b = 1 → ¬ b = 28 → G.1 b = g.1 b := fun b h0 h1 h2 => (cE b h1 h2).trans (old b h0)
  have Gk : ∀ b, b < n → jk G b = jk g b := fun b hb => by rw [hG2, jk_si, jk_sp, lk (old b hb)]
  have Gi1 : ∀ j, ¬ j = 5 → ji G 1 j = ji g 1 j := fun j hj => by rw [hG2, ji_si, if_neg (by omega), ji_sp, li (old 1 (by omega))]
  have Gp1 : ∀ j, jp G 1 j = jp g 1 j := fun j => by rw [hG2, jp_si, jp_sp, if_neg (by omega), lp (old 1 (by omega))]
  have Gp28 : ∀ j, jp G 28 j = if j = T' then some n else jp g 28 j := fun j => by
    rw [hG2, jp_si, jp_sp, lp (old 28 (by omega))]
    by_cases c : j = T'
    · rw [if_pos ⟨rfl, c⟩, if_pos c]
    · rw [if_neg (fun w => c w.2), if_neg c]
  have Gx : G.2 = (n + 1, g.2.2 + 13) := by rw [hG2]; show (nR g n tc fc sd aw kp bb l).2 = _; rw [nR_x, hn]
  have f0 : Fr (fun _ _ => False) g g := Fr.refl g
  obtain ⟨⟨L1, u1⟩, ⟨L2, u2⟩, ⟨L3, u3⟩, ⟨L4, u4⟩, ⟨L5, u5⟩⟩ := hw
  have hcs : CS G := ⟨fun b h1 h2 => by rw [Gk b (by omega)]; exact qc.1 b h1 h2, fun e he => by
    have := rCS_in e he
    have hne : ∀ e ∈ rCS, ¬ e.1.1 = 28 := by decide
    have h28 := hne e he
    by_cases c : e.1.1 = 1
    · rw [c, Gp1, ← c]; exact qc.2 e he
    · rw [lp (cO _ (by omega) c h28)]; exact qc.2 e he⟩
  have p11 := lp (cO 11 (by omega) (by omega) (by omega))
  have hS' : TS B G G' := by
    intro a2 ha2
    rw [p11]
    have hm : ∀ b k, mTA a2 b k → ¬ ((58 ≤ b ∧ b ≤ 65 ∧ k = T') ∨ (b = 30 ∧ k = 40)) := fun b k z w => by
      have := mTA_rg z
      omega
    rcases hS a2 ha2 with ⟨s1, s2, s3⟩ | ⟨t2, s1, s2, s3⟩
    · exact Or.inl ⟨s1, by rw [f'.i (by omega)]; exact s2, s3.fr f' hm⟩
    · have ht2 := hL.2.1 a2 t2 ha2 s1
      have h74' := s3.1.1
      exact Or.inr ⟨t2, s1, by rw [f'.i (by omega)]; exact s2, (s3.fr f0 f' (fun _ _ _ _ => id) hm).lc (fun b y1 y2 => cO b (by omega) (by omega) (by omega)) (fun _ _ _ => rfl)⟩
  have hA' : AT B G G' := ⟨hcs, f'.ms qm, (hRl.fr f0 f' (fun _ _ _ _ => id) (fun k z => by omega) (fun b k z1 z2 => by omega)).lc (fun b y1 y2 => cO b (by omega) (by omega) (by omega)) (fun _ _ _ => rfl), hS', fun k hk => by rw [li (cO 27 (by omega) (by omega) (by omega)), f'.i (by omega)]; exact hb k hk, ⟨L1, u1.lc (fun b y1 y2 => cO b (by omega) (by omega) (by omega))⟩, ⟨L2, u2.lc (fun b y1 y2 => cO b (by omega) (by omega) (by omega))⟩, ⟨L3, u3.lc (fun b y1 y2 => cO b (by omega) (by omega) (by omega))⟩, ⟨L4, u4.lc (fun b y1 y2 => cO b (by omega) (by omega) (by omega))⟩, ⟨L5, u5.lc (fun b y1 y2 => cO b (by omega) (by omega) (by omega))⟩⟩
  have i29 := li (cO 29 (by omega) (by omega) (by omega))
  have i10 := li (cO 10 (by omega) (by omega) (by omega))
  have cn := cE n (by omega) (by omega)
  have Gn : ∀ j, ji G n j = if j = 6 then l else if j = 5 then bb else if j = 4 then kp else if j = 3 then aw else if j = 2 then sd else if j = 1 then fc else if j = 0 then tc else if j = 11 then -1 else 0 := fun j => by rw [li cn]; exact ni j
  obtain ⟨o1, o2, o3⟩ := hTR
  have hln : ∃ ln, ln ≤ 1 ∧ l = nI ln := hl.elim (fun z => ⟨0, by omega, z⟩) (fun z => ⟨1, by omega, z⟩)
  obtain ⟨ln, hln1, hln2⟩ := hln
  have hKn : TK G G' T' n := by
    refine ⟨hT24, h74, by rw [lk cn]; exact nk, ⟨ln, hln1, by rw [Gn 6, if_pos rfl]; exact hln2, by rw [m65]; exact hln2⟩, hK.cg (fun j hj => Gn j) (fun j y1 y2 => ?_)⟩
    show ji G' j T' = _
    rcases (show j = 58 ∨ j = 59 ∨ j = 60 ∨ j = 61 ∨ j = 62 ∨ j = 63 ∨ j = 64 ∨ j = 65 by omega) with rfl | rfl | rfl | rfl | rfl | rfl | rfl | rfl
    · exact m58
    · exact m59
    · exact m60
    · exact m61
    · exact m62
    · exact m63
    · exact m64
    · exact m65
  have hRSn : RS G G' T' n := by
    intro j hj
    rw [Gn, f'.i (by omega), (o2 T' (Nat.le_refl _) hT24).2 j hj]
    rcases (show j = 0 ∨ j = 1 ∨ j = 2 ∨ j = 3 ∨ j = 4 ∨ j = 5 by omega) with rfl | rfl | rfl | rfl | rfl | rfl <;> rfl
  have hTT : TRF (T' + 1) G G' := by
    refine ⟨fun i hi => ?_, fun i y1 y2 => ?_, fun x y q2 hx hy y1 y2 => ?_⟩
    · rw [Gp28]
      by_cases c : i = T'
      · subst c
        rw [if_pos rfl]
        exact ⟨n, rfl, hKn, hRSn⟩
      · rw [if_neg c]
        obtain ⟨q, s1, s2, s3⟩ := o1 i (by omega)
        have hq := hL.2.2 i q (by omega) s1
        have hq74 := s2.2.1
        have ec := cO q (by omega) (by omega) (by omega)
        exact ⟨q, s1, (s2.fr f0 f' (fun _ _ => id) (fun l y1 y2 => by omega)).lc ec (fun _ _ _ => rfl), fun j hj => by rw [li ec, f'.i (by omega)]; exact s3 j hj⟩
    · rw [Gp28, if_neg (by omega)]
      obtain ⟨s1, s2⟩ := o2 i (by omega) y2
      exact ⟨s1, fun j hj => by rw [f'.i (by omega)]; exact s2 j hj⟩
    · rw [Gp28] at y1 y2
      by_cases cx : x = T'
      · by_cases cy : y = T'
        · omega
        · rw [if_pos cx] at y1
          rw [if_neg cy] at y2
          have e := Option.some.inj y1
          have := hL.2.2 y q2 (by omega) y2
          omega
      · by_cases cy : y = T'
        · rw [if_neg cx] at y1
          rw [if_pos cy] at y2
          have e := Option.some.inj y2
          have := hL.2.2 x q2 (by omega) y1
          omega
        · rw [if_neg cx] at y1
          rw [if_neg cy] at y2
          exact o3 x y q2 (by omega) (by omega) y1 y2
  have hR' : RR B G G' := by
    refine ⟨hA', ⟨by rw [Gi1 8 (by omega), f'.i (by omega)]; exact e8, by rw [Gi1 9 (by omega), f'.i (by omega)]; exact e9, by rw [Gi1 11 (by omega), f'.i (by omega)]; exact e11, by rw [i10, f'.i (by omega)]; exact e7⟩, ⟨by rw [Gx]; show 74 ≤ n + 1; omega, fun a2 t2 ha2 hp => ?_, fun i q hi hp => ?_⟩, T' + 1, F, N, r, ⟨by omega, tF, tr, tN⟩, ⟨by rw [hG2, ji_si, if_pos ⟨rfl, rfl⟩], m40⟩, ⟨by rw [Gi1 6 (by omega)]; exact b1, by rw [f'.i (by omega)]; exact b2⟩, ⟨by rw [Gi1 7 (by omega)]; exact c1, by rw [f'.i (by omega)]; exact c2⟩, ⟨by rw [Gi1 10 (by omega)]; exact d1, by rw [f'.i (by omega)]; exact d2⟩, fun k hk => ?_, hTT⟩
    · rw [p11] at hp
      rw [Gx]
      show t2 + 6 < n + 1
      have := hL.2.1 a2 t2 ha2 hp
      omega
    · rw [Gp28] at hp
      rw [Gx]
      show q < n + 1
      by_cases c : i = T'
      · rw [if_pos c] at hp
        have := Option.some.inj hp
        omega
      · rw [if_neg c] at hp
        have := hL.2.2 i q hi hp
        omega
    · rw [i29, f'.i (by omega)]
      obtain ⟨e, s1, s2, s3⟩ := hF k hk
      exact ⟨e, by omega, s2, s3⟩
  exact ⟨_, G, G', hC, hM, hR'.mono (Nat.le_add_right _ _) hB, fun b y1 y2 => cO b (by omega) (by omega) (by omega), fun b z => f'.cell (fun k => by omega), cO 0 (by omega) (by omega) (by omega), by rw [Gx, hn]; exact ⟨Nat.le_add_right _ _, by show n + 1 ≤ n + 7; omega, by show g.2.2 + 13 ≤ g.2.2 + 2100; omega⟩, f'.x, hQ⟩
