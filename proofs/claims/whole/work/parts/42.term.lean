/-! TERMINALS: what is related, and the small methods -/
def N16 : List Int32 := [0, 1, 4, 5, 8, 9, 12, 13, 256, 257, 260, 261, 264, 265, 268, 269]
abbrev B2 : List Int32 := [0, 1]
def FL (n e f : Int32) : Int32 := n + 1024 * e + 16 * f
theorem upd_e (f : Nat → Int32) (k : Nat) (v : Int32) (j : Nat) : upd f k v j = if j = k then v else f j := rfl
theorem fl_err : ∀ n ∈ N16, ∀ e ∈ B2, ∀ f ∈ B2, (FL n e f &&& 1024 = 0 ↔ e = 0) := by decide +kernel
theorem fl_all : ∀ n ∈ N16, ∀ e ∈ B2, ∀ f ∈ B2, (FL n e f &&& 16 = 0 ↔ f = 0) := by decide +kernel
theorem fl_busy : ∀ n ∈ N16, ∀ e ∈ B2, ∀ f ∈ B2, (FL n e f &&& 8 = 0 ↔ n &&& 8 = 0) := by decide +kernel
theorem fl_and1 : ∀ n ∈ N16, ∀ e ∈ B2, ∀ f ∈ B2, FL n e f &&& 1 = n &&& 1 := by decide +kernel
theorem fl_e1 : ∀ n ∈ N16, ∀ e ∈ B2, ∀ f ∈ B2, FL n e f ||| 1024 = FL n 1 f := by decide +kernel
theorem fl_e0 : ∀ n ∈ N16, ∀ e ∈ B2, ∀ f ∈ B2, FL n e f &&& ((1024 : Int32) ^^^ (-1)) = FL n 0 f := by decide +kernel
theorem fl_f1 : ∀ n ∈ N16, ∀ e ∈ B2, ∀ f ∈ B2, FL n e f ||| 16 = FL n e 1 := by decide +kernel
theorem fl_f0 : ∀ n ∈ N16, ∀ e ∈ B2, ∀ f ∈ B2, FL n e f &&& ((16 : Int32) ^^^ (-1)) = FL n e 0 := by decide +kernel
theorem fl_s0 : ∀ n ∈ N16, ∀ e ∈ B2, ∀ f ∈ B2, FL n e f &&& ((256 : Int32) ^^^ (-1)) = FL (n &&& (-257)) e f ∧ n &&& (-257) ∈ N16 := by decide +kernel
theorem fl_n : ∀ x ∈ ([256, 8, 4, 1] : List Int32), ∀ n ∈ N16, ∀ e ∈ B2, ∀ f ∈ B2, (FL n e f &&& ((x : Int32) ^^^ (-1)) = FL (n &&& (x ^^^ (-1))) e f ∧ n &&& (x ^^^ (-1)) ∈ N16) ∧ (FL n e f ||| x = FL (n ||| x) e f ∧ n ||| x ∈ N16) ∧ (FL n e f &&& x = 0 ↔ n &&& x = 0) := by decide +kernel
theorem fl_st : ∀ n ∈ N16, ∀ e ∈ B2, ∀ f ∈ B2, ∀ d ∈ B2, (if d = 0 then FL n e f else FL n e f &&& (-2)) = ((if e = 0 then 0 else 1024) ||| (if d = 0 then n else n &&& (-2))) ||| (if f = 0 then 0 else 16) ∧ (if d = 0 then FL n e f else FL n e f &&& (-2)) = nI (if d = 0 then FL n e f else FL n e f &&& (-2)).toNatClampNeg ∧ (if d = 0 then FL n e f else FL n e f &&& (-2)).toNatClampNeg < 2048 := by decide +kernel
/-- the reference's entries of a terminal -/
abbrev vL (l : Nat) : Prop := (32 ≤ l ∧ l ≤ 34) ∨ (38 ≤ l ∧ l ≤ 48)
def mv (g : jH) (a : Nat) : Nat → Int32 := fun l => if l = 133 then ji g 33 (31 + a) else if l = 134 then ji g 34 (31 + a) else if vL l then ji g l a else 0
theorem mv_133 (g : jH) (a : Nat) : mv g a 133 = ji g 33 (31 + a) := rfl
theorem mv_134 (g : jH) (a : Nat) : mv g a 134 = ji g 34 (31 + a) := rfl
theorem mv_v {g : jH} {a l : Nat} (h : vL l) : mv g a l = ji g l a := by
  unfold mv
  rw [if_neg (by omega), if_neg (by omega), if_pos h]
theorem mv_si {g : jH} {a l : Nat} {v : Int32} (h : vL l) : mv (jsi g l a v) a = upd (mv g a) l v := by
  funext j
  rw [upd_e]
  unfold mv
  by_cases c : j = l
  · subst c
    rw [if_pos rfl, if_neg (by omega), if_neg (by omega), if_pos h, ji_si, if_pos ⟨rfl, rfl⟩]
  · have e : ∀ b k, ¬ (b = l ∧ k = a) → ji (jsi g l a v) b k = ji g b k := fun b k z => by rw [ji_si, if_neg z]
    rw [if_neg c, e 33 (31 + a) (by omega), e 34 (31 + a) (by omega), e j a (fun z => c z.1)]
theorem mv_si34 {g : jH} {a : Nat} {v : Int32} : mv (jsi g 34 (31 + a) v) a = upd (mv g a) 134 v := by
  funext j
  rw [upd_e]
  unfold mv
  by_cases c : j = 134
  · subst c
    rw [if_pos rfl, if_neg (by omega), if_pos rfl, ji_si, if_pos ⟨rfl, rfl⟩]
  · have e : ∀ b k, ¬ (b = 34 ∧ k = 31 + a) → ji (jsi g 34 (31 + a) v) b k = ji g b k := fun b k z => by rw [ji_si, if_neg z]
    rw [if_neg c, if_neg c, if_neg c, e 33 (31 + a) (by omega), e j a (by omega)]
theorem mv_si33 {g : jH} {a : Nat} {v : Int32} : mv (jsi g 33 (31 + a) v) a = upd (mv g a) 133 v := by
  funext j
  rw [upd_e]
  unfold mv
  by_cases c : j = 133
  · subst c
    rw [if_pos rfl, if_pos rfl, ji_si, if_pos ⟨rfl, rfl⟩]
  · have e : ∀ b k, ¬ (b = 33 ∧ k = 31 + a) → ji (jsi g 33 (31 + a) v) b k = ji g b k := fun b k z => by rw [ji_si, if_neg z]
    rw [if_neg c, if_neg c, if_neg c, e 34 (31 + a) (by omega), e j a (by omega)]
theorem mv_fr {P : Nat → Nat → Prop} {g g' : jH} (f : Fr P g g') {a : Nat} (h1 : ∀ l, vL l → ¬ P l a) (h2 : ¬ P 33 (31 + a)) (h3 : ¬ P 34 (31 + a)) : mv g' a = mv g a := by
  funext j
  unfold mv
  rw [f.i h2, f.i h3]
  by_cases c : vL j
  · rw [if_pos c, if_pos c, f.i (h1 j c)]
  · rw [if_neg c, if_neg c]
theorem mv_no {g : jH} {a l k : Nat} {v : Int32} (h : ¬ vL l) : mv (jsi g l k v) a = mv g a :=
  mv_fr (P := fun b j => b = l ∧ j = k) ((Fr.refl g).si ⟨rfl, rfl⟩) (fun b hb z => h (z.1 ▸ hb)) (by intro z; exact h (by omega)) (by intro z; exact h (by omega))
theorem tv_si {g : jH} {t k : Nat} {v : Int32} : ji (jsi g t k v) t = upd (ji g t) k v := by
  funext j
  rw [ji_si, upd_e]
  by_cases c : j = k
  · rw [if_pos ⟨rfl, c⟩, if_pos c]
  · rw [if_neg (fun z => c z.2), if_neg c]
theorem tv_no {g : jH} {t l k : Nat} {v : Int32} (h : ¬ t = l) : ji (jsi g l k v) t = ji g t := by
  funext j
  rw [ji_si, if_neg (fun z => h z.1)]
theorem tv_fr {P : Nat → Nat → Prop} {g g' : jH} (f : Fr P g g') {t : Nat} (h : ∀ k, ¬ P t k) : ji g' t = ji g t := by
  funext j
  exact f.i (h j)
def Sc (f m : Nat → Int32) (a : Nat) : Prop :=
  (f 0 = nI a ∧ f 1 = m 32) ∧
  (m 33 ∈ B2 ∧ m 133 ∈ B2 ∧ f 4 = (1 - m 33) + 2 * (1 - m 133)) ∧
  (m 34 ∈ B2 ∧ m 134 ∈ B2 ∧ f 5 = m 34 + 2 * m 134) ∧
  (m 42 ∈ N16 ∧ m 43 ∈ B2 ∧ m 44 ∈ B2 ∧ f 6 = FL (m 42) (m 43) (m 44)) ∧
  (m 45 ∈ B2 ∧ f 7 = m 45) ∧
  (isD (m 38) ∧ f 8 = m 38) ∧ (isD (m 39) ∧ f 9 = m 39) ∧ f 10 = m 46 ∧ f 11 = m 40 ∧ ((m 41 = -1 ∨ isD (m 41)) ∧ f 12 = m 41) ∧ f 14 = m 48
/-- the shape of a terminal at t -/
def TSh (g : jH) (t : Nat) : Prop := 74 ≤ t ∧ jk g t = (4, 0) ∧ jp g t 2 = some (t + 1) ∧ jp g t 3 = some (t + 4) ∧ jk g (t + 1) = (3, 0) ∧ jp g (t + 1) 0 = some (t + 2) ∧ jp g (t + 1) 1 = some (t + 3) ∧ jk g (t + 2) = (20, 960) ∧ jk g (t + 3) = (20, 960)
theorem TSh.fr {P : Nat → Nat → Prop} {g g' : jH} {t : Nat} (h : TSh g t) (f : Fr P g g') : TSh g' t := by
  unfold TSh at h ⊢
  simp only [f.k, f.p]
  exact h
theorem c_hasFlag {g : jH} {t : Nat} (h : jk g t = (4, 0)) (x : Int32) : jV 28 0 [some (.ref t), some (.int x)] [] g = some (some (.int (jB (¬ ji g t 6 &&& x = 0))), g) := by
  by_cases c : ji g t 6 &&& x = 0
  · rw [jB_f (fun z => z c)]
    simp only [s28_0, s28_1, s28_4, s28_5, s28_6, s28_9, s28_10, s28_13, s28_14, h, c, ↓reduceIte, va_rf_s, va_rf_n, jb_some, jb_none, jtl_s, jtl_n, if_true, if_false, true_and, and_true, false_and, and_false, or_true, true_or, or_false, false_or, not_true_eq_false, not_false_eq_true, jk_si, jp_si, jj_si, jk_sj, jp_sj, ji_sj, jk_ci, jp_ci, jj_ci, jk_cj, jp_cj, ji_cj, jlng_n, jlng_i, jlng_r, jlng_0]
  · rw [jB_t c]
    simp only [s28_0, s28_1, s28_4, s28_5, s28_6, s28_9, s28_10, s28_13, s28_14, h, c, ↓reduceIte, va_rf_s, va_rf_n, jb_some, jb_none, jtl_s, jtl_n, if_true, if_false, true_and, and_true, false_and, and_false, or_true, true_or, or_false, false_or, not_true_eq_false, not_false_eq_true, jk_si, jp_si, jj_si, jk_sj, jp_sj, ji_sj, jk_ci, jp_ci, jj_ci, jk_cj, jp_cj, ji_cj, jlng_n, jlng_i, jlng_r, jlng_0]
theorem c_setFlag {g : jH} {t : Nat} (h : jk g t = (4, 0)) (x o : Int32) : jV 29 0 [some (.ref t), some (.int x), some (.int o)] [] g = some (none, jsi g t 6 (if o = 0 then ji g t 6 &&& (x ^^^ (-1)) else ji g t 6 ||| x)) := by
  by_cases c : o = 0
  · simp only [s29_0, s29_1, s29_2, s29_5, s29_6, s29_9, s29_10, s29_11, s29_14, s29_15, s29_18, s29_19, s29_20, s29_21, s29_22, s29_25, h, c, ↓reduceIte, va_rf_s, va_rf_n, jb_some, jb_none, jtl_s, jtl_n, if_true, if_false, true_and, and_true, false_and, and_false, or_true, true_or, or_false, false_or, not_true_eq_false, not_false_eq_true, jk_si, jp_si, jj_si, jk_sj, jp_sj, ji_sj, jk_ci, jp_ci, jj_ci, jk_cj, jp_cj, ji_cj, jlng_n, jlng_i, jlng_r, jlng_0]
  · simp only [s29_0, s29_1, s29_2, s29_5, s29_6, s29_9, s29_10, s29_11, s29_14, s29_15, s29_18, s29_19, s29_20, s29_21, s29_22, s29_25, h, c, ↓reduceIte, va_rf_s, va_rf_n, jb_some, jb_none, jtl_s, jtl_n, if_true, if_false, true_and, and_true, false_and, and_false, or_true, true_or, or_false, false_or, not_true_eq_false, not_false_eq_true, jk_si, jp_si, jj_si, jk_sj, jp_sj, ji_sj, jk_ci, jp_ci, jj_ci, jk_cj, jp_cj, ji_cj, jlng_n, jlng_i, jlng_r, jlng_0]
theorem c_status {g : jH} {t : Nat} (h : jk g t = (4, 0)) : jV 27 0 [some (.ref t)] [] g = some (some (.int ((ji g t 0 <<< ((11 : Int32) &&& 31)) ||| (if ji g t 7 = 0 then ji g t 6 else ji g t 6 &&& (-2)))), g) := by
  by_cases c : ji g t 7 = 0
  · simp only [s27_0, s27_1, s27_4, s27_6, s27_7, s27_8, s27_11, s27_14, s27_15, s27_18, s27_20, s27_21, s27_24, s27_25, s27_28, s27_29, h, c, ↓reduceIte, va_rf_s, va_rf_n, jb_some, jb_none, jtl_s, jtl_n, if_true, if_false, true_and, and_true, false_and, and_false, or_true, true_or, or_false, false_or, not_true_eq_false, not_false_eq_true, jk_si, jp_si, jj_si, jk_sj, jp_sj, ji_sj, jk_ci, jp_ci, jj_ci, jk_cj, jp_cj, ji_cj, jlng_n, jlng_i, jlng_r, jlng_0]
  · simp only [s27_0, s27_1, s27_4, s27_6, s27_7, s27_8, s27_11, s27_14, s27_15, s27_18, s27_20, s27_21, s27_24, s27_25, s27_28, s27_29, h, c, ↓reduceIte, va_rf_s, va_rf_n, jb_some, jb_none, jtl_s, jtl_n, if_true, if_false, true_and, and_true, false_and, and_false, or_true, true_or, or_false, false_or, not_true_eq_false, not_false_eq_true, jk_si, jp_si, jj_si, jk_sj, jp_sj, ji_sj, jk_ci, jp_ci, jj_ci, jk_cj, jp_cj, ji_cj, jlng_n, jlng_i, jlng_r, jlng_0]
/-- a terminal's status, in the reference -/
def stI (m : Nat → Int32) (a : Nat) : Int32 := (((nI a <<< ((11 : Int32) &&& 31)) ||| (if m 43 = 0 then 0 else 1024)) ||| (if m 45 = 0 then m 42 else m 42 &&& (-2))) ||| (if m 44 = 0 then 0 else 16)
theorem m_statusOf {g : jH} (q : MS g) {a : Nat} (ha : a < 31) : jV 112 0 [some (.ref 30), some (.int (nI a)), none] [] g = some (some (.int (stI (mv g a) a)), g) := by
  have a4 : jin (nI a) 31 = true := jin_nI ha (by omega)
  have a5 : (nI a).toNatClampNeg = a := nI_clamp (by omega)
  unfold stI
  rw [mv_v (by omega), mv_v (by omega), mv_v (by omega), mv_v (by omega)]
  by_cases c1 : ji g 45 a = 0
  · by_cases c2 : ji g 43 a = 0
    · by_cases c3 : ji g 44 a = 0
      · simp only [s112_0, s112_1, s112_4, s112_5, s112_6, s112_9, s112_10, s112_13, s112_14, s112_15, s112_17, s112_18, s112_21, s112_22, s112_25, s112_26, s112_27, s112_28, s112_29, s112_31, s112_32, s112_33, s112_36, s112_37, s112_38, s112_41, s112_44, s112_47, s112_48, s112_49, s112_50, s112_51, s112_52, s112_55, s112_56, s112_57, s112_60, s112_62, s112_65, s112_66, s112_67, k30 q, k42 q, k43 q, k44 q, k45 q, p30_11 q, p30_12 q, p30_13 q, p30_14 q, a4, a5, c1, c2, c3, ↓reduceIte, va_rf_s, va_rf_n, jb_some, jb_none, jtl_s, jtl_n, if_true, if_false, true_and, and_true, false_and, and_false, or_true, true_or, or_false, false_or, not_true_eq_false, not_false_eq_true, jk_si, jp_si, jj_si, jk_sj, jp_sj, ji_sj, jk_ci, jp_ci, jj_ci, jk_cj, jp_cj, ji_cj, jlng_n, jlng_i, jlng_r, jlng_0]
      · simp only [s112_0, s112_1, s112_4, s112_5, s112_6, s112_9, s112_10, s112_13, s112_14, s112_15, s112_17, s112_18, s112_21, s112_22, s112_25, s112_26, s112_27, s112_28, s112_29, s112_31, s112_32, s112_33, s112_36, s112_37, s112_38, s112_41, s112_44, s112_47, s112_48, s112_49, s112_50, s112_51, s112_52, s112_55, s112_56, s112_57, s112_60, s112_62, s112_65, s112_66, s112_67, k30 q, k42 q, k43 q, k44 q, k45 q, p30_11 q, p30_12 q, p30_13 q, p30_14 q, a4, a5, c1, c2, c3, ↓reduceIte, va_rf_s, va_rf_n, jb_some, jb_none, jtl_s, jtl_n, if_true, if_false, true_and, and_true, false_and, and_false, or_true, true_or, or_false, false_or, not_true_eq_false, not_false_eq_true, jk_si, jp_si, jj_si, jk_sj, jp_sj, ji_sj, jk_ci, jp_ci, jj_ci, jk_cj, jp_cj, ji_cj, jlng_n, jlng_i, jlng_r, jlng_0]
    · by_cases c3 : ji g 44 a = 0
      · simp only [s112_0, s112_1, s112_4, s112_5, s112_6, s112_9, s112_10, s112_13, s112_14, s112_15, s112_17, s112_18, s112_21, s112_22, s112_25, s112_26, s112_27, s112_28, s112_29, s112_31, s112_32, s112_33, s112_36, s112_37, s112_38, s112_41, s112_44, s112_47, s112_48, s112_49, s112_50, s112_51, s112_52, s112_55, s112_56, s112_57, s112_60, s112_62, s112_65, s112_66, s112_67, k30 q, k42 q, k43 q, k44 q, k45 q, p30_11 q, p30_12 q, p30_13 q, p30_14 q, a4, a5, c1, c2, c3, ↓reduceIte, va_rf_s, va_rf_n, jb_some, jb_none, jtl_s, jtl_n, if_true, if_false, true_and, and_true, false_and, and_false, or_true, true_or, or_false, false_or, not_true_eq_false, not_false_eq_true, jk_si, jp_si, jj_si, jk_sj, jp_sj, ji_sj, jk_ci, jp_ci, jj_ci, jk_cj, jp_cj, ji_cj, jlng_n, jlng_i, jlng_r, jlng_0]
      · simp only [s112_0, s112_1, s112_4, s112_5, s112_6, s112_9, s112_10, s112_13, s112_14, s112_15, s112_17, s112_18, s112_21, s112_22, s112_25, s112_26, s112_27, s112_28, s112_29, s112_31, s112_32, s112_33, s112_36, s112_37, s112_38, s112_41, s112_44, s112_47, s112_48, s112_49, s112_50, s112_51, s112_52, s112_55, s112_56, s112_57, s112_60, s112_62, s112_65, s112_66, s112_67, k30 q, k42 q, k43 q, k44 q, k45 q, p30_11 q, p30_12 q, p30_13 q, p30_14 q, a4, a5, c1, c2, c3, ↓reduceIte, va_rf_s, va_rf_n, jb_some, jb_none, jtl_s, jtl_n, if_true, if_false, true_and, and_true, false_and, and_false, or_true, true_or, or_false, false_or, not_true_eq_false, not_false_eq_true, jk_si, jp_si, jj_si, jk_sj, jp_sj, ji_sj, jk_ci, jp_ci, jj_ci, jk_cj, jp_cj, ji_cj, jlng_n, jlng_i, jlng_r, jlng_0]
  · by_cases c2 : ji g 43 a = 0
    · by_cases c3 : ji g 44 a = 0
      · simp only [s112_0, s112_1, s112_4, s112_5, s112_6, s112_9, s112_10, s112_13, s112_14, s112_15, s112_17, s112_18, s112_21, s112_22, s112_25, s112_26, s112_27, s112_28, s112_29, s112_31, s112_32, s112_33, s112_36, s112_37, s112_38, s112_41, s112_44, s112_47, s112_48, s112_49, s112_50, s112_51, s112_52, s112_55, s112_56, s112_57, s112_60, s112_62, s112_65, s112_66, s112_67, k30 q, k42 q, k43 q, k44 q, k45 q, p30_11 q, p30_12 q, p30_13 q, p30_14 q, a4, a5, c1, c2, c3, ↓reduceIte, va_rf_s, va_rf_n, jb_some, jb_none, jtl_s, jtl_n, if_true, if_false, true_and, and_true, false_and, and_false, or_true, true_or, or_false, false_or, not_true_eq_false, not_false_eq_true, jk_si, jp_si, jj_si, jk_sj, jp_sj, ji_sj, jk_ci, jp_ci, jj_ci, jk_cj, jp_cj, ji_cj, jlng_n, jlng_i, jlng_r, jlng_0]
      · simp only [s112_0, s112_1, s112_4, s112_5, s112_6, s112_9, s112_10, s112_13, s112_14, s112_15, s112_17, s112_18, s112_21, s112_22, s112_25, s112_26, s112_27, s112_28, s112_29, s112_31, s112_32, s112_33, s112_36, s112_37, s112_38, s112_41, s112_44, s112_47, s112_48, s112_49, s112_50, s112_51, s112_52, s112_55, s112_56, s112_57, s112_60, s112_62, s112_65, s112_66, s112_67, k30 q, k42 q, k43 q, k44 q, k45 q, p30_11 q, p30_12 q, p30_13 q, p30_14 q, a4, a5, c1, c2, c3, ↓reduceIte, va_rf_s, va_rf_n, jb_some, jb_none, jtl_s, jtl_n, if_true, if_false, true_and, and_true, false_and, and_false, or_true, true_or, or_false, false_or, not_true_eq_false, not_false_eq_true, jk_si, jp_si, jj_si, jk_sj, jp_sj, ji_sj, jk_ci, jp_ci, jj_ci, jk_cj, jp_cj, ji_cj, jlng_n, jlng_i, jlng_r, jlng_0]
    · by_cases c3 : ji g 44 a = 0
      · simp only [s112_0, s112_1, s112_4, s112_5, s112_6, s112_9, s112_10, s112_13, s112_14, s112_15, s112_17, s112_18, s112_21, s112_22, s112_25, s112_26, s112_27, s112_28, s112_29, s112_31, s112_32, s112_33, s112_36, s112_37, s112_38, s112_41, s112_44, s112_47, s112_48, s112_49, s112_50, s112_51, s112_52, s112_55, s112_56, s112_57, s112_60, s112_62, s112_65, s112_66, s112_67, k30 q, k42 q, k43 q, k44 q, k45 q, p30_11 q, p30_12 q, p30_13 q, p30_14 q, a4, a5, c1, c2, c3, ↓reduceIte, va_rf_s, va_rf_n, jb_some, jb_none, jtl_s, jtl_n, if_true, if_false, true_and, and_true, false_and, and_false, or_true, true_or, or_false, false_or, not_true_eq_false, not_false_eq_true, jk_si, jp_si, jj_si, jk_sj, jp_sj, ji_sj, jk_ci, jp_ci, jj_ci, jk_cj, jp_cj, ji_cj, jlng_n, jlng_i, jlng_r, jlng_0]
      · simp only [s112_0, s112_1, s112_4, s112_5, s112_6, s112_9, s112_10, s112_13, s112_14, s112_15, s112_17, s112_18, s112_21, s112_22, s112_25, s112_26, s112_27, s112_28, s112_29, s112_31, s112_32, s112_33, s112_36, s112_37, s112_38, s112_41, s112_44, s112_47, s112_48, s112_49, s112_50, s112_51, s112_52, s112_55, s112_56, s112_57, s112_60, s112_62, s112_65, s112_66, s112_67, k30 q, k42 q, k43 q, k44 q, k45 q, p30_11 q, p30_12 q, p30_13 q, p30_14 q, a4, a5, c1, c2, c3, ↓reduceIte, va_rf_s, va_rf_n, jb_some, jb_none, jtl_s, jtl_n, if_true, if_false, true_and, and_true, false_and, and_false, or_true, true_or, or_false, false_or, not_true_eq_false, not_false_eq_true, jk_si, jp_si, jj_si, jk_sj, jp_sj, ji_sj, jk_ci, jp_ci, jj_ci, jk_cj, jp_cj, ji_cj, jlng_n, jlng_i, jlng_r, jlng_0]
theorem or_11 {a l : Nat} (ha : a < 32) (hl : l < 2048) : (nI a <<< ((11 : Int32) &&& 31)) ||| nI l = nI (2048 * a + l) := by
  have h1 : nI a <<< ((11 : Int32) &&& 31) = nI (a * 2 ^ 11) := pk_shlN (11 &&& 31) 11 (by decide) (by omega)
  rw [h1]
  apply Int32.toBitVec_inj.1
  show BitVec.ofNat 32 (a * 2 ^ 11) ||| BitVec.ofNat 32 l = BitVec.ofNat 32 (2048 * a + l)
  rw [← BitVec.ofNat_or, ← Nat.shiftLeft_eq, ← Nat.shiftLeft_add_eq_or_of_lt (by omega), Nat.shiftLeft_eq]
  congr 1
  omega
/-- the two statuses are one, and sixteen bits -/
theorem st_eq {f m : Nat → Int32} {a : Nat} (ha : a < 31) (h : Sc f m a) : (f 0 <<< ((11 : Int32) &&& 31)) ||| (if f 7 = 0 then f 6 else f 6 &&& (-2)) = stI m a ∧ isD (stI m a) := by
  obtain ⟨⟨h0, _⟩, _, _, ⟨hn, he, hf, h6⟩, ⟨hd, h7⟩, _⟩ := h
  obtain ⟨e1, e2, e3⟩ := fl_st _ hn _ he _ hf _ hd
  have e4 : (f 0 <<< ((11 : Int32) &&& 31)) ||| (if f 7 = 0 then f 6 else f 6 &&& (-2)) = stI m a := by
    rw [h0, h6, h7, e1]
    unfold stI
    rw [Int32.or_assoc, Int32.or_assoc, Int32.or_assoc]
  refine ⟨e4, ?_⟩
  rw [← e4, h0, h6, h7, e2, or_11 (by omega) e3]
  exact nI_isD (by omega)
