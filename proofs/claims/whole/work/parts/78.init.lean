/-! THE START: the class's object -/
def gst (L : Nat) (xs : Nat → Int32) : jH := (fun a => if a = 0 then ((30, L), xs, fun _ => 0, fun _ => none) else ((0, 0), fun _ => 0, fun _ => 0, fun _ => none), 1, 0)
def sW (h : jH) (w n : Nat) : jH := jsp (jnew (jsp (jnew h 20 33 33) w 0 (some n)) 20 33 33) w 1 (some (n + 1))
theorem i_words {h : jH} {w n : Nat} (hn : h.2.1 = n) (hk : jk h w = (7, 0)) (hp : w < n) : jV 57 0 [some (.ref w)] [] h = some (none, sW h w n) := by
  subst hn
  have k1 : jk (jnew h 20 33 33) w = (7, 0) := by rw [jk_new, if_neg (by omega)]; exact hk
  have k2 : jk (jnew (jsp (jnew h 20 33 33) w 0 (some h.2.1)) 20 33 33) w = (7, 0) := by
    rw [jk_new, if_neg (by rw [jx_sp, jx_new]; show ¬ w = h.2.1 + 1; omega), jk_sp]; exact k1
  have e9 : (33 : Int32).toNatClampNeg = 33 := by decide
  simp only [s57_0, s57_1, s57_4, s57_5, s57_7 (x := 33) (hx := by decide), s57_9, s57_12, s57_13, s57_15 (x := 33) (hx := by decide), s57_17, s57_20, e9, k1, k2, ↓reduceIte, va_rf_s, va_rf_n, jb_some, jb_none, jtl_s, jtl_n, if_true, if_false, true_and, and_true, false_and, and_false, or_true, true_or, or_false, false_or, not_true_eq_false, not_false_eq_true, jk_si, jp_si, jj_si, jk_sj, jp_sj, ji_sj, jk_ci, jp_ci, jj_ci, jk_cj, jp_cj, ji_cj, jlng_n, jlng_i, jlng_r, jlng_0]
  rfl
def A1 (L : Nat) (xs : Nat → Int32) : jH := jnew (gst L xs) 8 0 12
def A2 (L : Nat) (xs : Nat → Int32) : jH := jnew (A1 L xs) 2 0 7
def A3a (L : Nat) (xs : Nat → Int32) : jH := jnew (jsp (jnew (jsp (jnew (jsp (jnew (jsp (jnew (A2 L xs) 20 64 64) 2 0 (some 3)) 20 64 64) 2 1 (some 4)) 20 64 64) 2 2 (some 5)) 20 64 64) 2 3 (some 6)) 5 0 3
def A3 (L : Nat) (xs : Nat → Int32) : jH := jsp (jsp (jnew (jsp (jnew (A3a L xs) 20 40 40) 7 0 (some 8)) 21 40 40) 7 1 (some 9)) 2 4 (some 7)
def A4 (L : Nat) (xs : Nat → Int32) : jH := jsp (A3 L xs) 1 0 (some 2)
def A5 (L : Nat) (xs : Nat → Int32) : jH := jnew (A4 L xs) 1 0 10
def B1 (L : Nat) (xs : Nat → Int32) : jH := jnew (jsp (jnew (A5 L xs) 23 31 31) 10 1 (some 11)) 7 0 5
def B2' (L : Nat) (xs : Nat → Int32) : jH := jnew (jsp (sW (B1 L xs) 12 13) 10 2 (some 12)) 7 0 5
def B3 (L : Nat) (xs : Nat → Int32) : jH := jnew (jsp (sW (B2' L xs) 15 16) 10 3 (some 15)) 7 0 5
def B4 (L : Nat) (xs : Nat → Int32) : jH := jnew (jsp (sW (B3 L xs) 18 19) 10 4 (some 18)) 7 0 5
def B5 (L : Nat) (xs : Nat → Int32) : jH := jnew (jsp (sW (B4 L xs) 21 22) 10 5 (some 21)) 7 0 5
def A6 (L : Nat) (xs : Nat → Int32) : jH := jsp (jsp (sW (B5 L xs) 24 25) 10 6 (some 24)) 10 0 (some 2)
def A7 (L : Nat) (xs : Nat → Int32) : jH := jsp (A6 L xs) 1 1 (some 10)
def A8 (L : Nat) (xs : Nat → Int32) : jH := jsp (jnew (A7 L xs) 20 512 512) 1 2 (some 27)
def A9 (L : Nat) (xs : Nat → Int32) : jH := jsp (jnew (A8 L xs) 24 24 24) 1 3 (some 28)
def A10 (L : Nat) (xs : Nat → Int32) : jH := jsp (jnew (A9 L xs) 20 8 8) 1 4 (some 29)
def A11 (L : Nat) (xs : Nat → Int32) : jH := jsi (jsi (A10 L xs) 1 10 1) 1 11 1000
theorem i_lines (L : Nat) (xs : Nat → Int32) : jV 16 0 [some (.ref 2)] [] (A2 L xs) = some (none, A3 L xs) := by
  have e9 : (64 : Int32).toNatClampNeg = 64 := by decide
  have htc := i_toCome (h := A3a L xs) (p := 7) (n := 40) (by omega) (by omega) rfl (by show 7 < 8; omega)
  rw [show nI 40 = 40 from rfl] at htc
  have x2 : (A2 L xs).2.1 = 3 := rfl
  have k0 : jk (jnew (A2 L xs) 20 64 64) 2 = (2, 0) := rfl
  have x3 : (jsp (jnew (A2 L xs) 20 64 64) 2 0 (some 3)).2.1 = 4 := rfl
  have k3 : jk (jnew (jsp (jnew (A2 L xs) 20 64 64) 2 0 (some 3)) 20 64 64) 2 = (2, 0) := rfl
  have x4 : (jsp (jnew (jsp (jnew (A2 L xs) 20 64 64) 2 0 (some 3)) 20 64 64) 2 1 (some 4)).2.1 = 5 := rfl
  have k4 : jk (jnew (jsp (jnew (jsp (jnew (A2 L xs) 20 64 64) 2 0 (some 3)) 20 64 64) 2 1 (some 4)) 20 64 64) 2 = (2, 0) := rfl
  have x5 : (jsp (jnew (jsp (jnew (jsp (jnew (A2 L xs) 20 64 64) 2 0 (some 3)) 20 64 64) 2 1 (some 4)) 20 64 64) 2 2 (some 5)).2.1 = 6 := rfl
  have k5 : jk (jnew (jsp (jnew (jsp (jnew (jsp (jnew (A2 L xs) 20 64 64) 2 0 (some 3)) 20 64 64) 2 1 (some 4)) 20 64 64) 2 2 (some 5)) 20 64 64) 2 = (2, 0) := rfl
  have x6 : (jsp (jnew (jsp (jnew (jsp (jnew (jsp (jnew (A2 L xs) 20 64 64) 2 0 (some 3)) 20 64 64) 2 1 (some 4)) 20 64 64) 2 2 (some 5)) 20 64 64) 2 3 (some 6)).2.1 = 7 := rfl
  have e3a : jnew (jsp (jnew (jsp (jnew (jsp (jnew (jsp (jnew (A2 L xs) 20 64 64) 2 0 (some 3)) 20 64 64) 2 1 (some 4)) 20 64 64) 2 2 (some 5)) 20 64 64) 2 3 (some 6)) 5 0 3 = A3a L xs := rfl
  have x8 : (A3a L xs).2.1 = 8 := rfl
  rw [x8] at htc
  have k8 : jk (jsp (jnew (jsp (jnew (A3a L xs) 20 40 40) 7 0 (some 8)) 21 40 40) 7 1 (some (8 + 1))) 2 = (2, 0) := rfl
  simp only [s16_0, s16_1, s16_4, s16_5, s16_7 (x := 64) (hx := by decide), s16_9, s16_12, s16_13, s16_15 (x := 64) (hx := by decide), s16_17, s16_20, s16_21, s16_23 (x := 64) (hx := by decide), s16_25, s16_28, s16_29, s16_31 (x := 64) (hx := by decide), s16_33, s16_36, s16_37, s16_40, s16_41, s16_43, s16_46, s16_49, e9, x2, k0, x3, k3, x4, k4, x5, k5, x6, e3a, htc, k8, ↓reduceIte, va_rf_s, va_rf_n, jb_some, jb_none, jtl_s, jtl_n, if_true, if_false, true_and, and_true, false_and, and_false, or_true, true_or, or_false, false_or, not_true_eq_false, not_false_eq_true, jk_si, jp_si, jj_si, jk_sj, jp_sj, ji_sj, jk_ci, jp_ci, jj_ci, jk_cj, jp_cj, ji_cj, jlng_n, jlng_i, jlng_r, jlng_0]
  rfl
theorem i_exch (L : Nat) (xs : Nat → Int32) : jV 9 0 [some (.ref 10), some (.ref 2)] [] (A5 L xs) = some (none, A6 L xs) := by
  have e9 : (31 : Int32).toNatClampNeg = 31 := by decide
  have x5 : (A5 L xs).2.1 = 11 := rfl
  have k0 : jk (jnew (A5 L xs) 23 31 31) 10 = (1, 0) := rfl
  have x6 : (jsp (jnew (A5 L xs) 23 31 31) 10 1 (some 11)).2.1 = 12 := rfl
  have d1 : jnew (jsp (jnew (A5 L xs) 23 31 31) 10 1 (some 11)) 7 0 5 = B1 L xs := rfl
  have w1 := i_words (h := B1 L xs) (w := 12) (n := 13) rfl rfl (by omega)
  have q1 : jk (sW (B1 L xs) 12 13) 10 = (1, 0) := rfl
  have y1 : (jsp (sW (B1 L xs) 12 13) 10 2 (some 12)).2.1 = 15 := rfl
  have d2 : jnew (jsp (sW (B1 L xs) 12 13) 10 2 (some 12)) 7 0 5 = B2' L xs := rfl
  have w2 := i_words (h := B2' L xs) (w := 15) (n := 16) rfl rfl (by omega)
  have q2 : jk (sW (B2' L xs) 15 16) 10 = (1, 0) := rfl
  have y2 : (jsp (sW (B2' L xs) 15 16) 10 3 (some 15)).2.1 = 18 := rfl
  have d3 : jnew (jsp (sW (B2' L xs) 15 16) 10 3 (some 15)) 7 0 5 = B3 L xs := rfl
  have w3 := i_words (h := B3 L xs) (w := 18) (n := 19) rfl rfl (by omega)
  have q3 : jk (sW (B3 L xs) 18 19) 10 = (1, 0) := rfl
  have y3 : (jsp (sW (B3 L xs) 18 19) 10 4 (some 18)).2.1 = 21 := rfl
  have d4 : jnew (jsp (sW (B3 L xs) 18 19) 10 4 (some 18)) 7 0 5 = B4 L xs := rfl
  have w4 := i_words (h := B4 L xs) (w := 21) (n := 22) rfl rfl (by omega)
  have q4 : jk (sW (B4 L xs) 21 22) 10 = (1, 0) := rfl
  have y4 : (jsp (sW (B4 L xs) 21 22) 10 5 (some 21)).2.1 = 24 := rfl
  have d5 : jnew (jsp (sW (B4 L xs) 21 22) 10 5 (some 21)) 7 0 5 = B5 L xs := rfl
  have w5 := i_words (h := B5 L xs) (w := 24) (n := 25) rfl rfl (by omega)
  have q5 : jk (sW (B5 L xs) 24 25) 10 = (1, 0) := rfl
  have q6 : jk (jsp (sW (B5 L xs) 24 25) 10 6 (some 24)) 10 = (1, 0) := rfl
  simp only [s9_0, s9_1, s9_4, s9_5, s9_7 (x := 31) (hx := by decide), s9_10, s9_13, s9_14, s9_17, s9_18, s9_21, s9_24, s9_25, s9_28, s9_29, s9_32, s9_35, s9_36, s9_39, s9_40, s9_43, s9_46, s9_47, s9_50, s9_51, s9_54, s9_57, s9_58, s9_61, s9_62, s9_65, s9_68, s9_69, s9_70, s9_73, e9, x5, k0, x6, d1, w1, q1, y1, d2, w2, q2, y2, d3, w3, q3, y3, d4, w4, q4, y4, d5, w5, q5, q6, ↓reduceIte, va_rf_s, va_rf_n, jb_some, jb_none, jtl_s, jtl_n, if_true, if_false, true_and, and_true, false_and, and_false, or_true, true_or, or_false, false_or, not_true_eq_false, not_false_eq_true, jk_si, jp_si, jj_si, jk_sj, jp_sj, ji_sj, jk_ci, jp_ci, jj_ci, jk_cj, jp_cj, ji_cj, jlng_n, jlng_i, jlng_r, jlng_0]
  rfl
theorem i_T (L : Nat) (xs : Nat → Int32) : jV 66 0 [some (.ref 1)] [] (A1 L xs) = some (none, A11 L xs) := by
  have e5 : (512 : Int32).toNatClampNeg = 512 := by decide
  have e2 : (24 : Int32).toNatClampNeg = 24 := by decide
  have e8 : (8 : Int32).toNatClampNeg = 8 := by decide
  have x1 : (A1 L xs).2.1 = 2 := rfl
  have d1 : jnew (A1 L xs) 2 0 7 = A2 L xs := rfl
  have il := i_lines L xs
  have k3 : jk (A3 L xs) 1 = (8, 0) := rfl
  have d4 : jsp (A3 L xs) 1 0 (some 2) = A4 L xs := rfl
  have x4 : (A4 L xs).2.1 = 10 := rfl
  have d5 : jnew (A4 L xs) 1 0 10 = A5 L xs := rfl
  have k5 : jk (A5 L xs) 1 = (8, 0) := rfl
  have p5 : jp (A5 L xs) 1 0 = some 2 := rfl
  have ie := i_exch L xs
  have k6 : jk (A6 L xs) 1 = (8, 0) := rfl
  have d7 : jsp (A6 L xs) 1 1 (some 10) = A7 L xs := rfl
  have x7 : (A7 L xs).2.1 = 27 := rfl
  have k7 : jk (jnew (A7 L xs) 20 512 512) 1 = (8, 0) := rfl
  have d8 : jsp (jnew (A7 L xs) 20 512 512) 1 2 (some 27) = A8 L xs := rfl
  have x8 : (A8 L xs).2.1 = 28 := rfl
  have k8 : jk (jnew (A8 L xs) 24 24 24) 1 = (8, 0) := rfl
  have d9 : jsp (jnew (A8 L xs) 24 24 24) 1 3 (some 28) = A9 L xs := rfl
  have x9 : (A9 L xs).2.1 = 29 := rfl
  have k9 : jk (jnew (A9 L xs) 20 8 8) 1 = (8, 0) := rfl
  have d10 : jsp (jnew (A9 L xs) 20 8 8) 1 4 (some 29) = A10 L xs := rfl
  have k10' : jk (A10 L xs) 1 = (8, 0) := rfl
  unfold A11
  simp only [s66_0, s66_1, s66_4, s66_5, s66_8, s66_9, s66_12, s66_15, s66_16, s66_19, s66_20, s66_21, s66_24, s66_27, s66_30, s66_31, s66_34 (x := 512) (hx := by decide), s66_36, s66_39, s66_40, s66_42 (x := 24) (hx := by decide), s66_45, s66_48, s66_49, s66_51 (x := 8) (hx := by decide), s66_53, s66_56, s66_57, s66_58, s66_61, s66_62, s66_65, s66_68, e5, e2, e8, x1, d1, il, k3, d4, x4, d5, k5, p5, ie, k6, d7, x7, k7, d8, x8, k8, d9, x9, k9, d10, k10', jk_si, ↓reduceIte, va_rf_s, va_rf_n, jb_some, jb_none, jtl_s, jtl_n, if_true, if_false, true_and, and_true, false_and, and_false, or_true, true_or, or_false, false_or, not_true_eq_false, not_false_eq_true, jk_si, jp_si, jj_si, jk_sj, jp_sj, ji_sj, jk_ci, jp_ci, jj_ci, jk_cj, jp_cj, ji_cj, jlng_n, jlng_i, jlng_r, jlng_0]
theorem A_cs (L : Nat) (xs : Nat → Int32) : CS (A11 L xs) := by
  refine ⟨fun a h1 h2 => ?_, fun e he => ?_⟩
  · rcases (show a = 1 ∨ a = 2 ∨ a = 3 ∨ a = 4 ∨ a = 5 ∨ a = 6 ∨ a = 7 ∨ a = 8 ∨ a = 9 ∨ a = 10 ∨ a = 11 ∨ a = 12 ∨ a = 13 ∨ a = 14 ∨ a = 15 ∨ a = 16 ∨ a = 17 ∨ a = 18 ∨ a = 19 ∨ a = 20 ∨ a = 21 ∨ a = 22 ∨ a = 23 ∨ a = 24 ∨ a = 25 ∨ a = 26 ∨ a = 27 ∨ a = 28 ∨ a = 29 by omega) with rfl | rfl | rfl | rfl | rfl | rfl | rfl | rfl | rfl | rfl | rfl | rfl | rfl | rfl | rfl | rfl | rfl | rfl | rfl | rfl | rfl | rfl | rfl | rfl | rfl | rfl | rfl | rfl | rfl <;> rfl
  · have key : ∀ l : List ((Nat × Nat) × Nat), (∀ e ∈ l, jp (A11 L xs) e.1.1 e.1.2 = some e.2) ↔ l.map (fun e => jp (A11 L xs) e.1.1 e.1.2) = l.map (fun e => some e.2) := fun l => by
      induction l with
      | nil => simp
      | cons x l ih => simp [ih]
    exact (key rCS).mpr rfl e he
theorem A_x (L : Nat) (xs : Nat → Int32) : (A11 L xs).2 = (30, 1298) := rfl
