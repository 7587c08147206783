/-! A NEW TERMINAL -/
theorem cl_new (h : jH) (k n z b : Nat) (hb : ¬ b = h.2.1) : (jnew h k n z).1 b = h.1 b := if_neg hb
theorem cl_si (h : jH) (a k : Nat) (v : Int32) (b : Nat) (hb : ¬ b = a) : (jsi h a k v).1 b = h.1 b := if_neg hb
theorem cl_sp (h : jH) (a k : Nat) (v : Option Nat) (b : Nat) (hb : ¬ b = a) : (jsp h a k v).1 b = h.1 b := if_neg hb
theorem i_places {h : jH} {p : Nat} (hk : jk h p = (3, 0)) (hp : p < h.2.1) : jV 19 0 [some (.ref p)] [] h = some (none, jsp (jnew (jsp (jnew h 20 960 960) p 0 (some h.2.1)) 20 960 960) p 1 (some (h.2.1 + 1))) := by
  have k1 : jk (jnew h 20 960 960) p = (3, 0) := by rw [jk_new, if_neg (by omega)]; exact hk
  have k2 : jk (jnew (jsp (jnew h 20 960 960) p 0 (some h.2.1)) 20 960 960) p = (3, 0) := by
    rw [jk_new, if_neg (by rw [jx_sp, jx_new]; show ¬ p = h.2.1 + 1; omega), jk_sp]; exact k1
  have e9 : (960 : Int32).toNatClampNeg = 960 := by decide
  simp only [s19_0, s19_1, s19_4, s19_5, s19_8 (x := 960) (hx := by decide), s19_10, s19_13, s19_14, s19_17 (x := 960) (hx := by decide), s19_19, s19_22, e9, k1, k2, ↓reduceIte, va_rf_s, va_rf_n, jb_some, jb_none, jtl_s, jtl_n, if_true, if_false, true_and, and_true, false_and, and_false, or_true, true_or, or_false, false_or, not_true_eq_false, not_false_eq_true, jk_si, jp_si, jj_si, jk_sj, jp_sj, ji_sj, jk_ci, jp_ci, jj_ci, jk_cj, jp_cj, ji_cj, jlng_n, jlng_i, jlng_r, jlng_0]
  rfl
theorem i_toCome {h : jH} {p n : Nat} (hn : n ≤ 1000) (hn1 : 1 ≤ n) (hk : jk h p = (5, 0)) (hp : p < h.2.1) : jV 45 0 [some (.ref p), some (.int (nI n))] [] h = some (none, jsp (jnew (jsp (jnew h 20 n n) p 0 (some h.2.1)) 21 n n) p 1 (some (h.2.1 + 1))) := by
  have k1 : jk (jnew h 20 n n) p = (5, 0) := by rw [jk_new, if_neg (by omega)]; exact hk
  have k2 : jk (jnew (jsp (jnew h 20 n n) p 0 (some h.2.1)) 21 n n) p = (5, 0) := by
    rw [jk_new, if_neg (by rw [jx_sp, jx_new]; show ¬ p = h.2.1 + 1; omega), jk_sp]; exact k1
  have e9 : (nI n).toNatClampNeg = n := nI_clamp (by omega)
  have hx : ¬ (nI n < 0 ∨ 1000000 < nI n) := by
    rintro (z | z)
    · exact nI_pos (by omega) z
    · exact nI_nlt (a := 1000000) (by omega) (by omega) z
  have em : (if (0 : Int32) < nI n then nI n else 0) = nI n := if_pos (nI_lt (a := 0) (by omega) (by omega))
  have em2 : (if nI n < (0 : Int32) then (0 : Int32) else nI n) = nI n := if_neg (nI_pos (by omega))
  simp only [s45_0, s45_1, s45_4, s45_5, s45_6, s45_7, em, em2, s45_10 (x := nI n) (hx := hx), s45_12, s45_15, s45_16, s45_17, s45_18, s45_21 (x := nI n) (hx := hx), s45_23, s45_26, e9, k1, k2, ↓reduceIte, va_rf_s, va_rf_n, jb_some, jb_none, jtl_s, jtl_n, if_true, if_false, true_and, and_true, false_and, and_false, or_true, true_or, or_false, false_or, not_true_eq_false, not_false_eq_true, jk_si, jp_si, jj_si, jk_sj, jp_sj, ji_sj, jk_ci, jp_ci, jj_ci, jk_cj, jp_cj, ji_cj, jlng_n, jlng_i, jlng_r, jlng_0]
  rfl
/-- the store with a new terminal in it -/
def nT (g : jH) (n : Nat) (x y : Int32) : jH :=
  jsi (jsi (jsi (jsi (jsp (jsp (jnew (jsp (jnew (jnew (jsp (jsp (jnew (jsp (jnew (jnew (jnew g 4 0 17) 3 0 4) 20 960 960) (n + 1) 0 (some (n + 2))) 20 960 960) (n + 1) 1 (some (n + 3))) n 2 (some (n + 1))) 5 0 3) 20 20 20) (n + 4) 0 (some (n + 5))) 21 20 20) (n + 4) 1 (some (n + 6))) n 3 (some (n + 4))) n 4 3) n 12 (-1)) n 0 x) n 1 y
theorem i_terminal {g : jH} {n : Nat} (hn : g.2.1 = n) (x y : Int32) : jV 26 0 [some (.ref n), some (.int x), some (.int y)] [] (jnew g 4 0 17) = some (none, nT g n x y) := by
  have x1 : (jnew g 4 0 17).2.1 = n + 1 := by rw [jx_new, hn]
  have k1 : jk (jnew g 4 0 17) n = (4, 0) := by rw [jk_new, if_pos hn.symm]
  have pk : jk (jnew (jnew g 4 0 17) 3 0 4) (n + 1) = (3, 0) := by rw [jk_new, if_pos x1.symm]
  have px : (jnew (jnew g 4 0 17) 3 0 4).2.1 = n + 2 := by rw [jx_new, x1]
  have hpl := i_places pk (by rw [px]; omega)
  rw [px] at hpl
  generalize hh : jsp (jnew (jsp (jnew (jnew (jnew g 4 0 17) 3 0 4) 20 960 960) (n + 1) 0 (some (n + 2))) 20 960 960) (n + 1) 1 (some (n + 2 + 1)) = s6 at hpl
  have s6x : s6.2.1 = n + 4 := by rw [← hh, jx_sp, jx_new, jx_sp, jx_new, px]
  have k6 : jk s6 n = (4, 0) := by
    rw [← hh, jk_sp, jk_new, if_neg (by rw [jx_sp, jx_new, px]; show ¬ n = n + 2 + 1; omega), jk_sp, jk_new, if_neg (by rw [px]; omega), jk_new, if_neg (by rw [x1]; omega)]
    exact k1
  have k7 : jk (jsp s6 n 2 (some (n + 1))) n = (4, 0) := by rw [jk_sp]; exact k6
  have x7 : (jsp s6 n 2 (some (n + 1))).2.1 = n + 4 := by rw [jx_sp]; exact s6x
  have tk : jk (jnew (jsp s6 n 2 (some (n + 1))) 5 0 3) (n + 4) = (5, 0) := by rw [jk_new, if_pos x7.symm]
  have tx : (jnew (jsp s6 n 2 (some (n + 1))) 5 0 3).2.1 = n + 5 := by rw [jx_new, x7]
  have htc := i_toCome (n := 20) (by omega) (by omega) tk (by rw [tx]; omega)
  rw [tx, show nI 20 = 20 from rfl] at htc
  generalize hh2 : jsp (jnew (jsp (jnew (jnew (jsp s6 n 2 (some (n + 1))) 5 0 3) 20 20 20) (n + 4) 0 (some (n + 5))) 21 20 20) (n + 4) 1 (some (n + 5 + 1)) = s12 at htc
  have k12 : jk s12 n = (4, 0) := by
    rw [← hh2, jk_sp, jk_new, if_neg (by rw [jx_sp, jx_new, tx]; show ¬ n = n + 5 + 1; omega), jk_sp, jk_new, if_neg (by rw [tx]; omega), jk_new, if_neg (by rw [x7]; omega)]
    exact k7
  have fin : nT g n x y = jsi (jsi (jsi (jsi (jsp s12 n 3 (some (n + 4))) n 4 3) n 12 (-1)) n 0 x) n 1 y := by
    rw [← hh2, ← hh]
    rfl
  rw [fin]
  simp only [s26_0, s26_1, s26_4, s26_5, s26_8, s26_9, s26_12, s26_15, s26_16, s26_19, s26_20, s26_22, s26_25, s26_28, s26_29, s26_30, s26_33, s26_34, s26_35, s26_38, s26_39, s26_40, s26_43, s26_44, s26_45, s26_48, k1, x1, hpl, k6, k7, x7, htc, k12, jk_sp, jk_si, ↓reduceIte, va_rf_s, va_rf_n, jb_some, jb_none, jtl_s, jtl_n, if_true, if_false, true_and, and_true, false_and, and_false, or_true, true_or, or_false, false_or, not_true_eq_false, not_false_eq_true, jk_si, jp_si, jj_si, jk_sj, jp_sj, ji_sj, jk_ci, jp_ci, jj_ci, jk_cj, jp_cj, ji_cj, jlng_n, jlng_i, jlng_r, jlng_0]
theorem nT_x (g : jH) (n : Nat) (x y : Int32) : (nT g n x y).2 = (g.2.1 + 7, g.2.2 + 1984) := rfl
theorem nT_old {g : jH} {n : Nat} (hn : g.2.1 = n) (x y : Int32) {b : Nat} (hb : b < n) : (nT g n x y).1 b = g.1 b := by
  unfold nT
  rw [cl_si _ _ _ _ _ (by omega), cl_si _ _ _ _ _ (by omega), cl_si _ _ _ _ _ (by omega), cl_si _ _ _ _ _ (by omega), cl_sp _ _ _ _ _ (by omega), cl_sp _ _ _ _ _ (by omega), cl_new _ _ _ _ _ (by show ¬ b = g.2.1 + 6; omega), cl_sp _ _ _ _ _ (by omega), cl_new _ _ _ _ _ (by show ¬ b = g.2.1 + 5; omega), cl_new _ _ _ _ _ (by show ¬ b = g.2.1 + 4; omega), cl_sp _ _ _ _ _ (by omega), cl_sp _ _ _ _ _ (by omega), cl_new _ _ _ _ _ (by show ¬ b = g.2.1 + 3; omega), cl_sp _ _ _ _ _ (by omega), cl_new _ _ _ _ _ (by show ¬ b = g.2.1 + 2; omega), cl_new _ _ _ _ _ (by show ¬ b = g.2.1 + 1; omega), cl_new _ _ _ _ _ (by omega)]
theorem nT_k {g : jH} {n : Nat} (hn : g.2.1 = n) (x y : Int32) : jk (nT g n x y) n = (4, 0) ∧ jk (nT g n x y) (n + 1) = (3, 0) ∧ jk (nT g n x y) (n + 2) = (20, 960) ∧ jk (nT g n x y) (n + 3) = (20, 960) ∧ jk (nT g n x y) (n + 4) = (5, 0) ∧ jk (nT g n x y) (n + 5) = (20, 20) ∧ jk (nT g n x y) (n + 6) = (21, 20) := by
  subst hn
  refine ⟨?_, ?_, ?_, ?_, ?_, ?_, ?_⟩ <;> (unfold nT; simp [jk_si, jk_sp, jk_new, jx_sp, jx_new, Nat.add_assoc])
theorem nT_p {g : jH} {n : Nat} (hn : g.2.1 = n) (x y : Int32) : jp (nT g n x y) n 2 = some (n + 1) ∧ jp (nT g n x y) n 3 = some (n + 4) ∧ jp (nT g n x y) (n + 1) 0 = some (n + 2) ∧ jp (nT g n x y) (n + 1) 1 = some (n + 3) ∧ jp (nT g n x y) (n + 4) 0 = some (n + 5) ∧ jp (nT g n x y) (n + 4) 1 = some (n + 6) := by
  subst hn
  refine ⟨?_, ?_, ?_, ?_, ?_, ?_⟩ <;> (unfold nT; simp [jp_si, jp_sp, jp_new, jx_sp, jx_new, Nat.add_assoc])
theorem nT_i {g : jH} {n : Nat} (hn : g.2.1 = n) (x y : Int32) : (∀ k, ji (nT g n x y) n k = if k = 1 then y else if k = 0 then x else if k = 12 then -1 else if k = 4 then 3 else 0) ∧ (∀ b k, n + 1 ≤ b → b ≤ n + 6 → ji (nT g n x y) b k = 0) := by
  subst hn
  refine ⟨fun k => ?_, fun b k h1 h2 => ?_⟩
  · unfold nT
    simp [ji_si, ji_sp, ji_new, jx_sp, jx_new, Nat.add_assoc]
  · rcases (show b = g.2.1 + 1 ∨ b = g.2.1 + 2 ∨ b = g.2.1 + 3 ∨ b = g.2.1 + 4 ∨ b = g.2.1 + 5 ∨ b = g.2.1 + 6 by omega) with rfl | rfl | rfl | rfl | rfl | rfl <;> (unfold nT; simp [ji_si, ji_sp, ji_new, jx_sp, jx_new, Nat.add_assoc])
theorem LB.n {g : jH} (h : LB g) : 74 ≤ g.2.1 := h.1
/-- the new terminal stands beside the address's entries -/
theorem nT_tm {B a n : Nat} {g h h' : jH} {y : Int32} (ha : a < 31) (hn : g.2.1 = n) (hn74 : 74 ≤ n) (hB : B < 1610612736) (hc : ∀ b, n ≤ b → b ≤ n + 6 → h.1 b = (nT g n (nI a) y).1 b) (hA : ∀ l, vL l → ji h' l a = if l = 41 then -1 else if l = 32 then y else 0) (h33 : ji h' 33 (31 + a) = 0) (h34 : ji h' 34 (31 + a) = 0) (hP : ∀ b k, b = 35 ∨ b = 36 → 992 * a ≤ k → k < 992 * a + 992 → ji h' b k = 0) (h37 : ∀ k, 62 * a ≤ k → k < 62 * a + 62 → ji h' 37 k = 0) (h50 : ji h' 50 a = 0) : TM B h h' a n := by
  obtain ⟨k0, k1, k2, k3, k4, k5, k6⟩ := nT_k hn (nI a) y
  obtain ⟨p2, p3, p10, p11, p40, p41⟩ := nT_p hn (nI a) y
  obtain ⟨i0, i1⟩ := nT_i hn (nI a) y
  have c0 := hc n (by omega) (by omega)
  have c1 := hc (n + 1) (by omega) (by omega)
  have c2 := hc (n + 2) (by omega) (by omega)
  have c3 := hc (n + 3) (by omega) (by omega)
  have c4 := hc (n + 4) (by omega) (by omega)
  have c5 := hc (n + 5) (by omega) (by omega)
  have c6 := hc (n + 6) (by omega) (by omega)
  have m : ∀ l, vL l → mv h' a l = if l = 41 then -1 else if l = 32 then y else 0 := fun l hl => (mv_v hl).trans (hA l hl)
  have m0 : ∀ l, vL l → ¬ l = 41 → ¬ l = 32 → mv h' a l = 0 := fun l hl h1 h2 => by rw [m l hl, if_neg h1, if_neg h2]
  have f0 : ∀ k, ¬ k = 1 → ¬ k = 0 → ¬ k = 12 → ¬ k = 4 → ji h n k = 0 := fun k h1 h2 h3 h4 => by rw [li c0, i0 k, if_neg h1, if_neg h2, if_neg h3, if_neg h4]
  refine ⟨⟨hn74, by rw [lk c0]; exact k0, by rw [lp c0]; exact p2, by rw [lp c0]; exact p3, by rw [lk c1]; exact k1, by rw [lp c1]; exact p10, by rw [lp c1]; exact p11, by rw [lk c2]; exact k2, by rw [lk c3]; exact k3⟩, ?_, ⟨hB, 0, [], [], by omega, ⟨f0 13 (by omega) (by omega) (by omega) (by omega), by rw [← mv_v (g := h') (l := 47) (by omega)]; exact m0 47 (by omega) (by omega) (by omega)⟩, ⟨⟨by rw [lk c4]; exact k4, by rw [lp c4]; exact p40, by rw [lp c4]; exact p41, by rw [lk c5]; exact k5, by rw [lk c6]; exact k6⟩, ⟨by omega, by simp⟩, by rw [li c4, i1 (n + 4) 2 (by omega) (by omega)]; rfl, fun i q hq => by simp at hq, List.Pairwise.nil⟩, ⟨by simp, by rw [h50]; rfl, fun i x hx => by simp at hx⟩, List.Perm.nil, fun q hq => by simp at hq⟩, ?_, ?_⟩
  · refine ⟨⟨?_, ?_⟩, ⟨?_, ?_, ?_⟩, ⟨?_, ?_, ?_⟩, ⟨?_, ?_, ?_, ?_⟩, ⟨?_, ?_⟩, ⟨?_, ?_⟩, ⟨?_, ?_⟩, ?_, ?_, ⟨?_, ?_⟩, ?_⟩
    · rw [li c0, i0 0, if_neg (by omega), if_pos rfl]
    · rw [li c0, i0 1, if_pos rfl, m 32 (by omega), if_neg (by omega), if_pos rfl]
    · rw [m0 33 (by omega) (by omega) (by omega)]; exact B2_0
    · rw [mv_133, h33]; exact B2_0
    · rw [li c0, i0 4, if_neg (by omega), if_neg (by omega), if_neg (by omega), if_pos rfl, m0 33 (by omega) (by omega) (by omega), mv_133, h33]; rfl
    · rw [m0 34 (by omega) (by omega) (by omega)]; exact B2_0
    · rw [mv_134, h34]; exact B2_0
    · rw [f0 5 (by omega) (by omega) (by omega) (by omega), m0 34 (by omega) (by omega) (by omega), mv_134, h34]; rfl
    · rw [m0 42 (by omega) (by omega) (by omega)]; decide
    · rw [m0 43 (by omega) (by omega) (by omega)]; exact B2_0
    · rw [m0 44 (by omega) (by omega) (by omega)]; exact B2_0
    · rw [f0 6 (by omega) (by omega) (by omega) (by omega), m0 42 (by omega) (by omega) (by omega), m0 43 (by omega) (by omega) (by omega), m0 44 (by omega) (by omega) (by omega)]; rfl
    · rw [m0 45 (by omega) (by omega) (by omega)]; exact B2_0
    · rw [f0 7 (by omega) (by omega) (by omega) (by omega), m0 45 (by omega) (by omega) (by omega)]
    · rw [m0 38 (by omega) (by omega) (by omega)]; decide
    · rw [f0 8 (by omega) (by omega) (by omega) (by omega), m0 38 (by omega) (by omega) (by omega)]
    · rw [m0 39 (by omega) (by omega) (by omega)]; decide
    · rw [f0 9 (by omega) (by omega) (by omega) (by omega), m0 39 (by omega) (by omega) (by omega)]
    · rw [f0 10 (by omega) (by omega) (by omega) (by omega), m0 46 (by omega) (by omega) (by omega)]
    · rw [f0 11 (by omega) (by omega) (by omega) (by omega), m0 40 (by omega) (by omega) (by omega)]
    · exact Or.inl (by rw [m 41 (by omega), if_pos rfl])
    · rw [li c0, i0 12, if_neg (by omega), if_neg (by omega), if_pos rfl, m 41 (by omega), if_pos rfl]
    · rw [f0 14 (by omega) (by omega) (by omega) (by omega), m0 48 (by omega) (by omega) (by omega)]
  · intro p hp1 hp30
    rw [li c1, i1 (n + 1) 2 (by omega) (by omega), i1 (n + 1) 3 (by omega) (by omega), h37 _ (by omega) (by omega), h37 _ (by omega) (by omega), bit_v 0 (show p < 32 by omega), b_0, if_neg (by decide)]
    exact ⟨⟨B2_0, rfl⟩, ⟨B2_0, rfl⟩⟩
  · intro i hi
    rw [li c2, li c3, i1 (n + 2) i (by omega) (by omega), i1 (n + 3) i (by omega) (by omega), hP 35 _ (by omega) (by omega) (by omega), hP 36 _ (by omega) (by omega) (by omega)]
    exact ⟨⟨by decide, rfl⟩, rfl⟩
theorem p_terminal (x y : Int32) : PR DD 67 140 [some (.ref 1), some (.int x), some (.int y)] [some (.ref 30), some (.int x), some (.int y)] := by
  intro B g g' hR hB
  obtain ⟨hA, h4, hL, T, F, N, r, ⟨tT, tF, tr, tN⟩, ⟨a1, a2⟩, ⟨b1, b2⟩, ⟨c1, c2⟩, ⟨d1, d2⟩, hF, hT⟩ := id hR; obtain ⟨qc, qm, hRl, hS, hb, hw⟩ := id hA
  obtain ⟨e8, e9, e11, e7⟩ := id h4
  have w1 := c_within x 0 30 g
  have w2 := c_isIn x 0 30 g'
  have v1 := c_within y 4 12 g
  have v2 := c_isIn y 4 12 g'
  by_cases q1 : ¬ x < 0 ∧ ¬ 30 < x
  · rw [jB_t q1] at w1 w2
    by_cases q2 : ¬ y < 4 ∧ ¬ 12 < y
    · rw [jB_t q2] at v1 v2
      obtain ⟨a, ha, rfl⟩ := rng (M := 30) (n := 30) rfl q1
      have ha31 : a < 31 := by omega
      have lt : nI a < 31 := nI_lt (b := 31) (by omega) (by omega)
      have b4 : jin (nI a) 31 = true := jin_nI (by omega) (by omega)
      have b5 : (nI a).toNatClampNeg = a := nI_clamp (by omega)
      rcases hS a ha31 with ⟨z1, z2, z3⟩ | ⟨t, z1, z2, z3⟩
      · -- made
        obtain ⟨n, hn⟩ : ∃ n, g.2.1 = n := ⟨_, rfl⟩
        have h74 : 74 ≤ n := by rw [← hn]; exact hL.1
        have it := i_terminal hn (nI a) y
        have old : ∀ b, b < n → (nT g n (nI a) y).1 b = g.1 b := fun b hb => nT_old hn (nI a) y hb
        have kn11 : jk (nT g n (nI a) y) 11 = (23, 31) := by rw [lk (old 11 (by omega))]; exact k11 qc
        have k10' : jk (nT g n (nI a) y) 10 = (1, 0) := by rw [lk (old 10 (by omega))]; exact k10 qc
        have kn : jk (nT g n (nI a) y) n = (4, 0) := (nT_k hn (nI a) y).1
        have i107 : ji (nT g n (nI a) y) 10 7 = ji g 10 7 := by rw [li (old 10 (by omega))]
        -- the stores
        have f' : Fr (fun b k => (b = 31 ∧ k = a) ∨ (b = 32 ∧ k = a) ∨ (b = 30 ∧ k = 20)) g' (jsi (jsi (jsi g' 31 a 1) 32 a y) 30 20 (ji g' 30 20 + 1)) := (((Fr.refl g').si (Or.inl ⟨rfl, rfl⟩)).si (Or.inr (Or.inl ⟨rfl, rfl⟩))).si (Or.inr (Or.inr ⟨rfl, rfl⟩))
        obtain ⟨G, hG⟩ : ∃ G, G = jsi (jsp (nT g n (nI a) y) 11 a (some n)) 10 7 (ji g 10 7 + 1) := ⟨_, rfl⟩
        obtain ⟨G', hG'⟩ : ∃ G', G' = jsi (jsi (jsi g' 31 a 1) 32 a y) 30 20 (ji g' 30 20 + 1) := ⟨_, rfl⟩
        rw [← hG'] at f'
        have cE : ∀ b, ¬ b = 10 → ¬ b = 11 → G.1 b = (nT g n (nI a) y).1 b := fun b h1 h2 => by rw [hG, cl_si _ _ _ _ _ h1, cl_sp _ _ _ _ _ h2]
        have cO : ∀ b, b < n → ¬ b = 10 → ¬ b = 11 → G.1 b = g.1 b := fun b h0 h1 h2 => (cE b h1 h2).trans (old b h0)
        have Gk : ∀ b, b < n → jk G b = jk g b := fun b hb => by rw [hG, jk_si, jk_sp, lk (old b hb)]
        have Gi10 : ∀ k, ¬ k = 7 → ji G 10 k = ji g 10 k := fun k hk => by rw [hG, ji_si, if_neg (by omega), ji_sp, li (old 10 (by omega))]
        have Gp10 : ∀ k, jp G 10 k = jp g 10 k := fun k => by rw [hG, jp_si, jp_sp, if_neg (by omega), lp (old 10 (by omega))]
        have Gp11 : ∀ k, jp G 11 k = if k = a then some n else jp g 11 k := fun k => by
          rw [hG, jp_si, jp_sp, lp (old 11 (by omega))]
          by_cases c : k = a
          · rw [if_pos ⟨rfl, c⟩, if_pos c]
          · rw [if_neg (fun w => c w.2), if_neg c]
        have Gx : G.2 = (n + 7, g.2.2 + 1984) := by rw [hG]; show (nT g n (nI a) y).2 = _; rw [nT_x, hn]
        have hcl : jV 67 0 [some (.ref 1), some (.int (nI a)), some (.int y)] [] g = some (some (.int (ji g 10 7 + 1)), G) := by
          have r7 : ji G 10 7 = ji g 10 7 + 1 := by rw [hG, ji_si, if_pos ⟨rfl, rfl⟩]
          have kG1 : jk G 1 = (8, 0) := by rw [Gk 1 (by omega)]; exact k1 qc
          have kG10 : jk G 10 = (1, 0) := by rw [Gk 10 (by omega)]; exact k10 qc
          have pG1 : jp G 1 1 = some 10 := by rw [lp (cO 1 (by omega) (by omega) (by omega))]; exact p1_1 qc
          have ad : jV 11 0 [some (.ref 10), some (.int (nI a)), some (.int y)] [] g = some (some (.int 1), G) := by
            rw [hG]
            simp only [s11_0, s11_1, s11_4, s11_5, s11_7, s11_10, s11_11, s11_14, s11_15, s11_16, s11_16n, s11_19, s11_20, s11_21, s11_22, s11_25, s11_26, s11_29, s11_30, s11_31, s11_32, s11_35, s11_36, s11_37, s11_38, s11_41, s11_42, s11_43, s11_46, s11_47, k10 qc, k11 qc, p10_1 qc, q1.1, lt, b4, b5, z1, hn, it, kn11, kn, k10', jk_sp, jk_si, ji_sp, i107, ↓reduceIte, va_rf_s, va_rf_n, jb_some, jb_none, jtl_s, jtl_n, if_true, if_false, true_and, and_true, false_and, and_false, or_true, true_or, or_false, false_or, not_true_eq_false, not_false_eq_true, jk_si, jp_si, jj_si, jk_sj, jp_sj, ji_sj, jk_ci, jp_ci, jj_ci, jk_cj, jp_cj, ji_cj, jlng_n, jlng_i, jlng_r, jlng_0]
          simp only [s67_0, s67_1, s67_2, s67_4, s67_7, s67_10, s67_11, s67_12, s67_14, s67_17, s67_20, s67_21, s67_22, s67_23, s67_26, s67_27, s67_28, s67_31, s67_34, s67_35, s67_38, s67_41, s67_44, s67_45, w1, v1, n1, k1 qc, k10 qc, p1_1 qc, ad, kG1, pG1, kG10, r7, ↓reduceIte, va_rf_s, va_rf_n, jb_some, jb_none, jtl_s, jtl_n, if_true, if_false, true_and, and_true, false_and, and_false, or_true, true_or, or_false, false_or, not_true_eq_false, not_false_eq_true, jk_si, jp_si, jj_si, jk_sj, jp_sj, ji_sj, jk_ci, jp_ci, jj_ci, jk_cj, jp_cj, ji_cj, jlng_n, jlng_i, jlng_r, jlng_0]
        have hmd : jV 140 0 [some (.ref 30), some (.int (nI a)), some (.int y)] [] g' = some (some (.int (ji g 10 7 + 1)), G') := by
          rw [hG', e7]
          simp only [s140_0, s140_1, s140_2, s140_4, s140_7, s140_10, s140_11, s140_12, s140_14, s140_17, s140_20, s140_21, s140_24, s140_25, s140_26, s140_29, s140_30, s140_31, s140_32, s140_35, s140_36, s140_37, s140_38, s140_39, s140_42, s140_43, s140_44, s140_45, s140_46, s140_47, s140_50, s140_51, s140_52, s140_55, s140_56, s140_59, w2, v2, n1, k30 qm, k31 qm, k32 qm, p30_0 qm, p30_1 qm, b4, b5, z2, jk_si, jp_si, ji_si, show ((1 : Int32) = 0 ∨ (1 : Int32) = 1) by decide, Nat.reduceEqDiff, ↓reduceIte, va_rf_s, va_rf_n, jb_some, jb_none, jtl_s, jtl_n, if_true, if_false, true_and, and_true, false_and, and_false, or_true, true_or, or_false, false_or, not_true_eq_false, not_false_eq_true, jk_si, jp_si, jj_si, jk_sj, jp_sj, ji_sj, jk_ci, jp_ci, jj_ci, jk_cj, jp_cj, ji_cj, jlng_n, jlng_i, jlng_r, jlng_0]
        have f0 : Fr (fun _ _ => False) g g := Fr.refl g
        have hBl : B < 1610612736 := by omega
        have hTn : TM B G G' a n := by
          obtain ⟨y1, y2, y3, y4, y5, y6⟩ := z3
          refine nT_tm ha31 hn h74 hBl (fun b h1 h2 => cE b (by omega) (by omega)) (fun l hl => ?_) (by rw [f'.i (by omega)]; exact y2) (by rw [f'.i (by omega)]; exact y3) (fun b k u1 u2 u3 => by rw [f'.i (by omega)]; exact y4 b k u1 u2 u3) (fun k u1 u2 => by rw [f'.i (by omega)]; exact y5 k u1 u2) (by rw [f'.i (by omega)]; exact y6)
          by_cases c32 : l = 32
          · subst c32
            rw [hG', ji_si, if_neg (by omega), ji_si, if_pos ⟨rfl, rfl⟩, if_neg (by omega), if_pos rfl]
          · rw [f'.i (by omega), y1 l hl, if_neg c32]
        obtain ⟨⟨L1, u1⟩, ⟨L2, u2⟩, ⟨L3, u3⟩, ⟨L4, u4⟩, ⟨L5, u5⟩⟩ := hw
        have hcs : CS G := ⟨fun b h1 h2 => by rw [Gk b (by omega)]; exact qc.1 b h1 h2, fun e he => by
          have := rCS_in e he
          have hne : ∀ e ∈ rCS, ¬ e.1.1 = 11 := by decide
          have h11 := hne e he
          by_cases c : e.1.1 = 10
          · rw [c, Gp10, ← c]; exact qc.2 e he
          · rw [lp (cO _ (by omega) c h11)]; exact qc.2 e he⟩
        have hTT : TRF T G G' := by
          obtain ⟨o1, o2, o3⟩ := hT
          have p28 := lp (cO 28 (by omega) (by omega) (by omega))
          refine ⟨fun i hi => ?_, fun i y1 y2 => ?_, fun a b q2 ha hb y1 y2 => o3 a b q2 ha hb (by rw [← p28]; exact y1) (by rw [← p28]; exact y2)⟩
          · obtain ⟨q, s1, s2, s3⟩ := o1 i hi
            have hq := hL.2.2 i q (by omega) s1
            have hq74 := s2.2.1
            have ec := cO q (by omega) (by omega) (by omega)
            exact ⟨q, by rw [p28]; exact s1, (s2.fr f0 f' (fun _ _ => id) (fun l y1 y2 => by omega)).lc ec (fun _ _ _ => rfl), fun j hj => by rw [li ec, f'.i (by omega)]; exact s3 j hj⟩
          · rw [p28]
            obtain ⟨s1, s2⟩ := o2 i y1 y2
            exact ⟨s1, fun j hj => by rw [f'.i (by omega)]; exact s2 j hj⟩
        have hS' : TS B G G' := by
          intro a2 ha2
          rw [Gp11 a2]
          by_cases c : a2 = a
          · subst c
            rw [if_pos rfl]
            exact Or.inr ⟨n, rfl, by rw [hG', ji_si, if_neg (by omega), ji_si, if_neg (by omega), ji_si, if_pos ⟨rfl, rfl⟩], hTn⟩
          · rw [if_neg c]
            have hm : ∀ b k, mTA a2 b k → ¬ ((b = 31 ∧ k = a) ∨ (b = 32 ∧ k = a) ∨ (b = 30 ∧ k = 20)) := fun b k z w => by
              have := mTA_rg z
              rcases z with ⟨y1, y2⟩ | ⟨y1, y2⟩ | ⟨y1, y2⟩ | ⟨y1, y2⟩ | ⟨y1, y2⟩ <;> omega
            rcases hS a2 ha2 with ⟨s1, s2, s3⟩ | ⟨t2, s1, s2, s3⟩
            · exact Or.inl ⟨s1, by rw [f'.i (by omega)]; exact s2, s3.fr f' hm⟩
            · have ht2 := hL.2.1 a2 t2 ha2 s1
              have h74' := s3.1.1
              exact Or.inr ⟨t2, s1, by rw [f'.i (by omega)]; exact s2, (s3.fr f0 f' (fun _ _ _ _ => id) hm).lc (fun b y1 y2 => cO b (by omega) (by omega) (by omega)) (fun _ _ _ => rfl)⟩
        have hA' : AT B G G' := ⟨hcs, f'.ms qm, (hRl.fr f0 f' (fun _ _ _ _ => id) (fun k z => by omega) (fun b k z1 z2 => by omega)).lc (fun b y1 y2 => cO b (by omega) (by omega) (by omega)) (fun _ _ _ => rfl), hS', fun k hk => by rw [li (cO 27 (by omega) (by omega) (by omega)), f'.i (by omega)]; exact hb k hk, ⟨L1, u1.lc (fun b y1 y2 => cO b (by omega) (by omega) (by omega))⟩, ⟨L2, u2.lc (fun b y1 y2 => cO b (by omega) (by omega) (by omega))⟩, ⟨L3, u3.lc (fun b y1 y2 => cO b (by omega) (by omega) (by omega))⟩, ⟨L4, u4.lc (fun b y1 y2 => cO b (by omega) (by omega) (by omega))⟩, ⟨L5, u5.lc (fun b y1 y2 => cO b (by omega) (by omega) (by omega))⟩⟩
        have i1 := li (cO 1 (by omega) (by omega) (by omega))
        have i29 := li (cO 29 (by omega) (by omega) (by omega))
        have p28 := lp (cO 28 (by omega) (by omega) (by omega))
        have hR' : RR B G G' := by
          refine ⟨hA', ⟨by rw [i1, f'.i (by omega)]; exact e8, by rw [i1, f'.i (by omega)]; exact e9, by rw [i1, f'.i (by omega)]; exact e11, ?_⟩, ⟨by rw [Gx]; show 74 ≤ n + 7; omega, fun a2 t2 ha2 hp => ?_, fun i q hi hp => ?_⟩, T, F, N, r, ⟨tT, tF, tr, tN⟩, ⟨by rw [i1]; exact a1, by rw [f'.i (by omega)]; exact a2⟩, ⟨by rw [i1]; exact b1, by rw [f'.i (by omega)]; exact b2⟩, ⟨by rw [i1]; exact c1, by rw [f'.i (by omega)]; exact c2⟩, ⟨by rw [i1]; exact d1, by rw [f'.i (by omega)]; exact d2⟩, fun k hk => by rw [i29, f'.i (by omega)]; exact hF k hk, hTT⟩
          · rw [hG, hG', ji_si, if_pos ⟨rfl, rfl⟩, ji_si, if_pos ⟨rfl, rfl⟩, e7]
          · rw [Gp11] at hp
            rw [Gx]
            show t2 + 6 < n + 7
            by_cases c : a2 = a
            · rw [if_pos c] at hp
              have := Option.some.inj hp
              omega
            · rw [if_neg c] at hp
              have := hL.2.1 a2 t2 ha2 hp
              omega
          · rw [p28] at hp
            rw [Gx]
            show q < n + 7
            have := hL.2.2 i q hi hp
            omega
        exact ⟨_, G, G', hcl, hmd, hR'.mono (Nat.le_add_right _ _) hB, fun b y1 y2 => cO b (by omega) (by omega) (by omega), fun b z => f'.cell (fun k => by omega), cO 0 (by omega) (by omega) (by omega), by rw [Gx, hn]; exact ⟨Nat.le_add_right _ _, Nat.le_refl _, by show g.2.2 + 1984 ≤ g.2.2 + 2100; omega⟩, f'.x, (show ∃ r, _ = Value.int r from ⟨_, rfl⟩)⟩
      · -- there already
        refine pr_id (.int (-1)) hB hR ?_ ?_
        · simp only [s67_0, s67_1, s67_2, s67_4, s67_7, s67_10, s67_11, s67_12, s67_14, s67_17, s67_20, s67_21, s67_22, s67_23, s67_26, s67_27, s67_28, s67_31, s67_34, s67_35, s67_38, s67_41, s67_44, s67_45, s11_0, s11_1, s11_4, s11_5, s11_7, s11_10, s11_11, s11_14, s11_15, s11_16, s11_16n, s11_19, s11_20, w1, v1, n1, k1 qc, k10 qc, k11 qc, p1_1 qc, p10_1 qc, q1.1, lt, b4, b5, z1, ↓reduceIte, va_rf_s, va_rf_n, jb_some, jb_none, jtl_s, jtl_n, if_true, if_false, true_and, and_true, false_and, and_false, or_true, true_or, or_false, false_or, not_true_eq_false, not_false_eq_true, jk_si, jp_si, jj_si, jk_sj, jp_sj, ji_sj, jk_ci, jp_ci, jj_ci, jk_cj, jp_cj, ji_cj, jlng_n, jlng_i, jlng_r, jlng_0]
        · simp only [s140_0, s140_1, s140_2, s140_4, s140_7, s140_10, s140_11, s140_12, s140_14, s140_17, s140_20, s140_21, s140_24, s140_25, s140_26, s140_29, s140_30, s140_31, s140_32, s140_35, s140_36, s140_37, s140_38, s140_39, s140_42, s140_43, s140_44, s140_45, s140_46, s140_47, s140_50, s140_51, s140_52, s140_55, s140_56, s140_59, w2, v2, n1, k30 qm, k31 qm, p30_0 qm, b4, b5, z2, ↓reduceIte, va_rf_s, va_rf_n, jb_some, jb_none, jtl_s, jtl_n, if_true, if_false, true_and, and_true, false_and, and_false, or_true, true_or, or_false, false_or, not_true_eq_false, not_false_eq_true, jk_si, jp_si, jj_si, jk_sj, jp_sj, ji_sj, jk_ci, jp_ci, jj_ci, jk_cj, jp_cj, ji_cj, jlng_n, jlng_i, jlng_r, jlng_0]
    · rw [jB_f q2] at v1 v2
      refine pr_id (.int (-1)) hB hR ?_ ?_
      · simp only [s67_0, s67_1, s67_2, s67_4, s67_7, s67_10, s67_11, s67_12, s67_14, s67_17, s67_20, s67_21, s67_22, s67_23, s67_26, s67_27, s67_28, s67_31, s67_34, s67_35, s67_38, s67_41, s67_44, s67_45, w1, v1, n1, ↓reduceIte, va_rf_s, va_rf_n, jb_some, jb_none, jtl_s, jtl_n, if_true, if_false, true_and, and_true, false_and, and_false, or_true, true_or, or_false, false_or, not_true_eq_false, not_false_eq_true, jk_si, jp_si, jj_si, jk_sj, jp_sj, ji_sj, jk_ci, jp_ci, jj_ci, jk_cj, jp_cj, ji_cj, jlng_n, jlng_i, jlng_r, jlng_0]
      · simp only [s140_0, s140_1, s140_2, s140_4, s140_7, s140_10, s140_11, s140_12, s140_14, s140_17, s140_20, s140_21, s140_24, s140_25, s140_26, s140_29, s140_30, s140_31, s140_32, s140_35, s140_36, s140_37, s140_38, s140_39, s140_42, s140_43, s140_44, s140_45, s140_46, s140_47, s140_50, s140_51, s140_52, s140_55, s140_56, s140_59, w2, v2, n1, ↓reduceIte, va_rf_s, va_rf_n, jb_some, jb_none, jtl_s, jtl_n, if_true, if_false, true_and, and_true, false_and, and_false, or_true, true_or, or_false, false_or, not_true_eq_false, not_false_eq_true, jk_si, jp_si, jj_si, jk_sj, jp_sj, ji_sj, jk_ci, jp_ci, jj_ci, jk_cj, jp_cj, ji_cj, jlng_n, jlng_i, jlng_r, jlng_0]
  · rw [jB_f q1] at w1 w2
    refine pr_id (.int (-1)) hB hR ?_ ?_
    · simp only [s67_0, s67_1, s67_2, s67_4, s67_7, s67_10, s67_11, s67_12, s67_14, s67_17, s67_20, s67_21, s67_22, s67_23, s67_26, s67_27, s67_28, s67_31, s67_34, s67_35, s67_38, s67_41, s67_44, s67_45, w1, ↓reduceIte, va_rf_s, va_rf_n, jb_some, jb_none, jtl_s, jtl_n, if_true, if_false, true_and, and_true, false_and, and_false, or_true, true_or, or_false, false_or, not_true_eq_false, not_false_eq_true, jk_si, jp_si, jj_si, jk_sj, jp_sj, ji_sj, jk_ci, jp_ci, jj_ci, jk_cj, jp_cj, ji_cj, jlng_n, jlng_i, jlng_r, jlng_0]
    · simp only [s140_0, s140_1, s140_2, s140_4, s140_7, s140_10, s140_11, s140_12, s140_14, s140_17, s140_20, s140_21, s140_24, s140_25, s140_26, s140_29, s140_30, s140_31, s140_32, s140_35, s140_36, s140_37, s140_38, s140_39, s140_42, s140_43, s140_44, s140_45, s140_46, s140_47, s140_50, s140_51, s140_52, s140_55, s140_56, s140_59, w2, ↓reduceIte, va_rf_s, va_rf_n, jb_some, jb_none, jtl_s, jtl_n, if_true, if_false, true_and, and_true, false_and, and_false, or_true, true_or, or_false, false_or, not_true_eq_false, not_false_eq_true, jk_si, jp_si, jj_si, jk_sj, jp_sj, ji_sj, jk_ci, jp_ci, jj_ci, jk_cj, jp_cj, ji_cj, jlng_n, jlng_i, jlng_r, jlng_0]
