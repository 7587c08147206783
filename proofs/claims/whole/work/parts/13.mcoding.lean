/-! THE REFERENCE'S CODING: halves, word; the class's halves, word -/
theorem bit_ge {b m : Nat} : pc (16 - m + 1) (b / 2 ^ m) = pc (16 - m) (b / 2 ^ (m + 1)) + b / 2 ^ m % 2 := by
  rw [pc_shift, Nat.div_div_eq_div_mul, ← Nat.pow_succ]
theorem mspell_step {s b m : Nat} (hm : m ≤ 15) : (s * 4 ^ (15 - m) + en (15 - m) (b / 2 ^ (m + 1))) * 4 + (1 + b / 2 ^ m % 2) = s * 4 ^ (16 - m) + en (16 - m) (b / 2 ^ m) := by
  have h1 : s * 4 ^ (15 - m + 1) = s * 4 ^ (15 - m) * 4 := by rw [Nat.pow_succ, Nat.mul_assoc]
  have h2 : b / 2 ^ m / 2 = b / 2 ^ (m + 1) := by rw [Nat.div_div_eq_div_mul, ← Nat.pow_succ]
  rw [show 16 - m = (15 - m) + 1 by omega, en, h1, h2, Nat.add_mul]
  omega
theorem mpc_step {b m : Nat} (hm : m ≤ 15) : pc (15 - m) (b / 2 ^ (m + 1)) + b / 2 ^ m % 2 = pc (16 - m) (b / 2 ^ m) := by
  rw [show 16 - m = (15 - m) + 1 by omega, pc_shift, Nat.div_div_eq_div_mul, ← Nat.pow_succ]
theorem pc_le : ∀ (k x : Nat), pc k x ≤ k
  | 0, _ => Nat.le_refl _
  | k + 1, x => by
    have := pc_le k (x / 2)
    rw [pc_shift]
    omega
theorem mh_end {s b : Nat} (hb : b < 65536) : (s * 4 ^ 16 + en 16 b) * 4 + (1 + (1 - pc 16 b % 2)) = SP s b := by
  have h1 := bcN_par (w := b) (by omega)
  have h2 : pc 17 b = pc 16 b := pc_top 16 b (by omega)
  rw [h2] at h1
  unfold SP
  rw [h1]
  generalize pc 16 b % 2 = q
  have h3 : en 17 (2 * b + (1 - q)) = en 16 ((2 * b + (1 - q)) / 2) * 4 + (1 + (2 * b + (1 - q)) % 2) := rfl
  rw [h3, show (2 * b + (1 - q)) / 2 = b by omega, show (2 * b + (1 - q)) % 2 = 1 - q by omega, show (4 : Nat) ^ 17 = 4 ^ 16 * 4 by decide]
  generalize en 16 b = e
  omega
theorem mh_lt {s b : Nat} (hs : s < 64) : s * 4 ^ 16 + en 16 b < 2 ^ 40 := by
  have h1 := en_lt 16 b
  have h2 : s * 4 ^ 16 ≤ 63 * 4 ^ 16 := Nat.mul_le_mul (by omega) (Nat.le_refl _)
  have h3 : 63 * 4 ^ 16 + 4 ^ 16 < 2 ^ 40 := by decide
  exact Nat.lt_trans (Nat.lt_of_lt_of_le (Nat.add_lt_add_left h1 _) (Nat.add_le_add_right h2 _)) h3
theorem SP_lt {s b : Nat} (hs : s < 64) : SP s b < 2 ^ 40 := by
  have h1 := en_lt 17 (2 * b + (1 - bcN b % 2))
  have h2 : s * 4 ^ 17 ≤ 63 * 4 ^ 17 := Nat.mul_le_mul (by omega) (Nat.le_refl _)
  have h3 : 63 * 4 ^ 17 + 4 ^ 17 = 2 ^ 40 := by decide
  unfold SP
  omega
theorem mh_loop {s b : Nat} (hs : s < 64) (hb : b < 65536) (l0 l1 : Option Value) (h : jH) : ∀ (m : Nat) (l7 : Option Value), m ≤ 16 → jV 107 35 [l0, l1, some (.int (nI b)), some (.long (lN (s * 4 ^ (16 - m) + en (16 - m) (b / 2 ^ m)))), none, some (.int (nI (pc (16 - m) (b / 2 ^ m)))), some (.int (nI m - 1)), l7] [] h = some (some (.long (lN (SP s b))), h)
  | 0, l7, _ => by
    have a1 : nI 0 - 1 < 0 := by decide
    have hp := pc_le 16 b
    have e1 : nI (pc 16 b) - nI (pc 16 b) / 2 * 2 = nI (pc 16 b % 2) := pk_rem (d := 2) (by omega) (by omega) (by omega)
    have hl := mh_lt (s := s) (b := b) hs
    have e2 := mh_end (s := s) hb
    simp only [Nat.sub_zero, Nat.pow_zero, Nat.div_one]
    rcases Nat.mod_two_eq_zero_or_one (pc 16 b) with z | z
    · rw [z] at e1 e2
      have e3 : nI 0 = 0 := rfl
      have a2 : (0 : Int32) - 1 < 0 := by decide
      have e4 : lN ((s * 4 ^ 16 + en 16 b) * 4) ||| (2 : Int64) = lN (SP s b) := by
        rw [← e2]
        exact lN_or4 (d := 2) (by omega) (by omega)
      simp only [s107_35, s107_37, s107_95, s107_96, s107_97, s107_98, s107_100, s107_101, s107_102, s107_105, s107_108, s107_111, s107_112, s107_113, a1, a2, e1, e3, lN_sh2, e4, show ¬ (2 : Int32) = 0 by decide, ↓reduceIte, va_rf_s, va_rf_n, jb_some, jb_none, jtl_s, jtl_n, if_true, if_false, true_and, and_true, false_and, and_false, or_true, true_or, or_false, false_or, not_true_eq_false, not_false_eq_true, jk_si, jp_si, jj_si, jk_sj, jp_sj, ji_sj, jk_ci, jp_ci, jj_ci, jk_cj, jp_cj, ji_cj, jlng_n, jlng_i, jlng_r, jlng_0]
    · rw [z] at e1 e2
      have e3 : ¬ nI 1 = 0 := by decide
      have e4 : lN ((s * 4 ^ 16 + en 16 b) * 4) ||| (1 : Int64) = lN (SP s b) := by
        rw [← e2]
        exact lN_or4 (d := 1) (by omega) (by omega)
      simp only [s107_35, s107_37, s107_95, s107_96, s107_97, s107_98, s107_100, s107_101, s107_102, s107_105, s107_108, s107_111, s107_112, s107_113, a1, e1, e3, lN_sh2, e4, show ¬ (2 : Int32) = 0 by decide, ↓reduceIte, va_rf_s, va_rf_n, jb_some, jb_none, jtl_s, jtl_n, if_true, if_false, true_and, and_true, false_and, and_false, or_true, true_or, or_false, false_or, not_true_eq_false, not_false_eq_true, jk_si, jp_si, jj_si, jk_sj, jp_sj, ji_sj, jk_ci, jp_ci, jj_ci, jk_cj, jp_cj, ji_cj, jlng_n, jlng_i, jlng_r, jlng_0]
  | m + 1, l7, hm => by
    have e0 : nI (m + 1) - 1 = nI m := nI_pred m
    have a1 : ¬ nI m < 0 := nI_pos (by omega)
    have e1 := shr_bit (w := b) (m := m) (by omega) (by omega)
    have e2 := mspell_step (s := s) (b := b) (m := m) (by omega)
    have e5 := mpc_step (b := b) (m := m) (by omega)
    have hb2 : s * 4 ^ (16 - m) + en (16 - m) (b / 2 ^ m) < 2 ^ 63 := by
      have h1 := en_lt (16 - m) (b / 2 ^ m)
      have h2 : 4 ^ (16 - m) ≤ 4 ^ 17 := Nat.pow_le_pow_right (by omega) (by omega)
      have h3 : s * 4 ^ (16 - m) ≤ 63 * 4 ^ 17 := Nat.mul_le_mul (by omega) h2
      have h4 : 63 * 4 ^ 17 + 4 ^ 17 < 2 ^ 63 := by decide
      omega
    have ih := fun l7 => mh_loop hs hb l0 l1 h m l7 (by omega)
    rw [← e5] at ih
    rw [← e2] at hb2 ih
    rw [e0, show 16 - (m + 1) = 15 - m by omega]
    generalize s * 4 ^ (15 - m) + en (15 - m) (b / 2 ^ (m + 1)) = a at hb2 ih ⊢
    generalize pc (15 - m) (b / 2 ^ (m + 1)) = o at ih ⊢
    rcases Nat.mod_two_eq_zero_or_one (b / 2 ^ m) with z | z
    · rw [z] at hb2 ih e1
      have e3 : ¬ nI 0 = 1 := by decide
      have e4 : lN (a * 4) ||| (1 : Int64) = lN (a * 4 + (1 + 0)) := lN_or4 (d := 1) (by omega) (by omega)
      have e6 : nI o + 0 = nI (o + 0) := nI_add o 0
      rw [← ih (some (.int 0))]
      simp only [s107_37, s107_40, s107_41, s107_43, s107_44, s107_45, s107_46, s107_47, s107_50, s107_51, s107_54, s107_55, s107_57, s107_59, s107_61, s107_64, s107_65, s107_68, s107_69, s107_70, s107_72, s107_73, s107_74, s107_75, s107_77, s107_80, s107_83, s107_86, s107_87, s107_88, s107_89, s107_92, s107_35 (x := nI m), a1, e1, e3, e4, e6, lN_sh2, nI_dec, ↓reduceIte, va_rf_s, va_rf_n, jb_some, jb_none, jtl_s, jtl_n, if_true, if_false, true_and, and_true, false_and, and_false, or_true, true_or, or_false, false_or, not_true_eq_false, not_false_eq_true, jk_si, jp_si, jj_si, jk_sj, jp_sj, ji_sj, jk_ci, jp_ci, jj_ci, jk_cj, jp_cj, ji_cj, jlng_n, jlng_i, jlng_r, jlng_0]
    · rw [z] at hb2 ih e1
      have e3 : nI 1 = 1 := rfl
      have e4 : lN (a * 4) ||| (2 : Int64) = lN (a * 4 + (1 + 1)) := lN_or4 (d := 2) (by omega) (by omega)
      have e6 : nI o + 1 = nI (o + 1) := nI_add o 1
      rw [← ih (some (.int 1))]
      simp only [s107_37, s107_40, s107_41, s107_43, s107_44, s107_45, s107_46, s107_47, s107_50, s107_51, s107_54, s107_55, s107_57, s107_59, s107_61, s107_64, s107_65, s107_68, s107_69, s107_70, s107_72, s107_73, s107_74, s107_75, s107_77, s107_80, s107_83, s107_86, s107_87, s107_88, s107_89, s107_92, s107_35 (x := nI m), a1, e1, e3, e4, e6, lN_sh2, nI_dec, show ¬ (1 : Int32) = 0 by decide, ↓reduceIte, va_rf_s, va_rf_n, jb_some, jb_none, jtl_s, jtl_n, if_true, if_false, true_and, and_true, false_and, and_false, or_true, true_or, or_false, false_or, not_true_eq_false, not_false_eq_true, jk_si, jp_si, jj_si, jk_sj, jp_sj, ji_sj, jk_ci, jp_ci, jj_ci, jk_cj, jp_cj, ji_cj, jlng_n, jlng_i, jlng_r, jlng_0]
/-- the sync of a sort -/
def sy (c : Int32) : Nat := if c = 0 then 7 else 56
theorem m_halves {b : Nat} (hb : b < 65536) (c : Int32) (h : jH) : jV 107 0 [some (.ref 30), some (.int c), some (.int (nI b)), none, none, none, none, none] [] h = some (some (.long (lN (SP (sy c) b))), h) := by
  have a1 := c_isIn (nI b) 0 65535 h
  have a2 : ¬ nI b < 0 ∧ ¬ 65535 < nI b := ⟨nI_pos (by omega), nI_nlt (a := 65535) (by omega) (by omega)⟩
  rw [jB_t a2] at a1
  have z0 : nI 16 - 1 = 15 := by decide
  have h2 := mh_loop (s := sy c) (by unfold sy; split <;> omega) hb (some (.ref 30)) (some (.int c)) h 16 none (Nat.le_refl _)
  have e0 : b / 2 ^ 16 = 0 := Nat.div_eq_of_lt (by omega)
  rw [z0, e0] at h2
  rw [← h2]
  unfold sy
  by_cases c0 : c = 0
  · simp only [s107_0, s107_1, s107_2, s107_4, s107_7, s107_10, s107_13, s107_14, s107_15, s107_18, s107_21, s107_24, s107_27, s107_28, s107_29, s107_31, s107_33, a1, c0, show ¬ (1 : Int32) = 0 by decide, ↓reduceIte, va_rf_s, va_rf_n, jb_some, jb_none, jtl_s, jtl_n, if_true, if_false, true_and, and_true, false_and, and_false, or_true, true_or, or_false, false_or, not_true_eq_false, not_false_eq_true, jk_si, jp_si, jj_si, jk_sj, jp_sj, ji_sj, jk_ci, jp_ci, jj_ci, jk_cj, jp_cj, ji_cj, jlng_n, jlng_i, jlng_r, jlng_0]
    rfl
  · simp only [s107_0, s107_1, s107_2, s107_4, s107_7, s107_10, s107_13, s107_14, s107_15, s107_18, s107_21, s107_24, s107_27, s107_28, s107_29, s107_31, s107_33, a1, c0, show ¬ (1 : Int32) = 0 by decide, ↓reduceIte, va_rf_s, va_rf_n, jb_some, jb_none, jtl_s, jtl_n, if_true, if_false, true_and, and_true, false_and, and_false, or_true, true_or, or_false, false_or, not_true_eq_false, not_false_eq_true, jk_si, jp_si, jj_si, jk_sj, jp_sj, ji_sj, jk_ci, jp_ci, jj_ci, jk_cj, jp_cj, ji_cj, jlng_n, jlng_i, jlng_r, jlng_0]
    rfl
theorem m_halvesB {x c : Int32} (hx : ¬ (¬ x < 0 ∧ ¬ 65535 < x)) (h : jH) : jV 107 0 [some (.ref 30), some (.int c), some (.int x), none, none, none, none, none] [] h = some (some (.long (-1)), h) := by
  have a1 := c_isIn x 0 65535 h
  rw [jB_f hx] at a1
  simp only [s107_0, s107_1, s107_2, s107_4, s107_7, s107_10, s107_13, s107_14, s107_15, s107_18, s107_21, s107_24, s107_27, s107_28, s107_29, s107_31, s107_33, a1, ↓reduceIte, va_rf_s, va_rf_n, jb_some, jb_none, jtl_s, jtl_n, if_true, if_false, true_and, and_true, false_and, and_false, or_true, true_or, or_false, false_or, not_true_eq_false, not_false_eq_true, jk_si, jp_si, jj_si, jk_sj, jp_sj, ji_sj, jk_ci, jp_ci, jj_ci, jk_cj, jp_cj, ji_cj, jlng_n, jlng_i, jlng_r, jlng_0]
/-- k digits of base 2, from place j on -/
def dv (d : Nat → Nat) : Nat → Nat → Nat
  | 0, _ => 0
  | k + 1, j => 2 * dv d k (j + 1) + d j
theorem dv_lt {d : Nat → Nat} (hd : ∀ j, d j ≤ 1) : ∀ k j, dv d k j < 2 ^ k
  | 0, _ => by simp [dv]
  | k + 1, j => by
    have h1 := dv_lt hd k (j + 1)
    have h2 := hd j
    rw [dv, Nat.pow_succ]
    omega
theorem dv_bits {d : Nat → Nat} {W : Nat} : ∀ k j, (∀ i, j ≤ i → i < j + k → d i = W / 2 ^ i % 2) → dv d k j = W / 2 ^ j % 2 ^ k
  | 0, j, _ => by rw [dv, Nat.pow_zero, Nat.mod_one]
  | k + 1, j, h => by
    have h1 := dv_bits k (j + 1) (fun i h1 h2 => h i (by omega) (by omega))
    have h2 := h j (Nat.le_refl _) (by omega)
    rw [dv, h1, h2, Nat.pow_succ 2 j, ← Nat.div_div_eq_div_mul, Nat.pow_succ 2 k, Nat.mul_comm (2 ^ k) 2, Nat.mod_mul]
    omega
theorem mw_loop {x : Int64} {d : Nat → Nat} (hd : ∀ j, d j ≤ 1) (hx : ∀ j, j ≤ 16 → (((x >>> ((nI (2 * j + 1)).toInt64 &&& 63)) &&& 1).toInt32 = nI (d j))) (h : jH) : ∀ (m : Nat), m ≤ 16 → jV 108 6 [some (.ref 30), some (.long x), none, some (.int (nI (dv d (16 - m) (m + 1)))), some (.int (nI m))] [] h = jV 108 33 [some (.ref 30), some (.long x), none, some (.int (nI (dv d 16 1))), some (.int 0)] [] h
  | 0, _ => by
    simp only [s108_6, s108_8, show ¬ (0 : Int32) < nI 0 by decide, Nat.sub_zero, Nat.zero_add, ↓reduceIte, va_rf_s, va_rf_n, jb_some, jb_none, jtl_s, jtl_n, if_true, if_false, true_and, and_true, false_and, and_false, or_true, true_or, or_false, false_or, not_true_eq_false, not_false_eq_true, jk_si, jp_si, jj_si, jk_sj, jp_sj, ji_sj, jk_ci, jp_ci, jj_ci, jk_cj, jp_cj, ji_cj, jlng_n, jlng_i, jlng_r, jlng_0]
    rfl
  | m + 1, hm => by
    have ih := mw_loop hd hx h m (by omega)
    rw [← ih, show 16 - m = (16 - (m + 1)) + 1 by omega, dv]
    have a1 : (0 : Int32) < nI (m + 1) := nI_lt (a := 0) (by omega) (by omega)
    have e1 : (2 : Int32) * nI (m + 1) + 1 = nI (2 * (m + 1) + 1) := by
      show nI 2 * nI (m + 1) + nI 1 = _
      rw [pk_mul, nI_add]
    have e2 := hx (m + 1) hm
    have e3 : (2 : Int32) * nI (dv d (16 - (m + 1)) (m + 1 + 1)) + nI (d (m + 1)) = nI (2 * dv d (16 - (m + 1)) (m + 1 + 1) + d (m + 1)) := by
      show nI 2 * _ + _ = _
      rw [pk_mul, nI_add]
    simp only [s108_8, s108_11, s108_12, s108_13, s108_14, s108_15, s108_16, s108_18, s108_19, s108_20, s108_21, s108_22, s108_23, s108_24, s108_25, s108_26, s108_27, s108_30, s108_6 (x := nI (m + 1)), a1, e1, e2, e3, pk_m1, ↓reduceIte, va_rf_s, va_rf_n, jb_some, jb_none, jtl_s, jtl_n, if_true, if_false, true_and, and_true, false_and, and_false, or_true, true_or, or_false, false_or, not_true_eq_false, not_false_eq_true, jk_si, jp_si, jj_si, jk_sj, jp_sj, ji_sj, jk_ci, jp_ci, jj_ci, jk_cj, jp_cj, ji_cj, jlng_n, jlng_i, jlng_r, jlng_0]
theorem lc0 (x y : Int64) : lg_cmp x y = 0 ↔ x = y := by
  unfold lg_cmp
  constructor
  · intro h
    split at h
    · exact absurd h (by decide)
    · split at h
      · assumption
      · exact absurd h (by decide)
  · rintro rfl
    split
    · rename_i h; exact absurd h Int64.lt_irrefl
    · rw [if_pos rfl]
theorem RD_uq {n : Nat} {r r' : Int32} (h : RD n r) (h' : RD n r') : r = r' := by
  rcases h with ⟨c, b, hb, hc, e, er⟩ | ⟨er, h⟩
  · rcases h' with ⟨c', b', hb', hc', e', er'⟩ | ⟨er', h'⟩
    · have h1 := SP_mod (if c = 1 then 56 else 7) b
      have h2 := SP_mod (if c' = 1 then 56 else 7) b'
      rw [← e] at h1
      rw [← e'] at h2
      have h3 := en_inj 17 _ _ (by omega) (by omega) (h1.1.symm.trans h2.1)
      have h4 := h1.2.symm.trans h2.2
      have h5 : c = c' := by
        rcases (show c = 0 ∨ c = 1 by omega) with rfl | rfl
        · rcases (show c' = 0 ∨ c' = 1 by omega) with rfl | rfl
          · rfl
          · exact absurd h4 (by decide)
        · rcases (show c' = 0 ∨ c' = 1 by omega) with rfl | rfl
          · exact absurd h4 (by decide)
          · rfl
      have h6 : b = b' := by omega
      rw [er, er', h5, h6]
    · exact absurd ⟨c, b, hb, hc, e⟩ h'
  · rcases h' with ⟨c', b', hb', hc', e', er'⟩ | ⟨er', h'⟩
    · exact absurd ⟨c', b', hb', hc', e'⟩ h
    · rw [er, er']
/-- what any 64 bits are read as -/
def RX (x : Int64) (r : Int32) : Prop := (∃ n, n < 2 ^ 40 ∧ x = lN n ∧ RD n r) ∨ ((¬ ∃ n, n < 2 ^ 40 ∧ x = lN n) ∧ r = -1)
theorem RX_uq {x : Int64} {r r' : Int32} (h : RX x r) (h' : RX x r') : r = r' := by
  rcases h with ⟨n, hn, e, hr⟩ | ⟨h, er⟩
  · rcases h' with ⟨n', hn', e', hr'⟩ | ⟨h', er'⟩
    · have : n = n' := (pk_lEQ (by omega) (by omega)).mp (e.symm.trans e')
      subst this
      exact RD_uq hr hr'
    · exact absurd ⟨n, hn, e⟩ h'
  · rcases h' with ⟨n', hn', e', hr'⟩ | ⟨h', er'⟩
    · exact absurd ⟨n', hn', e'⟩ h
    · rw [er, er']
theorem and1 (y : Int64) : ∃ d, d ≤ 1 ∧ (y &&& 1).toInt32 = nI d := by
  obtain ⟨n, hn, rfl⟩ := wb_of y
  exact ⟨n % 2, by omega, by rw [g_and1 hn, lN_i]⟩
theorem and1n {n : Nat} (hn : n < 2 ^ 62) : (lN n &&& 1).toInt32 = nI (n % 2) := by rw [g_and1 (by omega), lN_i]
theorem sh2m1 {n m : Nat} (hn : n < 2 ^ 62) (hm : m ≤ 16) : lN n >>> ((nI (2 * m + 1)).toInt64 &&& 63) = lN (n / 2 ^ (2 * m + 1)) := by
  have h1 : (((nI (2 * m + 1)).toInt64 &&& 63).toBitVec.smod 64).toNat = 2 * m + 1 := by
    rw [wb_c (2 * m + 1) (by omega)]
    rw [wb_tb, wb_sm (2 * m + 1) (by omega), BitVec.toNat_ofNat, Nat.mod_eq_of_lt (by omega)]
  exact pf_shr h1 hn
theorem m_word_any {x : Int64} (h : jH) (hk : jk h 30 = (9, 0)) {d : Nat → Nat} (hd : ∀ j, d j ≤ 1) (hx : ∀ j, j ≤ 16 → (((x >>> ((nI (2 * j + 1)).toInt64 &&& 63)) &&& 1).toInt32 = nI (d j))) : jV 108 0 [some (.ref 30), some (.long x), none, none, none] [] h = some (some (.int (if x = lN (SP 56 (dv d 16 1)) then nI (65536 + dv d 16 1) else if x = lN (SP 7 (dv d 16 1)) then nI (dv d 16 1) else -1)), h) := by
  have hb : dv d 16 1 < 65536 := dv_lt hd 16 1
  have h1 := mw_loop hd hx h 16 (Nat.le_refl _)
  have h2 := m_halves hb 1 h
  have h3 := m_halves hb 0 h
  have s1 : sy 1 = 56 := by decide
  have s0 : sy 0 = 7 := by decide
  rw [s1] at h2
  rw [s0] at h3
  have e1 : (65536 : Int32) + nI (dv d 16 1) = nI (65536 + dv d 16 1) := nI_add 65536 _
  have start : jV 108 0 [some (.ref 30), some (.long x), none, none, none] [] h = jV 108 6 [some (.ref 30), some (.long x), none, some (.int (nI (dv d (16 - 16) (16 + 1)))), some (.int (nI 16))] [] h := by
    simp only [s108_0, s108_1, s108_2, s108_4, ↓reduceIte, va_rf_s, va_rf_n, jb_some, jb_none, jtl_s, jtl_n, if_true, if_false, true_and, and_true, false_and, and_false, or_true, true_or, or_false, false_or, not_true_eq_false, not_false_eq_true, jk_si, jp_si, jj_si, jk_sj, jp_sj, ji_sj, jk_ci, jp_ci, jj_ci, jk_cj, jp_cj, ji_cj, jlng_n, jlng_i, jlng_r, jlng_0]
    rfl
  rw [start, h1]
  by_cases c1 : x = lN (SP 56 (dv d 16 1))
  · rw [if_pos c1]
    simp only [s108_33, s108_34, s108_35, s108_36, s108_37, s108_40, s108_41, s108_44, s108_46, s108_47, s108_48, s108_51, s108_52, s108_53, s108_54, s108_55, s108_58, s108_59, s108_62, s108_63, s108_66, s108_67, hk, h2, h3, lc0, c1, e1, ↓reduceIte, va_rf_s, va_rf_n, jb_some, jb_none, jtl_s, jtl_n, if_true, if_false, true_and, and_true, false_and, and_false, or_true, true_or, or_false, false_or, not_true_eq_false, not_false_eq_true, jk_si, jp_si, jj_si, jk_sj, jp_sj, ji_sj, jk_ci, jp_ci, jj_ci, jk_cj, jp_cj, ji_cj, jlng_n, jlng_i, jlng_r, jlng_0]
  · rw [if_neg c1]
    by_cases c2 : x = lN (SP 7 (dv d 16 1))
    · rw [if_pos c2]
      have c3 : ¬ lN (SP 7 (dv d 16 1)) = lN (SP 56 (dv d 16 1)) := by rw [← c2]; exact c1
      simp only [s108_33, s108_34, s108_35, s108_36, s108_37, s108_40, s108_41, s108_44, s108_46, s108_47, s108_48, s108_51, s108_52, s108_53, s108_54, s108_55, s108_58, s108_59, s108_62, s108_63, s108_66, s108_67, hk, h2, h3, lc0, c2, c3, e1, ↓reduceIte, va_rf_s, va_rf_n, jb_some, jb_none, jtl_s, jtl_n, if_true, if_false, true_and, and_true, false_and, and_false, or_true, true_or, or_false, false_or, not_true_eq_false, not_false_eq_true, jk_si, jp_si, jj_si, jk_sj, jp_sj, ji_sj, jk_ci, jp_ci, jj_ci, jk_cj, jp_cj, ji_cj, jlng_n, jlng_i, jlng_r, jlng_0]
    · rw [if_neg c2]
      simp only [s108_33, s108_34, s108_35, s108_36, s108_37, s108_40, s108_41, s108_44, s108_46, s108_47, s108_48, s108_51, s108_52, s108_53, s108_54, s108_55, s108_58, s108_59, s108_62, s108_63, s108_66, s108_67, hk, h2, h3, lc0, c1, c2, e1, ↓reduceIte, va_rf_s, va_rf_n, jb_some, jb_none, jtl_s, jtl_n, if_true, if_false, true_and, and_true, false_and, and_false, or_true, true_or, or_false, false_or, not_true_eq_false, not_false_eq_true, jk_si, jp_si, jj_si, jk_sj, jp_sj, ji_sj, jk_ci, jp_ci, jj_ci, jk_cj, jp_cj, ji_cj, jlng_n, jlng_i, jlng_r, jlng_0]
theorem m_word (x : Int64) (h : jH) (hk : jk h 30 = (9, 0)) : ∃ r, jV 108 0 [some (.ref 30), some (.long x), none, none, none] [] h = some (some (.int r), h) ∧ RX x r := by
  by_cases c : ∃ n, n < 2 ^ 40 ∧ x = lN n
  · obtain ⟨n, hn, rfl⟩ := c
    have hx : ∀ j, j ≤ 16 → (((lN n >>> ((nI (2 * j + 1)).toInt64 &&& 63)) &&& 1).toInt32 = nI (n / 2 ^ (2 * j + 1) % 2)) := by
      intro j hj
      rw [sh2m1 (by omega) hj, and1n (Nat.lt_of_le_of_lt (Nat.div_le_self _ _) (by omega))]
    have h1 := m_word_any h hk (d := fun j => n / 2 ^ (2 * j + 1) % 2) (fun j => by show n / 2 ^ (2 * j + 1) % 2 ≤ 1; omega) hx
    have hb : dv (fun j => n / 2 ^ (2 * j + 1) % 2) 16 1 < 65536 := dv_lt (fun j => by show n / 2 ^ (2 * j + 1) % 2 ≤ 1; omega) 16 1
    have hq : ∀ s b, b < 65536 → n = SP s b → dv (fun j => n / 2 ^ (2 * j + 1) % 2) 16 1 = b := by
      intro s b hb e
      have h2 := (SP_mod s b).1
      rw [← e] at h2
      have h3 : dv (fun j => n / 2 ^ (2 * j + 1) % 2) 16 1 = (2 * b + (1 - bcN b % 2)) / 2 ^ 1 % 2 ^ 16 := by
        refine dv_bits 16 1 (fun i h4 h5 => ?_)
        have h6 := en_dig 17 _ n i (by omega) h2
        have h7 : n / 2 ^ (2 * i + 1) = n / 4 ^ i / 2 := by
          rw [Nat.div_div_eq_div_mul, Nat.pow_succ, Nat.pow_mul]
        show n / 2 ^ (2 * i + 1) % 2 = _
        rw [h7]
        omega
      rw [h3]
      omega
    generalize dv (fun j => n / 2 ^ (2 * j + 1) % 2) 16 1 = b at h1 hb hq
    refine ⟨_, h1, Or.inl ⟨n, hn, rfl, ?_⟩⟩
    by_cases c1 : lN n = lN (SP 56 b)
    · rw [if_pos c1]
      exact Or.inl ⟨1, b, hb, by omega, (pk_lEQ (by omega) (Nat.lt_trans (SP_lt (by decide)) (by omega))).mp c1, rfl⟩
    · rw [if_neg c1]
      by_cases c2 : lN n = lN (SP 7 b)
      · rw [if_pos c2]
        exact Or.inl ⟨0, b, hb, by omega, (pk_lEQ (by omega) (Nat.lt_trans (SP_lt (by decide)) (by omega))).mp c2, by rw [Nat.mul_zero, Nat.zero_add]⟩
      · rw [if_neg c2]
        refine Or.inr ⟨rfl, ?_⟩
        rintro ⟨c, b', hb', hc, e⟩
        have := hq _ _ hb' e
        subst this
        by_cases g : c = 1
        · rw [if_pos g] at e; exact c1 (congrArg lN e)
        · rw [if_neg g] at e; exact c2 (congrArg lN e)
  · have hx : ∀ j, ∃ d, d ≤ 1 ∧ (((x >>> ((nI (2 * j + 1)).toInt64 &&& 63)) &&& 1).toInt32 = nI d) := fun j => and1 _
    have h1 := m_word_any h hk (d := fun j => Classical.choose (hx j)) (fun j => (Classical.choose_spec (hx j)).1) (fun j _ => (Classical.choose_spec (hx j)).2)
    generalize dv _ 16 1 = b at h1
    have c1 : ¬ x = lN (SP 56 b) := fun e => c ⟨_, SP_lt (by omega), e⟩
    have c2 : ¬ x = lN (SP 7 b) := fun e => c ⟨_, SP_lt (by omega), e⟩
    rw [if_neg c1, if_neg c2] at h1
    exact ⟨_, h1, Or.inr ⟨c, rfl⟩⟩
theorem c_word (x : Int64) (h : jH) : ∃ r, jV 1 0 [some (.long x), none, none, none, none, none, none] [] h = some (some (.int r), h) ∧ RX x r := by
  by_cases c : ∃ n, n < 2 ^ 40 ∧ x = lN n
  · obtain ⟨n, hn, rfl⟩ := c
    obtain ⟨r, h1, h2⟩ := c_read hn h
    exact ⟨r, h1, Or.inl ⟨n, hn, rfl, h2⟩⟩
  · refine ⟨-1, ?_, Or.inr ⟨c, rfl⟩⟩
    have g : ∀ z : Nat, z < 64 → ¬ lg_cmp (x >>> ((34 : Int32).toInt64 &&& 63)) (lN z) = 0 := by
      intro z hz e
      rw [lc0] at e
      have h1 : (x >>> ((34 : Int32).toInt64 &&& 63)).toInt = x.toInt >>> 34 := by
        have hD : (((34 : Int32).toInt64 &&& 63).toBitVec.smod 64).toNat = 34 := by decide
        rw [← hD]
        exact BitVec.toInt_sshiftRight ..
      rw [e, pk_lT (by omega)] at h1
      rw [Int.shiftRight_eq_div_pow] at h1
      have h2 : 0 ≤ x.toInt := by omega
      have h3 : ¬ x < 0 := by
        intro q
        have := Int64.lt_iff_toInt_lt.mp q
        have h0 : (0 : Int64).toInt = 0 := rfl
        omega
      obtain ⟨k, hk, rfl⟩ := pk_lOf h3
      rw [pk_lT hk] at h1
      exact c ⟨k, by omega, rfl⟩
    have g1 := g 56 (by omega)
    have g2 := g 7 (by omega)
    have g3 : ¬ lg_cmp (x >>> ((34 : Int32).toInt64 &&& 63)) 56 = 0 := g1
    have g4 : ¬ lg_cmp (x >>> ((34 : Int32).toInt64 &&& 63)) 7 = 0 := g2
    simp only [s1_0, s1_1, s1_3, s1_4, s1_5, s1_6, s1_9, s1_10, s1_13, s1_14, s1_17, s1_18, s1_21, s1_22, g3, g4, ↓reduceIte, va_rf_s, va_rf_n, jb_some, jb_none, jtl_s, jtl_n, if_true, if_false, true_and, and_true, false_and, and_false, or_true, true_or, or_false, false_or, not_true_eq_false, not_false_eq_true, jk_si, jp_si, jj_si, jk_sj, jp_sj, ji_sj, jk_ci, jp_ci, jj_ci, jk_cj, jp_cj, ji_cj, jlng_n, jlng_i, jlng_r, jlng_0]
theorem c_halvesT {b : Nat} (hb : b < 65536) (c : Int32) (h : jH) : jV 85 0 [some (.ref 1), some (.int c), some (.int (nI b))] [] h = some (some (.long (lN (SP (sy c) b))), h) := by
  have a1 := c_isBits (nI b) h
  have a2 : ¬ nI b < 0 ∧ nI b < 65536 := ⟨nI_pos (by omega), nI_lt (b := 65536) hb (by omega)⟩
  rw [jB_t a2] at a1
  unfold sy
  by_cases c0 : c = 0
  · have h2 := c_spell (c := 0) hb (by omega) h
    rw [if_neg (by omega), Nat.mul_zero, Nat.zero_add] at h2
    rw [if_pos c0]
    simp only [s85_0, s85_1, s85_4, s85_7, s85_10, s85_11, s85_12, s85_15, s85_17, s85_18, s85_19, s85_22, s85_23, s85_26, a1, c0, h2, show ¬ (1 : Int32) = 0 by decide, ↓reduceIte, va_rf_s, va_rf_n, jb_some, jb_none, jtl_s, jtl_n, if_true, if_false, true_and, and_true, false_and, and_false, or_true, true_or, or_false, false_or, not_true_eq_false, not_false_eq_true, jk_si, jp_si, jj_si, jk_sj, jp_sj, ji_sj, jk_ci, jp_ci, jj_ci, jk_cj, jp_cj, ji_cj, jlng_n, jlng_i, jlng_r, jlng_0]
  · have h2 := c_spell (c := 1) hb (by omega) h
    rw [if_pos rfl] at h2
    have e1 : (65536 : Int32) + nI b = nI (65536 * 1 + b) := nI_add 65536 b
    rw [if_neg c0]
    simp only [s85_0, s85_1, s85_4, s85_7, s85_10, s85_11, s85_12, s85_15, s85_17, s85_18, s85_19, s85_22, s85_23, s85_26, a1, c0, e1, h2, show ¬ (1 : Int32) = 0 by decide, ↓reduceIte, va_rf_s, va_rf_n, jb_some, jb_none, jtl_s, jtl_n, if_true, if_false, true_and, and_true, false_and, and_false, or_true, true_or, or_false, false_or, not_true_eq_false, not_false_eq_true, jk_si, jp_si, jj_si, jk_sj, jp_sj, ji_sj, jk_ci, jp_ci, jj_ci, jk_cj, jp_cj, ji_cj, jlng_n, jlng_i, jlng_r, jlng_0]
/-- the two answer alike: halves -/
theorem q_halves (c x : Int32) (h h' : jH) : ∃ r, jV 85 0 [some (.ref 1), some (.int c), some (.int x)] [] h = some (some (.long r), h) ∧ jV 107 0 [some (.ref 30), some (.int c), some (.int x), none, none, none, none, none] [] h' = some (some (.long r), h') := by
  by_cases c1 : ¬ x < 0 ∧ ¬ 65535 < x
  · obtain ⟨b, hb, rfl⟩ := nI_of2 (M := 65535) (n := 65535) rfl c1.1 (Int32.not_lt.mp c1.2)
    exact ⟨_, c_halvesT (by omega) c h, m_halves (by omega) c h'⟩
  · refine ⟨-1, ?_, m_halvesB c1 h'⟩
    have a1 := c_isBits x h
    have a2 : ¬ (¬ x < 0 ∧ x < 65536) := by
      rintro ⟨q1, q2⟩
      refine c1 ⟨q1, fun q3 => ?_⟩
      have z1 := Int32.lt_iff_toInt_lt.mp q2
      have z2 := Int32.lt_iff_toInt_lt.mp q3
      have z3 : (65536 : Int32).toInt = 65536 := rfl
      have z4 : (65535 : Int32).toInt = 65535 := rfl
      omega
    rw [jB_f a2] at a1
    simp only [s85_0, s85_1, s85_4, s85_7, s85_10, s85_11, s85_12, s85_15, s85_17, s85_18, s85_19, s85_22, s85_23, s85_26, a1, ↓reduceIte, va_rf_s, va_rf_n, jb_some, jb_none, jtl_s, jtl_n, if_true, if_false, true_and, and_true, false_and, and_false, or_true, true_or, or_false, false_or, not_true_eq_false, not_false_eq_true, jk_si, jp_si, jj_si, jk_sj, jp_sj, ji_sj, jk_ci, jp_ci, jj_ci, jk_cj, jp_cj, ji_cj, jlng_n, jlng_i, jlng_r, jlng_0]
/-- the two answer alike: word -/
theorem q_word (x : Int64) (h h' : jH) (hk : jk h' 30 = (9, 0)) : ∃ r, jV 86 0 [some (.ref 1), some (.long x), none] [] h = some (some (.int r), h) ∧ jV 108 0 [some (.ref 30), some (.long x), none, none, none] [] h' = some (some (.int r), h') := by
  obtain ⟨r, h1, h2⟩ := c_word x h
  obtain ⟨r', h3, h4⟩ := m_word x h' hk
  have := RX_uq h2 h4
  subst this
  refine ⟨r, ?_, h3⟩
  simp only [s86_0, s86_1, s86_4, h1, ↓reduceIte, va_rf_s, va_rf_n, jb_some, jb_none, jtl_s, jtl_n, if_true, if_false, true_and, and_true, false_and, and_false, or_true, true_or, or_false, false_or, not_true_eq_false, not_false_eq_true, jk_si, jp_si, jj_si, jk_sj, jp_sj, ji_sj, jk_ci, jp_ci, jj_ci, jk_cj, jp_cj, ji_cj, jlng_n, jlng_i, jlng_r, jlng_0]
