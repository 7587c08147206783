/-! CONTRACTS: the spelling of words -/
theorem c_bitCount {x : Nat} (hx : x < 2 ^ 17) (h : jH) : jV 160 0 [some (.int (nI x))] [] h = some (some (.int (nI (bcN x))), h) := by
  have u1 : ((nI x).toUInt32 >>> ((1 : Int32).toUInt32 &&& Int32.toUInt32 31)).toInt32 = nI (x / 2) := pk_ushrN (by omega) 1 1 (by decide)
  have v1 : nI (x / 2) &&& 1431655765 = nI ((x / 2) &&& 1431655765) := nx_and _ _
  have w1 : nI x - nI ((x / 2) &&& 1431655765) = nI (bcA x) := pk_sub (Nat.le_trans Nat.and_le_left (Nat.div_le_self _ _))
  have hA : bcA x ≤ x := Nat.sub_le _ _
  unfold bcN
  generalize bcA x = a at w1 hA ⊢
  have u2 : ((nI a).toUInt32 >>> ((2 : Int32).toUInt32 &&& Int32.toUInt32 31)).toInt32 = nI (a / 4) := pk_ushrN (by omega) 2 2 (by decide)
  have v2 : nI (a / 4) &&& 858993459 = nI ((a / 4) &&& 858993459) := nx_and _ _
  have v3 : nI a &&& 858993459 = nI (a &&& 858993459) := nx_and _ _
  have w2 : nI (a &&& 858993459) + nI ((a / 4) &&& 858993459) = nI (bcB a) := nI_add _ _
  have hB : bcB a ≤ a + a / 4 := Nat.add_le_add Nat.and_le_left Nat.and_le_left
  generalize bcB a = b at w2 hB ⊢
  have u3 : ((nI b).toUInt32 >>> ((4 : Int32).toUInt32 &&& Int32.toUInt32 31)).toInt32 = nI (b / 16) := pk_ushrN (by omega) 4 4 (by decide)
  have w3 : nI b + nI (b / 16) = nI (b + b / 16) := nI_add _ _
  have v4 : nI (b + b / 16) &&& 252645135 = nI (bcC b) := nx_and _ _
  have hC : bcC b ≤ b + b / 16 := Nat.and_le_left
  generalize bcC b = c at v4 hC ⊢
  have u4 : ((nI c).toUInt32 >>> ((8 : Int32).toUInt32 &&& Int32.toUInt32 31)).toInt32 = nI (c / 256) := pk_ushrN (by omega) 8 8 (by decide)
  have w4 : nI c + nI (c / 256) = nI (bcD c) := nI_add _ _
  have hD : bcD c = c + c / 256 := rfl
  generalize bcD c = d at w4 hD ⊢
  have u5 : ((nI d).toUInt32 >>> ((16 : Int32).toUInt32 &&& Int32.toUInt32 31)).toInt32 = nI (d / 65536) := pk_ushrN (by omega) 16 16 (by decide)
  have w5 : nI d + nI (d / 65536) = nI (bcE d) := nI_add _ _
  have v6 : nI (bcE d) &&& 63 = nI (bcE d &&& 63) := nx_and _ _
  simp only [s160_0, s160_1, s160_2, s160_3, s160_4, s160_7, s160_8, s160_9, s160_10, s160_11, s160_14, s160_15, s160_16, s160_17, s160_18, s160_21, s160_22, s160_23, s160_24, s160_25, s160_26, s160_27, s160_28, s160_29, s160_32, s160_33, s160_34, s160_35, s160_36, s160_38, s160_39, s160_40, s160_41, s160_42, s160_43, s160_45, s160_46, s160_47, s160_48, s160_49, s160_51, s160_52, u1, v1, w1, u2, v2, v3, w2, u3, w3, v4, u4, w4, u5, w5, v6, ↓reduceIte, va_rf_s, va_rf_n, jb_some, jb_none, jtl_s, jtl_n, if_true, if_false, true_and, and_true, false_and, and_false, or_true, true_or, or_false, false_or, not_true_eq_false, not_false_eq_true, jk_si, jp_si, jj_si, jk_sj, jp_sj, ji_sj, jk_ci, jp_ci, jj_ci, jk_cj, jp_cj, ji_cj, jlng_n, jlng_i, jlng_r, jlng_0]
/-- n bits, each as a digit 1 or 2 of base 4 -/
def en : Nat → Nat → Nat
  | 0, _ => 0
  | n + 1, w => en n (w / 2) * 4 + (1 + w % 2)
theorem en_lt : ∀ (n w : Nat), en n w < 4 ^ n
  | 0, _ => by simp [en]
  | n + 1, w => by
    have h1 := en_lt n (w / 2)
    have h2 : 4 ^ (n + 1) = 4 ^ n * 4 := Nat.pow_succ ..
    rw [en, h2]
    omega
/-- what is spelled: the sync s, then the bits and their parity -/
def SP (s b : Nat) : Nat := s * 4 ^ 17 + en 17 (2 * b + (1 - bcN b % 2))
theorem lN_or4 {a d : Nat} (hd : d < 4) (h : a * 4 + d < 2 ^ 63) : lN (a * 4) ||| lN d = lN (a * 4 + d) := g_or (k := 2) (p := 4) rfl hd (by omega)
theorem lN_sh2 (a : Nat) : lN a <<< ((2 : Int32).toInt64 &&& 63) = lN (a * 4) := wb_shl a (k := 2) (by omega)
theorem shr_bit {w m : Nat} (hw : w < 2 ^ 31) (hm : m < 32) : (nI w >>> (nI m &&& 31)) &&& 1 = nI (w / 2 ^ m % 2) := by
  have h1 : nI w >>> (nI m &&& 31) = nI (w / 2 ^ m) := pk_shrN hw (nI m &&& 31) m (s_l m hm)
  rw [h1]
  show nI (w / 2 ^ m) &&& nI 1 = _
  rw [nx_and, Nat.and_one_is_mod]
theorem spell_step {s wp m : Nat} (hm : m ≤ 16) : (s * 4 ^ (16 - m) + en (16 - m) (wp / 2 ^ (m + 1))) * 4 + (1 + wp / 2 ^ m % 2) = s * 4 ^ (17 - m) + en (17 - m) (wp / 2 ^ m) := by
  have h1 : s * 4 ^ (16 - m + 1) = s * 4 ^ (16 - m) * 4 := by rw [Nat.pow_succ, Nat.mul_assoc]
  have h2 : wp / 2 ^ m / 2 = wp / 2 ^ (m + 1) := by rw [Nat.div_div_eq_div_mul, ← Nat.pow_succ]
  rw [show 17 - m = (16 - m) + 1 by omega, en, h1, h2, Nat.add_mul]
  omega
theorem spell_loop {s wp : Nat} (hs : s < 64) (hw : wp < 2 ^ 17) (l0 l1 : Option Value) (h : jH) : ∀ (m : Nat), m ≤ 17 → jV 0 38 [l0, l1, some (.int (nI wp)), some (.long (lN (s * 4 ^ (17 - m) + en (17 - m) (wp / 2 ^ m)))), none, some (.int (nI m - 1))] [] h = some (some (.long (lN (s * 4 ^ 17 + en 17 wp))), h)
  | 0, _ => by
    have a1 : nI 0 - 1 < 0 := by decide
    simp only [s0_38, s0_40, s0_43, s0_44, s0_45, s0_46, s0_47, s0_49, s0_50, s0_51, s0_52, s0_53, s0_56, s0_57, s0_60, s0_61, s0_62, s0_63, s0_64, s0_67, s0_70, s0_71, a1, Nat.sub_zero, Nat.pow_zero, Nat.div_one, ↓reduceIte, va_rf_s, va_rf_n, jb_some, jb_none, jtl_s, jtl_n, if_true, if_false, true_and, and_true, false_and, and_false, or_true, true_or, or_false, false_or, not_true_eq_false, not_false_eq_true, jk_si, jp_si, jj_si, jk_sj, jp_sj, ji_sj, jk_ci, jp_ci, jj_ci, jk_cj, jp_cj, ji_cj, jlng_n, jlng_i, jlng_r, jlng_0]
  | m + 1, hm => by
    have ih := spell_loop hs hw l0 l1 h m (by omega)
    have e0 : nI (m + 1) - 1 = nI m := nI_pred m
    have a1 : ¬ nI m < 0 := nI_pos (by omega)
    have e1 := shr_bit (w := wp) (m := m) (by omega) (by omega)
    have e2 := spell_step (s := s) (wp := wp) (m := m) (by omega)
    have hb : s * 4 ^ (17 - m) + en (17 - m) (wp / 2 ^ m) < 2 ^ 63 := by
      have h1 := en_lt (17 - m) (wp / 2 ^ m)
      have h2 : 4 ^ (17 - m) ≤ 4 ^ 17 := Nat.pow_le_pow_right (by omega) (by omega)
      have h3 : s * 4 ^ (17 - m) ≤ 63 * 4 ^ 17 := Nat.mul_le_mul (by omega) h2
      have h4 : 63 * 4 ^ 17 + 4 ^ 17 < 2 ^ 63 := by decide
      omega
    rw [← e2] at hb ih
    rw [e0, show 17 - (m + 1) = 16 - m by omega]
    generalize s * 4 ^ (16 - m) + en (16 - m) (wp / 2 ^ (m + 1)) = a at hb ih ⊢
    rcases Nat.mod_two_eq_zero_or_one (wp / 2 ^ m) with z | z
    · rw [z] at hb ih e1
      have e3 : ¬ nI 0 = 1 := by decide
      have e4 : lN (a * 4) ||| (1 : Int32).toInt64 = lN (a * 4 + (1 + 0)) := lN_or4 (d := 1) (by omega) (by omega)
      rw [← ih]
      simp only [s0_40, s0_43, s0_44, s0_45, s0_46, s0_47, s0_49, s0_50, s0_51, s0_52, s0_53, s0_56, s0_57, s0_60, s0_61, s0_62, s0_63, s0_64, s0_67, s0_70, s0_71, s0_38 (x := nI m), a1, e1, e3, e4, lN_sh2, nI_dec, ↓reduceIte, va_rf_s, va_rf_n, jb_some, jb_none, jtl_s, jtl_n, if_true, if_false, true_and, and_true, false_and, and_false, or_true, true_or, or_false, false_or, not_true_eq_false, not_false_eq_true, jk_si, jp_si, jj_si, jk_sj, jp_sj, ji_sj, jk_ci, jp_ci, jj_ci, jk_cj, jp_cj, ji_cj, jlng_n, jlng_i, jlng_r, jlng_0]
    · rw [z] at hb ih e1
      have e3 : nI 1 = 1 := rfl
      have e4 : lN (a * 4) ||| (2 : Int32).toInt64 = lN (a * 4 + (1 + 1)) := lN_or4 (d := 2) (by omega) (by omega)
      rw [← ih]
      simp only [s0_40, s0_43, s0_44, s0_45, s0_46, s0_47, s0_49, s0_50, s0_51, s0_52, s0_53, s0_56, s0_57, s0_60, s0_61, s0_62, s0_63, s0_64, s0_67, s0_70, s0_71, s0_38 (x := nI m), a1, e1, e3, e4, lN_sh2, nI_dec, ↓reduceIte, va_rf_s, va_rf_n, jb_some, jb_none, jtl_s, jtl_n, if_true, if_false, true_and, and_true, false_and, and_false, or_true, true_or, or_false, false_or, not_true_eq_false, not_false_eq_true, jk_si, jp_si, jj_si, jk_sj, jp_sj, ji_sj, jk_ci, jp_ci, jj_ci, jk_cj, jp_cj, ji_cj, jlng_n, jlng_i, jlng_r, jlng_0]
theorem or_low {b p : Nat} (hp : p < 2) (hb : b < 2 ^ 20) : (nI b <<< ((1 : Int32) &&& 31)) ||| nI p = nI (2 * b + p) := by
  have h1 : nI b <<< ((1 : Int32) &&& 31) = nI (b * 2 ^ 1) := pk_shlN (1 &&& 31) 1 (by decide) (by omega)
  rw [h1]
  apply Int32.toBitVec_inj.1
  show BitVec.ofNat 32 (b * 2 ^ 1) ||| BitVec.ofNat 32 p = BitVec.ofNat 32 (2 * b + p)
  rw [← BitVec.ofNat_or, ← Nat.shiftLeft_eq, ← Nat.shiftLeft_add_eq_or_of_lt (by omega), Nat.shiftLeft_eq]
  congr 1
  omega
theorem c_spell {c b : Nat} (hb : b < 65536) (hc : c ≤ 1) (h : jH) : jV 0 0 [some (.int (nI (65536 * c + b))), none, none, none, none, none] [] h = some (some (.long (lN (SP (if c = 1 then 56 else 7) b))), h) := by
  have e1 : nI (65536 * c + b) &&& 65535 = nI b := by rw [nx_mod]; congr 1; omega
  have e2 := c_bitCount (x := b) (by omega) h
  have e3 : nI (bcN b) &&& 1 = nI (bcN b % 2) := by
    show nI (bcN b) &&& nI 1 = _
    rw [nx_and, Nat.and_one_is_mod]
  have e4 : 1 - nI (bcN b % 2) = nI (1 - bcN b % 2) := pk_sub (a := 1) (by omega)
  have e5 := or_low (b := b) (p := 1 - bcN b % 2) (by omega) (by omega)
  have hw : 2 * b + (1 - bcN b % 2) < 2 ^ 17 := by omega
  have z0 : nI 17 - 1 = 16 := by decide
  rcases (show c = 0 ∨ c = 1 by omega) with rfl | rfl
  · have a1 : nI (65536 * 0 + b) < 65536 := nI_lt (b := 65536) (by omega) (by omega)
    have h2 := spell_loop (s := 7) (by omega) hw (some (.int (nI (65536 * 0 + b)))) (some (.int (nI b))) h 17 (Nat.le_refl _)
    rw [z0] at h2
    unfold SP
    rw [if_neg (by omega), ← h2]
    simp only [s0_0, s0_1, s0_3, s0_4, s0_5, s0_6, s0_7, s0_8, s0_9, s0_10, s0_13, s0_14, s0_15, s0_16, s0_17, s0_18, s0_19, s0_21, s0_24, s0_27, s0_30, s0_33, s0_34, s0_36, e1, e2, e3, e4, e5, a1, ↓reduceIte, va_rf_s, va_rf_n, jb_some, jb_none, jtl_s, jtl_n, if_true, if_false, true_and, and_true, false_and, and_false, or_true, true_or, or_false, false_or, not_true_eq_false, not_false_eq_true, jk_si, jp_si, jj_si, jk_sj, jp_sj, ji_sj, jk_ci, jp_ci, jj_ci, jk_cj, jp_cj, ji_cj, jlng_n, jlng_i, jlng_r, jlng_0]
    rfl
  · have a1 : ¬ nI (65536 * 1 + b) < 65536 := nI_nlt (b := 65536) (by omega) (by omega)
    have h2 := spell_loop (s := 56) (by omega) hw (some (.int (nI (65536 * 1 + b)))) (some (.int (nI b))) h 17 (Nat.le_refl _)
    rw [z0] at h2
    unfold SP
    rw [if_pos rfl, ← h2]
    simp only [s0_0, s0_1, s0_3, s0_4, s0_5, s0_6, s0_7, s0_8, s0_9, s0_10, s0_13, s0_14, s0_15, s0_16, s0_17, s0_18, s0_19, s0_21, s0_24, s0_27, s0_30, s0_33, s0_34, s0_36, e1, e2, e3, e4, e5, a1, ↓reduceIte, va_rf_s, va_rf_n, jb_some, jb_none, jtl_s, jtl_n, if_true, if_false, true_and, and_true, false_and, and_false, or_true, true_or, or_false, false_or, not_true_eq_false, not_false_eq_true, jk_si, jp_si, jj_si, jk_sj, jp_sj, ji_sj, jk_ci, jp_ci, jj_ci, jk_cj, jp_cj, ji_cj, jlng_n, jlng_i, jlng_r, jlng_0]
    rfl

/-! reading -/
theorem en_inj : ∀ (n a b : Nat), a < 2 ^ n → b < 2 ^ n → en n a = en n b → a = b
  | 0, a, b, ha, hb, _ => by omega
  | n + 1, a, b, ha, hb, h => by
    rw [en, en] at h
    have h2 := Nat.pow_succ (n := 2) (m := n)
    have := en_inj n (a / 2) (b / 2) (by omega) (by omega) (by omega)
    omega
theorem dig {n m : Nat} : n / 4 ^ m = n / 4 ^ (m + 1) * 4 + n / 4 ^ m % 4 := by
  have h1 : n / 4 ^ (m + 1) = n / 4 ^ m / 4 := by rw [Nat.pow_succ, Nat.div_div_eq_div_mul]
  omega
/-- the highest digits of n, from m on, spell a -/
def hi (n m a : Nat) : Prop := a < 2 ^ (17 - m) ∧ n / 4 ^ m % 4 ^ (17 - m) = en (17 - m) a
theorem hi_step {n m a : Nat} (hm : m ≤ 16) (h : hi n (m + 1) a) {d : Nat} (hd : n / 4 ^ m % 4 = 1 + d) (hd2 : d ≤ 1) : hi n m (2 * a + d) := by
  obtain ⟨h1, h2⟩ := h
  have e : 17 - m = (17 - (m + 1)) + 1 := by omega
  refine ⟨by rw [e, Nat.pow_succ]; omega, ?_⟩
  have e2 : n / 4 ^ m % 4 ^ (17 - m) = (n / 4 ^ (m + 1) % 4 ^ (17 - (m + 1))) * 4 + n / 4 ^ m % 4 := by
    have e3 : n / 4 ^ m / 4 = n / 4 ^ (m + 1) := by rw [Nat.div_div_eq_div_mul, ← Nat.pow_succ]
    rw [e, Nat.pow_succ, Nat.mul_comm (4 ^ _) 4, Nat.mod_mul, e3]
    omega
  rw [e2, h2, hd, e, en]
  have : (2 * a + d) / 2 = a := by omega
  have h3 : (2 * a + d) % 2 = d := by omega
  rw [this, h3]
theorem en_dig : ∀ (k w x m : Nat), m < k → x % 4 ^ k = en k w → x / 4 ^ m % 4 = 1 + w / 2 ^ m % 2
  | 0, w, x, m, h1, _ => by omega
  | k + 1, w, x, m, h1, h2 => by
    have e1 : x % 4 ^ (k + 1) = x % 4 + 4 * (x / 4 % 4 ^ k) := by rw [Nat.pow_succ, Nat.mul_comm (4 ^ k) 4, Nat.mod_mul]
    rw [e1, en] at h2
    cases m with
    | zero =>
      rw [Nat.pow_zero, Nat.div_one]
      omega
    | succ m =>
      have h4 : x / 4 ^ (m + 1) = x / 4 / 4 ^ m := by rw [Nat.pow_succ, Nat.mul_comm, Nat.div_div_eq_div_mul]
      have h5 : w / 2 ^ (m + 1) = w / 2 / 2 ^ m := by rw [Nat.pow_succ, Nat.mul_comm, Nat.div_div_eq_div_mul]
      rw [h4, h5]
      exact en_dig k (w / 2) (x / 4) m (by omega) (by omega)
theorem sh34 {n : Nat} (hn : n < 2 ^ 62) : lN n >>> ((34 : Int32).toInt64 &&& 63) = lN (n / 2 ^ 34) := pf_shr (by decide) hn
theorem sh2m {n m : Nat} (hn : n < 2 ^ 62) (hm : m ≤ 31) : lN n >>> ((nI (2 * m)).toInt64 &&& 63) = lN (n / 4 ^ m) := by
  have h1 : (((nI (2 * m)).toInt64 &&& 63).toBitVec.smod 64).toNat = 2 * m := by
    rw [wb_c (2 * m) (by omega)]
    rw [wb_tb, wb_sm (2 * m) (by omega), BitVec.toNat_ofNat, Nat.mod_eq_of_lt (by omega)]
  rw [pf_shr h1 hn, Nat.pow_mul]
theorem and3 {n : Nat} (hn : n < 2 ^ 62) : (lN n &&& 3).toInt32 = nI (n % 4) := by
  have h1 : lN n &&& lN (2 ^ 2 - 1) = lN (n % 2 ^ 2) := wb_mask (by omega) (by omega)
  have h2 : lN n &&& 3 = lN (n % 4) := h1
  rw [h2, lN_i]
theorem lg_eq0 {a b : Nat} (ha : a < 2 ^ 62) (hb : b < 2 ^ 62) : lg_cmp (lN a) (lN b) = 0 ↔ a = b := by
  unfold lg_cmp
  have h1 : (lN a > lN b) ↔ b < a := pk_lLT (by omega) (by omega)
  have h2 : (lN a = lN b) ↔ a = b := pk_lEQ (by omega) (by omega)
  by_cases c : b < a
  · rw [if_pos (h1.mpr c)]
    constructor
    · intro z; exact absurd z (by decide)
    · intro z; omega
  · rw [if_neg (fun q => c (h1.mp q))]
    by_cases c2 : a = b
    · rw [if_pos (h2.mpr c2)]
      exact ⟨fun _ => c2, fun _ => rfl⟩
    · rw [if_neg (fun q => c2 (h2.mp q))]
      constructor
      · intro z; exact absurd z (by decide)
      · intro z; exact absurd z c2
/-- what such halves are, n of them below 2 to the 40th -/
def RD (n : Nat) (r : Int32) : Prop := (∃ c b, b < 65536 ∧ c ≤ 1 ∧ n = SP (if c = 1 then 56 else 7) b ∧ r = nI (65536 * c + b)) ∨ (r = -1 ∧ ¬ ∃ c b, b < 65536 ∧ c ≤ 1 ∧ n = SP (if c = 1 then 56 else 7) b)
theorem SP_mod (s b : Nat) : SP s b % 4 ^ 17 = en 17 (2 * b + (1 - bcN b % 2)) ∧ SP s b / 4 ^ 17 = s := by
  have h := en_lt 17 (2 * b + (1 - bcN b % 2))
  unfold SP
  rw [Nat.mul_comm]
  exact ⟨by rw [Nat.mul_add_mod, Nat.mod_eq_of_lt h], by rw [Nat.mul_add_div (by decide), Nat.div_eq_of_lt h, Nat.add_zero]⟩
theorem pc_shift (k x : Nat) : pc (k + 1) x = pc k (x / 2) + x % 2 := rfl
theorem pc_top : ∀ (k x : Nat), x < 2 ^ k → pc (k + 1) x = pc k x
  | 0, x, h => by
    have : x = 0 := by omega
    subst this
    rfl
  | k + 1, x, h => by
    rw [pc_shift, pc_top k (x / 2) (by rw [Nat.pow_succ] at h; omega), ← pc_shift]
/-- a is odd in bits: its lowest bit is the parity of the others -/
theorem par_odd {a : Nat} (ha : a < 2 ^ 17) (ho : bcN a % 2 = 1) : a = 2 * (a / 2) + (1 - bcN (a / 2) % 2) := by
  have h1 := bcN_par ha
  have h2 := bcN_par (w := a / 2) (by omega)
  rw [pc_shift] at h1
  have h3 : pc 17 (a / 2) = pc 16 (a / 2) := pc_top 16 (a / 2) (by omega)
  omega
theorem par_sp {b : Nat} (hb : b < 65536) : bcN (2 * b + (1 - bcN b % 2)) % 2 = 1 := by
  have h1 := bcN_par (w := 2 * b + (1 - bcN b % 2)) (by omega)
  have h2 := bcN_par (w := b) (by omega)
  have h3 : pc 17 b = pc 16 b := pc_top 16 b (by omega)
  rw [pc_shift, show (2 * b + (1 - bcN b % 2)) / 2 = b by omega] at h1
  omega

theorem orx {a d : Nat} (ha : a < 2 ^ 20) (hd : d ≤ 1) : (nI a <<< ((1 : Int32) &&& 31)) ||| (nI (1 + d) >>> ((1 : Int32) &&& 31)) = nI (2 * a + d) := by
  have h1 : nI (1 + d) >>> ((1 : Int32) &&& 31) = nI ((1 + d) / 2 ^ 1) := pk_shrN (by omega) (1 &&& 31) 1 (by decide)
  have h2 : (1 + d) / 2 ^ 1 = d := by omega
  rw [h1, h2]
  exact or_low (by omega) ha
theorem read_loop {n s : Nat} (hn : n < 2 ^ 40) (h : jH) : ∀ (m a : Nat) (l6 : Option Value), m ≤ 17 → hi n m a → (∃ a2 l7, hi n 0 a2 ∧ jV 1 30 [some (.long (lN n)), none, some (.long (lN s)), none, some (.int (nI a)), some (.int (nI m - 1)), l6] [] h = jV 1 79 [some (.long (lN n)), none, some (.long (lN s)), none, some (.int (nI a2)), some (.int (-1)), l7] [] h) ∨ ((¬ ∃ a2, n % 4 ^ 17 = en 17 a2) ∧ jV 1 30 [some (.long (lN n)), none, some (.long (lN s)), none, some (.int (nI a)), some (.int (nI m - 1)), l6] [] h = some (some (.int (-1)), h))
  | 0, a, l6, _, ha => by
    refine Or.inl ⟨a, l6, ha, ?_⟩
    have a1 : nI 0 - 1 < 0 := by decide
    have a2 : nI 0 - 1 = -1 := by decide
    simp only [s1_30, s1_32, a1, a2, show (-1 : Int32) < 0 by decide, ↓reduceIte, va_rf_s, va_rf_n, jb_some, jb_none, jtl_s, jtl_n, if_true, if_false, true_and, and_true, false_and, and_false, or_true, true_or, or_false, false_or, not_true_eq_false, not_false_eq_true, jk_si, jp_si, jj_si, jk_sj, jp_sj, ji_sj, jk_ci, jp_ci, jj_ci, jk_cj, jp_cj, ji_cj, jlng_n, jlng_i, jlng_r, jlng_0]
  | m + 1, a, l6, hm, ha => by
    have e0 : nI (m + 1) - 1 = nI m := nI_pred m
    have a1 : ¬ nI m < 0 := nI_pos (by omega)
    have e1 : (2 : Int32) * nI m = nI (2 * m) := pk_mul 2 m
    have e2 := sh2m (n := n) (m := m) (by omega) (by omega)
    have e3 := and3 (n := n / 4 ^ m) (Nat.lt_of_le_of_lt (Nat.div_le_self _ _) (by omega))
    rw [e0]
    by_cases c1 : n / 4 ^ m % 4 = 1 ∨ n / 4 ^ m % 4 = 2
    · obtain ⟨d, hd, hd2⟩ : ∃ d, n / 4 ^ m % 4 = 1 + d ∧ d ≤ 1 := by
        rcases c1 with z | z
        · exact ⟨0, by omega, by omega⟩
        · exact ⟨1, by omega, by omega⟩
      rw [hd] at e3
      have h3 := hi_step (by omega) ha hd hd2
      have hal : a < 2 ^ 20 := Nat.lt_of_lt_of_le ha.1 (Nat.pow_le_pow_right (by omega) (by omega))
      have e4 := orx (a := a) (d := d) hal hd2
      have go : ∀ l6, jV 1 30 [some (.long (lN n)), none, some (.long (lN s)), none, some (.int (nI a)), some (.int (nI m)), l6] [] h = jV 1 30 [some (.long (lN n)), none, some (.long (lN s)), none, some (.int (nI (2 * a + d))), some (.int (nI m - 1)), some (.int (nI (1 + d)))] [] h := by
        intro l6
        rcases (show d = 0 ∨ d = 1 by omega) with rfl | rfl
        · have b1 : ¬ nI (1 + 0) = 2 := by decide
          have b2 : nI (1 + 0) = 1 := rfl
          have e5 : (nI a <<< ((1 : Int32) &&& 31)) ||| ((1 : Int32) >>> ((1 : Int32) &&& 31)) = nI (2 * a + 0) := e4
          simp only [s1_32, s1_35, s1_36, s1_37, s1_39, s1_40, s1_41, s1_44, s1_45, s1_46, s1_48, s1_50, s1_51, s1_54, s1_56, s1_57, s1_60, s1_61, s1_62, s1_64, s1_65, s1_66, s1_68, s1_69, s1_70, s1_71, s1_73, s1_76, s1_30 (x := nI m), a1, e1, e2, e3, b1, b2, e4, e5, nI_dec, ↓reduceIte, va_rf_s, va_rf_n, jb_some, jb_none, jtl_s, jtl_n, if_true, if_false, true_and, and_true, false_and, and_false, or_true, true_or, or_false, false_or, not_true_eq_false, not_false_eq_true, jk_si, jp_si, jj_si, jk_sj, jp_sj, ji_sj, jk_ci, jp_ci, jj_ci, jk_cj, jp_cj, ji_cj, jlng_n, jlng_i, jlng_r, jlng_0]
          simp only [show ¬ (1 : Int32) = 2 by decide, e5, nI_dec, s1_32, s1_35, s1_36, s1_37, s1_39, s1_40, s1_41, s1_44, s1_45, s1_46, s1_48, s1_50, s1_51, s1_54, s1_56, s1_57, s1_60, s1_61, s1_62, s1_64, s1_65, s1_66, s1_68, s1_69, s1_70, s1_71, s1_73, s1_76, ↓reduceIte, va_rf_s, va_rf_n, jb_some, jb_none, jtl_s, jtl_n, if_true, if_false, true_and, and_true, false_and, and_false, or_true, true_or, or_false, false_or, not_true_eq_false, not_false_eq_true, jk_si, jp_si, jj_si, jk_sj, jp_sj, ji_sj, jk_ci, jp_ci, jj_ci, jk_cj, jp_cj, ji_cj, jlng_n, jlng_i, jlng_r, jlng_0]
        · have b1 : nI (1 + 1) = 2 := rfl
          have e5 : (nI a <<< ((1 : Int32) &&& 31)) ||| ((2 : Int32) >>> ((1 : Int32) &&& 31)) = nI (2 * a + 1) := e4
          simp only [s1_32, s1_35, s1_36, s1_37, s1_39, s1_40, s1_41, s1_44, s1_45, s1_46, s1_48, s1_50, s1_51, s1_54, s1_56, s1_57, s1_60, s1_61, s1_62, s1_64, s1_65, s1_66, s1_68, s1_69, s1_70, s1_71, s1_73, s1_76, s1_30 (x := nI m), a1, e1, e2, e3, b1, e4, e5, nI_dec, ↓reduceIte, va_rf_s, va_rf_n, jb_some, jb_none, jtl_s, jtl_n, if_true, if_false, true_and, and_true, false_and, and_false, or_true, true_or, or_false, false_or, not_true_eq_false, not_false_eq_true, jk_si, jp_si, jj_si, jk_sj, jp_sj, ji_sj, jk_ci, jp_ci, jj_ci, jk_cj, jp_cj, ji_cj, jlng_n, jlng_i, jlng_r, jlng_0]
      rw [go]
      rcases read_loop hn h m (2 * a + d) (some (.int (nI (1 + d)))) (by omega) h3 with ⟨a2, l7, z1, z2⟩ | ⟨z1, z2⟩
      · exact Or.inl ⟨a2, l7, z1, z2⟩
      · exact Or.inr ⟨z1, z2⟩
    · refine Or.inr ⟨fun ⟨a2, z⟩ => c1 ?_, ?_⟩
      · have := en_dig 17 a2 n m (by omega) z
        omega
      · have b1 : ¬ nI (n / 4 ^ m % 4) = 2 := fun q => c1 (Or.inr ((nI_eq (b := 2) (by omega) (by omega)).mp q))
        have b2 : ¬ nI (n / 4 ^ m % 4) = 1 := fun q => c1 (Or.inl ((nI_eq (b := 1) (by omega) (by omega)).mp q))
        simp only [s1_32, s1_35, s1_36, s1_37, s1_39, s1_40, s1_41, s1_44, s1_45, s1_46, s1_48, s1_50, s1_51, s1_54, s1_56, s1_57, s1_60, s1_61, s1_30 (x := nI m), a1, e1, e2, e3, b1, b2, ↓reduceIte, va_rf_s, va_rf_n, jb_some, jb_none, jtl_s, jtl_n, if_true, if_false, true_and, and_true, false_and, and_false, or_true, true_or, or_false, false_or, not_true_eq_false, not_false_eq_true, jk_si, jp_si, jj_si, jk_sj, jp_sj, ji_sj, jk_ci, jp_ci, jj_ci, jk_cj, jp_cj, ji_cj, jlng_n, jlng_i, jlng_r, jlng_0]
theorem c_read {n : Nat} (hn : n < 2 ^ 40) (h : jH) : ∃ r, jV 1 0 [some (.long (lN n)), none, none, none, none, none, none] [] h = some (some (.int r), h) ∧ RD n r := by
  have e1 := sh34 (n := n) (by omega)
  have hs : n / 2 ^ 34 < 2 ^ 62 := Nat.lt_of_le_of_lt (Nat.div_le_self _ _) (by omega)
  have e2 : lg_cmp (lN (n / 2 ^ 34)) 56 = 0 ↔ n / 2 ^ 34 = 56 := lg_eq0 (b := 56) hs (by omega)
  have e3 : lg_cmp (lN (n / 2 ^ 34)) 7 = 0 ↔ n / 2 ^ 34 = 7 := lg_eq0 (b := 7) hs (by omega)
  have e34 : (2 : Nat) ^ 34 = 4 ^ 17 := by decide
  by_cases c : n / 2 ^ 34 = 56 ∨ n / 2 ^ 34 = 7
  · have start : jV 1 0 [some (.long (lN n)), none, none, none, none, none, none] [] h = jV 1 30 [some (.long (lN n)), none, some (.long (lN (n / 2 ^ 34))), none, some (.int (nI 0)), some (.int (nI 17 - 1)), none] [] h := by
      have z0 : nI 17 - 1 = 16 := by decide
      rw [z0]
      rcases c with c | c
      · simp only [s1_0, s1_1, s1_3, s1_4, s1_5, s1_6, s1_9, s1_10, s1_13, s1_14, s1_17, s1_18, s1_21, s1_22, s1_23, s1_24, s1_26, s1_28, e1, e2, e3, c, ↓reduceIte, va_rf_s, va_rf_n, jb_some, jb_none, jtl_s, jtl_n, if_true, if_false, true_and, and_true, false_and, and_false, or_true, true_or, or_false, false_or, not_true_eq_false, not_false_eq_true, jk_si, jp_si, jj_si, jk_sj, jp_sj, ji_sj, jk_ci, jp_ci, jj_ci, jk_cj, jp_cj, ji_cj, jlng_n, jlng_i, jlng_r, jlng_0]
        rfl
      · have c' : ¬ n / 2 ^ 34 = 56 := by omega
        simp only [s1_0, s1_1, s1_3, s1_4, s1_5, s1_6, s1_9, s1_10, s1_13, s1_14, s1_17, s1_18, s1_21, s1_22, s1_23, s1_24, s1_26, s1_28, e1, e2, e3, c, c', show ¬ ((7 : Nat) = 56) by omega, ↓reduceIte, va_rf_s, va_rf_n, jb_some, jb_none, jtl_s, jtl_n, if_true, if_false, true_and, and_true, false_and, and_false, or_true, true_or, or_false, false_or, not_true_eq_false, not_false_eq_true, jk_si, jp_si, jj_si, jk_sj, jp_sj, ji_sj, jk_ci, jp_ci, jj_ci, jk_cj, jp_cj, ji_cj, jlng_n, jlng_i, jlng_r, jlng_0]
        rfl
    rw [start]
    have h17 : hi n 17 0 := ⟨by decide, by rw [Nat.sub_self]; exact Nat.mod_one _⟩
    rcases read_loop (s := n / 2 ^ 34) hn h 17 0 none (Nat.le_refl _) h17 with ⟨a, l7, z1, z2⟩ | ⟨z1, z2⟩
    · rw [z2]
      have ha : a < 2 ^ 17 := z1.1
      have hen : n % 4 ^ 17 = en 17 a := by have := z1.2; rwa [Nat.pow_zero, Nat.div_one] at this
      have b1 := c_bitCount ha h
      have b2 : nI (bcN a) &&& 1 = nI (bcN a % 2) := by
        show nI (bcN a) &&& nI 1 = _
        rw [nx_and, Nat.and_one_is_mod]
      have b3 : nI a >>> ((1 : Int32) &&& 31) = nI (a / 2 ^ 1) := pk_shrN (by omega) (1 &&& 31) 1 (by decide)
      rcases Nat.mod_two_eq_zero_or_one (bcN a) with z | z
      · rw [z] at b2
        refine ⟨-1, ?_, Or.inr ⟨rfl, ?_⟩⟩
        · simp only [s1_79, s1_81, s1_84, s1_85, s1_86, s1_89, s1_90, b1, b2, show nI 0 = 0 from rfl, ↓reduceIte, va_rf_s, va_rf_n, jb_some, jb_none, jtl_s, jtl_n, if_true, if_false, true_and, and_true, false_and, and_false, or_true, true_or, or_false, false_or, not_true_eq_false, not_false_eq_true, jk_si, jp_si, jj_si, jk_sj, jp_sj, ji_sj, jk_ci, jp_ci, jj_ci, jk_cj, jp_cj, ji_cj, jlng_n, jlng_i, jlng_r, jlng_0]
        · rintro ⟨c0, b, hb, hc, rfl⟩
          have h1 := (SP_mod (if c0 = 1 then 56 else 7) b).1
          rw [hen] at h1
          have h2 := en_inj 17 a _ ha (by omega) h1
          have h3 := par_sp hb
          rw [← h2] at h3
          omega
      · rw [z] at b2
        have hpo := par_odd ha z
        have hn2 : n = (n / 4 ^ 17) * 4 ^ 17 + en 17 a := by
          have := Nat.div_add_mod n (4 ^ 17)
          rw [hen, Nat.mul_comm] at this
          exact this.symm
        have nz : ¬ nI 1 = 0 := by decide
        rcases c with c | c
        · refine ⟨nI (65536 * 1 + a / 2), ?_, Or.inl ⟨1, a / 2, by omega, by omega, ?_, rfl⟩⟩
          · have b4 : (65536 : Int32) + nI (a / 2 ^ 1) = nI (65536 * 1 + a / 2) := nI_add 65536 (a / 2)
            simp only [s1_79, s1_81, s1_84, s1_85, s1_86, s1_89, s1_90, s1_91, s1_92, s1_95, s1_96, s1_99, s1_101, s1_104, s1_105, s1_107, s1_108, s1_109, s1_110, b1, b2, b3, b4, nz, c, show lg_cmp (lN 56) 56 = 0 by decide, ↓reduceIte, va_rf_s, va_rf_n, jb_some, jb_none, jtl_s, jtl_n, if_true, if_false, true_and, and_true, false_and, and_false, or_true, true_or, or_false, false_or, not_true_eq_false, not_false_eq_true, jk_si, jp_si, jj_si, jk_sj, jp_sj, ji_sj, jk_ci, jp_ci, jj_ci, jk_cj, jp_cj, ji_cj, jlng_n, jlng_i, jlng_r, jlng_0]
          · rw [if_pos rfl, hn2, ← e34, c]
            unfold SP
            rw [← hpo]
            try rfl
        · refine ⟨nI (65536 * 0 + a / 2), ?_, Or.inl ⟨0, a / 2, by omega, by omega, ?_, rfl⟩⟩
          · have b4 : (0 : Int32) + nI (a / 2 ^ 1) = nI (65536 * 0 + a / 2) := nI_add 0 (a / 2)
            simp only [s1_79, s1_81, s1_84, s1_85, s1_86, s1_89, s1_90, s1_91, s1_92, s1_95, s1_96, s1_99, s1_101, s1_104, s1_105, s1_107, s1_108, s1_109, s1_110, b1, b2, b3, b4, nz, c, show ¬ lg_cmp (lN 7) 56 = 0 by decide, ↓reduceIte, va_rf_s, va_rf_n, jb_some, jb_none, jtl_s, jtl_n, if_true, if_false, true_and, and_true, false_and, and_false, or_true, true_or, or_false, false_or, not_true_eq_false, not_false_eq_true, jk_si, jp_si, jj_si, jk_sj, jp_sj, ji_sj, jk_ci, jp_ci, jj_ci, jk_cj, jp_cj, ji_cj, jlng_n, jlng_i, jlng_r, jlng_0]
          · rw [if_neg (by omega), hn2, ← e34, c]
            unfold SP
            rw [← hpo]
            try rfl
    · refine ⟨-1, z2, Or.inr ⟨rfl, ?_⟩⟩
      rintro ⟨c0, b, hb, hc, rfl⟩
      exact z1 ⟨_, (SP_mod (if c0 = 1 then 56 else 7) b).1⟩
  · have c1 : ¬ n / 2 ^ 34 = 56 := fun q => c (Or.inl q)
    have c2 : ¬ n / 2 ^ 34 = 7 := fun q => c (Or.inr q)
    refine ⟨-1, ?_, Or.inr ⟨rfl, ?_⟩⟩
    · simp only [s1_0, s1_1, s1_3, s1_4, s1_5, s1_6, s1_9, s1_10, s1_13, s1_14, s1_17, s1_18, s1_21, s1_22, e1, e2, e3, c1, c2, ↓reduceIte, va_rf_s, va_rf_n, jb_some, jb_none, jtl_s, jtl_n, if_true, if_false, true_and, and_true, false_and, and_false, or_true, true_or, or_false, false_or, not_true_eq_false, not_false_eq_true, jk_si, jp_si, jj_si, jk_sj, jp_sj, ji_sj, jk_ci, jp_ci, jj_ci, jk_cj, jp_cj, ji_cj, jlng_n, jlng_i, jlng_r, jlng_0]
    · rintro ⟨c0, b, hb, hc, rfl⟩
      have h2 := (SP_mod (if c0 = 1 then 56 else 7) b).2
      rw [e34] at c1 c2
      by_cases g : c0 = 1
      · rw [if_pos g] at h2 c1; exact c1 h2
      · rw [if_neg g] at h2 c2; exact c2 h2
