/-! A TRANSFER IS TRIED until it is done -/
theorem id_end {g : jH} (q : MS g) {i : Nat} (hi : i < 24) (a v ln : Int32) (x5 : Option Value) : ∃ G, jV 138 138 [some (.ref 30), some (.int (nI i)), some (.int a), some (.int v), some (.int ln), x5] [] g = some (some (.int (if v = 0 then 1 else 0)), G) ∧ (ji G 66 (6 * i) = (if v = 0 then 1 else 2) ∧ ji G 66 (6 * i + 1) = a ∧ ji G 66 (6 * i + 2) = ln ∧ ji G 66 (6 * i + 3) = v ∧ ji G 66 (6 * i + 4) = ji g 66 (6 * i + 4) ∧ ji G 66 (6 * i + 5) = ji g 30 22) ∧ Fr (fun b k => b = 66 ∧ 6 * i ≤ k ∧ k < 6 * i + 6) g G := by
  have e0 : (6 : Int32) * nI i = nI (6 * i) := by
    show nI 6 * nI i = _
    rw [pk_mul]
  have e1 : nI (6 * i) + 1 = nI (6 * i + 1) := nI_add (6 * i) 1
  have e2 : nI (6 * i) + 2 = nI (6 * i + 2) := nI_add (6 * i) 2
  have e3 : nI (6 * i) + 3 = nI (6 * i + 3) := nI_add (6 * i) 3
  have e5 : nI (6 * i) + 5 = nI (6 * i + 5) := nI_add (6 * i) 5
  have j : ∀ k, k < 144 → jin (nI k) 144 = true := fun k hk => jin_nI hk (by omega)
  have c : ∀ k, k < 144 → (nI k).toNatClampNeg = k := fun k hk => nI_clamp (by omega)
  refine ⟨jsi (jsi (jsi (jsi (jsi g 66 (6 * i) (if v = 0 then 1 else 2)) 66 (6 * i + 1) a) 66 (6 * i + 2) ln) 66 (6 * i + 3) v) 66 (6 * i + 5) (ji g 30 22), ?_, ?_, (((((Fr.refl g).si ⟨rfl, by omega, by omega⟩).si ⟨rfl, by omega, by omega⟩).si ⟨rfl, by omega, by omega⟩).si ⟨rfl, by omega, by omega⟩).si ⟨rfl, by omega, by omega⟩⟩
  · by_cases d : v = 0
    · subst d
      simp only [s138_138, s138_139, s138_142, s138_144, s138_145, s138_146, s138_147, s138_150, s138_151, s138_154, s138_155, s138_156, s138_157, s138_160, s138_162, s138_163, s138_164, s138_165, s138_166, s138_167, s138_168, s138_169, s138_172, s138_174, s138_175, s138_176, s138_177, s138_178, s138_180, s138_181, s138_182, s138_185, s138_187, s138_188, s138_189, s138_190, s138_191, s138_192, s138_193, s138_194, s138_197, s138_199, s138_200, s138_201, s138_202, s138_203, s138_204, s138_207, s138_208, s138_209, s138_212, s138_213, s138_216, s138_217, k30 q, k66 q, p30_39 q, jk_si, jp_si, ji_si, e0, e1, e2, e3, e5, j _ (show 6 * i < 144 by omega), j _ (show 6 * i + 1 < 144 by omega), j _ (show 6 * i + 2 < 144 by omega), j _ (show 6 * i + 3 < 144 by omega), j _ (show 6 * i + 5 < 144 by omega), c _ (show 6 * i < 144 by omega), c _ (show 6 * i + 1 < 144 by omega), c _ (show 6 * i + 2 < 144 by omega), c _ (show 6 * i + 3 < 144 by omega), c _ (show 6 * i + 5 < 144 by omega), Nat.reduceEqDiff, ↓reduceIte, va_rf_s, va_rf_n, jb_some, jb_none, jtl_s, jtl_n, if_true, if_false, true_and, and_true, false_and, and_false, or_true, true_or, or_false, false_or, not_true_eq_false, not_false_eq_true, jk_si, jp_si, jj_si, jk_sj, jp_sj, ji_sj, jk_ci, jp_ci, jj_ci, jk_cj, jp_cj, ji_cj, jlng_n, jlng_i, jlng_r, jlng_0]
    · simp only [s138_138, s138_139, s138_142, s138_144, s138_145, s138_146, s138_147, s138_150, s138_151, s138_154, s138_155, s138_156, s138_157, s138_160, s138_162, s138_163, s138_164, s138_165, s138_166, s138_167, s138_168, s138_169, s138_172, s138_174, s138_175, s138_176, s138_177, s138_178, s138_180, s138_181, s138_182, s138_185, s138_187, s138_188, s138_189, s138_190, s138_191, s138_192, s138_193, s138_194, s138_197, s138_199, s138_200, s138_201, s138_202, s138_203, s138_204, s138_207, s138_208, s138_209, s138_212, s138_213, s138_216, s138_217, k30 q, k66 q, p30_39 q, jk_si, jp_si, ji_si, d, e0, e1, e2, e3, e5, j _ (show 6 * i < 144 by omega), j _ (show 6 * i + 1 < 144 by omega), j _ (show 6 * i + 2 < 144 by omega), j _ (show 6 * i + 3 < 144 by omega), j _ (show 6 * i + 5 < 144 by omega), c _ (show 6 * i < 144 by omega), c _ (show 6 * i + 1 < 144 by omega), c _ (show 6 * i + 2 < 144 by omega), c _ (show 6 * i + 3 < 144 by omega), c _ (show 6 * i + 5 < 144 by omega), Nat.reduceEqDiff, ↓reduceIte, va_rf_s, va_rf_n, jb_some, jb_none, jtl_s, jtl_n, if_true, if_false, true_and, and_true, false_and, and_false, or_true, true_or, or_false, false_or, not_true_eq_false, not_false_eq_true, jk_si, jp_si, jj_si, jk_sj, jp_sj, ji_sj, jk_ci, jp_ci, jj_ci, jk_cj, jp_cj, ji_cj, jlng_n, jlng_i, jlng_r, jlng_0]
  · simp [ji_si]
/-- the reference keeps the words -/
theorem ib_loop {i blk cnt : Nat} (hi : i < 24) (hblk : blk ≤ 15) (hcnt : cnt ≤ 32) {x2 x3 x4 : Int32} : ∀ (n k : Nat) (g : jH), k + n = cnt → MS g → ji g 64 i = nI blk → (∀ {P : Nat → Nat → Prop} {h : jH}, Fr P g h → (∀ l k, ¬ l = 57 → ¬ P l k) → jV 136 0 [some (.ref 30), some (.int (nI i)), none] [] h = some (some (.int (nI cnt)), h)) → ∃ G, jV 138 96 [some (.ref 30), some (.int (nI i)), some (.int x2), some (.int x3), some (.int x4), some (.int (nI k))] [] g = jV 138 138 [some (.ref 30), some (.int (nI i)), some (.int x2), some (.int x3), some (.int x4), some (.int (nI cnt))] [] G ∧ Fr (fun b j => b = 57 ∧ 32 * blk + k ≤ j ∧ j < 32 * blk + cnt) g G ∧ ∀ j, k ≤ j → j < cnt → ji G 57 (32 * blk + j) = ji g 69 (1 + j)
  | 0, k, g, h, q, h64, hw => by
    have e : k = cnt := by omega
    subst e
    have lt : ¬ nI k < nI k := nI_nlt (Nat.le_refl k) (by omega)
    have w := hw (Fr.refl (P := fun _ _ => False) g) (fun _ _ _ => id)
    exact ⟨g, by simp only [s138_96, s138_98, s138_99, s138_100, s138_103, k30 q, w, lt, ↓reduceIte, va_rf_s, va_rf_n, jb_some, jb_none, jtl_s, jtl_n, if_true, if_false, true_and, and_true, false_and, and_false, or_true, true_or, or_false, false_or, not_true_eq_false, not_false_eq_true, jk_si, jp_si, jj_si, jk_sj, jp_sj, ji_sj, jk_ci, jp_ci, jj_ci, jk_cj, jp_cj, ji_cj, jlng_n, jlng_i, jlng_r, jlng_0], Fr.refl g, fun j h1 h2 => absurd h2 (by omega)⟩
  | n + 1, k, g, h, q, h64, hw => by
    have lt : nI k < nI cnt := nI_lt (by omega) (by omega)
    have w := hw (Fr.refl (P := fun _ _ => False) g) (fun _ _ _ => id)
    have f1 : Fr (fun b j => b = 57 ∧ j = 32 * blk + k) g (jsi g 57 (32 * blk + k) (ji g 69 (1 + k))) := (Fr.refl g).si ⟨rfl, rfl⟩
    obtain ⟨G, r1, r2, r3⟩ := ib_loop (x2 := x2) (x3 := x3) (x4 := x4) hi hblk hcnt n (k + 1) (jsi g 57 (32 * blk + k) (ji g 69 (1 + k))) (by omega) (f1.ms q) (by rw [f1.i (by omega)]; exact h64) (fun {P h} f hp => hw ((f1.sub (P' := fun b j => b = 57 ∨ P b j) (fun b j z => Or.inl z.1)).trans (f.sub (fun b j z => Or.inr z))) (fun l j hl z => z.elim hl (hp l j hl)))
    have a4 : jin (nI i) 24 = true := jin_nI hi (by omega)
    have a5 : (nI i).toNatClampNeg = i := nI_clamp (by omega)
    have c4 : jin (nI (32 * blk + k)) 512 = true := jin_nI (by omega) (by omega)
    have c5 : (nI (32 * blk + k)).toNatClampNeg = 32 * blk + k := nI_clamp (by omega)
    have d4 : jin (nI (1 + k)) 80 = true := jin_nI (by omega) (by omega)
    have d5 : (nI (1 + k)).toNatClampNeg = 1 + k := nI_clamp (by omega)
    have e2 : (32 : Int32) * nI blk + nI k = nI (32 * blk + k) := by
      show nI 32 * nI blk + nI k = _
      rw [pk_mul, nI_add]
    have e3 : (1 : Int32) + nI k = nI (1 + k) := nI_add 1 k
    have e1 : nI k + 1 = nI (k + 1) := nI_add k 1
    refine ⟨G, ?_, (f1.sub (fun b j z => ⟨z.1, by omega, by omega⟩)).trans (r2.sub (fun b j z => ⟨z.1, by omega, by omega⟩)), fun j h1 h2 => ?_⟩
    · rw [← r1]
      simp only [s138_96 (x := nI k), s138_98, s138_99, s138_100, s138_103, s138_106, s138_107, s138_110, s138_112, s138_113, s138_116, s138_117, s138_118, s138_119, s138_121, s138_122, s138_123, s138_126, s138_127, s138_129, s138_130, s138_131, s138_132, s138_135, k30 q, w, lt, k57 q, k64 q, k69 q, p30_30 q, p30_37 q, p30_50 q, a4, a5, c4, c5, d4, d5, h64, e1, e2, e3, ↓reduceIte, va_rf_s, va_rf_n, jb_some, jb_none, jtl_s, jtl_n, if_true, if_false, true_and, and_true, false_and, and_false, or_true, true_or, or_false, false_or, not_true_eq_false, not_false_eq_true, jk_si, jp_si, jj_si, jk_sj, jp_sj, ji_sj, jk_ci, jp_ci, jj_ci, jk_cj, jp_cj, ji_cj, jlng_n, jlng_i, jlng_r, jlng_0]
    · by_cases c : j = k
      · subst c
        rw [r2.i (by omega), ji_si, if_pos ⟨rfl, rfl⟩]
      · rw [r3 j (by omega) h2, f1.i (by omega)]
theorem BL.fr {P P' : Nat → Nat → Prop} {g g' h h' : jH} (hb : BL g g') (f : Fr P g h) (f' : Fr P' g' h') (h1 : ∀ k, ¬ P 27 k) (h2 : ∀ k, ¬ P' 57 k) : BL h h' := fun k hk => by
  rw [f.i (h1 k), f'.i (h2 k)]
  exact hb k hk
theorem AT.of {B n : Nat} {L A0 A1 : List Int32} {g g' : jH} (hE : EX B L g g' n A0 A1) (hW : ∃ LW, WI g 12 LW) (hb : BL g g') : AT B g g' := by
  obtain ⟨q1, q2, q3, q4, q5, q6, q7, q8⟩ := hE
  exact ⟨q1, q2, q3, q8, hb, hW, ⟨L, q4⟩, q6, ⟨A0, q7.2.2.1.1⟩, ⟨A1, q7.2.2.1.2⟩⟩
/-- a transfer, blocks, results: the rest stands -/
theorem AT.ch {P P' : Nat → Nat → Prop} {B q : Nat} {g g' h h' : jH} (hA : AT B g g') (kq : jk g q = (6, 0)) (hq : 74 ≤ q) (f : Fr P g h) (f' : Fr P' g' h') (h1 : ∀ b k, P b k → b = q ∨ b = 27) (h2 : ∀ b k, P' b k → b = 66 ∨ b = 57) (hb : BL h h') : AT B h h' := by
  obtain ⟨qc, qm, hR, hT, _, ⟨L1, w1⟩, ⟨L2, w2⟩, ⟨L3, w3⟩, ⟨L4, w4⟩, ⟨L5, w5⟩⟩ := hA
  have n1 : ∀ b k, b < 74 → ¬ b = 27 → ¬ P b k := fun b k z z' y => by have := h1 b k y; omega
  have n2 : ∀ b k, ¬ (b = 66 ∨ b = 57) → ¬ P' b k := fun b k z y => z (h2 b k y)
  have n3 : ∀ a b k, mTA a b k → ¬ P' b k := fun a b k z => n2 b k (by rcases z with ⟨z1, z2⟩ | ⟨z1, z2⟩ | ⟨z1, z2⟩ | ⟨z1, z2⟩ | ⟨z1, z2⟩ <;> omega)
  refine ⟨f.cs qc, f'.ms qm, hR.fr f f' (fun b k z1 z2 => n1 b k (by omega) (by omega)) (fun k z => n2 30 k (by omega)) (fun b k z1 z2 => n2 b k (by omega)), fun a ha => ?_, hb, ⟨L1, w1.fr f (fun b k z1 z2 => n1 b k (by omega) (by omega))⟩, ⟨L2, w2.fr f (fun b k z1 z2 => n1 b k (by omega) (by omega))⟩, ⟨L3, w3.fr f (fun b k z1 z2 => n1 b k (by omega) (by omega))⟩, ⟨L4, w4.fr f (fun b k z1 z2 => n1 b k (by omega) (by omega))⟩, ⟨L5, w5.fr f (fun b k z1 z2 => n1 b k (by omega) (by omega))⟩⟩
  have e31 : ji h' 31 a = ji g' 31 a := f'.i (n2 _ _ (by omega))
  rcases hT a ha with ⟨z1, z2, z3⟩ | ⟨t, z1, z2, z3⟩
  · exact Or.inl ⟨by rw [f.p]; exact z1, by rw [e31]; exact z2, z3.fr f' (n3 a)⟩
  · refine Or.inr ⟨t, by rw [f.p]; exact z1, by rw [e31]; exact z2, z3.fr f f' (fun b k y1 y2 y => ?_) (n3 a)⟩
    have ht := z3.1.1
    rcases h1 b k y with e | e
    · subst e
      exact q_out hT kq hq 0 (Or.inl ⟨a, t, ha, z1, y1, y2⟩)
    · omega
/-- what the class does when an attempt has gone well -/
theorem c_keep0 {g : jH} {q : Nat} {l : Int32} (qc : CS g) (kq : jk g q = (6, 0)) (h10 : ji g q 10 = 0) (h4 : ji g q 4 = 0) : jV 90 114 [some (.ref 1), some (.ref q), some (.int l)] [] g = some (none, jsi g q 7 1) := by
  have qc1 : CS (jsi g q 7 1) := ((Fr.refl (P := fun b k => b = q) g).si rfl).cs qc
  have i4 : ji (jsi g q 7 1) q 4 = 0 := by rw [ji_si, if_neg (by omega)]; exact h4
  simp only [s90_114, s90_115, s90_118, s90_121, s90_122, s90_123, s90_126, s90_127, s90_128, s90_131, s90_134, s90_135, s90_138, s90_141, s54_0, s54_1, s54_4, s54_7, s54_8, s54_9, s54_10, s54_11, s54_14, s54_16, s54_17, s54_18, s54_21, s54_24, kq, h10, k1 qc, k1 qc1, p1_1 qc1, p1_2 qc1, k10 qc1, p10_5 qc1, jk_si, jp_si, p1_1 qc, p1_2 qc, k10 qc, p10_5 qc, i4, ↓reduceIte, va_rf_s, va_rf_n, jb_some, jb_none, jtl_s, jtl_n, if_true, if_false, true_and, and_true, false_and, and_false, or_true, true_or, or_false, false_or, not_true_eq_false, not_false_eq_true, jk_si, jp_si, jj_si, jk_sj, jp_sj, ji_sj, jk_ci, jp_ci, jj_ci, jk_cj, jp_cj, ji_cj, jlng_n, jlng_i, jlng_r, jlng_0]
theorem c_keep1 {g : jH} {q w blk : Nat} {l : Int32} {A0 : List Int32} (qc : CS g) (kq : jk g q = (6, 0)) (hq : 74 ≤ q) (h10 : ji g q 10 = 0) (h4 : ¬ ji g q 4 = 0) (h3 : ji g q 3 = nI w) (h5 : ji g q 5 = nI blk) (hblk : blk ≤ 15) (hw : w ≤ 32) (hW : WI g 21 A0) (hl : 1 + w ≤ A0.length) : jV 90 114 [some (.ref 1), some (.ref q), some (.int l)] [] g = some (none, jci (jsi g q 7 1) 27 (va_cpy (ji g 22) (ji g 27) 1 (32 * blk) w)) := by
  have f : Fr (fun b k => b = q ∧ k = 7) g (jsi g q 7 1) := (Fr.refl g).si ⟨rfl, rfl⟩
  have qc1 : CS (jsi g q 7 1) := f.cs qc
  have W1 := hW.fr f (fun b k z1 z2 => by omega)
  have cp := w_copyTo W1 (t := 27) (N := 512) (k27 qc1) (by omega) (f := 1) (d := 32 * blk) (n := w) hl (by omega)
  have e22 : ji (jsi g q 7 1) (21 + 1) = ji g 22 := by rw [tv_fr f (fun k => by omega)]
  have e27 : ji (jsi g q 7 1) 27 = ji g 27 := by rw [tv_fr f (fun k => by omega)]
  rw [e22, e27, show nI 1 = 1 from rfl] at cp
  have i4 : ¬ ji (jsi g q 7 1) q 4 = 0 := by rw [ji_si, if_neg (by omega)]; exact h4
  have i3 : ji (jsi g q 7 1) q 3 = nI w := by rw [ji_si, if_neg (by omega)]; exact h3
  have i5 : ji (jsi g q 7 1) q 5 * 32 = nI (32 * blk) := by
    rw [ji_si, if_neg (by omega), h5]
    show nI blk * nI 32 = _
    rw [pk_mul, Nat.mul_comm]
  simp only [s90_114, s90_115, s90_118, s90_121, s90_122, s90_123, s90_126, s90_127, s90_128, s90_131, s90_134, s90_135, s90_138, s90_141, s54_0, s54_1, s54_4, s54_7, s54_8, s54_9, s54_10, s54_11, s54_14, s54_16, s54_17, s54_18, s54_21, s54_24, kq, h10, k1 qc, p1_1 qc, p1_2 qc, k10 qc, p10_5 qc, k21 qc, jk_si, jp_si, i4, i3, i5, cp, ↓reduceIte, va_rf_s, va_rf_n, jb_some, jb_none, jtl_s, jtl_n, if_true, if_false, true_and, and_true, false_and, and_false, or_true, true_or, or_false, false_or, not_true_eq_false, not_false_eq_true, jk_si, jp_si, jj_si, jk_sj, jp_sj, ji_sj, jk_ci, jp_ci, jj_ci, jk_cj, jp_cj, ji_cj, jlng_n, jlng_i, jlng_r, jlng_0]
