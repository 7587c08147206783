/-! HEARING: the branches -/
def WA (a : Nat) (L : List Int32) : Prop := ∃ (i : Nat) (x : Int32), L[i]? = some x ∧ isC x ∧ aN (cw x) = a ∧ ∀ (j : Nat) (y : Int32), i < j → L[j]? = some y → ¬ isC y
theorem mHp_y {a b k : Nat} (z : mYp a b k) : mHp a b k := by
  rcases z with z | ⟨z1, z2⟩ | z | z | ⟨z1, z2⟩
  · exact Or.inr (Or.inl z)
  · exact Or.inr (Or.inr (Or.inl ⟨z1, by omega⟩))
  · exact Or.inr (Or.inr (Or.inr (Or.inl z)))
  · exact Or.inr (Or.inr (Or.inr (Or.inr (Or.inl z))))
  · exact Or.inl (Or.inl ⟨by omega, z2⟩)
theorem mHp_73 {a b k : Nat} (z : b = 73 ∨ (b = 30 ∧ k = 56)) : mHp a b k := by
  rcases z with z | ⟨z1, z2⟩
  · exact Or.inr (Or.inr (Or.inr (Or.inr (Or.inr (Or.inl z)))))
  · exact Or.inr (Or.inr (Or.inl ⟨z1, by omega⟩))
theorem mHp_71 {a b k : Nat} (z : (b = 71 ∨ b = 72) ∧ k = a) : mHp a b k := Or.inr (Or.inr (Or.inr (Or.inr (Or.inr (Or.inr z)))))
theorem mTA_s {a b k : Nat} (z : (32 ≤ b ∧ b ≤ 34) ∨ (38 ≤ b ∧ b ≤ 48) ∨ b = 50) (y : k = a) : mTA a b k := Or.inl ⟨z, y⟩
theorem up_t {a b k : Nat} (z : mTA a b k) : mTA a b k ∨ b = 71 ∨ b = 72 ∨ b = 73 ∨ (b = 30 ∧ k = 56) := Or.inl z
theorem up_r {a b k : Nat} (z : b = 73 ∨ (b = 30 ∧ k = 56)) : mTA a b k ∨ b = 71 ∨ b = 72 ∨ b = 73 ∨ (b = 30 ∧ k = 56) := Or.inr (Or.inr (Or.inr z))
theorem up_m {a b k : Nat} (z : mTA a b k ∨ b = 73 ∨ (b = 30 ∧ k = 56)) : mHp a b k := z.elim Or.inl mHp_73
theorem cHp_y {t b k : Nat} (z : cYp t b k) : cHp t b k := by
  rcases z with z | z | z | ⟨z1, z2⟩
  · exact Or.inr (Or.inl z)
  · exact Or.inr (Or.inr (Or.inr ⟨by omega, by omega⟩))
  · exact Or.inr (Or.inr (Or.inl z))
  · exact Or.inl ⟨by omega, by omega⟩
theorem cHp_r {t b k : Nat} (z : (t ≤ b ∧ b ≤ t + 6) ∨ (18 ≤ b ∧ b ≤ 20)) : cHp t b k := by
  rcases z with z | z
  · exact Or.inl z
  · exact Or.inr (Or.inr (Or.inr ⟨by omega, by omega⟩))
/-- a terminal that waits for its partner -/
def RY (L : List Int32) (g g' : jH) (a t : Nat) : Prop := ji g t 15 = ji g' 72 a ∧ ∃ c, c < 65536 ∧ ¬ dN c ∧ ji g t 12 = nI c ∧ ji g' 43 a = 0 ∧ ((aN c = a ∧ mv g' a 44 = 0) ∨ (aN c = 31 ∧ mv g' a 44 = 1)) ∧ 2 ≤ L.length ∧ ji g t 16 = nI (aN (cw (L.getD (L.length - 1) (-1)))) ∧ ∃ x, L[L.length - 2]? = some x ∧ isC x ∧ cw x = c
def HO (B : Nat) (L : List Int32) (g g' : jH) (a t l n : Nat) (A0 A1 : List Int32) (cls mdl : Option (Option Value × jH)) : Prop := ∃ o G, cls = some (some (.int o), G) ∧
  ((o = 0 ∧ ∃ G', mdl = some (none, G') ∧ HC B L G G' a t n A0 A1 ∧ Fr (cHp t) g G ∧ Fr (mHp a) g' G' ∧ ji G' 71 a = ji g' 71 a) ∨
   (o = 2 ∧ ∃ G', mdl = some (none, G') ∧ HC B L G G' a t n A0 A1 ∧ Fr (cHp t) g G ∧ Fr (mHp a) g' G' ∧ ji G' 71 a = 1 ∧ RY L G G' a t) ∨
   (o = 1 ∧ CS G ∧ ∃ G1 G' n' A0' A1', jV 15 0 [some (.ref 10), some (.ref t), some (.int (nI l)), none, none] [] G = some (none, G1) ∧ mdl = some (none, G') ∧ HC B L G1 G' a t n' A0' A1' ∧ n' ≤ n + 1 ∧ WA a L ∧ Fr (cHp t) g G1 ∧ Fr (mHp a) g' G' ∧ ji G' 71 a = ji g' 71 a))
theorem HO.pre {B a t l n : Nat} {L A0 A1 : List Int32} {g g1 g' g1' : jH} {c m c' m' : Option (Option Value × jH)} (h : HO B L g1 g1' a t l n A0 A1 c m) (f : Fr (cHp t) g g1) (f' : Fr (mHp a) g' g1') (e : ji g1' 71 a = ji g' 71 a) (hc : c' = c) (hm : m' = m) : HO B L g g' a t l n A0 A1 c' m' := by
  subst hc
  subst hm
  obtain ⟨o, G, h1, h2⟩ := h
  refine ⟨o, G, h1, ?_⟩
  rcases h2 with ⟨q0, G', q1, q2, q3, q4, q5⟩ | ⟨q0, G', q1, q2, q3, q4, q5⟩ | ⟨q0, qc, G1, G', n', A0', A1', q1, q2, q3, q4, q5, q6, q7, q8⟩
  · exact Or.inl ⟨q0, G', q1, q2, f.trans q3, f'.trans q4, q5.trans e⟩
  · exact Or.inr (Or.inl ⟨q0, G', q1, q2, f.trans q3, f'.trans q4, q5⟩)
  · exact Or.inr (Or.inr ⟨q0, qc, G1, G', n', A0', A1', q1, q2, q3, q4, q5, f.trans q6, f'.trans q7, q8.trans e⟩)
/-- the terminal, its entries, the reply: the rest stands -/
theorem HC.up2 {P P' : Nat → Nat → Prop} {B n a t : Nat} {L A0 A1 : List Int32} {g h g' h' : jH} (hC : HC B L g g' a t n A0 A1) (f : Fr P g h) (f' : Fr P' g' h') (h1 : ∀ b k, P b k → (t ≤ b ∧ b ≤ t + 6) ∨ (18 ≤ b ∧ b ≤ 20)) (h2 : ∀ b k, P' b k → mTA a b k ∨ b = 71 ∨ b = 72 ∨ b = 73 ∨ (b = 30 ∧ k = 56)) (hT : TM B h h' a t) (hR0 : ∃ R0, WI h 18 R0) : HC B L h h' a t n A0 A1 := by
  obtain ⟨ha, qc, qm, hT0, hR, hW, hL, _, hA⟩ := hC
  have ht := hT0.1.1
  have n1 : ∀ b k, b < t → ¬ (18 ≤ b ∧ b ≤ 20) → ¬ P b k := fun b k z w y => by have := h1 b k y; omega
  have n2 : ∀ b k, ¬ (mTA a b k ∨ b = 71 ∨ b = 72 ∨ b = 73 ∨ (b = 30 ∧ k = 56)) → ¬ P' b k := fun b k z y => z (h2 b k y)
  exact ⟨ha, f.cs qc, f'.ms qm, hT, hR.fr f f' (fun b k z1 z2 => n1 b k (by omega) (by omega)) (fun k z => n2 30 k (by omega)) (fun b k z1 z2 => n2 b k (by omega)), hW.fr f (fun b k z1 z2 => n1 b k (by omega) (by omega)), hL.fr f' (n2 30 49 (by omega)) (fun k => n2 68 k (by omega)), hR0, hA.fr f f' (fun b k z1 z2 => n1 b k (by omega) (by omega)) (n1 10 8 (by omega) (by omega)) (n2 30 52 (by omega)) (fun b k z => n2 b k (by omega))⟩
/-- the reply is said -/
theorem fin_ans {B n a t l : Nat} {L A0 A1 : List Int32} {g g' : jH} (hC : HC B L g g' a t n A0 A1) (hB : B + 33 < 1610612736) (hl : l ≤ 1) (hn1 : n ≤ 1) (h15 : ji g t 15 = ji g' 72 a) {bs : List Nat} (hRp : Rp g g' bs) : ∃ G G' n' A0' A1', jV 15 0 [some (.ref 10), some (.ref t), some (.int (nI l)), none, none] [] g = some (none, G) ∧ jV 123 0 [some (.ref 30), some (.int (nI a)), some (.int (nI l)), some (.int 1), none, none] [] g' = some (none, G') ∧ HC (B + 33) L G G' a t n' A0' A1' ∧ n' ≤ n + 1 ∧ Fr (cYp t) g G ∧ Fr (mYp a) g' G' := by
  obtain ⟨ha, qc, qm, hT0, hR, hW, hL, ⟨R0, hR0⟩, hA⟩ := id hC
  obtain ⟨ht, hs, hMu, hBa, hPl⟩ := id hT0
  have ht74 := ht.1
  obtain ⟨G, G', n', A0', A1', h1, h2, h3, h4, h5, h6, h7, h8, _⟩ := q_answer qc qm hB ha ht hs h15 hR hRp hn1 hA hl
  refine ⟨G, G', n', A0', A1', h1, h2, ⟨ha, h7.cs qc, h8.ms qm, ⟨ht.fr h7, h6, (hMu.mono (by omega) hB).fr h7 h8 (by omega) (fun b k z1 z2 => by omega) (by omega) (by omega) (fun i hi => by omega), hBa.fr h7 h8 (fun k => by omega) (fun k z1 z2 => by omega), hPl.fr h7 h8 (fun b k z => by omega) (fun b k z z1 z2 => by omega)⟩, h3, hW.fr h7 (fun b k z1 z2 => by omega), hL.fr h8 (by omega) (fun k => by omega), ⟨R0, hR0.fr h7 (fun b k z1 z2 => by omega)⟩, h4⟩, h5, h7, h8⟩
theorem c_asks {g : jH} {t a c : Nat} (ha : a < 31) (kt : jk g t = (4, 0)) (h0 : ji g t 0 = nI a) (hc : c < 65536) : jV 33 0 [some (.ref t), some (.int (nI c)), none] [] g = some (some (.int (jB (dN c ∧ sN c ∧ (c % 32 = 2 ∨ c % 32 = 18) ∧ aN c = a))), g) := by
  have m1 := n_isMode hc g
  have m2 := n_sends hc g
  have m3 := n_codeOf hc g
  have m4 := n_addressOf hc g
  have E2 : nI (c % 32) = 2 ↔ c % 32 = 2 := e_eq (b := 2) (by omega) (by omega)
  have E18 : nI (c % 32) = 18 ↔ c % 32 = 18 := e_eq (b := 18) (by omega) (by omega)
  have EA : nI (aN c) = nI a ↔ aN c = a := e_eq (aN_lt c) (by omega)
  by_cases d1 : dN c
  · rw [jB_t d1] at m1
    by_cases d2 : sN c
    · rw [jB_t d2] at m2
      by_cases d3 : aN c = a
      · have z3 := eq_true (EA.mpr d3)
        by_cases x2 : c % 32 = 2
        · rw [jB_t ⟨d1, d2, Or.inl x2, d3⟩]
          simp only [s33_0, s33_1, s33_4, s33_5, s33_6, s33_9, s33_12, s33_13, s33_16, s33_19, s33_20, s33_21, s33_24, s33_25, s33_27, s33_30, s33_31, s33_34, s33_35, s33_38, s33_41, s33_42, s33_45, s33_46, kt, h0, m1, m2, m3, m4, n1, eq_true (E2.mpr x2), z3, ↓reduceIte, va_rf_s, va_rf_n, jb_some, jb_none, jtl_s, jtl_n, if_true, if_false, true_and, and_true, false_and, and_false, or_true, true_or, or_false, false_or, not_true_eq_false, not_false_eq_true, jk_si, jp_si, jj_si, jk_sj, jp_sj, ji_sj, jk_ci, jp_ci, jj_ci, jk_cj, jp_cj, ji_cj, jlng_n, jlng_i, jlng_r, jlng_0]
        · have z2 := eq_false (fun z => x2 (E2.mp z))
          by_cases x18 : c % 32 = 18
          · rw [jB_t ⟨d1, d2, Or.inr x18, d3⟩]
            simp only [s33_0, s33_1, s33_4, s33_5, s33_6, s33_9, s33_12, s33_13, s33_16, s33_19, s33_20, s33_21, s33_24, s33_25, s33_27, s33_30, s33_31, s33_34, s33_35, s33_38, s33_41, s33_42, s33_45, s33_46, kt, h0, m1, m2, m3, m4, n1, z2, eq_true (E18.mpr x18), z3, ↓reduceIte, va_rf_s, va_rf_n, jb_some, jb_none, jtl_s, jtl_n, if_true, if_false, true_and, and_true, false_and, and_false, or_true, true_or, or_false, false_or, not_true_eq_false, not_false_eq_true, jk_si, jp_si, jj_si, jk_sj, jp_sj, ji_sj, jk_ci, jp_ci, jj_ci, jk_cj, jp_cj, ji_cj, jlng_n, jlng_i, jlng_r, jlng_0]
          · rw [jB_f (fun z => z.2.2.1.elim x2 x18)]
            simp only [s33_0, s33_1, s33_4, s33_5, s33_6, s33_9, s33_12, s33_13, s33_16, s33_19, s33_20, s33_21, s33_24, s33_25, s33_27, s33_30, s33_31, s33_34, s33_35, s33_38, s33_41, s33_42, s33_45, s33_46, kt, h0, m1, m2, m3, m4, n1, z2, eq_false (fun z => x18 (E18.mp z)), ↓reduceIte, va_rf_s, va_rf_n, jb_some, jb_none, jtl_s, jtl_n, if_true, if_false, true_and, and_true, false_and, and_false, or_true, true_or, or_false, false_or, not_true_eq_false, not_false_eq_true, jk_si, jp_si, jj_si, jk_sj, jp_sj, ji_sj, jk_ci, jp_ci, jj_ci, jk_cj, jp_cj, ji_cj, jlng_n, jlng_i, jlng_r, jlng_0]
      · have z3 := eq_false (fun z => d3 (EA.mp z))
        rw [jB_f (fun z => d3 z.2.2.2)]
        by_cases x2 : c % 32 = 2
        · simp only [s33_0, s33_1, s33_4, s33_5, s33_6, s33_9, s33_12, s33_13, s33_16, s33_19, s33_20, s33_21, s33_24, s33_25, s33_27, s33_30, s33_31, s33_34, s33_35, s33_38, s33_41, s33_42, s33_45, s33_46, kt, h0, m1, m2, m3, m4, n1, eq_true (E2.mpr x2), z3, ↓reduceIte, va_rf_s, va_rf_n, jb_some, jb_none, jtl_s, jtl_n, if_true, if_false, true_and, and_true, false_and, and_false, or_true, true_or, or_false, false_or, not_true_eq_false, not_false_eq_true, jk_si, jp_si, jj_si, jk_sj, jp_sj, ji_sj, jk_ci, jp_ci, jj_ci, jk_cj, jp_cj, ji_cj, jlng_n, jlng_i, jlng_r, jlng_0]
        · have z2 := eq_false (fun z => x2 (E2.mp z))
          by_cases x18 : c % 32 = 18
          · simp only [s33_0, s33_1, s33_4, s33_5, s33_6, s33_9, s33_12, s33_13, s33_16, s33_19, s33_20, s33_21, s33_24, s33_25, s33_27, s33_30, s33_31, s33_34, s33_35, s33_38, s33_41, s33_42, s33_45, s33_46, kt, h0, m1, m2, m3, m4, n1, z2, eq_true (E18.mpr x18), z3, ↓reduceIte, va_rf_s, va_rf_n, jb_some, jb_none, jtl_s, jtl_n, if_true, if_false, true_and, and_true, false_and, and_false, or_true, true_or, or_false, false_or, not_true_eq_false, not_false_eq_true, jk_si, jp_si, jj_si, jk_sj, jp_sj, ji_sj, jk_ci, jp_ci, jj_ci, jk_cj, jp_cj, ji_cj, jlng_n, jlng_i, jlng_r, jlng_0]
          · simp only [s33_0, s33_1, s33_4, s33_5, s33_6, s33_9, s33_12, s33_13, s33_16, s33_19, s33_20, s33_21, s33_24, s33_25, s33_27, s33_30, s33_31, s33_34, s33_35, s33_38, s33_41, s33_42, s33_45, s33_46, kt, h0, m1, m2, m3, m4, n1, z2, eq_false (fun z => x18 (E18.mp z)), ↓reduceIte, va_rf_s, va_rf_n, jb_some, jb_none, jtl_s, jtl_n, if_true, if_false, true_and, and_true, false_and, and_false, or_true, true_or, or_false, false_or, not_true_eq_false, not_false_eq_true, jk_si, jp_si, jj_si, jk_sj, jp_sj, ji_sj, jk_ci, jp_ci, jj_ci, jk_cj, jp_cj, ji_cj, jlng_n, jlng_i, jlng_r, jlng_0]
    · rw [jB_f d2] at m2
      rw [jB_f (fun z => d2 z.2.1)]
      simp only [s33_0, s33_1, s33_4, s33_5, s33_6, s33_9, s33_12, s33_13, s33_16, s33_19, s33_20, s33_21, s33_24, s33_25, s33_27, s33_30, s33_31, s33_34, s33_35, s33_38, s33_41, s33_42, s33_45, s33_46, kt, m1, m2, m3, n1, ↓reduceIte, va_rf_s, va_rf_n, jb_some, jb_none, jtl_s, jtl_n, if_true, if_false, true_and, and_true, false_and, and_false, or_true, true_or, or_false, false_or, not_true_eq_false, not_false_eq_true, jk_si, jp_si, jj_si, jk_sj, jp_sj, ji_sj, jk_ci, jp_ci, jj_ci, jk_cj, jp_cj, ji_cj, jlng_n, jlng_i, jlng_r, jlng_0]
  · rw [jB_f d1] at m1
    rw [jB_f (fun z => d1 z.1)]
    simp only [s33_0, s33_1, s33_4, s33_5, s33_6, s33_9, s33_12, s33_13, s33_16, s33_19, s33_20, s33_21, s33_24, s33_25, s33_27, s33_30, s33_31, s33_34, s33_35, s33_38, s33_41, s33_42, s33_45, s33_46, kt, m1, m3, ↓reduceIte, va_rf_s, va_rf_n, jb_some, jb_none, jtl_s, jtl_n, if_true, if_false, true_and, and_true, false_and, and_false, or_true, true_or, or_false, false_or, not_true_eq_false, not_false_eq_true, jk_si, jp_si, jj_si, jk_sj, jp_sj, ji_sj, jk_ci, jp_ci, jj_ci, jk_cj, jp_cj, ji_cj, jlng_n, jlng_i, jlng_r, jlng_0]
theorem wa_of {a i : Nat} {L : List Int32} {x : Int32} (hx : LCN a L i x) (h1 : aN (cw x) = a) (h2 : ∀ (j : Nat) (y : Int32), i < j → L[j]? = some y → ¬ isC y) : WA a L := ⟨i, x, hx.1, hx.2.1.1, h1, h2⟩
theorem wa_end {a i : Nat} {L : List Int32} {x : Int32} (hx : LCN a L i x) (h1 : aN (cw x) = a) (h2 : L.length = i + 1) : WA a L := wa_of hx h1 (fun j y hj hy => by have := (List.getElem?_eq_some_iff.mp hy).1; omega)
/-- the status is asked for -/
theorem hr_ask {B n a t l i : Nat} {L A0 A1 : List Int32} {x : Int32} {g g' : jH} (hC : HC B L g g' a t n A0 A1) (hB : B + 33 < 1610612736) (hl : l ≤ 1) (hx : LCN a L i x) (hn : WA a L → n = 0) (hn1 : n ≤ 1) (h15 : ji g t 15 = ji g' 72 a) (hd : dN (cw x)) (hsn : sN (cw x)) (hown : aN (cw x) = a) (hlen : L.length = i + 1) (hcode : cw x % 32 = 2 ∨ cw x % 32 = 18) : HO (B + 33) L g g' a t l n A0 A1 (jV 31 78 [some (.ref t), some (.ref 15), some (.int (nI l)), some (.ref 18), some (.int (nI i)), some (.int (nI (cw x))), some (.int (nI (i + 1)))] [] g) (jV 126 54 [some (.ref 30), some (.int (nI a)), some (.int (nI l)), some (.int (nI i)), some (.int (nI (cw x))), some (.int (nI (i + 1))), some (.int (jB (aN (cw x) = a))), none, none] [] g') := by
  obtain ⟨ha, qc, qm, hT0, hR, hW, hL, ⟨R0, hR0⟩, hA⟩ := id hC; obtain ⟨ht, hs, hMu, hBa, hPl⟩ := id hT0; obtain ⟨h0, h33, h34, ⟨h42, h43', h44', h6⟩, h7, h8, h9, h10, h11, h12', h14⟩ := id hs; obtain ⟨ht74, kt, pt2, pt3, kt1, pt10, pt11, kt2, kt3⟩ := id ht; have hLl := hL.1; have hil := (List.getElem?_eq_some_iff.mp hx.1).1; have hcw := cw_lt x
  have hWA := wa_end hx hown hlen
  have hask := c_asks ha kt h0.1 hcw
  rw [jB_t ⟨hd, hsn, hcode, hown⟩] at hask
  have hmany : ji g 15 2 = nI (i + 1) := by rw [hW.len.1, hlen]
  obtain ⟨g1, cc1, W1, f1⟩ := w_clear hR0
  obtain ⟨g2, cc2, W2, f2⟩ := w_add W1 (by simp) (65536 + stI (mv g' a) a)
  have f12 : Off (wP 18) g g2 := f1.trans f2
  have i1 : ∀ k, ji g1 t k = ji g t k := fun k => f1.i (by unfold wP; omega)
  have i2 : ∀ k, ji g2 t k = ji g t k := fun k => f12.i (by unfold wP; omega)
  have k1t : jk g1 t = (4, 0) := by rw [f1.k]; exact kt
  have k2t : jk g2 t = (4, 0) := by rw [f12.k]; exact kt
  obtain ⟨e1, e2⟩ := st_eq ha hs
  have cs := c_status k1t
  rw [i1, i1, i1, e1] at cs
  obtain ⟨b, hb, e3⟩ := isD_nI e2
  have hRp1 : Rp g2 (jsi (jsi g' 73 0 (stI (mv g' a) a)) 30 56 1) [b] := rp_head hb e3 W2
  have mst := m_statusOf qm ha
  have mrw := m_replyWith qm (stI (mv g' a) a)
  have b4 : jin (nI a) 31 = true := jin_nI ha (by omega)
  have b5 : (nI a).toNatClampNeg = a := nI_clamp (by omega)
  have om := o_isMode hcw g'
  have os := o_isToSend hcw g'
  rw [jB_t hd] at om
  rw [jB_t hsn] at os
  have ec := e_cod hcw
  have E2 : nI (cw x % 32) = 2 ↔ cw x % 32 = 2 := e_eq (b := 2) (by omega) (by omega)
  have E18 : nI (cw x % 32) = 18 ↔ cw x % 32 = 18 := e_eq (b := 18) (by omega) (by omega)
  have nco := n_codeOf hcw g2
  have hsz : ji g' 30 49 = nI (i + 1) := by rw [hL.2.1, hlen]
  have fr1' : Fr (fun c k => c = 73 ∨ (c = 30 ∧ k = 56)) g' (jsi (jsi g' 73 0 (stI (mv g' a) a)) 30 56 1) := ((Fr.refl g').si (Or.inl rfl)).si (Or.inr ⟨rfl, rfl⟩)
  rcases hcode with z | z
  · -- code 2: the command is kept
    have f3 : Fr (fun c k => (c = t ∧ k = 12) ∨ (18 ≤ c ∧ c ≤ 20)) g (jsi g2 t 12 (nI (cw x))) := (f12.sub (fun c k z => Or.inr z)).si (Or.inl ⟨rfl, rfl⟩)
    have f3' : Fr (fun c k => (c = 41 ∧ k = a) ∨ c = 73 ∨ (c = 30 ∧ k = 56)) g' (jsi (jsi (jsi g' 73 0 (stI (mv g' a) a)) 30 56 1) 41 a (nI (cw x))) := (fr1'.sub (fun c k z => Or.inr z)).si (Or.inl ⟨rfl, rfl⟩)
    have f4 : Fr (fun c k => c = t) g2 (jsi g2 t 12 (nI (cw x))) := (Fr.refl g2).si rfl
    have f4' : Fr (fun c k => c = 41) (jsi (jsi g' 73 0 (stI (mv g' a) a)) 30 56 1) (jsi (jsi (jsi g' 73 0 (stI (mv g' a) a)) 30 56 1) 41 a (nI (cw x))) := (Fr.refl _).si rfl
    have hRp := hRp1.fr f4 f4' (fun c k z1 z2 => by omega) (by omega) (fun k => by omega)
    have hT2 : TM B (jsi g2 t 12 (nI (cw x))) (jsi (jsi (jsi g' 73 0 (stI (mv g' a) a)) 30 56 1) 41 a (nI (cw x))) a t := by
      refine ⟨ht.fr f3, ?_, hMu.fr f3 f3' (by omega) (fun c k z1 z2 => by omega) (by omega) (by omega) (fun i hi => by omega), hBa.fr f3 f3' (fun k => by omega) (fun k z1 z2 => by omega), hPl.fr f3 f3' (fun c k z => by omega) (fun c k z z1 z2 => by omega)⟩
      rw [tv_si, tv_fr f12 (fun k => by unfold wP; omega), mv_si (by omega), mv_no (by omega), mv_no (by omega)]
      simp only [Sc, upd_e, Nat.reduceEqDiff, if_true, if_false]
      exact ⟨h0, h33, h34, ⟨h42, h43', h44', h6⟩, h7, h8, h9, h10, h11, ⟨Or.inr (nI_isD hcw), trivial⟩, h14⟩
    have p3 : ∀ c k, ((c = t ∧ k = 12) ∨ (18 ≤ c ∧ c ≤ 20)) → (t ≤ c ∧ c ≤ t + 6) ∨ (18 ≤ c ∧ c ≤ 20) := fun c k z => z.imp (fun y => ⟨by omega, by omega⟩) id
    have p3' : ∀ c k, ((c = 41 ∧ k = a) ∨ c = 73 ∨ (c = 30 ∧ k = 56)) → mTA a c k ∨ c = 73 ∨ (c = 30 ∧ k = 56) := fun c k z => z.imp (fun y => mTA_s (by omega) y.2) id
    have hC2 := hC.up2 f3 f3' p3 (fun c k z => (p3' c k z).elim up_t up_r) hT2 ⟨_, hRp.2.1⟩
    obtain ⟨G, G', n', A0', A1', hG, hG', hC3, hn', fG, fG'⟩ := fin_ans hC2 hB hl hn1 (by rw [f3.i (by omega), f3'.i (by omega)]; exact h15) hRp
    refine ⟨1, _, ?_, Or.inr (Or.inr ⟨rfl, hC2.2.1, G, G', n', A0', A1', hG, ?_, hC3, hn', hWA, ?_, ?_, ?_⟩)⟩
    · simp only [s31_78, s31_79, s31_82, s31_84, s31_87, s31_88, s31_90, s31_93, s31_96, s31_97, s31_99, s31_100, s31_103, s34_0, s34_1, s34_4, s34_5, s34_7, s34_8, s34_11, s34_12, s34_15, s34_16, s34_19, s34_21, s34_24, s34_25, s34_26, s34_29, s34_30, s34_33, s34_36, s34_39, s34_40, s34_41, s34_44, s34_45, hmany, k15 qc, kt, hask, k18 qc, hR0.1.1, W1.1.1, f1.k, f12.k, cc1, cs, cc2, nco, eq_false (fun y => (by omega : ¬ cw x % 32 = 18) (E18.mp y)), n1, ↓reduceIte, va_rf_s, va_rf_n, jb_some, jb_none, jtl_s, jtl_n, if_true, if_false, true_and, and_true, false_and, and_false, or_true, true_or, or_false, false_or, not_true_eq_false, not_false_eq_true, jk_si, jp_si, jj_si, jk_sj, jp_sj, ji_sj, jk_ci, jp_ci, jj_ci, jk_cj, jp_cj, ji_cj, jlng_n, jlng_i, jlng_r, jlng_0]
    · rw [jB_t hown]
      simp only [s126_54, s126_56, s126_59, s126_62, s126_64, s126_67, s126_70, s126_72, s126_75, s126_77, s126_78, s126_81, s126_84, s126_86, s126_88, s126_89, s126_90, s126_93, s126_95, s126_97, s126_98, s126_100, s126_103, s126_104, s126_105, s126_106, s126_109, s126_112, s126_114, s126_116, s126_117, s126_119, s126_122, s126_123, s126_126, s126_127, s126_128, s126_131, s126_132, s126_133, s126_136, s126_137, s126_140, s126_141, s126_144, s126_145, s126_146, s126_147, s126_148, s126_149, s126_152, s126_155, s126_156, s126_159, s126_160, s126_162, s126_163, s126_164, s126_165, s126_166, s126_167, s126_170, k30 qm, k41 qm, p30_10 qm, om, os, ec, hsz, eq_true (E2.mpr z), eq_false (fun y => (by omega : ¬ cw x % 32 = 18) (E18.mp y)), mst, mrw, b4, b5, hG', n1, ↓reduceIte, va_rf_s, va_rf_n, jb_some, jb_none, jtl_s, jtl_n, if_true, if_false, true_and, and_true, false_and, and_false, or_true, true_or, or_false, false_or, not_true_eq_false, not_false_eq_true, jk_si, jp_si, jj_si, jk_sj, jp_sj, ji_sj, jk_ci, jp_ci, jj_ci, jk_cj, jp_cj, ji_cj, jlng_n, jlng_i, jlng_r, jlng_0]
    · exact (f3.sub (fun c k z => cHp_r (p3 c k z))).trans (fG.sub (fun c k z => cHp_y z))
    · exact (f3'.sub (fun c k z => up_m (p3' c k z))).trans (fG'.sub (fun c k z => mHp_y z))
    · rw [fG'.i (by omega), f3'.i (by omega)]
  · -- code 18: the last command is told
    have hyD : isD (if mv g' a 41 < 0 then 0 else mv g' a 41) := by
      rcases h12'.1 with y | y
      · rw [y]; exact (by decide)
      · rw [if_neg y.1]; exact y
    obtain ⟨b2, hb2, e4⟩ := isD_nI hyD
    have v41 : mv g' a 41 = ji g' 41 a := mv_v (by omega)
    obtain ⟨g3, cc3, W3, f3⟩ := w_add W2 (by simp) (nI b2)
    have hW3 : WI g3 18 (wl [b] ++ [nI b2]) := by
      have e : (65536 : Int32) + stI (mv g' a) a = nI (65536 * 1 + b) := by rw [e3]; exact nI_add 65536 b
      rw [e] at W3
      exact W3
    have hRp : Rp g3 (jsi (jsi (jsi (jsi g' 73 0 (stI (mv g' a) a)) 30 56 1) 73 1 (nI b2)) 30 56 2) ([b] ++ [b2]) := rp_snoc hRp1 (by simp) hb2 hW3 rfl
    have f4 : Off (wP 18) g g3 := f12.trans f3
    have f4' : Fr (fun c k => c = 73 ∨ (c = 30 ∧ k = 56)) g' (jsi (jsi (jsi (jsi g' 73 0 (stI (mv g' a) a)) 30 56 1) 73 1 (nI b2)) 30 56 2) := (fr1'.si (Or.inl rfl)).si (Or.inr ⟨rfl, rfl⟩)
    have hT2 := hT0.fr f4 f4' (fun c k z1 z2 => by unfold wP; omega) (fun c k z y => by omega)
    have hC2 := hC.up2 f4 f4' (fun c k z => Or.inr z) (fun c k z => up_r z) hT2 ⟨_, hRp.2.1⟩
    obtain ⟨G, G', n', A0', A1', hG, hG', hC3, hn', fG, fG'⟩ := fin_ans hC2 hB hl hn1 (by rw [f4.i (by unfold wP; omega), f4'.i (by omega)]; exact h15) hRp
    refine ⟨1, _, ?_, Or.inr (Or.inr ⟨rfl, hC2.2.1, G, G', n', A0', A1', hG, ?_, hC3, hn', hWA, ?_, ?_, ?_⟩)⟩
    · have e5 : (if ji g2 t 12 < 0 then 0 else ji g2 t 12) = nI b2 := by rw [i2, h12'.2]; exact e4
      simp only [s31_78, s31_79, s31_82, s31_84, s31_87, s31_88, s31_90, s31_93, s31_96, s31_97, s31_99, s31_100, s31_103, s34_0, s34_1, s34_4, s34_5, s34_7, s34_8, s34_11, s34_12, s34_15, s34_16, s34_19, s34_21, s34_24, s34_25, s34_26, s34_29, s34_30, s34_33, s34_36, s34_39, s34_40, s34_41, s34_44, s34_45, hmany, k15 qc, kt, hask, k18 qc, hR0.1.1, W1.1.1, W2.1.1, f1.k, f12.k, cc1, cs, cc2, nco, eq_true (E18.mpr z), e5, cc3, n1, ↓reduceIte, va_rf_s, va_rf_n, jb_some, jb_none, jtl_s, jtl_n, if_true, if_false, true_and, and_true, false_and, and_false, or_true, true_or, or_false, false_or, not_true_eq_false, not_false_eq_true, jk_si, jp_si, jj_si, jk_sj, jp_sj, ji_sj, jk_ci, jp_ci, jj_ci, jk_cj, jp_cj, ji_cj, jlng_n, jlng_i, jlng_r, jlng_0]
    · rw [jB_t hown]
      have r4 : jin 1 33 = true := by decide
      have r5 : (1 : Int32).toNatClampNeg = 1 := by decide
      rw [v41] at e4
      by_cases y : ji g' 41 a < 0
      · rw [if_pos y] at e4
        rw [← e4] at hG'
        simp only [s126_54, s126_56, s126_59, s126_62, s126_64, s126_67, s126_70, s126_72, s126_75, s126_77, s126_78, s126_81, s126_84, s126_86, s126_88, s126_89, s126_90, s126_93, s126_95, s126_97, s126_98, s126_100, s126_103, s126_104, s126_105, s126_106, s126_109, s126_112, s126_114, s126_116, s126_117, s126_119, s126_122, s126_123, s126_126, s126_127, s126_128, s126_131, s126_132, s126_133, s126_136, s126_137, s126_140, s126_141, s126_144, s126_145, s126_146, s126_147, s126_148, s126_149, s126_152, s126_155, s126_156, s126_159, s126_160, s126_162, s126_163, s126_164, s126_165, s126_166, s126_167, s126_170, k30 qm, k41 qm, k73 qm, p30_10 qm, p30_55 qm, om, os, ec, hsz, eq_false (fun y => (by omega : ¬ cw x % 32 = 2) (E2.mp y)), eq_true (E18.mpr z), mst, mrw, b4, b5, r4, r5, ji_si, y, Nat.reduceEqDiff, n1, hG', ↓reduceIte, va_rf_s, va_rf_n, jb_some, jb_none, jtl_s, jtl_n, if_true, if_false, true_and, and_true, false_and, and_false, or_true, true_or, or_false, false_or, not_true_eq_false, not_false_eq_true, jk_si, jp_si, jj_si, jk_sj, jp_sj, ji_sj, jk_ci, jp_ci, jj_ci, jk_cj, jp_cj, ji_cj, jlng_n, jlng_i, jlng_r, jlng_0]
      · rw [if_neg y] at e4
        rw [e4] at y
        simp only [s126_54, s126_56, s126_59, s126_62, s126_64, s126_67, s126_70, s126_72, s126_75, s126_77, s126_78, s126_81, s126_84, s126_86, s126_88, s126_89, s126_90, s126_93, s126_95, s126_97, s126_98, s126_100, s126_103, s126_104, s126_105, s126_106, s126_109, s126_112, s126_114, s126_116, s126_117, s126_119, s126_122, s126_123, s126_126, s126_127, s126_128, s126_131, s126_132, s126_133, s126_136, s126_137, s126_140, s126_141, s126_144, s126_145, s126_146, s126_147, s126_148, s126_149, s126_152, s126_155, s126_156, s126_159, s126_160, s126_162, s126_163, s126_164, s126_165, s126_166, s126_167, s126_170, k30 qm, k41 qm, k73 qm, p30_10 qm, p30_55 qm, om, os, ec, hsz, eq_false (fun y => (by omega : ¬ cw x % 32 = 2) (E2.mp y)), eq_true (E18.mpr z), mst, mrw, b4, b5, r4, r5, ji_si, e4, y, Nat.reduceEqDiff, n1, hG', ↓reduceIte, va_rf_s, va_rf_n, jb_some, jb_none, jtl_s, jtl_n, if_true, if_false, true_and, and_true, false_and, and_false, or_true, true_or, or_false, false_or, not_true_eq_false, not_false_eq_true, jk_si, jp_si, jj_si, jk_sj, jp_sj, ji_sj, jk_ci, jp_ci, jj_ci, jk_cj, jp_cj, ji_cj, jlng_n, jlng_i, jlng_r, jlng_0]
    · exact (f4.sub (fun c k z => cHp_r (Or.inr z))).trans (fG.sub (fun c k z => cHp_y z))
    · exact (f4'.sub (fun c k z => mHp_73 z)).trans (fG'.sub (fun c k z => mHp_y z))
    · rw [fG'.i (by omega), f4'.i (by omega)]
/-- the command is kept, FOR ALL and ERROR set anew -/
theorem hr_set {B n a t l i : Nat} {L A0 A1 : List Int32} {x : Int32} {g g' : jH} (hC : HC B L g g' a t n A0 A1) (hB : B + 33 < 1610612736) (hl : l ≤ 1) (hx : LCN a L i x) (hn : WA a L → n = 0) (hn1 : n ≤ 1) (h15 : ji g t 15 = ji g' 72 a) (hna : ¬ (dN (cw x) ∧ sN (cw x) ∧ aN (cw x) = a ∧ L.length = i + 1 ∧ (cw x % 32 = 2 ∨ cw x % 32 = 18))) : ∃ G G', jV 31 78 [some (.ref t), some (.ref 15), some (.int (nI l)), some (.ref 18), some (.int (nI i)), some (.int (nI (cw x))), some (.int (nI (i + 1)))] [] g = jV 31 139 [some (.ref t), some (.ref 15), some (.int (nI l)), some (.ref 18), some (.int (nI i)), some (.int (nI (cw x))), some (.int (nI (i + 1)))] [] G ∧ jV 126 54 [some (.ref 30), some (.int (nI a)), some (.int (nI l)), some (.int (nI i)), some (.int (nI (cw x))), some (.int (nI (i + 1))), some (.int (jB (aN (cw x) = a))), none, none] [] g' = jV 126 202 [some (.ref 30), some (.int (nI a)), some (.int (nI l)), some (.int (nI i)), some (.int (nI (cw x))), some (.int (nI (i + 1))), some (.int (jB (aN (cw x) = a))), none, none] [] G' ∧ HC B L G G' a t n A0 A1 ∧ ji G t 15 = ji G' 72 a ∧ ji G t 12 = nI (cw x) ∧ ji G' 43 a = 0 ∧ ((aN (cw x) = a ∧ mv G' a 44 = 0) ∨ (aN (cw x) = 31 ∧ mv G' a 44 = 1)) ∧ Fr (cHp t) g G ∧ Fr (mHp a) g' G' ∧ ji G' 71 a = ji g' 71 a := by
  obtain ⟨ha, qc, qm, hT0, hR, hW, hL, ⟨R0, hR0⟩, hA⟩ := id hC; obtain ⟨ht, hs, hMu, hBa, hPl⟩ := id hT0; obtain ⟨h0, h33, h34, ⟨h42, h43', h44', h6⟩, h7, h8, h9, h10, h11, h12', h14⟩ := id hs; obtain ⟨ht74, kt, pt2, pt3, kt1, pt10, pt11, kt2, kt3⟩ := id ht; have hLl := hL.1; have hil := (List.getElem?_eq_some_iff.mp hx.1).1; have hcw := cw_lt x
  have b4 : jin (nI a) 31 = true := jin_nI ha (by omega)
  have b5 : (nI a).toNatClampNeg = a := nI_clamp (by omega)
  have hadr := n_addressOf hcw (jsi g t 12 (nI (cw x)))
  have E31 : nI (aN (cw x)) = 31 ↔ aN (cw x) = 31 := e_eq (b := 31) (aN_lt _) (by omega)
  have ktm : ∀ v, jk (jsi g t 12 v) t = (4, 0) := fun v => by rw [jk_si]; exact kt
  have ktm2 : ∀ v w, jk (jsi (jsi g t 12 v) t 6 w) t = (4, 0) := fun v w => by rw [jk_si, jk_si]; exact kt
  have r6 : ji (jsi g t 12 (nI (cw x))) t 6 = ji g t 6 := by simp [ji_si]
  have r66 : ∀ w, ji (jsi (jsi g t 12 (nI (cw x))) t 6 w) t 6 = w := fun w => by simp [ji_si]
  have hc0 : jV 31 78 [some (.ref t), some (.ref 15), some (.int (nI l)), some (.ref 18), some (.int (nI i)), some (.int (nI (cw x))), some (.int (nI (i + 1)))] [] g = jV 31 104 [some (.ref t), some (.ref 15), some (.int (nI l)), some (.ref 18), some (.int (nI i)), some (.int (nI (cw x))), some (.int (nI (i + 1)))] [] g := by
    have hask := c_asks ha kt h0.1 hcw
    by_cases c : L.length = i + 1
    · rw [jB_f (fun z => hna ⟨z.1, z.2.1, z.2.2.2, c, z.2.2.1⟩)] at hask
      have hmany : ji g 15 2 = nI (i + 1) := by rw [hW.len.1, c]
      simp only [s31_78, s31_79, s31_82, s31_84, s31_87, s31_88, s31_90, s31_93, hmany, k15 qc, kt, hask, ↓reduceIte, va_rf_s, va_rf_n, jb_some, jb_none, jtl_s, jtl_n, if_true, if_false, true_and, and_true, false_and, and_false, or_true, true_or, or_false, false_or, not_true_eq_false, not_false_eq_true, jk_si, jp_si, jj_si, jk_sj, jp_sj, ji_sj, jk_ci, jp_ci, jj_ci, jk_cj, jp_cj, ji_cj, jlng_n, jlng_i, jlng_r, jlng_0]
    · have hne : ¬ nI L.length = nI (i + 1) := fun z => c ((e_eq (by omega) (by omega)).mp z)
      simp only [s31_78, s31_79, s31_82, s31_84, s31_87, s31_88, s31_90, s31_93, hW.len.1, k15 qc, hne, ↓reduceIte, va_rf_s, va_rf_n, jb_some, jb_none, jtl_s, jtl_n, if_true, if_false, true_and, and_true, false_and, and_false, or_true, true_or, or_false, false_or, not_true_eq_false, not_false_eq_true, jk_si, jp_si, jj_si, jk_sj, jp_sj, ji_sj, jk_ci, jp_ci, jj_ci, jk_cj, jp_cj, ji_cj, jlng_n, jlng_i, jlng_r, jlng_0]
  have hm0 : jV 126 54 [some (.ref 30), some (.int (nI a)), some (.int (nI l)), some (.int (nI i)), some (.int (nI (cw x))), some (.int (nI (i + 1))), some (.int (jB (aN (cw x) = a))), none, none] [] g' = jV 126 171 [some (.ref 30), some (.int (nI a)), some (.int (nI l)), some (.int (nI i)), some (.int (nI (cw x))), some (.int (nI (i + 1))), some (.int (jB (aN (cw x) = a))), none, none] [] g' := by
    have om := o_isMode hcw g'
    have os := o_isToSend hcw g'
    have ec := e_cod hcw
    have E2 : nI (cw x % 32) = 2 ↔ cw x % 32 = 2 := e_eq (b := 2) (by omega) (by omega)
    have E18 : nI (cw x % 32) = 18 ↔ cw x % 32 = 18 := e_eq (b := 18) (by omega) (by omega)
    by_cases d1 : dN (cw x)
    · rw [jB_t d1] at om
      by_cases d2 : sN (cw x)
      · rw [jB_t d2] at os
        by_cases d3 : aN (cw x) = a
        · rw [jB_t d3]
          by_cases d4 : L.length = i + 1
          · have hsz : ji g' 30 49 = nI (i + 1) := by rw [hL.2.1, d4]
            have d5 : ¬ (cw x % 32 = 2 ∨ cw x % 32 = 18) := fun z => hna ⟨d1, d2, d3, d4, z⟩
            simp only [s126_54, s126_56, s126_59, s126_62, s126_64, s126_67, s126_70, s126_72, s126_75, s126_77, s126_78, s126_81, s126_84, s126_86, s126_88, s126_89, s126_90, s126_93, s126_95, s126_97, s126_98, s126_100, k30 qm, om, os, ec, hsz, eq_false (fun y => d5 (Or.inl (E2.mp y))), eq_false (fun y => d5 (Or.inr (E18.mp y))), n1, ↓reduceIte, va_rf_s, va_rf_n, jb_some, jb_none, jtl_s, jtl_n, if_true, if_false, true_and, and_true, false_and, and_false, or_true, true_or, or_false, false_or, not_true_eq_false, not_false_eq_true, jk_si, jp_si, jj_si, jk_sj, jp_sj, ji_sj, jk_ci, jp_ci, jj_ci, jk_cj, jp_cj, ji_cj, jlng_n, jlng_i, jlng_r, jlng_0]
          · have hne : ¬ nI (i + 1) = nI L.length := fun z => d4 ((e_eq (by omega) (by omega)).mp z).symm
            simp only [s126_54, s126_56, s126_59, s126_62, s126_64, s126_67, s126_70, s126_72, s126_75, s126_77, s126_78, s126_81, s126_84, s126_86, s126_88, s126_89, s126_90, s126_93, s126_95, s126_97, s126_98, s126_100, k30 qm, om, os, hL.2.1, hne, n1, ↓reduceIte, va_rf_s, va_rf_n, jb_some, jb_none, jtl_s, jtl_n, if_true, if_false, true_and, and_true, false_and, and_false, or_true, true_or, or_false, false_or, not_true_eq_false, not_false_eq_true, jk_si, jp_si, jj_si, jk_sj, jp_sj, ji_sj, jk_ci, jp_ci, jj_ci, jk_cj, jp_cj, ji_cj, jlng_n, jlng_i, jlng_r, jlng_0]
        · rw [jB_f d3]
          simp only [s126_54, s126_56, s126_59, s126_62, s126_64, s126_67, s126_70, s126_72, s126_75, s126_77, s126_78, s126_81, s126_84, s126_86, s126_88, s126_89, s126_90, s126_93, s126_95, s126_97, s126_98, s126_100, om, os, n1, ↓reduceIte, va_rf_s, va_rf_n, jb_some, jb_none, jtl_s, jtl_n, if_true, if_false, true_and, and_true, false_and, and_false, or_true, true_or, or_false, false_or, not_true_eq_false, not_false_eq_true, jk_si, jp_si, jj_si, jk_sj, jp_sj, ji_sj, jk_ci, jp_ci, jj_ci, jk_cj, jp_cj, ji_cj, jlng_n, jlng_i, jlng_r, jlng_0]
      · rw [jB_f d2] at os
        simp only [s126_54, s126_56, s126_59, s126_62, s126_64, s126_67, s126_70, s126_72, s126_75, s126_77, s126_78, s126_81, s126_84, s126_86, s126_88, s126_89, s126_90, s126_93, s126_95, s126_97, s126_98, s126_100, om, os, n1, ↓reduceIte, va_rf_s, va_rf_n, jb_some, jb_none, jtl_s, jtl_n, if_true, if_false, true_and, and_true, false_and, and_false, or_true, true_or, or_false, false_or, not_true_eq_false, not_false_eq_true, jk_si, jp_si, jj_si, jk_sj, jp_sj, ji_sj, jk_ci, jp_ci, jj_ci, jk_cj, jp_cj, ji_cj, jlng_n, jlng_i, jlng_r, jlng_0]
    · rw [jB_f d1] at om
      simp only [s126_54, s126_56, s126_59, s126_62, s126_64, s126_67, s126_70, s126_72, s126_75, s126_77, s126_78, s126_81, s126_84, s126_86, s126_88, s126_89, s126_90, s126_93, s126_95, s126_97, s126_98, s126_100, om, ↓reduceIte, va_rf_s, va_rf_n, jb_some, jb_none, jtl_s, jtl_n, if_true, if_false, true_and, and_true, false_and, and_false, or_true, true_or, or_false, false_or, not_true_eq_false, not_false_eq_true, jk_si, jp_si, jj_si, jk_sj, jp_sj, ji_sj, jk_ci, jp_ci, jj_ci, jk_cj, jp_cj, ji_cj, jlng_n, jlng_i, jlng_r, jlng_0]
  have h31 : ¬ a = 31 := by omega
  have fin : ∀ (fv : Int32), fv ∈ B2 → ((aN (cw x) = a ∧ fv = 0) ∨ (aN (cw x) = 31 ∧ fv = 1)) → jV 31 104 [some (.ref t), some (.ref 15), some (.int (nI l)), some (.ref 18), some (.int (nI i)), some (.int (nI (cw x))), some (.int (nI (i + 1)))] [] g = jV 31 139 [some (.ref t), some (.ref 15), some (.int (nI l)), some (.ref 18), some (.int (nI i)), some (.int (nI (cw x))), some (.int (nI (i + 1)))] [] (jsi (jsi (jsi g t 12 (nI (cw x))) t 6 (FL (mv g' a 42) (mv g' a 43) fv)) t 6 (FL (mv g' a 42) 0 fv)) → jV 126 171 [some (.ref 30), some (.int (nI a)), some (.int (nI l)), some (.int (nI i)), some (.int (nI (cw x))), some (.int (nI (i + 1))), some (.int (jB (aN (cw x) = a))), none, none] [] g' = jV 126 202 [some (.ref 30), some (.int (nI a)), some (.int (nI l)), some (.int (nI i)), some (.int (nI (cw x))), some (.int (nI (i + 1))), some (.int (jB (aN (cw x) = a))), none, none] [] (jsi (jsi (jsi g' 41 a (nI (cw x))) 44 a fv) 43 a 0) → ∃ G G', jV 31 78 [some (.ref t), some (.ref 15), some (.int (nI l)), some (.ref 18), some (.int (nI i)), some (.int (nI (cw x))), some (.int (nI (i + 1)))] [] g = jV 31 139 [some (.ref t), some (.ref 15), some (.int (nI l)), some (.ref 18), some (.int (nI i)), some (.int (nI (cw x))), some (.int (nI (i + 1)))] [] G ∧ jV 126 54 [some (.ref 30), some (.int (nI a)), some (.int (nI l)), some (.int (nI i)), some (.int (nI (cw x))), some (.int (nI (i + 1))), some (.int (jB (aN (cw x) = a))), none, none] [] g' = jV 126 202 [some (.ref 30), some (.int (nI a)), some (.int (nI l)), some (.int (nI i)), some (.int (nI (cw x))), some (.int (nI (i + 1))), some (.int (jB (aN (cw x) = a))), none, none] [] G' ∧ HC B L G G' a t n A0 A1 ∧ ji G t 15 = ji G' 72 a ∧ ji G t 12 = nI (cw x) ∧ ji G' 43 a = 0 ∧ ((aN (cw x) = a ∧ mv G' a 44 = 0) ∨ (aN (cw x) = 31 ∧ mv G' a 44 = 1)) ∧ Fr (cHp t) g G ∧ Fr (mHp a) g' G' ∧ ji G' 71 a = ji g' 71 a := by
    intro fv hfv hcase hcl hmd
    have f1 : Fr (fun c k => c = t ∧ (k = 12 ∨ k = 6)) g (jsi (jsi (jsi g t 12 (nI (cw x))) t 6 (FL (mv g' a 42) (mv g' a 43) fv)) t 6 (FL (mv g' a 42) 0 fv)) := (((Fr.refl g).si ⟨rfl, Or.inl rfl⟩).si ⟨rfl, Or.inr rfl⟩).si ⟨rfl, Or.inr rfl⟩
    have f1' : Fr (fun c k => (c = 41 ∨ c = 43 ∨ c = 44) ∧ k = a) g' (jsi (jsi (jsi g' 41 a (nI (cw x))) 44 a fv) 43 a 0) := (((Fr.refl g').si ⟨by omega, rfl⟩).si ⟨by omega, rfl⟩).si ⟨by omega, rfl⟩
    have p1' : ∀ c k, ((c = 41 ∨ c = 43 ∨ c = 44) ∧ k = a) → mTA a c k := fun c k z => mTA_s (by omega) z.2
    refine ⟨_, _, hc0.trans hcl, hm0.trans hmd, hC.up2 f1 f1' (fun c k z => Or.inl ⟨by omega, by omega⟩) (fun c k z => up_t (p1' c k z)) ?_ ⟨R0, hR0.fr f1 (fun c k z1 z2 => by omega)⟩, by rw [f1.i (by omega), f1'.i (by omega)]; exact h15, by simp [ji_si], by simp [ji_si], ?_, f1.sub (fun c k z => Or.inl ⟨by omega, by omega⟩), f1'.sub (fun c k z => Or.inl (p1' c k z)), f1'.i (by omega)⟩
    · refine ⟨ht.fr f1, ?_, hMu.fr f1 f1' (by omega) (fun c k z1 z2 => by omega) (by omega) (by omega) (fun i hi => by omega), hBa.fr f1 f1' (fun k => by omega) (fun k z1 z2 => by omega), hPl.fr f1 f1' (fun c k z => by omega) (fun c k z z1 z2 => by omega)⟩
      rw [tv_si, tv_si, tv_si, mv_si (by omega), mv_si (by omega), mv_si (by omega)]
      simp only [Sc, upd_e, Nat.reduceEqDiff, if_true, if_false]
      exact ⟨h0, h33, h34, ⟨h42, B2_0, hfv, trivial⟩, h7, h8, h9, h10, h11, ⟨Or.inr (nI_isD hcw), trivial⟩, h14⟩
    · rw [mv_v (by omega)]
      simp only [ji_si, Nat.reduceEqDiff, false_and, if_false, and_self, if_true]
      exact hcase
  by_cases c : aN (cw x) = 31
  · have ca : ¬ aN (cw x) = a := fun z => h31 (z.symm.trans c)
    have s1 := c_setFlag (ktm (nI (cw x))) 16 1
    rw [r6, h6, if_neg n1, fl_f1 _ h42 _ h43' _ h44'] at s1
    have s2 := c_setFlag (ktm2 (nI (cw x)) (FL (mv g' a 42) (mv g' a 43) 1)) 1024 0
    rw [r66, if_pos rfl, fl_e0 _ h42 _ h43' _ B2_1] at s2
    refine fin 1 B2_1 (Or.inr ⟨c, rfl⟩) ?_ ?_
    · simp only [s31_104, s31_105, s31_107, s31_110, s31_111, s31_113, s31_115, s31_118, s31_120, s31_123, s31_124, s31_127, s31_128, s31_131, s31_132, s31_135, s31_136, kt, hadr, eq_true (E31.mpr c), s1, s2, ↓reduceIte, va_rf_s, va_rf_n, jb_some, jb_none, jtl_s, jtl_n, if_true, if_false, true_and, and_true, false_and, and_false, or_true, true_or, or_false, false_or, not_true_eq_false, not_false_eq_true, jk_si, jp_si, jj_si, jk_sj, jp_sj, ji_sj, jk_ci, jp_ci, jj_ci, jk_cj, jp_cj, ji_cj, jlng_n, jlng_i, jlng_r, jlng_0]
    · rw [jB_f ca]
      simp only [s126_171, s126_172, s126_175, s126_176, s126_178, s126_179, s126_180, s126_183, s126_184, s126_186, s126_189, s126_190, s126_193, s126_194, s126_195, s126_196, s126_199, s126_200, s126_201, k30 qm, k41 qm, k43 qm, k44 qm, p30_10 qm, p30_12 qm, p30_13 qm, b4, b5, show ((1 : Int32) = 0 ∨ (1 : Int32) = 1) by decide, ↓reduceIte, va_rf_s, va_rf_n, jb_some, jb_none, jtl_s, jtl_n, if_true, if_false, true_and, and_true, false_and, and_false, or_true, true_or, or_false, false_or, not_true_eq_false, not_false_eq_true, jk_si, jp_si, jj_si, jk_sj, jp_sj, ji_sj, jk_ci, jp_ci, jj_ci, jk_cj, jp_cj, ji_cj, jlng_n, jlng_i, jlng_r, jlng_0]
  · have ca : aN (cw x) = a := hx.2.1.2.resolve_right c
    have s1 := c_setFlag (ktm (nI (cw x))) 16 0
    rw [r6, h6, if_pos rfl, fl_f0 _ h42 _ h43' _ h44'] at s1
    have s2 := c_setFlag (ktm2 (nI (cw x)) (FL (mv g' a 42) (mv g' a 43) 0)) 1024 0
    rw [r66, if_pos rfl, fl_e0 _ h42 _ h43' _ B2_0] at s2
    refine fin 0 B2_0 (Or.inl ⟨ca, rfl⟩) ?_ ?_
    · simp only [s31_104, s31_105, s31_107, s31_110, s31_111, s31_113, s31_115, s31_118, s31_120, s31_123, s31_124, s31_127, s31_128, s31_131, s31_132, s31_135, s31_136, kt, hadr, eq_false (fun z => c (E31.mp z)), s1, s2, ↓reduceIte, va_rf_s, va_rf_n, jb_some, jb_none, jtl_s, jtl_n, if_true, if_false, true_and, and_true, false_and, and_false, or_true, true_or, or_false, false_or, not_true_eq_false, not_false_eq_true, jk_si, jp_si, jj_si, jk_sj, jp_sj, ji_sj, jk_ci, jp_ci, jj_ci, jk_cj, jp_cj, ji_cj, jlng_n, jlng_i, jlng_r, jlng_0]
    · rw [jB_t ca]
      simp only [s126_171, s126_172, s126_175, s126_176, s126_178, s126_179, s126_180, s126_183, s126_184, s126_186, s126_189, s126_190, s126_193, s126_194, s126_195, s126_196, s126_199, s126_200, s126_201, k30 qm, k41 qm, k43 qm, k44 qm, p30_10 qm, p30_12 qm, p30_13 qm, b4, b5, n1, ↓reduceIte, va_rf_s, va_rf_n, jb_some, jb_none, jtl_s, jtl_n, if_true, if_false, true_and, and_true, false_and, and_false, or_true, true_or, or_false, false_or, not_true_eq_false, not_false_eq_true, jk_si, jp_si, jj_si, jk_sj, jp_sj, ji_sj, jk_ci, jp_ci, jj_ci, jk_cj, jp_cj, ji_cj, jlng_n, jlng_i, jlng_r, jlng_0]
