/-! THE TWO LOOPS over the terminals -/
abbrev cEp (p : Nat → Option Nat) : Nat → Nat → Prop := fun b k => (∃ a t, a < 31 ∧ p a = some t ∧ t ≤ b ∧ b ≤ t + 6) ∨ (2 ≤ b ∧ b ≤ 9) ∨ (b = 10 ∧ (k = 8 ∨ k = 9)) ∨ (18 ≤ b ∧ b ≤ 26)
abbrev mEp : Nat → Nat → Prop := fun b k => (32 ≤ b ∧ b ≤ 56) ∨ (68 ≤ b ∧ b ≤ 73) ∨ (b = 30 ∧ (k = 21 ∨ k = 22 ∨ k = 29 ∨ k = 49 ∨ k = 52 ∨ k = 56))
theorem cEp_h {p : Nat → Option Nat} {a t b k : Nat} (ha : a < 31) (hp : p a = some t) (z : cHp t b k) : cEp p b k := by
  rcases z with z | z | z | z
  · exact Or.inl ⟨a, t, ha, hp, z.1, z.2⟩
  · exact Or.inr (Or.inl z)
  · exact Or.inr (Or.inr (Or.inl ⟨z.1, Or.inl z.2⟩))
  · exact Or.inr (Or.inr (Or.inr ⟨by omega, by omega⟩))
theorem mEp_h {a b k : Nat} (z : mHp a b k) : mEp b k := by
  rcases z with z | z | z | z | z | z | z
  · rcases z with ⟨z1, z2⟩ | ⟨z1, z2⟩ | ⟨z1, z2⟩ | ⟨z1, z2⟩ | ⟨z1, z2⟩ <;> exact Or.inl ⟨by omega, by omega⟩
  · exact Or.inl ⟨by omega, by omega⟩
  · exact Or.inr (Or.inr ⟨z.1, by omega⟩)
  · exact Or.inr (Or.inl ⟨by omega, by omega⟩)
  · exact Or.inr (Or.inl ⟨by omega, by omega⟩)
  · exact Or.inr (Or.inl ⟨by omega, by omega⟩)
  · exact Or.inr (Or.inl ⟨by omega, by omega⟩)
/-- the marks of others stand while one hears -/
theorem WQ.fr {P P' : Nat → Nat → Prop} {L : List Int32} {g g' h h' : jH} {a c : Nat} (hw : WQ L g g' a) (f : Fr P g h) (f' : Fr P' g' h') (h9 : ¬ P 10 9) (hc : c ≤ a) (h1 : ∀ b t k, b < a → jp g 11 b = some t → ¬ P t k) (h2 : ∀ b, b < a → ¬ P' 71 b) (h3 : ∀ b x, b < a → x = 43 ∨ x = 44 ∨ x = 72 → ¬ P' x b) : WQ L h h' a := by
  obtain ⟨q1, q2⟩ := hw
  refine ⟨fun b z1 z2 => by rw [f.i h9]; exact q1 b z1 z2, fun b hb => ?_⟩
  rw [f.i h9, f'.i (h2 b hb)]
  rcases q2 b hb with ⟨z1, z2, t, z3, z4⟩ | z
  · exact Or.inl ⟨z1, z2, t, by rw [f.p]; exact z3, z4.fr f f' (fun k => h1 b t k hb z3) (fun x hx => h3 b x hb hx)⟩
  · exact Or.inr z
theorem ts_t {B a t : Nat} {g g' : jH} (h : TS B g g') (ha : a < 31) (hp : jp g 11 a = some t) : ji g' 31 a = 1 ∧ TM B g g' a t := by
  rcases h a ha with ⟨z, _⟩ | ⟨t2, z1, z2, z3⟩
  · exact absurd (z.symm.trans hp) (by simp)
  · have e : t2 = t := Option.some.inj (z1.symm.trans hp)
    exact ⟨z2, e ▸ z3⟩
/-- a terminal's own part, seen by the marks of those ahead of it -/
theorem WQ.hp {B L} {g g' G G' : jH} {a t : Nat} (hT : TS B g g') (ha : a < 31) (hp : jp g 11 a = some t) (hw : WQ L g g' a) (F : Fr (cHp t) g G) (F' : Fr (mHp a) g' G') : WQ L G G' a := by
  have hM := (ts_t hT ha hp).2
  refine hw.fr F F' (c := a) ?_ (Nat.le_refl a) (fun b t2 k hb z => ?_) (fun b hb => ?_) (fun b x hb hx => ?_)
  · have := hM.1.1
    rintro (z | z | z | z) <;> omega
  · have h2 := (ts_t hT (show b < 31 by omega) z).2
    exact cHp_o h2.1.1 (fun y => tm_dis (show b < 31 by omega) ha h2 hM (by omega) (Nat.le_refl t2) (by omega) y)
  · rintro (z | z | z | z | z | z | z)
    · rcases z with ⟨z1, z2⟩ | ⟨z1, z2⟩ | ⟨z1, z2⟩ | ⟨z1, z2⟩ | ⟨z1, z2⟩ <;> omega
    · omega
    · omega
    · omega
    · omega
    · omega
    · omega
  · intro z
    have hb31 : b < 31 := by omega
    rcases hx with rfl | rfl | rfl
    · have := mTA_mHp (b := 43) (k := b) ha hb31 (mTA_s (by omega) rfl) z; omega
    · have := mTA_mHp (b := 44) (k := b) ha hb31 (mTA_s (by omega) rfl) z; omega
    · rcases z with z | z | z | z | z | z | z
      · rcases z with ⟨z1, z2⟩ | ⟨z1, z2⟩ | ⟨z1, z2⟩ | ⟨z1, z2⟩ | ⟨z1, z2⟩ <;> omega
      · omega
      · omega
      · omega
      · omega
      · omega
      · omega
/-- one more address, not waiting -/
theorem WQ.no {L : List Int32} {g g' : jH} {a : Nat} (ha : a < 31) (hw : WQ L g g' a) (h : ji g' 71 a = 0) : WQ L g g' (a + 1) := by
  obtain ⟨q1, q2⟩ := hw
  refine ⟨fun b z1 z2 => q1 b (by omega) z2, fun b hb => ?_⟩
  by_cases c : b = a
  · subst c
    exact Or.inr ⟨q1 b (Nat.le_refl b) (by omega), h⟩
  · exact q2 b (by omega)
theorem WQ.yes {L : List Int32} {g g' : jH} {a t : Nat} (ha : a < 31) (hw : WQ L g g' a) (h : ji g' 71 a = 1) (hp : jp g 11 a = some t) (hr : RY L g g' a t) (ht : ∀ b t2, b ≤ a → jp g 11 b = some t2 → 74 ≤ t2) : WQ L (jsi g 10 9 (ji g 10 9 ||| ((1 : Int32) <<< (nI a &&& 31)))) g' (a + 1) := by
  have f : Fr (fun c k => c = 10 ∧ k = 9) g (jsi g 10 9 (ji g 10 9 ||| ((1 : Int32) <<< (nI a &&& 31)))) := (Fr.refl g).si ⟨rfl, rfl⟩
  have f' : Fr (fun _ _ => False) g' g' := Fr.refl g'
  obtain ⟨q1, q2⟩ := hw
  have e9 : ji (jsi g 10 9 (ji g 10 9 ||| ((1 : Int32) <<< (nI a &&& 31)))) 10 9 = ji g 10 9 ||| ((1 : Int32) <<< (nI a &&& 31)) := by rw [ji_si, if_pos ⟨rfl, rfl⟩]
  refine ⟨fun b z1 z2 => ?_, fun b hb => ?_⟩
  · rw [e9, bit_on _ (by omega) z2, if_neg (by omega)]
    exact q1 b (by omega) z2
  · rw [e9, bit_on _ (by omega) (by omega)]
    by_cases c : b = a
    · subst c
      rw [if_pos rfl]
      exact Or.inl ⟨rfl, h, t, by rw [f.p]; exact hp, hr.fr f f' (fun k => by have := ht b t (Nat.le_refl b) hp; omega) (fun _ _ => id)⟩
    · rw [if_neg c]
      rcases q2 b (by omega) with ⟨z1, z2, t2, z3, z4⟩ | z
      · exact Or.inl ⟨z1, z2, t2, by rw [f.p]; exact z3, z4.fr f f' (fun k => by have := ht b t2 (by omega) z3; omega) (fun _ _ => id)⟩
      · exact Or.inr z
/-- one terminal hears -/
theorem ha_step {B n a l : Nat} {tt : Int32} {L A0 A1 : List Int32} {g g' : jH} {x3 x4 y4 y5 y6 : Option Value} (hE : EX B L g g' n A0 A1) (ha : a < 31) (hl : l ≤ 1) (hn1 : n ≤ 1) (hn : (∃ b, a ≤ b ∧ WA b L) → n = 0) (hw : WQ L g g' a) (hB : B + 34 < 1610612736) : ∃ G G' n' A0' A1' z3 z4, jV 13 2 [some (.ref 10), some (.int (nI l)), some (.int (nI a)), x3, x4] [] g = jV 13 2 [some (.ref 10), some (.int (nI l)), some (.int (nI (a + 1))), z3, z4] [] G ∧ jV 137 13 [some (.ref 30), some (.int tt), some (.int (nI l)), some (.int (nI a)), y4, y5, y6] [] g' = jV 137 13 [some (.ref 30), some (.int tt), some (.int (nI l)), some (.int (nI (a + 1))), y4, y5, y6] [] G' ∧ EX (B + 34) L G G' n' A0' A1' ∧ n' ≤ 1 ∧ ((∃ b, a + 1 ≤ b ∧ WA b L) → n' = 0) ∧ WQ L G G' (a + 1) ∧ Fr (cEp (jp g 11)) g G ∧ Fr mEp g' G' := by
  have f71 : Fr (fun b k => b = 71 ∧ k = a) g' (jsi g' 71 a 0) := (Fr.refl g').si ⟨rfl, rfl⟩
  have f00 : Fr (fun _ _ => False) g g := Fr.refl g
  have hE1 : EX B L g (jsi g' 71 a 0) n A0 A1 := hE.mk f00 f71 (fun _ _ z => z.elim) (fun b k z => z.1)
  have hw1 : WQ L g (jsi g' 71 a 0) a := hw.fr f00 f71 (c := a) id (Nat.le_refl a) (fun _ _ _ _ _ => id) (fun b hb => by omega) (fun b x hb hx => by omega)
  have e71 : ji (jsi g' 71 a 0) 71 a = 0 := by rw [ji_si, if_pos ⟨rfl, rfl⟩]
  have m71 : Fr mEp g' (jsi g' 71 a 0) := f71.sub (fun b k z => Or.inr (Or.inl ⟨by omega, by omega⟩))
  obtain ⟨qc, qm, qR, qW, qL, qR0, qA, qT⟩ := id hE
  obtain ⟨_, qm1, _, _, _, _, _, qT1⟩ := id hE1
  have b3 : jin (nI a) 31 = true := jin_nI ha (by omega)
  have b5 : (nI a).toNatClampNeg = a := nI_clamp (by omega)
  have lt : nI a < 31 := nI_lt (b := 31) (by omega) (by omega)
  have e1 : nI a + 1 = nI (a + 1) := nI_add a 1
  rcases qT1 a ha with ⟨p1, p2, p3⟩ | ⟨t, p1, p2, p3⟩
  · refine ⟨g, jsi g' 71 a 0, n, A0, A1, some .null, x4, ?_, ?_, ?_, hn1, fun z => hn (z.elim fun b y => ⟨b, by omega, y.2⟩), hw1.no ha e71, Fr.refl g, m71⟩
    · simp only [s13_2 (x := nI a), s13_3, s13_5, s13_8, s13_9, s13_12, s13_13, s13_14, s13_14n, s13_15, s13_15n, s13_16, s13_16n, s13_19, s13_22, s13_22n, s13_23, s13_24, s13_27, s13_28, s13_29, s13_32, s13_35, s13_37, s13_39, s13_40, s13_43, s13_44, s13_45, s13_48, s13_49, s13_50, s13_53, s13_56, s13_59, s13_61, s13_62, s13_65, s13_66, s13_66n, s13_67, s13_68, s13_71, s13_74, k10 qc, k11 qc, p10_1 qc, b3, b5, lt, p1, e1, ↓reduceIte, va_rf_s, va_rf_n, jb_some, jb_none, jtl_s, jtl_n, if_true, if_false, true_and, and_true, false_and, and_false, or_true, true_or, or_false, false_or, not_true_eq_false, not_false_eq_true, jk_si, jp_si, jj_si, jk_sj, jp_sj, ji_sj, jk_ci, jp_ci, jj_ci, jk_cj, jp_cj, ji_cj, jlng_n, jlng_i, jlng_r, jlng_0]
    · simp only [s137_13 (x := nI a), s137_14, s137_16, s137_19, s137_20, s137_23, s137_24, s137_25, s137_26, s137_27, s137_30, s137_31, s137_32, s137_35, s137_36, s137_39, s137_41, s137_42, s137_43, s137_44, s137_45, s137_46, s137_49, s137_50, s137_51, s137_52, s137_55, s137_58, k30 qm, k71 qm, p30_53 qm, k31 qm1, p30_0 qm1, k30 qm1, b3, b5, lt, p2, e1, ↓reduceIte, va_rf_s, va_rf_n, jb_some, jb_none, jtl_s, jtl_n, if_true, if_false, true_and, and_true, false_and, and_false, or_true, true_or, or_false, false_or, not_true_eq_false, not_false_eq_true, jk_si, jp_si, jj_si, jk_sj, jp_sj, ji_sj, jk_ci, jp_ci, jj_ci, jk_cj, jp_cj, ji_cj, jlng_n, jlng_i, jlng_r, jlng_0]
    · obtain ⟨z1, z2, z3, z4, z5, z6, z7, z8⟩ := hE1
      exact ⟨z1, z2, z3.mono (by omega) hB, z4, z5, z6, z7, fun a ha => (z8 a ha).imp id (fun ⟨t, y1, y2, y3⟩ => ⟨t, y1, y2, y3.mono (by omega) hB⟩)⟩
  · obtain ⟨ht, hs, _⟩ := id p3
    obtain ⟨h0, ⟨h33, h133, h4⟩, _⟩ := id hs
    have kt := ht.2.1
    have ht74 := ht.1
    have d4 : jin (nI (31 * l + a)) 62 = true := jin_nI (by omega) (by omega)
    have d5 : (nI (31 * l + a)).toNatClampNeg = 31 * l + a := nI_clamp (by omega)
    have e2 : (31 : Int32) * nI l + nI a = nI (31 * l + a) := by
      show nI 31 * nI l + nI a = _
      rw [pk_mul, nI_add]
    have ebit : (ji g t 4 >>> (nI l &&& 31)) &&& 1 = 1 - ji (jsi g' 71 a 0) 33 (31 * l + a) := by
      rw [h4]
      rw [mv_v (by omega)] at h33 ⊢
      rw [mv_133] at h133 ⊢
      have key : ∀ s ∈ B2, ∀ u ∈ B2, (((1 - s) + 2 * (1 - u)) >>> ((0 : Int32) &&& 31)) &&& 1 = 1 - s ∧ (((1 - s) + 2 * (1 - u)) >>> ((1 : Int32) &&& 31)) &&& 1 = 1 - u := by decide +kernel
      have := key _ h33 _ h133
      rcases (show l = 0 ∨ l = 1 by omega) with rfl | rfl
      · rw [show 31 * 0 + a = a by omega]; exact this.1
      · rw [show 31 * 1 + a = 31 + a by omega]; exact this.2
    have hdf : ji (jsi g' 71 a 0) 33 (31 * l + a) ∈ B2 := by
      rcases (show l = 0 ∨ l = 1 by omega) with rfl | rfl
      · rw [show 31 * 0 + a = a by omega, ← mv_v (g := jsi g' 71 a 0) (l := 33) (by omega)]; exact h33
      · rw [show 31 * 1 + a = 31 + a by omega, ← mv_133]; exact h133
    rcases in_B2 hdf with z | z
    · -- it hears
      rw [z] at ebit
      have hHO := q_hear (hE1.hc ha p3) hB hl ebit (fun w => hn ⟨a, Nat.le_refl a, w⟩) hn1
      obtain ⟨o, G, hG, hO⟩ := hHO
      have tl : ∀ b t2, b ≤ a → jp g 11 b = some t2 → 74 ≤ t2 := fun b t2 hb hp => (ts_t qT1 (show b < 31 by omega) hp).2.1.1
      rcases hO with ⟨o0, G', q1, q2, q3, q4, q5⟩ | ⟨o0, G', q1, q2, q3, q4, q5, q6⟩ | ⟨o0, qG, G1, G', n', A0', A1', q0, q1, q2, q3, q4, q5, q6, q7⟩
      · subst o0
        refine ⟨G, G', n, A0, A1, some (.ref t), some (.int 0), ?_, ?_, EX.of q2 qT1 (by omega) hB q3 q4 p1 p3, hn1, fun z => hn (z.elim fun b y => ⟨b, by omega, y.2⟩), (hw1.hp qT1 ha p1 q3 q4).no ha (q5.trans e71), q3.sub (fun b k z => cEp_h ha p1 z), m71.trans (q4.sub (fun b k z => mEp_h z))⟩
        · simp only [s13_2 (x := nI a), s13_3, s13_5, s13_8, s13_9, s13_12, s13_13, s13_14, s13_14n, s13_15, s13_15n, s13_16, s13_16n, s13_19, s13_22, s13_22n, s13_23, s13_24, s13_27, s13_28, s13_29, s13_32, s13_35 (hq := jlng_r t), s13_37, s13_39, s13_40, s13_43, s13_44, s13_45, s13_48, s13_49, s13_50, s13_53, s13_56, s13_59, s13_61, s13_62, s13_65, s13_66, s13_66n, s13_67, s13_68, s13_71, s13_74, k10 qc, k11 qc, p10_1 qc, p10_3 qc, p10_4 qc, kt, b3, b5, lt, p1, hG, e1, eq_false (show ¬ (0 : Int32) = 2 by decide), eq_false (show ¬ (0 : Int32) = 1 by decide), ↓reduceIte, va_rf_s, va_rf_n, jb_some, jb_none, jtl_s, jtl_n, if_true, if_false, true_and, and_true, false_and, and_false, or_true, true_or, or_false, false_or, not_true_eq_false, not_false_eq_true, jk_si, jp_si, jj_si, jk_sj, jp_sj, ji_sj, jk_ci, jp_ci, jj_ci, jk_cj, jp_cj, ji_cj, jlng_n, jlng_i, jlng_r, jlng_0]
        · simp only [s137_13 (x := nI a), s137_14, s137_16, s137_19, s137_20, s137_23, s137_24, s137_25, s137_26, s137_27, s137_30, s137_31, s137_32, s137_35, s137_36, s137_39, s137_41, s137_42, s137_43, s137_44, s137_45, s137_46, s137_49, s137_50, s137_51, s137_52, s137_55, s137_58, k30 qm, k71 qm, p30_53 qm, k31 qm1, k33 qm1, p30_0 qm1, p30_2 qm1, k30 qm1, b3, b5, d4, d5, e2, lt, p2, z, n1, q1, e1, ↓reduceIte, va_rf_s, va_rf_n, jb_some, jb_none, jtl_s, jtl_n, if_true, if_false, true_and, and_true, false_and, and_false, or_true, true_or, or_false, false_or, not_true_eq_false, not_false_eq_true, jk_si, jp_si, jj_si, jk_sj, jp_sj, ji_sj, jk_ci, jp_ci, jj_ci, jk_cj, jp_cj, ji_cj, jlng_n, jlng_i, jlng_r, jlng_0]
      · subst o0
        have qcG := q3.cs qc
        have hE2 := EX.of q2 qT1 (by omega) hB q3 q4 p1 p3
        have hw2 := (hw1.hp qT1 ha p1 q3 q4).yes ha q5 (by rw [q3.p]; exact p1) q6 (fun b t2 hb hp => tl b t2 hb (by rw [← q3.p]; exact hp))
        have f9 : Fr (fun b k => b = 10 ∧ k = 9) G (jsi G 10 9 (ji G 10 9 ||| ((1 : Int32) <<< (nI a &&& 31)))) := (Fr.refl G).si ⟨rfl, rfl⟩
        refine ⟨_, G', n, A0, A1, some (.ref t), some (.int 2), ?_, ?_, hE2.mk f9 (Fr.refl (P := fun _ _ => False) G') (fun b k z => z) (fun _ _ z => z.elim), hn1, fun z => hn (z.elim fun b y => ⟨b, by omega, y.2⟩), hw2, (q3.sub (fun b k z => cEp_h ha p1 z)).trans (f9.sub (fun b k z => Or.inr (Or.inr (Or.inl ⟨z.1, Or.inr z.2⟩)))), m71.trans (q4.sub (fun b k z => mEp_h z))⟩
        · simp only [s13_2 (x := nI a), s13_3, s13_5, s13_8, s13_9, s13_12, s13_13, s13_14, s13_14n, s13_15, s13_15n, s13_16, s13_16n, s13_19, s13_22, s13_22n, s13_23, s13_24, s13_27, s13_28, s13_29, s13_32, s13_35 (hq := jlng_r t), s13_37, s13_39, s13_40, s13_43, s13_44, s13_45, s13_48, s13_49, s13_50, s13_53, s13_56, s13_59, s13_61, s13_62, s13_65, s13_66, s13_66n, s13_67, s13_68, s13_71, s13_74, k10 qc, k10 qcG, k11 qc, p10_1 qc, p10_3 qc, p10_4 qc, kt, b3, b5, lt, p1, hG, e1, eq_true (show (2 : Int32) = 2 by decide), c_withBit, n1, ↓reduceIte, va_rf_s, va_rf_n, jb_some, jb_none, jtl_s, jtl_n, if_true, if_false, true_and, and_true, false_and, and_false, or_true, true_or, or_false, false_or, not_true_eq_false, not_false_eq_true, jk_si, jp_si, jj_si, jk_sj, jp_sj, ji_sj, jk_ci, jp_ci, jj_ci, jk_cj, jp_cj, ji_cj, jlng_n, jlng_i, jlng_r, jlng_0]
        · simp only [s137_13 (x := nI a), s137_14, s137_16, s137_19, s137_20, s137_23, s137_24, s137_25, s137_26, s137_27, s137_30, s137_31, s137_32, s137_35, s137_36, s137_39, s137_41, s137_42, s137_43, s137_44, s137_45, s137_46, s137_49, s137_50, s137_51, s137_52, s137_55, s137_58, k30 qm, k71 qm, p30_53 qm, k31 qm1, k33 qm1, p30_0 qm1, p30_2 qm1, k30 qm1, b3, b5, d4, d5, e2, lt, p2, z, n1, q1, e1, ↓reduceIte, va_rf_s, va_rf_n, jb_some, jb_none, jtl_s, jtl_n, if_true, if_false, true_and, and_true, false_and, and_false, or_true, true_or, or_false, false_or, not_true_eq_false, not_false_eq_true, jk_si, jp_si, jj_si, jk_sj, jp_sj, ji_sj, jk_ci, jp_ci, jj_ci, jk_cj, jp_cj, ji_cj, jlng_n, jlng_i, jlng_r, jlng_0]
      · subst o0
        have qcG : jk G 10 = (1, 0) := k10 qG
        have n0 : n = 0 := hn ⟨a, Nat.le_refl a, q4⟩
        refine ⟨G1, G', n', A0', A1', some (.ref t), some (.int 1), ?_, ?_, EX.of q2 qT1 (by omega) hB q5 q6 p1 p3, by omega, fun z => z.elim (fun b y => by have := WA_uq q4 y.2; omega), (hw1.hp qT1 ha p1 q5 q6).no ha (q7.trans e71), q5.sub (fun b k z => cEp_h ha p1 z), m71.trans (q6.sub (fun b k z => mEp_h z))⟩
        · simp only [s13_2 (x := nI a), s13_3, s13_5, s13_8, s13_9, s13_12, s13_13, s13_14, s13_14n, s13_15, s13_15n, s13_16, s13_16n, s13_19, s13_22, s13_22n, s13_23, s13_24, s13_27, s13_28, s13_29, s13_32, s13_35 (hq := jlng_r t), s13_37, s13_39, s13_40, s13_43, s13_44, s13_45, s13_48, s13_49, s13_50, s13_53, s13_56, s13_59, s13_61, s13_62, s13_65, s13_66, s13_66n, s13_67, s13_68, s13_71, s13_74, k10 qc, qcG, k11 qc, p10_1 qc, p10_3 qc, p10_4 qc, kt, b3, b5, lt, p1, hG, e1, eq_false (show ¬ (1 : Int32) = 2 by decide), q0, ↓reduceIte, va_rf_s, va_rf_n, jb_some, jb_none, jtl_s, jtl_n, if_true, if_false, true_and, and_true, false_and, and_false, or_true, true_or, or_false, false_or, not_true_eq_false, not_false_eq_true, jk_si, jp_si, jj_si, jk_sj, jp_sj, ji_sj, jk_ci, jp_ci, jj_ci, jk_cj, jp_cj, ji_cj, jlng_n, jlng_i, jlng_r, jlng_0]
        · simp only [s137_13 (x := nI a), s137_14, s137_16, s137_19, s137_20, s137_23, s137_24, s137_25, s137_26, s137_27, s137_30, s137_31, s137_32, s137_35, s137_36, s137_39, s137_41, s137_42, s137_43, s137_44, s137_45, s137_46, s137_49, s137_50, s137_51, s137_52, s137_55, s137_58, k30 qm, k71 qm, p30_53 qm, k31 qm1, k33 qm1, p30_0 qm1, p30_2 qm1, k30 qm1, b3, b5, d4, d5, e2, lt, p2, z, n1, q1, e1, ↓reduceIte, va_rf_s, va_rf_n, jb_some, jb_none, jtl_s, jtl_n, if_true, if_false, true_and, and_true, false_and, and_false, or_true, true_or, or_false, false_or, not_true_eq_false, not_false_eq_true, jk_si, jp_si, jj_si, jk_sj, jp_sj, ji_sj, jk_ci, jp_ci, jj_ci, jk_cj, jp_cj, ji_cj, jlng_n, jlng_i, jlng_r, jlng_0]
    · -- it is deaf
      rw [z] at ebit
      have hd := c_deaf (l := l) qc kt h0.1 qW ebit
      refine ⟨g, jsi g' 71 a 0, n, A0, A1, some (.ref t), some (.int 0), ?_, ?_, ?_, hn1, fun z => hn (z.elim fun b y => ⟨b, by omega, y.2⟩), hw1.no ha e71, Fr.refl g, m71⟩
      · simp only [s13_2 (x := nI a), s13_3, s13_5, s13_8, s13_9, s13_12, s13_13, s13_14, s13_14n, s13_15, s13_15n, s13_16, s13_16n, s13_19, s13_22, s13_22n, s13_23, s13_24, s13_27, s13_28, s13_29, s13_32, s13_35 (hq := jlng_r t), s13_37, s13_39, s13_40, s13_43, s13_44, s13_45, s13_48, s13_49, s13_50, s13_53, s13_56, s13_59, s13_61, s13_62, s13_65, s13_66, s13_66n, s13_67, s13_68, s13_71, s13_74, k10 qc, k11 qc, p10_1 qc, p10_3 qc, p10_4 qc, kt, b3, b5, lt, p1, hd, e1, eq_false (show ¬ (0 : Int32) = 2 by decide), eq_false (show ¬ (0 : Int32) = 1 by decide), ↓reduceIte, va_rf_s, va_rf_n, jb_some, jb_none, jtl_s, jtl_n, if_true, if_false, true_and, and_true, false_and, and_false, or_true, true_or, or_false, false_or, not_true_eq_false, not_false_eq_true, jk_si, jp_si, jj_si, jk_sj, jp_sj, ji_sj, jk_ci, jp_ci, jj_ci, jk_cj, jp_cj, ji_cj, jlng_n, jlng_i, jlng_r, jlng_0]
      · simp only [s137_13 (x := nI a), s137_14, s137_16, s137_19, s137_20, s137_23, s137_24, s137_25, s137_26, s137_27, s137_30, s137_31, s137_32, s137_35, s137_36, s137_39, s137_41, s137_42, s137_43, s137_44, s137_45, s137_46, s137_49, s137_50, s137_51, s137_52, s137_55, s137_58, k30 qm, k71 qm, p30_53 qm, k31 qm1, k33 qm1, p30_0 qm1, p30_2 qm1, k30 qm1, b3, b5, d4, d5, e2, lt, p2, z, n1, e1, ↓reduceIte, va_rf_s, va_rf_n, jb_some, jb_none, jtl_s, jtl_n, if_true, if_false, true_and, and_true, false_and, and_false, or_true, true_or, or_false, false_or, not_true_eq_false, not_false_eq_true, jk_si, jp_si, jj_si, jk_sj, jp_sj, ji_sj, jk_ci, jp_ci, jj_ci, jk_cj, jp_cj, ji_cj, jlng_n, jlng_i, jlng_r, jlng_0]
      · obtain ⟨z1, z2, z3, z4, z5, z6, z7, z8⟩ := hE1
        exact ⟨z1, z2, z3.mono (by omega) hB, z4, z5, z6, z7, fun a ha => (z8 a ha).imp id (fun ⟨t, y1, y2, y3⟩ => ⟨t, y1, y2, y3.mono (by omega) hB⟩)⟩
