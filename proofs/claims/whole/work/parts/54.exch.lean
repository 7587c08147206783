/-! ONE MESSAGE heard by all -/
theorem b_one (i : Nat) (hi : i < 32) : bt 1 i = decide (i = 0) := by
  have : ∀ i : Fin 32, bt 1 i.val = decide (i.val = 0) := by decide +kernel
  exact this ⟨i, hi⟩
theorem bit_v (x : Int32) {j : Nat} (hj : j < 32) : (x >>> (nI j &&& 31)) &&& 1 = if bt x j = true then 1 else 0 := by
  apply b_ext
  intro i hi
  rw [b_and, b_one i hi, b_sshr j hj x hi]
  by_cases c : i = 0
  · subst c
    rw [Nat.add_zero, if_pos hj]
    by_cases d : bt x j = true
    · rw [if_pos d, d]; decide
    · rw [if_neg d, Bool.eq_false_iff.mpr d]; decide
  · rw [decide_eq_false c, Bool.and_false]
    by_cases d : bt x j = true
    · rw [if_pos d, b_one i hi, decide_eq_false c]
    · rw [if_neg d, b_0]
theorem bit_sh {j i : Nat} (hj : j < 32) (hi : i < 32) : bt ((1 : Int32) <<< (nI j &&& 31)) i = decide (i = j) := by
  rw [b_shl j hj 1 hi]
  by_cases c : j ≤ i
  · rw [decide_eq_true c, Bool.true_and, b_one _ (by omega)]
    by_cases d : i = j
    · rw [decide_eq_true d, decide_eq_true (by omega)]
    · rw [decide_eq_false d, decide_eq_false (by omega)]
  · rw [decide_eq_false c, Bool.false_and, decide_eq_false (by omega)]
theorem bit_on (x : Int32) {j i : Nat} (hj : j < 32) (hi : i < 32) : bt (x ||| ((1 : Int32) <<< (nI j &&& 31))) i = if i = j then true else bt x i := by
  rw [b_or, bit_sh hj hi]
  by_cases c : i = j
  · rw [if_pos c, decide_eq_true c, Bool.or_true]
  · rw [if_neg c, decide_eq_false c, Bool.or_false]
theorem bit_off (x : Int32) {j i : Nat} (hj : j < 32) (hi : i < 32) : bt (x &&& (((1 : Int32) <<< (nI j &&& 31)) ^^^ (-1))) i = if i = j then false else bt x i := by
  rw [b_and, b_xor, bit_sh hj hi, b_m1 i hi]
  by_cases c : i = j
  · rw [if_pos c, decide_eq_true c]; cases bt x i <;> rfl
  · rw [if_neg c, decide_eq_false c]; cases bt x i <;> rfl
/-- an address with no terminal -/
def Ab (g' : jH) (a : Nat) : Prop := (∀ l, vL l → ji g' l a = if l = 41 then -1 else 0) ∧ ji g' 33 (31 + a) = 0 ∧ ji g' 34 (31 + a) = 0 ∧ (∀ b k, b = 35 ∨ b = 36 → 992 * a ≤ k → k < 992 * a + 992 → ji g' b k = 0) ∧ (∀ k, 62 * a ≤ k → k < 62 * a + 62 → ji g' 37 k = 0) ∧ ji g' 50 a = 0
theorem Ab.fr {P' : Nat → Nat → Prop} {g' h' : jH} {a : Nat} (h : Ab g' a) (f' : Fr P' g' h') (h2 : ∀ b k, mTA a b k → ¬ P' b k) : Ab h' a := by
  obtain ⟨q1, q2, q3, q4, q5, q6⟩ := h
  refine ⟨fun l hl => ?_, ?_, ?_, fun b k z1 z2 z3 => ?_, fun k z1 z2 => ?_, ?_⟩
  · rw [f'.i (h2 l a (Or.inl ⟨by omega, rfl⟩))]; exact q1 l hl
  · rw [f'.i (h2 _ _ (Or.inr (Or.inl ⟨Or.inl rfl, rfl⟩)))]; exact q2
  · rw [f'.i (h2 _ _ (Or.inr (Or.inl ⟨Or.inr rfl, rfl⟩)))]; exact q3
  · rw [f'.i (h2 _ _ (Or.inr (Or.inr (Or.inl ⟨z1, z2, z3⟩))))]; exact q4 b k z1 z2 z3
  · rw [f'.i (h2 _ _ (Or.inr (Or.inr (Or.inr (Or.inl ⟨rfl, z1, z2⟩)))))]; exact q5 k z1 z2
  · rw [f'.i (h2 50 a (Or.inl ⟨by omega, rfl⟩))]; exact q6
/-- the terminals -/
def TS (B : Nat) (g g' : jH) : Prop := ∀ a, a < 31 → (jp g 11 a = none ∧ ji g' 31 a = 0 ∧ Ab g' a) ∨ ∃ t, jp g 11 a = some t ∧ ji g' 31 a = 1 ∧ TM B g g' a t
theorem mTA_mHp {a a2 b k : Nat} (ha : a < 31) (ha2 : a2 < 31) (z : mTA a2 b k) (y : mHp a b k) : a = a2 := by
  rcases y with y | y | ⟨y, _⟩ | y | y | y | ⟨y, _⟩
  · rcases y with ⟨y1, y2⟩ | ⟨y1, y2⟩ | ⟨y1, y2⟩ | ⟨y1, y2⟩ | ⟨y1, y2⟩ <;> rcases z with ⟨z1, z2⟩ | ⟨z1, z2⟩ | ⟨z1, z2⟩ | ⟨z1, z2⟩ | ⟨z1, z2⟩ <;> omega
  · rcases z with ⟨z1, z2⟩ | ⟨z1, z2⟩ | ⟨z1, z2⟩ | ⟨z1, z2⟩ | ⟨z1, z2⟩ <;> omega
  · rcases z with ⟨z1, z2⟩ | ⟨z1, z2⟩ | ⟨z1, z2⟩ | ⟨z1, z2⟩ | ⟨z1, z2⟩ <;> omega
  · rcases z with ⟨z1, z2⟩ | ⟨z1, z2⟩ | ⟨z1, z2⟩ | ⟨z1, z2⟩ | ⟨z1, z2⟩ <;> omega
  · rcases z with ⟨z1, z2⟩ | ⟨z1, z2⟩ | ⟨z1, z2⟩ | ⟨z1, z2⟩ | ⟨z1, z2⟩ <;> omega
  · rcases z with ⟨z1, z2⟩ | ⟨z1, z2⟩ | ⟨z1, z2⟩ | ⟨z1, z2⟩ | ⟨z1, z2⟩ <;> omega
  · rcases z with ⟨z1, z2⟩ | ⟨z1, z2⟩ | ⟨z1, z2⟩ | ⟨z1, z2⟩ | ⟨z1, z2⟩ <;> omega
/-- the kinds of a terminal's labels -/
theorem TM.kd {B a t : Nat} {g g' : jH} (h : TM B g g' a t) : jk g t = (4, 0) ∧ jk g (t + 1) = (3, 0) ∧ jk g (t + 2) = (20, 960) ∧ jk g (t + 3) = (20, 960) ∧ jk g (t + 4) = (5, 0) ∧ jk g (t + 5) = (20, 20) ∧ jk g (t + 6) = (21, 20) := by
  obtain ⟨⟨_, q1, _, _, q2, _, _, q3, q4⟩, _, ⟨_, k, S, M, _, _, ⟨⟨q5, _, _, q6, q7⟩, _⟩, _⟩, _⟩ := h
  exact ⟨q1, q2, q3, q4, q5, q6, q7⟩
theorem tm_dis {B B' a a2 t t2 : Nat} {g g' : jH} (ha : a < 31) (ha2 : a2 < 31) (h : TM B g g' a t) (h2 : TM B' g g' a2 t2) (hne : a ≠ a2) {b : Nat} (z1 : t ≤ b) (z2 : b ≤ t + 6) : ¬ (t2 ≤ b ∧ b ≤ t2 + 6) := by
  rintro ⟨z3, z4⟩
  obtain ⟨p0, p1, p2, p3, p4, p5, p6⟩ := h.kd
  obtain ⟨q0, q1, q2, q3, q4, q5, q6⟩ := h2.kd
  by_cases e : t = t2
  · subst e
    have e1 := h.2.1.1.1
    have e2 := h2.2.1.1.1
    exact hne ((e_eq (by omega) (by omega)).mp (e1.symm.trans e2))
  · by_cases c : t < t2
    · rcases (show t2 = t + 1 ∨ t2 = t + 2 ∨ t2 = t + 3 ∨ t2 = t + 4 ∨ t2 = t + 5 ∨ t2 = t + 6 by omega) with rfl | rfl | rfl | rfl | rfl | rfl
      · exact absurd (p1.symm.trans q0) (by decide)
      · exact absurd (p2.symm.trans q0) (by decide)
      · exact absurd (p3.symm.trans q0) (by decide)
      · exact absurd (p4.symm.trans q0) (by decide)
      · exact absurd (p5.symm.trans q0) (by decide)
      · exact absurd (p6.symm.trans q0) (by decide)
    · rcases (show t = t2 + 1 ∨ t = t2 + 2 ∨ t = t2 + 3 ∨ t = t2 + 4 ∨ t = t2 + 5 ∨ t = t2 + 6 by omega) with rfl | rfl | rfl | rfl | rfl | rfl
      · exact absurd (q1.symm.trans p0) (by decide)
      · exact absurd (q2.symm.trans p0) (by decide)
      · exact absurd (q3.symm.trans p0) (by decide)
      · exact absurd (q4.symm.trans p0) (by decide)
      · exact absurd (q5.symm.trans p0) (by decide)
      · exact absurd (q6.symm.trans p0) (by decide)
def EX (B : Nat) (L : List Int32) (g g' : jH) (n : Nat) (A0 A1 : List Int32) : Prop := CS g ∧ MS g' ∧ RLi B g g' ∧ WI g 15 L ∧ ML g' L ∧ (∃ R0, WI g 18 R0) ∧ An g g' n A0 A1 ∧ TS B g g'
theorem EX.hc {B n a t : Nat} {L A0 A1 : List Int32} {g g' : jH} (h : EX B L g g' n A0 A1) (ha : a < 31) (hT : TM B g g' a t) : HC B L g g' a t n A0 A1 := by
  obtain ⟨q1, q2, q3, q4, q5, q6, q7, q8⟩ := h
  exact ⟨ha, q1, q2, hT, q3, q4, q5, q6, q7⟩
theorem cHp_o {t b k : Nat} (hb : 74 ≤ b) (h : ¬ (t ≤ b ∧ b ≤ t + 6)) : ¬ cHp t b k := by
  rintro (z | z | z | z)
  · exact h z
  · omega
  · omega
  · omega
theorem EX.of {B B' n a t : Nat} {L A0 A1 : List Int32} {g g' G G' : jH} (hC : HC B' L G G' a t n A0 A1) (hE : TS B g g') (hBB : B ≤ B') (hB : B' < 1610612736) (F : Fr (cHp t) g G) (F' : Fr (mHp a) g' G') (hp : jp g 11 a = some t) (hT : TM B g g' a t) : EX B' L G G' n A0 A1 := by
  obtain ⟨ha, q1, q2, q3, q4, q5, q6, q7, q8⟩ := hC
  refine ⟨q1, q2, q4, q5, q6, q7, q8, fun a2 ha2 => ?_⟩
  have e31 : ji G' 31 a2 = ji g' 31 a2 := F'.i (by rintro (z | z | z | z | z | z | z) <;> omega)
  by_cases c : a = a2
  · subst c
    rcases hE a ha with ⟨z, _⟩ | ⟨t2, z1, z2, z3⟩
    · exact absurd (z.symm.trans hp) (by simp)
    · have e : t2 = t := Option.some.inj (z1.symm.trans hp)
      exact Or.inr ⟨t, by rw [F.p]; exact hp, by rw [e31]; exact z2, q3⟩
  · have hm : ∀ b k, mTA a2 b k → ¬ mHp a b k := fun b k z y => c (mTA_mHp ha ha2 z y)
    rcases hE a2 ha2 with ⟨z1, z2, z3⟩ | ⟨t2, z1, z2, z3⟩
    · exact Or.inl ⟨by rw [F.p]; exact z1, by rw [e31]; exact z2, z3.fr F' hm⟩
    · exact Or.inr ⟨t2, by rw [F.p]; exact z1, by rw [e31]; exact z2, (z3.mono hBB hB).fr F F' (fun b k y1 y2 => cHp_o (by have := z3.1.1; omega) (fun w => tm_dis ha2 ha z3 hT (Ne.symm c) y1 y2 w)) hm⟩
/-- waiting and relayed marks -/
theorem EX.mk {P P' : Nat → Nat → Prop} {B n : Nat} {L A0 A1 : List Int32} {g g' h h' : jH} (hE : EX B L g g' n A0 A1) (f : Fr P g h) (f' : Fr P' g' h') (h1 : ∀ b k, P b k → b = 10 ∧ k = 9) (h2 : ∀ b k, P' b k → b = 71) : EX B L h h' n A0 A1 := by
  obtain ⟨q1, q2, q3, q4, q5, ⟨R0, q6⟩, q7, q8⟩ := hE
  have n1 : ∀ b k, ¬ (b = 10 ∧ k = 9) → ¬ P b k := fun b k z y => z (h1 b k y)
  have n2 : ∀ b k, ¬ b = 71 → ¬ P' b k := fun b k z y => z (h2 b k y)
  have n3 : ∀ a b k, mTA a b k → ¬ P' b k := fun a b k z => n2 b k (by rcases z with ⟨z1, z2⟩ | ⟨z1, z2⟩ | ⟨z1, z2⟩ | ⟨z1, z2⟩ | ⟨z1, z2⟩ <;> omega)
  refine ⟨f.cs q1, f'.ms q2, q3.fr f f' (fun b k z1 z2 => n1 b k (by omega)) (fun k z => n2 30 k (by omega)) (fun b k z1 z2 => n2 b k (by omega)), q4.fr f (fun b k z1 z2 => n1 b k (by omega)), q5.fr f' (n2 30 49 (by omega)) (fun k => n2 68 k (by omega)), ⟨R0, q6.fr f (fun b k z1 z2 => n1 b k (by omega))⟩, q7.fr f f' (fun b k z1 z2 => n1 b k (by omega)) (n1 10 8 (by omega)) (n2 30 52 (by omega)) (fun b k z => n2 b k (by omega)), fun a ha => ?_⟩
  have e31 : ji h' 31 a = ji g' 31 a := f'.i (n2 _ _ (by omega))
  rcases q8 a ha with ⟨z1, z2, z3⟩ | ⟨t, z1, z2, z3⟩
  · exact Or.inl ⟨by rw [f.p]; exact z1, by rw [e31]; exact z2, z3.fr f' (n3 a)⟩
  · exact Or.inr ⟨t, by rw [f.p]; exact z1, by rw [e31]; exact z2, z3.fr f f' (fun b k y1 y2 => n1 b k (by have := z3.1.1; omega)) (n3 a)⟩
/-- who waits -/
def WQ (L : List Int32) (g g' : jH) (a : Nat) : Prop := (∀ b, a ≤ b → b < 32 → bt (ji g 10 9) b = false) ∧ ∀ b, b < a → (bt (ji g 10 9) b = true ∧ ji g' 71 b = 1 ∧ ∃ t, jp g 11 b = some t ∧ RY L g g' b t) ∨ (bt (ji g 10 9) b = false ∧ ji g' 71 b = 0)
theorem RY.fr {P P' : Nat → Nat → Prop} {L : List Int32} {g g' h h' : jH} {a t : Nat} (hr : RY L g g' a t) (f : Fr P g h) (f' : Fr P' g' h') (h1 : ∀ k, ¬ P t k) (h2 : ∀ b, b = 43 ∨ b = 44 ∨ b = 72 → ¬ P' b a) : RY L h h' a t := by
  obtain ⟨q0, c, q1, q2, q3, q4, q5, q6, q7, q8⟩ := hr
  have e44 : mv h' a 44 = mv g' a 44 := by rw [mv_v (by omega), mv_v (by omega), f'.i (h2 44 (by omega))]
  exact ⟨by rw [f.i (h1 _), f'.i (h2 72 (by omega))]; exact q0, c, q1, q2, by rw [f.i (h1 _)]; exact q3, by rw [f'.i (h2 43 (by omega))]; exact q4, by rw [e44]; exact q5, q6, by rw [f.i (h1 _)]; exact q7, q8⟩
theorem WA_uq {a b : Nat} {L : List Int32} (h : WA a L) (h' : WA b L) : a = b := by
  obtain ⟨i, x, q1, q2, q3, q4⟩ := h
  obtain ⟨j, y, p1, p2, p3, p4⟩ := h'
  have e : i = j := by
    rcases Nat.lt_trichotomy i j with z | z | z
    · exact absurd p2 (q4 j y z p1)
    · exact z
    · exact absurd q2 (p4 i x z q1)
  subst e
  have e2 : x = y := Option.some.inj (q1.symm.trans p1)
  subst e2
  exact q3.symm.trans p3
theorem c_deaf {g : jH} {L : List Int32} {a t l : Nat} (qc : CS g) (kt : jk g t = (4, 0)) (h0 : ji g t 0 = nI a) (hW : WI g 15 L) (h4 : (ji g t 4 >>> (nI l &&& 31)) &&& 1 = 0) : jV 31 0 [some (.ref t), some (.ref 15), some (.int (nI l)), some (.ref 18), none, none, none] [] g = some (some (.int 0), g) := by
  obtain ⟨r, hr, _⟩ := w_last hW (nI a)
  by_cases c : r = -1
  · subst c
    simp only [s31_0, s31_1, s31_2, s31_5, s31_8, s31_10, s31_12, s31_13, s31_16, s31_17, s31_20, s31_21, s31_24, s31_27, s31_28, kt, h0, k15 qc, hr, ↓reduceIte, va_rf_s, va_rf_n, jb_some, jb_none, jtl_s, jtl_n, if_true, if_false, true_and, and_true, false_and, and_false, or_true, true_or, or_false, false_or, not_true_eq_false, not_false_eq_true, jk_si, jp_si, jj_si, jk_sj, jp_sj, ji_sj, jk_ci, jp_ci, jj_ci, jk_cj, jp_cj, ji_cj, jlng_n, jlng_i, jlng_r, jlng_0]
  · simp only [s31_0, s31_1, s31_2, s31_5, s31_8, s31_10, s31_12, s31_13, s31_16, s31_17, s31_20, s31_21, s31_24, s31_27, s31_28, kt, h0, k15 qc, hr, c, c_bitAt, h4, ↓reduceIte, va_rf_s, va_rf_n, jb_some, jb_none, jtl_s, jtl_n, if_true, if_false, true_and, and_true, false_and, and_false, or_true, true_or, or_false, false_or, not_true_eq_false, not_false_eq_true, jk_si, jp_si, jj_si, jk_sj, jp_sj, ji_sj, jk_ci, jp_ci, jj_ci, jk_cj, jp_cj, ji_cj, jlng_n, jlng_i, jlng_r, jlng_0]
