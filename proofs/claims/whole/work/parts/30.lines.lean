/-! LINES: the class's speak beside the reference's say -/
/-- how a word is heard: not sound, or 17 bits -/
def HW (x : Int32) : Prop := x = -1 ∨ ∃ k, k < 131072 ∧ x = nI k
theorem RX_HW {x : Int64} {r : Int32} (h : RX x r) : HW r := by
  rcases h with ⟨n, _, _, hr⟩ | ⟨_, er⟩
  · rcases hr with ⟨c, b, hb, hc, _, e⟩ | ⟨e, _⟩
    · exact Or.inr ⟨_, by omega, e⟩
    · exact Or.inl e
  · exact Or.inl er
/-- the reference's altered words -/
def AL (g : jH) (A : List (Int32 × Int64)) : Prop := A.length ≤ 40 ∧ ji g 30 29 = nI A.length ∧ ∀ (i : Nat) (q : Int32 × Int64), A[i]? = some q → ji g 55 i = q.1 ∧ jj g 56 i = q.2
/-- numbers from s on, with halves -/
def LnS (s B : Nat) (S : List (Int32 × Int64)) : Prop := ∀ q ∈ S, (∃ k, s ≤ k ∧ k ≤ B + 5000 ∧ q.1 = nI k) ∧ ∃ m, 1 ≤ m ∧ m < 2 ^ 40 ∧ q.2 = lN m
def RLs (B s : Nat) (S A : List (Int32 × Int64)) (g g' : jH) : Prop :=
  s ≤ B ∧ (ji g 2 5 = nI s ∧ ji g' 30 21 = nI s) ∧ ji g 2 6 = ji g' 30 22 ∧ (∀ i, i < 64 → ji g 3 i = ji g' 51 i ∧ ji g 4 i = ji g' 52 i ∧ ji g 5 i = ji g' 53 i ∧ ji g 6 i = ji g' 54 i ∧ HW (ji g' 51 i)) ∧ TI g 7 40 S ∧ AL g' A ∧ A.Perm S ∧ LnS s B S
def RLi (B : Nat) (g g' : jH) : Prop := B < 1610612736 ∧ ∃ s S A, RLs B s S A g g'
/-- what speaking may change -/
abbrev cLp : Nat → Nat → Prop := fun a _ => 2 ≤ a ∧ a ≤ 9
abbrev mLp : Nat → Nat → Prop := fun a k => (51 ≤ a ∧ a ≤ 56) ∨ (a = 30 ∧ (k = 21 ∨ k = 22 ∨ k = 29))
theorem AL.fr {g g' : jH} {A : List (Int32 × Int64)} (h : AL g A) {P : Nat → Nat → Prop} (f : Fr P g g') (h1 : ¬ P 30 29) (h2 : ∀ k, ¬ P 55 k) (h3 : ∀ k, ¬ P 56 k) : AL g' A :=
  ⟨h.1, by rw [f.i h1]; exact h.2.1, fun i q hi => by rw [f.i (h2 i), f.j (h3 i)]; exact h.2.2 i q hi⟩
theorem swp_perm {α : Type} (P Q : List α) (y z : α) (hz : (P ++ y :: Q)[(P ++ y :: Q).length - 1]? = some z) : (P ++ y :: Q).Perm (y :: ((P ++ y :: Q).set P.length z).dropLast) := by
  have e : (P ++ y :: Q).set P.length z = P ++ z :: Q := by
    rw [List.set_append_right _ _ (Nat.le_refl _), Nat.sub_self, List.set_cons_zero]
  rw [e]
  rcases List.eq_nil_or_concat Q with rfl | ⟨Q0, w, rfl⟩
  · rw [List.dropLast_concat]
    exact List.perm_append_comm
  · have hw : w = z := by
      rw [List.concat_eq_append, ← List.cons_append, ← List.append_assoc] at hz
      simp at hz
      exact hz
    subst hw
    rw [List.concat_eq_append, ← List.cons_append, ← List.cons_append, ← List.append_assoc, ← List.append_assoc, List.dropLast_concat]
    have h1 : (P ++ y :: Q0 ++ [w]).Perm (w :: (P ++ y :: Q0)) := List.perm_append_comm
    have h2 : (P ++ y :: Q0).Perm (y :: (P ++ Q0)) := List.perm_middle
    have h3 : (P ++ w :: Q0).Perm (w :: (P ++ Q0)) := List.perm_middle
    exact h1.trans ((h2.cons w).trans ((List.Perm.swap _ _ _).trans (h3.symm.cons y)))
theorem swp {α : Type} {A : List α} {k : Nat} {y z : α} (hk : A[k]? = some y) (hz : A[A.length - 1]? = some z) : A.Perm (y :: (A.set k z).dropLast) := by
  have hl := (List.getElem?_eq_some_iff.mp hk).1
  have e : A = A.take k ++ y :: A.drop (k + 1) := by
    have := (List.getElem?_eq_some_iff.mp hk).2
    rw [← this, List.getElem_cons_drop, List.take_append_drop]
  have hp : (A.take k).length = k := by rw [List.length_take]; omega
  have h1 := swp_perm (A.take k) (A.drop (k + 1)) y z (by rw [← e]; exact hz)
  rw [hp, ← e] at h1
  exact h1
theorem say_no {g : jH} (q : MS g) {A : List (Int32 × Int64)} (hA : AL g A) (l1 l2 l3 : Option Value) (l4 : Int32) (x : Int64) : ∀ m, m ≤ A.length → (∀ (i : Nat) (p : Int32 × Int64), i < m → A[i]? = some p → p.1 ≠ ji g 30 21) → jV 111 17 [some (.ref 30), l1, l2, l3, some (.int l4), some (.long x), none, some (.int (nI m - 1))] [] g = jV 111 96 [some (.ref 30), l1, l2, l3, some (.int l4), some (.long x), none, some (.int (-1))] [] g
  | 0, _, _ => by
    have a1 : nI 0 - 1 < 0 := by decide
    have a2 : nI 0 - 1 = -1 := by decide
    simp only [s111_17, s111_19, a2, show (-1 : Int32) < 0 by decide, ↓reduceIte, va_rf_s, va_rf_n, jb_some, jb_none, jtl_s, jtl_n, if_true, if_false, true_and, and_true, false_and, and_false, or_true, true_or, or_false, false_or, not_true_eq_false, not_false_eq_true, jk_si, jp_si, jj_si, jk_sj, jp_sj, ji_sj, jk_ci, jp_ci, jj_ci, jk_cj, jp_cj, ji_cj, jlng_n, jlng_i, jlng_r, jlng_0]
  | m + 1, hm, hn => by
    have ih := say_no q hA l1 l2 l3 l4 x m (by omega) (fun i p hi => hn i p (by omega))
    have e0 : nI (m + 1) - 1 = nI m := nI_pred m
    have a1 : ¬ nI m < 0 := nI_pos (by have := hA.1; omega)
    have hq : A[m]? = some A[m] := List.getElem?_eq_getElem (by omega)
    have hne := hn m _ (by omega) hq
    have h1 := (hA.2.2 m _ hq).1
    have a4 : jin (nI m) 40 = true := jin_nI (by have := hA.1; omega) (by omega)
    have a5 : (nI m).toNatClampNeg = m := nI_clamp (by have := hA.1; omega)
    rw [e0, ← ih]
    simp only [s111_19, s111_22, s111_23, s111_26, s111_28, s111_29, s111_30, s111_33, s111_90, s111_93, s111_17 (x := nI m), a1, k30 q, k55 q, p30_27 q, a4, a5, h1, hne, nI_dec, ↓reduceIte, va_rf_s, va_rf_n, jb_some, jb_none, jtl_s, jtl_n, if_true, if_false, true_and, and_true, false_and, and_false, or_true, true_or, or_false, false_or, not_true_eq_false, not_false_eq_true, jk_si, jp_si, jj_si, jk_sj, jp_sj, ji_sj, jk_ci, jp_ci, jj_ci, jk_cj, jp_cj, ji_cj, jlng_n, jlng_i, jlng_r, jlng_0]
theorem say_hit {g : jH} (q : MS g) {A : List (Int32 × Int64)} (hA : AL g A) (l1 l2 l3 : Option Value) (l4 : Int32) (x : Int64) {k : Nat} {y z : Int32 × Int64} (hk : A[k]? = some y) (hy : y.1 = ji g 30 21) (hz : A[A.length - 1]? = some z) (hn : ∀ (i : Nat) (p : Int32 × Int64), i ≠ k → A[i]? = some p → p.1 ≠ ji g 30 21) : ∀ m, k < m → m ≤ A.length → jV 111 17 [some (.ref 30), l1, l2, l3, some (.int l4), some (.long x), none, some (.int (nI m - 1))] [] g = jV 111 96 [some (.ref 30), l1, l2, l3, some (.int l4), some (.long (x ^^^ y.2)), none, some (.int (-1))] [] (jsj (jsi (jsi g 30 29 (nI (A.length - 1))) 55 k z.1) 56 k z.2)
  | 0, h0, _ => by omega
  | m + 1, hkm, hm => by
    have e0 : nI (m + 1) - 1 = nI m := nI_pred m
    have a1 : ¬ nI m < 0 := nI_pos (by have := hA.1; omega)
    have hq : A[m]? = some A[m] := List.getElem?_eq_getElem (by omega)
    have h1 := hA.2.2 m _ hq
    have a4 : jin (nI m) 40 = true := jin_nI (by have := hA.1; omega) (by omega)
    have a5 : (nI m).toNatClampNeg = m := nI_clamp (by have := hA.1; omega)
    by_cases c : k = m
    · subst c
      have e1 : A[k] = y := Option.some.inj (hq.symm.trans hk)
      rw [e1] at h1
      have h2 := hA.2.2 _ _ hz
      have e2 : nI A.length - 1 = nI (A.length - 1) := by
        conv => lhs; rw [show A.length = (A.length - 1) + 1 by omega]
        exact nI_pred _
      have b4 : jin (nI (A.length - 1)) 40 = true := jin_nI (by have := hA.1; omega) (by omega)
      have b5 : (nI (A.length - 1)).toNatClampNeg = A.length - 1 := nI_clamp (by have := hA.1; omega)
      have hA2 : AL (jsj (jsi (jsi g 30 29 (nI (A.length - 1))) 55 k z.1) 56 k z.2) (A.set k z).dropLast := by
        refine ⟨by rw [List.length_dropLast, List.length_set]; have := hA.1; omega, by rw [List.length_dropLast, List.length_set]; simp [ji_sj, ji_si], fun i p hi => ?_⟩
        rw [List.getElem?_dropLast] at hi
        split at hi
        · rw [ji_sj, ji_si, jj_sj]
          by_cases c : i = k
          · subst c
            rw [List.getElem?_set_self (by omega)] at hi
            cases hi
            simp
          · rw [List.getElem?_set_ne (Ne.symm c)] at hi
            have := hA.2.2 i p hi
            simp [c, ji_si, jj_si, this.1, this.2]
        · exact absurd hi (by simp)
      have h3 := say_no (MS_sj (MS_si (MS_si q))) hA2 l1 l2 l3 l4 (x ^^^ y.2) k (by rw [List.length_dropLast, List.length_set]; omega) (by
        intro i p hi hp
        rw [List.getElem?_dropLast] at hp
        split at hp
        · rw [List.getElem?_set_ne (by omega)] at hp
          simp only [ji_sj, ji_si]
          exact hn i p (by omega) hp
        · exact absurd hp (by simp))
      rw [e0, ← h3]
      simp only [s111_19, s111_22, s111_23, s111_26, s111_28, s111_29, s111_30, s111_33, s111_36, s111_38, s111_39, s111_42, s111_44, s111_45, s111_46, s111_48, s111_49, s111_50, s111_53, s111_54, s111_55, s111_58, s111_59, s111_62, s111_64, s111_65, s111_68, s111_69, s111_72, s111_73, s111_74, s111_75, s111_78, s111_80, s111_81, s111_84, s111_85, s111_88, s111_89, s111_90, s111_93, s111_17 (x := nI k), a1, k30 q, k55 q, k56 q, p30_27 q, p30_28 q, a4, a5, b4, b5, h1.1, h1.2, hy, hA.2.1, e2, ji_si, ji_sj, jj_sj, h2.1, h2.2, nI_dec, Nat.reduceEqDiff, ↓reduceIte, va_rf_s, va_rf_n, jb_some, jb_none, jtl_s, jtl_n, if_true, if_false, true_and, and_true, false_and, and_false, or_true, true_or, or_false, false_or, not_true_eq_false, not_false_eq_true, jk_si, jp_si, jj_si, jk_sj, jp_sj, ji_sj, jk_ci, jp_ci, jj_ci, jk_cj, jp_cj, ji_cj, jlng_n, jlng_i, jlng_r, jlng_0]
    · have hne := hn m _ (fun q => c q.symm) hq
      have ih := say_hit q hA l1 l2 l3 l4 x hk hy hz hn m (by omega) (by omega)
      rw [e0, ← ih]
      simp only [s111_19, s111_22, s111_23, s111_26, s111_28, s111_29, s111_30, s111_33, s111_90, s111_93, s111_17 (x := nI m), a1, k30 q, k55 q, p30_27 q, a4, a5, h1.1, hne, nI_dec, ↓reduceIte, va_rf_s, va_rf_n, jb_some, jb_none, jtl_s, jtl_n, if_true, if_false, true_and, and_true, false_and, and_false, or_true, true_or, or_false, false_or, not_true_eq_false, not_false_eq_true, jk_si, jp_si, jj_si, jk_sj, jp_sj, ji_sj, jk_ci, jp_ci, jj_ci, jk_cj, jp_cj, ji_cj, jlng_n, jlng_i, jlng_r, jlng_0]
/-- the tail of say -/
theorem say_end {g : jH} (q : MS g) {s : Nat} (hs : s < 2 ^ 31) (h21 : ji g 30 21 = nI s) (l3 l4 line who : Int32) (x : Int64) {r : Int32} (hr : jV 108 0 [some (.ref 30), some (.long x), none, none, none] [] g = some (some (.int r), g)) : jV 111 96 [some (.ref 30), some (.int line), some (.int who), some (.int l3), some (.int l4), some (.long x), none, some (.int (-1))] [] g = some (some (.int r), jsi (jsi (jsi (jsi (jsi (jsi g 51 (s % 64) r) 52 (s % 64) line) 53 (s % 64) who) 54 (s % 64) (ji g 30 22)) 30 21 (nI (s + 1))) 30 22 (ji g 30 22 + 20)) := by
  have e1 : nI s - nI s / 64 * 64 = nI (s % 64) := pk_rem (d := 64) hs (by omega) (by omega)
  have a4 : jin (nI (s % 64)) 64 = true := jin_nI (by omega) (by omega)
  have a5 : (nI (s % 64)).toNatClampNeg = s % 64 := nI_clamp (by omega)
  simp only [s111_96, s111_97, s111_100, s111_102, s111_103, s111_105, s111_106, s111_109, s111_111, s111_112, s111_114, s111_117, s111_118, s111_119, s111_122, s111_124, s111_125, s111_126, s111_127, s111_130, s111_132, s111_133, s111_134, s111_135, s111_138, s111_140, s111_141, s111_144, s111_145, s111_146, s111_147, s111_150, s111_151, s111_152, s111_155, s111_156, s111_157, s111_160, s111_162, s111_163, s111_166, s111_167, s111_170, s111_172, s111_173, k30 q, k51 q, k52 q, k53 q, k54 q, p30_23 q, p30_24 q, p30_25 q, p30_26 q, h21, e1, hr, a4, a5, show ¬ (64 : Int32) = 0 by decide, nI_1, ji_si, Nat.reduceEqDiff, ↓reduceIte, va_rf_s, va_rf_n, jb_some, jb_none, jtl_s, jtl_n, if_true, if_false, true_and, and_true, false_and, and_false, or_true, true_or, or_false, false_or, not_true_eq_false, not_false_eq_true, jk_si, jp_si, jj_si, jk_sj, jp_sj, ji_sj, jk_ci, jp_ci, jj_ci, jk_cj, jp_cj, ji_cj, jlng_n, jlng_i, jlng_r, jlng_0]
theorem lt_of_sorted {S : List (Int32 × Int64)} {q0 : Int32 × Int64} (h : (q0 :: S).Pairwise (fun a b => a.1 < b.1)) {p : Int32 × Int64} (hp : p ∈ S) : q0.1 < p.1 := (List.pairwise_cons.mp h).1 p hp
theorem speak_end {g : jH} (q : CS g) {s : Nat} (hs : s < 2 ^ 31) (h5 : ji g 2 5 = nI s) (w line who : Int32) (l4 : Int64) (r : Int32) : jV 17 36 [some (.ref 2), some (.int w), some (.int line), some (.int who), some (.long l4), none, some (.int r), none] [] g = some (some (.int r), jsi (jsi (jsi (jsi (jsi (jsi g 3 (s % 64) r) 4 (s % 64) line) 5 (s % 64) who) 6 (s % 64) (ji g 2 6)) 2 5 (nI (s + 1))) 2 6 (ji g 2 6 + 20)) := by
  have e1 : nI s &&& 63 = nI (s % 64) := pk_andN (by omega) 6 (by decide)
  have a4 : jin (nI (s % 64)) 64 = true := jin_nI (by omega) (by omega)
  have a5 : (nI (s % 64)).toNatClampNeg = s % 64 := nI_clamp (by omega)
  simp only [s17_36, s17_37, s17_40, s17_42, s17_43, s17_45, s17_46, s17_49, s17_51, s17_53, s17_54, s17_55, s17_58, s17_60, s17_61, s17_62, s17_63, s17_66, s17_68, s17_69, s17_70, s17_71, s17_74, s17_76, s17_77, s17_80, s17_81, s17_82, s17_83, s17_86, s17_87, s17_88, s17_91, s17_92, s17_93, s17_96, s17_98, s17_99, s17_102, s17_104, k2 q, k3 q, k4 q, k5 q, k6 q, p2_0 q, p2_1 q, p2_2 q, p2_3 q, h5, e1, a4, a5, nI_1, ji_si, Nat.reduceEqDiff, ↓reduceIte, va_rf_s, va_rf_n, jb_some, jb_none, jtl_s, jtl_n, if_true, if_false, true_and, and_true, false_and, and_false, or_true, true_or, or_false, false_or, not_true_eq_false, not_false_eq_true, jk_si, jp_si, jj_si, jk_sj, jp_sj, ji_sj, jk_ci, jp_ci, jj_ci, jk_cj, jp_cj, ji_cj, jlng_n, jlng_i, jlng_r, jlng_0]
theorem q_say {B : Nat} {g g' : jH} (qc : CS g) (qm : MS g') (hR : RLi B g g') (hB : B + 1 < 1610612736) {c b : Nat} (hb : b < 65536) (hc : c ≤ 1) (line who : Int32) : ∃ v g1 g1', jV 17 0 [some (.ref 2), some (.int (nI (65536 * c + b))), some (.int line), some (.int who), none, none, none, none] [] g = some (some (.int v), g1) ∧ jV 111 0 [some (.ref 30), some (.int line), some (.int who), some (.int (nI c)), some (.int (nI b)), none, none, none] [] g' = some (some (.int v), g1') ∧ HW v ∧ RLi (B + 1) g1 g1' ∧ Fr cLp g g1 ∧ Fr mLp g' g1' := by
  obtain ⟨hB', s, S, A, hs, ⟨h5, h21⟩, h6, hring, hT, hA, hP, hS⟩ := hR
  obtain ⟨v, g1, S', hv, hT1, ho, hcase⟩ := t_takeOut hT (nI s)
  have qc1 : CS g1 := ho.cs qc
  have sy' : sy (nI c) = if c = 1 then 56 else 7 := by
    rcases (show c = 0 ∨ c = 1 by omega) with rfl | rfl <;> rfl
  have hmh := m_halves hb (nI c) g'
  rw [sy'] at hmh
  have e_alt : nI A.length - 1 = nI A.length - 1 := rfl
  have m0 : jV 111 0 [some (.ref 30), some (.int line), some (.int who), some (.int (nI c)), some (.int (nI b)), none, none, none] [] g' = jV 111 17 [some (.ref 30), some (.int line), some (.int who), some (.int (nI c)), some (.int (nI b)), some (.long (lN (SP (if c = 1 then 56 else 7) b))), none, some (.int (nI A.length - 1))] [] g' := by
    simp only [s111_0, s111_1, s111_2, s111_4, s111_7, s111_9, s111_10, s111_13, s111_14, s111_15, k30 qm, hmh, hA.2.1, ↓reduceIte, va_rf_s, va_rf_n, jb_some, jb_none, jtl_s, jtl_n, if_true, if_false, true_and, and_true, false_and, and_false, or_true, true_or, or_false, false_or, not_true_eq_false, not_false_eq_true, jk_si, jp_si, jj_si, jk_sj, jp_sj, ji_sj, jk_ci, jp_ci, jj_ci, jk_cj, jp_cj, ji_cj, jlng_n, jlng_i, jlng_r, jlng_0]
  have h5' : ji g1 2 5 = nI s := by rw [ho.i (by unfold tP; omega)]; exact h5
  have h6' : ji g1 2 6 = ji g' 30 22 := by rw [ho.i (by unfold tP; omega)]; exact h6
  have hsort : S.Pairwise (fun a b => a.1 < b.1) := hT.2.2.2.2
  -- the end, for what is heard
  have fin : ∀ (x : Int64) (r : Int32) (g2' : jH) (A' : List (Int32 × Int64)), MS g2' → RX x r → Fr mLp g' g2' → (∀ k, k = 21 ∨ k = 22 → ji g2' 30 k = ji g' 30 k) → (∀ a k, 51 ≤ a → a ≤ 54 → ji g2' a k = ji g' a k) → AL g2' A' → A'.Perm S' → LnS (s + 1) (B + 1) S' → (jV 111 17 [some (.ref 30), some (.int line), some (.int who), some (.int (nI c)), some (.int (nI b)), some (.long (lN (SP (if c = 1 then 56 else 7) b))), none, some (.int (nI A.length - 1))] [] g' = jV 111 96 [some (.ref 30), some (.int line), some (.int who), some (.int (nI c)), some (.int (nI b)), some (.long x), none, some (.int (-1))] [] g2') → (jV 17 0 [some (.ref 2), some (.int (nI (65536 * c + b))), some (.int line), some (.int who), none, none, none, none] [] g = jV 17 36 [some (.ref 2), some (.int (nI (65536 * c + b))), some (.int line), some (.int who), some (.long v), none, some (.int r), none] [] g1) → ∃ v g1 g1', jV 17 0 [some (.ref 2), some (.int (nI (65536 * c + b))), some (.int line), some (.int who), none, none, none, none] [] g = some (some (.int v), g1) ∧ jV 111 0 [some (.ref 30), some (.int line), some (.int who), some (.int (nI c)), some (.int (nI b)), none, none, none] [] g' = some (some (.int v), g1') ∧ HW v ∧ RLi (B + 1) g1 g1' ∧ Fr cLp g g1 ∧ Fr mLp g' g1' := by
    intro x r g2' A' qm2 hx f2 e21 ek hA' hP' hS' hm hcl
    obtain ⟨r', hw, hx'⟩ := m_word x g2' (k30 qm2)
    have := RX_uq hx hx'
    subst this
    have he := say_end qm2 (s := s) (by omega) (by rw [e21 21 (Or.inl rfl)]; exact h21) (nI c) (nI b) line who x hw
    have hf := speak_end qc1 (s := s) (by omega) h5' (nI (65536 * c + b)) line who v r
    refine ⟨r, _, _, hcl.trans hf, (m0.trans hm).trans he, RX_HW hx, ⟨hB, s + 1, S', A', by omega, ⟨by simp [ji_si], by simp [ji_si]⟩, ?_, ?_, ?_, ?_, hP', hS'⟩, ?_, ?_⟩
    · simp only [ji_si, h6', e21 22 (Or.inr rfl)]; rfl
    · intro i hi
      have h1 := hring i hi
      have o1 : ∀ a, 3 ≤ a → a ≤ 6 → ji g1 a i = ji g a i := fun a h1 h2 => ho.i (by unfold tP; omega)
      simp only [ji_si, Nat.reduceEqDiff, false_and, if_false, true_and, o1 3 (by omega) (by omega), o1 4 (by omega) (by omega), o1 5 (by omega) (by omega), o1 6 (by omega) (by omega), ek 51 i (by omega) (by omega), ek 52 i (by omega) (by omega), ek 53 i (by omega) (by omega), ek 54 i (by omega) (by omega), h6', e21 22 (Or.inr rfl)]
      by_cases c : i = s % 64
      · simp only [c, if_true, and_self, true_and]; exact RX_HW hx
      · simp only [c, if_false]; exact h1
    · exact hT1.fr (P := fun a _ => a < 7) ((((((Fr.refl g1).si (by omega)).si (by omega)).si (by omega)).si (by omega)).si (by omega) |>.si (by omega)) (fun a k h1 h2 => by omega)
    · exact hA'.fr (P := fun a k => a < 55 ∧ ¬ (a = 30 ∧ k = 29)) ((((((Fr.refl g2').si (by omega)).si (by omega)).si (by omega)).si (by omega)).si (by omega) |>.si (by omega)) (by omega) (fun k => by omega) (fun k => by omega)
    · exact (ho.sub (fun a k h => by unfold tP at h; omega)).trans ((((((Fr.refl g1).si (by omega)).si (by omega)).si (by omega)).si (by omega)).si (by omega) |>.si (by omega))
    · exact f2.trans ((((((Fr.refl g2').si (by omega)).si (by omega)).si (by omega)).si (by omega)).si (by omega) |>.si (by omega))
  have hsp := c_spell hb hc g1
  rcases hcase with hS1 | ⟨hv0, hS1, hno⟩
  · -- altered
    have hmem : (nI s, v) ∈ S := by rw [hS1]; exact List.mem_cons_self
    obtain ⟨_, m, hm1, hm2, hm3⟩ := hS _ hmem
    have hm3 : v = lN m := hm3
    have hv1 : ¬ v = 0 := by
      intro z
      have : m = 0 := (pk_lEQ (b := 0) (by omega) (by omega)).mp (hm3.symm.trans z)
      omega
    obtain ⟨k, hk⟩ := List.getElem?_of_mem (hP.mem_iff.mpr hmem)
    have hkl := (List.getElem?_eq_some_iff.mp hk).1
    have hz : A[A.length - 1]? = some A[A.length - 1] := List.getElem?_eq_getElem (by omega)
    have hnd : (A.map Prod.fst).Nodup := by
      have h1 : (S.map Prod.fst).Nodup := by
        rw [List.nodup_iff_pairwise_ne, List.pairwise_map]
        exact hsort.imp fun {a b} h e => absurd (e ▸ h) Int32.lt_irrefl
      exact (hP.map Prod.fst).nodup_iff.mpr h1
    have hn : ∀ (i : Nat) (p : Int32 × Int64), i ≠ k → A[i]? = some p → p.1 ≠ ji g' 30 21 := by
      intro i p hi hp e
      rw [h21] at e
      have h1 : (A.map Prod.fst)[i]? = some (nI s) := by rw [List.getElem?_map, hp]; exact congrArg some e
      have h2 : (A.map Prod.fst)[k]? = some (nI s) := by rw [List.getElem?_map, hk]; rfl
      have h3 := (List.getElem?_eq_some_iff.mp h1).1
      exact hi ((List.getElem?_inj h3 hnd).mp (h1.trans h2.symm))
    have hh := say_hit qm hA (some (.int line)) (some (.int who)) (some (.int (nI c))) (nI b) (lN (SP (if c = 1 then 56 else 7) b)) hk h21.symm hz hn A.length hkl (Nat.le_refl _)
    have hpp : ((A.set k A[A.length - 1]).dropLast).Perm S' := by
      have h1 := swp hk hz
      have h2 := h1.symm.trans hP
      rw [hS1] at h2
      exact (List.perm_cons _).mp h2
    obtain ⟨r, hw, hx⟩ := c_word (lN (SP (if c = 1 then 56 else 7) b) ^^^ v) g1
    refine fin _ r _ _ (MS_sj (MS_si (MS_si qm))) hx ((((Fr.refl g').si (by omega)).si (by omega)).sj (by omega)) ?_ ?_ ?_ hpp ?_ hh ?_
    · rintro j (rfl | rfl) <;> simp [ji_sj, ji_si]
    · intro a j h1 h2
      rw [ji_sj, ji_si, ji_si, if_neg (by omega), if_neg (by omega)]
    · refine ⟨by rw [List.length_dropLast, List.length_set]; have := hA.1; omega, by rw [List.length_dropLast, List.length_set]; simp [ji_sj, ji_si], fun i p hi => ?_⟩
      rw [List.getElem?_dropLast] at hi
      split at hi
      · rw [ji_sj, ji_si, jj_sj]
        by_cases c : i = k
        · subst c
          rw [List.getElem?_set_self (by omega)] at hi
          cases hi
          simp
        · rw [List.getElem?_set_ne (Ne.symm c)] at hi
          have := hA.2.2 i p hi
          simp [c, ji_si, jj_si, this.1, this.2]
      · exact absurd hi (by simp)
    · intro p hp
      obtain ⟨⟨j, h1, h2, h3⟩, h4⟩ := hS p (by rw [hS1]; exact List.mem_cons_of_mem _ hp)
      rw [hS1] at hsort
      have h5 := lt_of_sorted hsort hp
      rw [h3] at h5
      have h6 := (nI_ltI (by omega) (by omega)).mp h5
      exact ⟨⟨j, by omega, by omega, h3⟩, h4⟩
    · simp only [s17_0, s17_1, s17_4, s17_5, s17_8, s17_11, s17_13, s17_15, s17_16, s17_17, s17_20, s17_21, s17_24, s17_25, s17_28, s17_30, s17_31, s17_34, k2 qc, p2_4 qc, k7 qc, h5, hv, lc0, hv1, hsp, hw, ↓reduceIte, va_rf_s, va_rf_n, jb_some, jb_none, jtl_s, jtl_n, if_true, if_false, true_and, and_true, false_and, and_false, or_true, true_or, or_false, false_or, not_true_eq_false, not_false_eq_true, jk_si, jp_si, jj_si, jk_sj, jp_sj, ji_sj, jk_ci, jp_ci, jj_ci, jk_cj, jp_cj, ji_cj, jlng_n, jlng_i, jlng_r, jlng_0]
  · -- as it was said
    subst hv0
    subst hS1
    have hbig : ∀ p ∈ S', ∃ j, s < j ∧ j ≤ B + 5000 ∧ p.1 = nI j := by
      intro p hp
      cases S' with
      | nil => exact absurd hp (by simp)
      | cons q0 S0 =>
        obtain ⟨⟨j0, h1, h2, h3⟩, _⟩ := hS q0 List.mem_cons_self
        have hj0 : s < j0 := by
          have := hno q0 rfl
          rw [h3] at this
          have h4 : j0 ≠ s := fun e => this (by rw [e])
          omega
        rcases List.mem_cons.mp hp with rfl | hp'
        · exact ⟨j0, hj0, h2, h3⟩
        · obtain ⟨⟨j, g1, g2, g3⟩, _⟩ := hS p hp
          have h5 := lt_of_sorted hsort hp'
          rw [h3, g3] at h5
          have h6 := (nI_ltI (by omega) (by omega)).mp h5
          exact ⟨j, by omega, g2, g3⟩
    have hh := say_no qm hA (some (.int line)) (some (.int who)) (some (.int (nI c))) (nI b) (lN (SP (if c = 1 then 56 else 7) b)) A.length (Nat.le_refl _) (by
      intro i p _ hp e
      obtain ⟨j, h1, h2, h3⟩ := hbig p (hP.mem_iff.mp (List.mem_of_getElem? hp))
      rw [h3, h21] at e
      have := (nI_eq (by omega) (by omega)).mp e
      omega)
    refine fin _ (nI (65536 * c + b)) g' A qm ?_ (Fr.refl g') (fun _ _ => rfl) (fun _ _ _ _ => rfl) hA hP ?_ hh ?_
    · refine Or.inl ⟨_, SP_lt (b := b) (s := if c = 1 then 56 else 7) (by split <;> omega), rfl, Or.inl ⟨c, b, hb, hc, rfl, rfl⟩⟩
    · intro p hp
      obtain ⟨j, h1, h2, h3⟩ := hbig p hp
      exact ⟨⟨j, by omega, by omega, h3⟩, (hS p hp).2⟩
    · simp only [s17_0, s17_1, s17_4, s17_5, s17_8, s17_11, s17_13, s17_15, s17_16, s17_17, s17_20, s17_21, s17_24, s17_25, s17_28, s17_30, s17_31, s17_34, k2 qc, p2_4 qc, k7 qc, h5, hv, lc0, ↓reduceIte, va_rf_s, va_rf_n, jb_some, jb_none, jtl_s, jtl_n, if_true, if_false, true_and, and_true, false_and, and_false, or_true, true_or, or_false, false_or, not_true_eq_false, not_false_eq_true, jk_si, jp_si, jj_si, jk_sj, jp_sj, ji_sj, jk_ci, jp_ci, jj_ci, jk_cj, jp_cj, ji_cj, jlng_n, jlng_i, jlng_r, jlng_0]
