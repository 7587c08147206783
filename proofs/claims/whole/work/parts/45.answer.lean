/-! AN ANSWER is said: sayReply beside answer -/
theorem RLi.fr {P P' : Nat → Nat → Prop} {g h g' h' : jH} {B : Nat} (hR : RLi B g g') (f : Fr P g h) (f' : Fr P' g' h') (h1 : ∀ b k, 2 ≤ b → b ≤ 9 → ¬ P b k) (h2 : ∀ k, k = 21 ∨ k = 22 ∨ k = 29 → ¬ P' 30 k) (h3 : ∀ b k, 51 ≤ b → b ≤ 56 → ¬ P' b k) : RLi B h h' := by
  obtain ⟨hB, s, S, A, hs, ⟨h5, h21⟩, h6, hring, hT, hA, hP, hS⟩ := hR
  refine ⟨hB, s, S, A, hs, ⟨by rw [f.i (h1 2 5 (by omega) (by omega))]; exact h5, by rw [f'.i (h2 21 (by omega))]; exact h21⟩, by rw [f.i (h1 2 6 (by omega) (by omega)), f'.i (h2 22 (by omega))]; exact h6, fun i hi => ?_, hT.fr f (fun b k h4 h5 => h1 b k (by omega) (by omega)), hA.fr f' (h2 29 (by omega)) (fun k => h3 55 k (by omega) (by omega)) (fun k => h3 56 k (by omega) (by omega)), hP, hS⟩
  rw [f.i (h1 3 i (by omega) (by omega)), f.i (h1 4 i (by omega) (by omega)), f.i (h1 5 i (by omega) (by omega)), f.i (h1 6 i (by omega) (by omega)), f'.i (h3 51 i (by omega) (by omega)), f'.i (h3 52 i (by omega) (by omega)), f'.i (h3 53 i (by omega) (by omega)), f'.i (h3 54 i (by omega) (by omega))]
  exact hring i hi
theorem RLi.mono {g g' : jH} {B B' : Nat} (hR : RLi B g g') (h : B ≤ B') (hB' : B' < 1610612736) : RLi B' g g' := by
  obtain ⟨_, s, S, A, hs, e, h6, hring, hT, hA, hP, hS⟩ := hR
  exact ⟨hB', s, S, A, by omega, e, h6, hring, hT, hA, hP, fun q hq => by
    obtain ⟨⟨j, h1, h2, h3⟩, h4⟩ := hS q hq
    exact ⟨⟨j, h1, by omega, h3⟩, h4⟩⟩
/-- a reply's words: the first a command, then data -/
def wl : List Nat → List Int32
  | [] => []
  | b :: r => nI (65536 * 1 + b) :: r.map fun b => nI (65536 * 0 + b)
theorem wl_len (bs : List Nat) : (wl bs).length = bs.length := by
  cases bs with
  | nil => rfl
  | cons b r => simp [wl]
theorem wl_get {bs : List Nat} {i b : Nat} (h : bs[i]? = some b) : (wl bs)[i]? = some (nI (65536 * (if i = 0 then 1 else 0) + b)) := by
  cases bs with
  | nil => simp at h
  | cons c r =>
    cases i with
    | zero =>
      simp at h
      subst h
      rfl
    | succ j =>
      rw [List.getElem?_cons_succ] at h
      show (r.map fun b => nI (65536 * 0 + b))[j]? = _
      rw [List.getElem?_map, h]
      rfl
/-- the reply, in both -/
def Rp (g g' : jH) (bs : List Nat) : Prop := (1 ≤ bs.length ∧ bs.length ≤ 33 ∧ ∀ b ∈ bs, b < 65536) ∧ WI g 18 (wl bs) ∧ ji g' 30 56 = nI bs.length ∧ ∀ (i b : Nat), bs[i]? = some b → ji g' 73 i = nI b
theorem Rp.fr {P P' : Nat → Nat → Prop} {g h g' h' : jH} {bs : List Nat} (hR : Rp g g' bs) (f : Fr P g h) (f' : Fr P' g' h') (h1 : ∀ b k, 18 ≤ b → b ≤ 20 → ¬ P b k) (h2 : ¬ P' 30 56) (h3 : ∀ k, ¬ P' 73 k) : Rp h h' bs :=
  ⟨hR.1, hR.2.1.fr f (fun b k h4 h5 => h1 b k h4 h5), by rw [f'.i h2]; exact hR.2.2.1, fun i b hb => by rw [f'.i (h3 i)]; exact hR.2.2.2 i b hb⟩
abbrev cSp (w : Nat) : Nat → Nat → Prop := fun b _ => (2 ≤ b ∧ b ≤ 9) ∨ (w ≤ b ∧ b ≤ w + 2)
abbrev mSp (row : Nat) : Nat → Nat → Prop := fun b k => (51 ≤ b ∧ b ≤ 56) ∨ (b = 30 ∧ (k = 21 ∨ k = 22 ∨ k = 29)) ∨ (b = 69 ∧ 40 * row ≤ k)
theorem an_loop {bs : List Nat} {w row t a : Nat} (hw : (w = 21 ∧ row = 0) ∨ (w = 24 ∧ row = 1)) (ht : 74 ≤ t) (line : Int32) (own : Option Value) : ∀ (n i : Nat) (B : Nat) (g g' : jH) (Hl : List Int32), i + n = bs.length → B + n < 1610612736 → CS g → MS g' → RLi B g g' → Rp g g' bs → jk g t = (4, 0) → ji g t 0 = nI a → WI g w Hl → Hl.length = i → (∀ (j : Nat) (x : Int32), Hl[j]? = some x → ji g' 69 (40 * row + j) = x ∧ HW x) → ∃ G G' Hl', jV 15 67 [some (.ref 10), some (.ref t), some (.int line), some (.ref w), some (.int (nI i))] [] g = some (none, G) ∧ jV 123 52 [some (.ref 30), some (.int (nI a)), some (.int line), own, some (.int (nI row)), some (.int (nI i))] [] g' = jV 123 103 [some (.ref 30), some (.int (nI a)), some (.int line), own, some (.int (nI row)), some (.int (nI bs.length))] [] G' ∧ RLi (B + n) G G' ∧ WI G w Hl' ∧ Hl'.length = bs.length ∧ (∀ (j : Nat) (x : Int32), Hl'[j]? = some x → ji G' 69 (40 * row + j) = x ∧ HW x) ∧ Fr (cSp w) g G ∧ Fr (mSp row) g' G'
  | 0, i, B, g, g', Hl, hi, hB, qc, qm, hR, hRp, kt, ht0, hW, hHl, hA => by
    obtain ⟨⟨hb1, hb2, hb3⟩, hW18, h56, h73⟩ := hRp
    have a1 : ¬ nI i < nI bs.length := nI_nlt (by omega) (by omega)
    have hlen := hW18.len.1
    rw [wl_len] at hlen
    refine ⟨g, g', Hl, ?_, ?_, hR, hW, by omega, hA, Fr.refl g, Fr.refl g'⟩
    · simp only [s15_67, s15_69, s15_70, s15_73, s15_76, s15_79, s15_79n, s15_80, s15_81, s15_84, s15_85, s15_88, s15_90, s15_93, s15_94, s15_95, s15_98, s15_101, s15_104, s15_107, s15_110, k10 qc, p10_4 qc, k18 qc, hlen, a1, ↓reduceIte, va_rf_s, va_rf_n, jb_some, jb_none, jtl_s, jtl_n, if_true, if_false, true_and, and_true, false_and, and_false, or_true, true_or, or_false, false_or, not_true_eq_false, not_false_eq_true, jk_si, jp_si, jj_si, jk_sj, jp_sj, ji_sj, jk_ci, jp_ci, jj_ci, jk_cj, jp_cj, ji_cj, jlng_n, jlng_i, jlng_r, jlng_0]
    · rw [show i = bs.length by omega] at a1 ⊢
      simp only [s123_52, s123_54, s123_55, s123_58, k30 qm, h56, a1, ↓reduceIte, va_rf_s, va_rf_n, jb_some, jb_none, jtl_s, jtl_n, if_true, if_false, true_and, and_true, false_and, and_false, or_true, true_or, or_false, false_or, not_true_eq_false, not_false_eq_true, jk_si, jp_si, jj_si, jk_sj, jp_sj, ji_sj, jk_ci, jp_ci, jj_ci, jk_cj, jp_cj, ji_cj, jlng_n, jlng_i, jlng_r, jlng_0]
  | n + 1, i, B, g, g', Hl, hi, hB, qc, qm, hR, hRp, kt, ht0, hW, hHl, hA => by
    obtain ⟨⟨hb1, hb2, hb3⟩, hW18, h56, h73⟩ := id hRp
    have a1 : nI i < nI bs.length := nI_lt (by omega) (by omega)
    have hlen := hW18.len.1
    rw [wl_len] at hlen
    have hq : bs[i]? = some bs[i] := List.getElem?_eq_getElem (by omega)
    have hbl : bs[i] < 65536 := hb3 _ (List.getElem_mem _)
    generalize bs[i] = b at hq hbl
    have hat := w_at hW18 (i := i) (by omega)
    rw [List.getD_eq_getElem?_getD, wl_get hq, Option.getD_some] at hat
    have h7 := h73 i b hq
    have a4 : jin (nI i) 33 = true := jin_nI (by omega) (by omega)
    have a5 : (nI i).toNatClampNeg = i := nI_clamp (by omega)
    obtain ⟨v, g1, g1', hsc, hsm, hHW, hR1, f1, f1'⟩ := q_say qc qm hR (by omega) (c := if i = 0 then 1 else 0) hbl (by split <;> omega) line (nI a)
    have hW1 := hW.fr f1 (fun b k h1 h2 => by omega)
    obtain ⟨g2, hadd, hW2, f2⟩ := w_add hW1 (by omega) v
    have e1 : (40 : Int32) * nI row + nI i = nI (40 * row + i) := by
      show nI 40 * nI row + nI i = _
      rw [pk_mul, nI_add]
    have b4 : jin (nI (40 * row + i)) 80 = true := jin_nI (by omega) (by omega)
    have b5 : (nI (40 * row + i)).toNatClampNeg = 40 * row + i := nI_clamp (by omega)
    have qm1 : MS g1' := f1'.ms qm
    have f2' : Fr (fun b k => b = 69 ∧ 40 * row ≤ k) g1' (jsi g1' 69 (40 * row + i) v) := (Fr.refl g1').si ⟨rfl, by omega⟩
    have hstep : jV 15 67 [some (.ref 10), some (.ref t), some (.int line), some (.ref w), some (.int (nI i))] [] g = jV 15 67 [some (.ref 10), some (.ref t), some (.int line), some (.ref w), some (.int (nI (i + 1)))] [] g2 := by
      simp only [s15_69, s15_70, s15_73, s15_76, s15_79, s15_79n, s15_80, s15_81, s15_84, s15_85, s15_88, s15_90, s15_93, s15_94, s15_95, s15_98, s15_101, s15_104, s15_107, s15_67 (x := nI i), k10 qc, p10_0 qc, k2 qc, p10_4 qc, k18 qc, hlen, a1, hat, kt, ht0, hsc, hW1.1.1, hadd, nI_1, ↓reduceIte, va_rf_s, va_rf_n, jb_some, jb_none, jtl_s, jtl_n, if_true, if_false, true_and, and_true, false_and, and_false, or_true, true_or, or_false, false_or, not_true_eq_false, not_false_eq_true, jk_si, jp_si, jj_si, jk_sj, jp_sj, ji_sj, jk_ci, jp_ci, jj_ci, jk_cj, jp_cj, ji_cj, jlng_n, jlng_i, jlng_r, jlng_0]
      rw [s15_104 (hq := jlng_r w)]
      simp only [s15_107, nI_1, ↓reduceIte, va_rf_s, va_rf_n, jb_some, jb_none, jtl_s, jtl_n, if_true, if_false, true_and, and_true, false_and, and_false, or_true, true_or, or_false, false_or, not_true_eq_false, not_false_eq_true, jk_si, jp_si, jj_si, jk_sj, jp_sj, ji_sj, jk_ci, jp_ci, jj_ci, jk_cj, jp_cj, ji_cj, jlng_n, jlng_i, jlng_r, jlng_0]
    have mstep : jV 123 52 [some (.ref 30), some (.int (nI a)), some (.int line), own, some (.int (nI row)), some (.int (nI i))] [] g' = jV 123 52 [some (.ref 30), some (.int (nI a)), some (.int line), own, some (.int (nI row)), some (.int (nI (i + 1)))] [] (jsi g1' 69 (40 * row + i) v) := by
      by_cases c0 : i = 0
      · subst c0
        have hsm' : jV 111 0 [some (.ref 30), some (.int line), some (.int (nI a)), some (.int 1), some (.int (nI b)), none, none, none] [] g' = some (some (.int v), g1') := hsm
        simp only [s123_54, s123_55, s123_58, s123_61, s123_62, s123_65, s123_67, s123_69, s123_70, s123_72, s123_73, s123_74, s123_75, s123_76, s123_78, s123_81, s123_82, s123_85, s123_86, s123_87, s123_90, s123_92, s123_93, s123_96, s123_97, s123_100, s123_52 (x := nI 0), k30 qm, k69 qm, k69 qm1, k73 qm, p30_50 qm, p30_55 qm, h56, a1, a4, a5, e1, b4, b5, h7, eq_true (show nI 0 = 0 from rfl), hsm', nI_1, ↓reduceIte, va_rf_s, va_rf_n, jb_some, jb_none, jtl_s, jtl_n, if_true, if_false, true_and, and_true, false_and, and_false, or_true, true_or, or_false, false_or, not_true_eq_false, not_false_eq_true, jk_si, jp_si, jj_si, jk_sj, jp_sj, ji_sj, jk_ci, jp_ci, jj_ci, jk_cj, jp_cj, ji_cj, jlng_n, jlng_i, jlng_r, jlng_0]
      · have hz : ¬ nI i = 0 := fun z => c0 ((e_eq (b := 0) (by omega) (by omega)).mp z)
        rw [if_neg c0] at hsm
        have hsm' : jV 111 0 [some (.ref 30), some (.int line), some (.int (nI a)), some (.int 0), some (.int (nI b)), none, none, none] [] g' = some (some (.int v), g1') := hsm
        simp only [s123_54, s123_55, s123_58, s123_61, s123_62, s123_65, s123_67, s123_69, s123_70, s123_72, s123_73, s123_74, s123_75, s123_76, s123_78, s123_81, s123_82, s123_85, s123_86, s123_87, s123_90, s123_92, s123_93, s123_96, s123_97, s123_100, s123_52 (x := nI i), k30 qm, k69 qm, k69 qm1, k73 qm, p30_50 qm, p30_55 qm, h56, a1, a4, a5, e1, b4, b5, h7, hz, hsm', nI_1, ↓reduceIte, va_rf_s, va_rf_n, jb_some, jb_none, jtl_s, jtl_n, if_true, if_false, true_and, and_true, false_and, and_false, or_true, true_or, or_false, false_or, not_true_eq_false, not_false_eq_true, jk_si, jp_si, jj_si, jk_sj, jp_sj, ji_sj, jk_ci, jp_ci, jj_ci, jk_cj, jp_cj, ji_cj, jlng_n, jlng_i, jlng_r, jlng_0]
    have hR2 : RLi (B + 1) g2 (jsi g1' 69 (40 * row + i) v) := hR1.fr f2 f2' (fun b k h1 h2 => by unfold wP; omega) (fun k _ => by omega) (fun b k _ _ => by omega)
    have hRp2 : Rp g2 (jsi g1' 69 (40 * row + i) v) bs := (hRp.fr f1 f1' (fun b k h1 h2 => by omega) (by omega) (fun k => by omega)).fr f2 f2' (fun b k h1 h2 => by unfold wP; omega) (by omega) (fun k => by omega)
    obtain ⟨G, G', Hl', hG, hG', hR3, hW3, hl3, hA3, f3, f3'⟩ := an_loop hw ht line own n (i + 1) (B + 1) g2 (jsi g1' 69 (40 * row + i) v) (Hl ++ [v]) (by omega) (by omega) (f2.cs (f1.cs qc)) (f2'.ms qm1) hR2 hRp2 (by rw [f2.k, f1.k]; exact kt) (by rw [f2.i (by unfold wP; omega), f1.i (by omega)]; exact ht0) hW2 (by rw [List.length_append, List.length_singleton]; omega) (by
      intro j x hj
      rw [ji_si]
      by_cases c : j = i
      · subst c
        rw [← hHl, List.getElem?_concat_length] at hj
        cases hj
        rw [if_pos ⟨rfl, rfl⟩]
        exact ⟨rfl, hHW⟩
      · have hl := (List.getElem?_eq_some_iff.mp hj).1
        rw [List.length_append, List.length_singleton] at hl
        rw [List.getElem?_append_left (by omega)] at hj
        rw [if_neg (by omega), f1'.i (by omega)]
        exact hA j x hj)
    refine ⟨G, G', Hl', hstep.trans hG, mstep.trans hG', by rw [show B + (n + 1) = B + 1 + n by omega]; exact hR3, hW3, hl3, hA3, ?_, ?_⟩
    · exact ((f1.sub (fun b k h => by omega)).trans (f2.sub (fun b k h => by unfold wP at h; omega))).trans f3
    · exact ((f1'.sub (fun b k h => by omega)).trans (f2'.sub (fun b k h => by omega))).trans f3'
theorem RLi_time {g g' : jH} {B : Nat} (hR : RLi B g g') (x : Int32) : RLi B (jsi g 2 6 x) (jsi g' 30 22 x) := by
  obtain ⟨hB, s, S, A, hs, ⟨h5, h21⟩, h6, hring, hT, hA, hP, hS⟩ := hR
  refine ⟨hB, s, S, A, hs, ⟨by rw [ji_si, if_neg (by omega)]; exact h5, by rw [ji_si, if_neg (by omega)]; exact h21⟩, by simp [ji_si], fun i hi => ?_, hT.fr (P := fun b k => b = 2) ((Fr.refl g).si rfl) (fun b k h4 h5 => by omega), hA.fr (P := fun b k => b = 30 ∧ k = 22) ((Fr.refl g').si ⟨rfl, rfl⟩) (by omega) (fun k => by omega) (fun k => by omega), hP, hS⟩
  simp only [ji_si, Nat.reduceEqDiff, false_and, if_false]
  exact hring i hi
theorem sh_bit : ∀ s ∈ B2, ∀ u ∈ B2, ((s + 2 * u) >>> ((0 : Int32) &&& 31)) &&& 1 = s ∧ ((s + 2 * u) >>> ((1 : Int32) &&& 31)) &&& 1 = u := by decide +kernel
theorem in_B2 {x : Int32} (h : x ∈ B2) : x = 0 ∨ x = 1 := by simpa using h
theorem B2_0 : (0 : Int32) ∈ B2 := by decide
theorem B2_1 : (1 : Int32) ∈ B2 := by decide
/-- the answers of an exchange, in both: n of them -/
def An (g g' : jH) (n : Nat) (A0 A1 : List Int32) : Prop := n ≤ 2 ∧ (ji g 10 8 = nI n ∧ ji g' 30 52 = nI n) ∧ (WI g 21 A0 ∧ WI g 24 A1) ∧ (n = 0 → A0 = []) ∧ (n ≤ 1 → A1 = []) ∧ (1 ≤ n → ji g' 70 0 = nI A0.length ∧ 1 ≤ A0.length ∧ ∀ (j : Nat) (x : Int32), A0[j]? = some x → ji g' 69 j = x ∧ HW x) ∧ (2 ≤ n → ji g' 70 1 = nI A1.length ∧ 1 ≤ A1.length ∧ ∀ (j : Nat) (x : Int32), A1[j]? = some x → ji g' 69 (40 + j) = x ∧ HW x)
theorem An.fr {P P' : Nat → Nat → Prop} {g h g' h' : jH} {n : Nat} {A0 A1 : List Int32} (hA : An g g' n A0 A1) (f : Fr P g h) (f' : Fr P' g' h') (h1 : ∀ b k, 21 ≤ b → b ≤ 26 → ¬ P b k) (h2 : ¬ P 10 8) (h3 : ¬ P' 30 52) (h4 : ∀ b k, b = 69 ∨ b = 70 → ¬ P' b k) : An h h' n A0 A1 := by
  obtain ⟨q1, ⟨q2, q3⟩, ⟨q4, q5⟩, q6, q7, q8, q9⟩ := hA
  refine ⟨q1, ⟨by rw [f.i h2]; exact q2, by rw [f'.i h3]; exact q3⟩, ⟨q4.fr f (fun b k z1 z2 => h1 b k (by omega) (by omega)), q5.fr f (fun b k z1 z2 => h1 b k (by omega) (by omega))⟩, q6, q7, fun z => ?_, fun z => ?_⟩
  · obtain ⟨y1, y2, y3⟩ := q8 z
    exact ⟨by rw [f'.i (h4 70 0 (by omega))]; exact y1, y2, fun j x hx => by rw [f'.i (h4 69 j (by omega))]; exact y3 j x hx⟩
  · obtain ⟨y1, y2, y3⟩ := q9 z
    exact ⟨by rw [f'.i (h4 70 1 (by omega))]; exact y1, y2, fun j x hx => by rw [f'.i (h4 69 (40 + j) (by omega))]; exact y3 j x hx⟩
abbrev cYp (t : Nat) : Nat → Nat → Prop := fun b k => (2 ≤ b ∧ b ≤ 9) ∨ (21 ≤ b ∧ b ≤ 26) ∨ (b = 10 ∧ k = 8) ∨ (b = t ∧ k = 14)
abbrev mYp (a : Nat) : Nat → Nat → Prop := fun b k => (51 ≤ b ∧ b ≤ 56) ∨ (b = 30 ∧ (k = 21 ∨ k = 22 ∨ k = 29 ∨ k = 52)) ∨ b = 69 ∨ b = 70 ∨ (b = 48 ∧ k = a)
theorem Fr.symm {P : Nat → Nat → Prop} {g g' : jH} (h : Fr P g g') : Fr P g' g := ⟨fun a k ha => ⟨(h.1 a k ha).1.symm, (h.1 a k ha).2.symm⟩, fun a => (h.2.1 a).symm, fun a k => (h.2.2.1 a k).symm, h.2.2.2.symm⟩
theorem q_answer2 {B : Nat} {g g' : jH} (qc : CS g) (qm : MS g') (hB : B + 33 < 1610612736) {a t : Nat} (ha : a < 31) (ht : TSh g t) {v : Int32} (hs : Sc (ji g t) (upd (mv g' a) 42 v) a) (h15 : ji g t 15 = ji g' 72 a) (hR : RLi B g g') {bs : List Nat} (hRp : Rp g g' bs) {n : Nat} (hn : n ≤ 1) {A0 A1 : List Int32} (hA : An g g' n A0 A1) {l : Nat} (hl : l ≤ 1) : ∃ G G' n' A0' A1', jV 15 0 [some (.ref 10), some (.ref t), some (.int (nI l)), none, none] [] g = some (none, G) ∧ jV 123 0 [some (.ref 30), some (.int (nI a)), some (.int (nI l)), some (.int 1), none, none] [] g' = some (none, G') ∧ RLi (B + 33) G G' ∧ An G G' n' A0' A1' ∧ n' ≤ n + 1 ∧ Sc (ji G t) (upd (mv G' a) 42 v) a ∧ Fr (cYp t) g G ∧ Fr (mYp a) g' G' ∧ (1 ≤ n → A0' = A0) := by
  have hs0 := hs
  simp only [Sc, upd_e, Nat.reduceEqDiff, if_true, if_false] at hs0
  obtain ⟨h0, h1, ⟨h34, h134, h5⟩, h6, h7, h8, h9, h10, h11, h12, h14⟩ := hs0
  obtain ⟨q1, ⟨q2, q3⟩, ⟨q4, q5⟩, q6, q7, q8, q9⟩ := id hA
  have kt := ht.2.1
  have ht74 := ht.1
  have v34 : mv g' a 34 = ji g' 34 a := mv_v (by omega)
  have v134 : mv g' a 134 = ji g' 34 (31 + a) := mv_134 g' a
  have v32 : mv g' a 32 = ji g' 32 a := mv_v (by omega)
  have v48 : mv g' a 48 = ji g' 48 a := mv_v (by omega)
  have b4 : jin (nI a) 31 = true := jin_nI ha (by omega)
  have b5 : (nI a).toNatClampNeg = a := nI_clamp (by omega)
  have d4 : jin (nI (31 * l + a)) 62 = true := jin_nI (by omega) (by omega)
  have d5 : (nI (31 * l + a)).toNatClampNeg = 31 * l + a := nI_clamp (by omega)
  have e1 : (31 : Int32) * nI l + nI a = nI (31 * l + a) := by
    show nI 31 * nI l + nI a = _
    rw [pk_mul, nI_add]
  have ebit : (ji g t 5 >>> (nI l &&& 31)) &&& 1 = ji g' 34 (31 * l + a) := by
    rw [h5, v34, v134]
    rw [v34] at h34
    rw [v134] at h134
    have := sh_bit _ h34 _ h134
    rcases (show l = 0 ∨ l = 1 by omega) with rfl | rfl
    · rw [show 31 * 0 + a = a by omega]; exact this.1
    · rw [show 31 * 1 + a = 31 + a by omega]; exact this.2
  have quiet : (¬ ji g t 15 = 0) ∨ (¬ ji g' 34 (31 * l + a) = 0) → jV 15 0 [some (.ref 10), some (.ref t), some (.int (nI l)), none, none] [] g = some (none, g) ∧ jV 123 0 [some (.ref 30), some (.int (nI a)), some (.int (nI l)), some (.int 1), none, none] [] g' = some (none, g') := by
    intro c
    by_cases c1 : ji g t 15 = 0
    · have c2 : ¬ ji g' 34 (31 * l + a) = 0 := c.resolve_left (fun z => z c1)
      have c3 : ji g' 72 a = 0 := by rw [← h15]; exact c1
      constructor
      · simp only [s15_0, s15_1, s15_2, s15_5, s15_8, s30_0, s30_1, s30_4, s30_7, s30_8, s30_11, s30_12, s30_15, s30_18, s30_19, s30_22, s30_23, kt, c1, c_bitAt, ebit, c2, ↓reduceIte, va_rf_s, va_rf_n, jb_some, jb_none, jtl_s, jtl_n, if_true, if_false, true_and, and_true, false_and, and_false, or_true, true_or, or_false, false_or, not_true_eq_false, not_false_eq_true, jk_si, jp_si, jj_si, jk_sj, jp_sj, ji_sj, jk_ci, jp_ci, jj_ci, jk_cj, jp_cj, ji_cj, jlng_n, jlng_i, jlng_r, jlng_0]
      · simp only [s123_0, s123_1, s123_4, s123_5, s123_8, s123_9, s123_10, s123_13, s123_14, s123_17, s123_19, s123_20, s123_21, s123_22, s123_23, s123_24, s123_27, k30 qm, k34 qm, k72 qm, p30_3 qm, p30_54 qm, b4, b5, c3, e1, d4, d5, c2, n1, ↓reduceIte, va_rf_s, va_rf_n, jb_some, jb_none, jtl_s, jtl_n, if_true, if_false, true_and, and_true, false_and, and_false, or_true, true_or, or_false, false_or, not_true_eq_false, not_false_eq_true, jk_si, jp_si, jj_si, jk_sj, jp_sj, ji_sj, jk_ci, jp_ci, jj_ci, jk_cj, jp_cj, ji_cj, jlng_n, jlng_i, jlng_r, jlng_0]
    · have c3 : ¬ ji g' 72 a = 0 := by rw [← h15]; exact c1
      constructor
      · simp only [s15_0, s15_1, s15_2, s15_5, s15_8, s30_0, s30_1, s30_4, s30_7, s30_8, s30_11, s30_12, s30_15, s30_18, s30_19, s30_22, s30_23, kt, c1, ↓reduceIte, va_rf_s, va_rf_n, jb_some, jb_none, jtl_s, jtl_n, if_true, if_false, true_and, and_true, false_and, and_false, or_true, true_or, or_false, false_or, not_true_eq_false, not_false_eq_true, jk_si, jp_si, jj_si, jk_sj, jp_sj, ji_sj, jk_ci, jp_ci, jj_ci, jk_cj, jp_cj, ji_cj, jlng_n, jlng_i, jlng_r, jlng_0]
      · simp only [s123_0, s123_1, s123_4, s123_5, s123_8, s123_9, s123_10, s123_13, s123_14, s123_17, s123_19, s123_20, s123_21, s123_22, s123_23, s123_24, s123_27, k30 qm, k72 qm, p30_54 qm, b4, b5, c3, n1, ↓reduceIte, va_rf_s, va_rf_n, jb_some, jb_none, jtl_s, jtl_n, if_true, if_false, true_and, and_true, false_and, and_false, or_true, true_or, or_false, false_or, not_true_eq_false, not_false_eq_true, jk_si, jp_si, jj_si, jk_sj, jp_sj, ji_sj, jk_ci, jp_ci, jj_ci, jk_cj, jp_cj, ji_cj, jlng_n, jlng_i, jlng_r, jlng_0]
  by_cases c : (¬ ji g t 15 = 0) ∨ (¬ ji g' 34 (31 * l + a) = 0)
  · obtain ⟨z1, z2⟩ := quiet c
    exact ⟨g, g', n, A0, A1, z1, z2, hR.mono (by omega) hB, hA, by omega, hs, Fr.refl g, Fr.refl g', fun _ => rfl⟩
  · have c1 : ji g t 15 = 0 := Classical.byContradiction fun z => c (Or.inl z)
    have c2 : ji g' 34 (31 * l + a) = 0 := Classical.byContradiction fun z => c (Or.inr z)
    have c3 : ji g' 72 a = 0 := by rw [← h15]; exact c1
    obtain ⟨⟨hb1, hb2, hb3⟩, hW18, h56, h73⟩ := id hRp
    -- the store ahead of the loop
    have hmid : ∃ w, ((w = 21 ∧ n = 0) ∨ (w = 24 ∧ n = 1)) ∧ WI g w [] ∧ jV 15 0 [some (.ref 10), some (.ref t), some (.int (nI l)), none, none] [] g = jV 15 67 [some (.ref 10), some (.ref t), some (.int (nI l)), some (.ref w), some (.int (nI 0))] [] (jsi (jsi (jsi g 10 8 (nI (n + 1))) t 14 (ji g t 14 + 1)) 2 6 (ji g 2 6 + ji g t 1)) := by
      have ms : jV 30 0 [some (.ref t), some (.int (nI l))] [] g = some (some (.int 1), g) := by
        simp only [s30_0, s30_1, s30_4, s30_7, s30_8, s30_11, s30_12, s30_15, s30_18, s30_19, s30_22, s30_23, kt, c1, c_bitAt, ebit, c2, ↓reduceIte, va_rf_s, va_rf_n, jb_some, jb_none, jtl_s, jtl_n, if_true, if_false, true_and, and_true, false_and, and_false, or_true, true_or, or_false, false_or, not_true_eq_false, not_false_eq_true, jk_si, jp_si, jj_si, jk_sj, jp_sj, ji_sj, jk_ci, jp_ci, jj_ci, jk_cj, jp_cj, ji_cj, jlng_n, jlng_i, jlng_r, jlng_0]
      rcases (show n = 0 ∨ n = 1 by omega) with rfl | rfl
      · refine ⟨21, Or.inl ⟨rfl, rfl⟩, by rw [← q6 rfl]; exact q4, ?_⟩
        simp only [s15_0, s15_1, s15_2, s15_5, s15_8, s15_9, s15_10, s15_13, s15_16, s15_17, s15_20, s15_23, s15_24, s15_27, s15_27n, s15_28, s15_29, s15_30, s15_33, s15_34, s15_35, s15_38, s15_39, s15_40, s15_43, s15_44, s15_45, s15_48, s15_49, s15_52, s15_53, s15_56, s15_57, s15_60, s15_61, s15_64, s15_65 (hq := jlng_r 21), Nat.reduceEqDiff, kt, ms, k10 qc, k2 qc, k21 qc, p10_0 qc, p10_5 qc, q2, eq_true (show nI 0 = 0 from rfl), ji_si, n1, show ¬ (t = 10) by omega, show ¬ (2 = t) by omega, show ¬ ((2 : Nat) = 10) by omega, nI_1, ↓reduceIte, va_rf_s, va_rf_n, jb_some, jb_none, jtl_s, jtl_n, if_true, if_false, true_and, and_true, false_and, and_false, or_true, true_or, or_false, false_or, not_true_eq_false, not_false_eq_true, jk_si, jp_si, jj_si, jk_sj, jp_sj, ji_sj, jk_ci, jp_ci, jj_ci, jk_cj, jp_cj, ji_cj, jlng_n, jlng_i, jlng_r, jlng_0]
        rfl
      · refine ⟨24, Or.inr ⟨rfl, rfl⟩, by rw [← q7 (by omega)]; exact q5, ?_⟩
        simp only [s15_0, s15_1, s15_2, s15_5, s15_8, s15_9, s15_10, s15_13, s15_16, s15_17, s15_20, s15_23, s15_24, s15_27, s15_27n, s15_28, s15_29, s15_30, s15_33, s15_34, s15_35, s15_38, s15_39, s15_40, s15_43, s15_44, s15_45, s15_48, s15_49, s15_52, s15_53, s15_56, s15_57, s15_60, s15_61, s15_64, s15_65 (hq := jlng_r 24), Nat.reduceEqDiff, kt, ms, k10 qc, k2 qc, k24 qc, p10_0 qc, p10_6 qc, q2, eq_false (show ¬ nI 1 = 0 by decide), ji_si, n1, show ¬ (t = 10) by omega, show ¬ (2 = t) by omega, show ¬ ((2 : Nat) = 10) by omega, nI_1, ↓reduceIte, va_rf_s, va_rf_n, jb_some, jb_none, jtl_s, jtl_n, if_true, if_false, true_and, and_true, false_and, and_false, or_true, true_or, or_false, false_or, not_true_eq_false, not_false_eq_true, jk_si, jp_si, jj_si, jk_sj, jp_sj, ji_sj, jk_ci, jp_ci, jj_ci, jk_cj, jp_cj, ji_cj, jlng_n, jlng_i, jlng_r, jlng_0]
        rfl
    obtain ⟨w, hw, hWw, hcl⟩ := hmid
    have hml : jV 123 0 [some (.ref 30), some (.int (nI a)), some (.int (nI l)), some (.int 1), none, none] [] g' = jV 123 52 [some (.ref 30), some (.int (nI a)), some (.int (nI l)), some (.int 1), some (.int (nI n)), some (.int (nI 0))] [] (jsi g' 30 22 (ji g' 30 22 + ji g' 32 a)) := by
      simp only [s123_0, s123_1, s123_4, s123_5, s123_8, s123_9, s123_10, s123_13, s123_14, s123_17, s123_19, s123_20, s123_21, s123_22, s123_23, s123_24, s123_27, s123_28, s123_29, s123_30, s123_33, s123_34, s123_37, s123_38, s123_39, s123_40, s123_43, s123_44, s123_47, s123_49, s123_50, k30 qm, k32 qm, k34 qm, k72 qm, p30_1 qm, p30_3 qm, p30_54 qm, b4, b5, c3, e1, d4, d5, c2, q3, n1, ji_si, Nat.reduceEqDiff, ↓reduceIte, va_rf_s, va_rf_n, jb_some, jb_none, jtl_s, jtl_n, if_true, if_false, true_and, and_true, false_and, and_false, or_true, true_or, or_false, false_or, not_true_eq_false, not_false_eq_true, jk_si, jp_si, jj_si, jk_sj, jp_sj, ji_sj, jk_ci, jp_ci, jj_ci, jk_cj, jp_cj, ji_cj, jlng_n, jlng_i, jlng_r, jlng_0]
      rfl
    have f1 : Fr (fun b k => (b = 10 ∧ k = 8) ∨ (b = t ∧ k = 14)) g (jsi (jsi g 10 8 (nI (n + 1))) t 14 (ji g t 14 + 1)) := ((Fr.refl g).si (Or.inl ⟨rfl, rfl⟩)).si (Or.inr ⟨rfl, rfl⟩)
    have f2 : Fr (fun b k => b = 2 ∧ k = 6) (jsi (jsi g 10 8 (nI (n + 1))) t 14 (ji g t 14 + 1)) (jsi (jsi (jsi g 10 8 (nI (n + 1))) t 14 (ji g t 14 + 1)) 2 6 (ji g 2 6 + ji g t 1)) := (Fr.refl _).si ⟨rfl, rfl⟩
    have f2' : Fr (fun b k => b = 30 ∧ k = 22) g' (jsi g' 30 22 (ji g' 30 22 + ji g' 32 a)) := (Fr.refl g').si ⟨rfl, rfl⟩
    have hR0 : RLi B (jsi (jsi (jsi g 10 8 (nI (n + 1))) t 14 (ji g t 14 + 1)) 2 6 (ji g 2 6 + ji g t 1)) (jsi g' 30 22 (ji g' 30 22 + ji g' 32 a)) := by
      have htime : ji g 2 6 = ji g' 30 22 := by
        obtain ⟨_, _, _, _, _, _, z, _⟩ := hR
        exact z
      rw [htime, h0.2, v32]
      exact RLi_time (hR.fr f1 (Fr.refl (P := fun _ _ => False) g') (fun b k z1 z2 => by omega) (fun k _ => id) (fun b k _ _ => id)) _
    have hRp0 : Rp (jsi (jsi (jsi g 10 8 (nI (n + 1))) t 14 (ji g t 14 + 1)) 2 6 (ji g 2 6 + ji g t 1)) (jsi g' 30 22 (ji g' 30 22 + ji g' 32 a)) bs :=
      (hRp.fr f1 f2' (fun b k z1 z2 => by omega) (by omega) (fun k => by omega)).fr f2 (Fr.refl (P := fun _ _ => False) _) (fun b k z1 z2 => by omega) id (fun k => id)
    obtain ⟨G, G', Hl, hG, hG', hR3, hW3, hl3, hA3, f3, f3'⟩ := an_loop (w := w) (row := n) (t := t) (a := a) (bs := bs) hw ht74 (nI l) (some (.int 1)) bs.length 0 B _ _ [] (by omega) (by omega) (f2.cs (f1.cs qc)) (f2'.ms qm) hR0 hRp0 (by rw [f2.k, f1.k]; exact kt) (by rw [f2.i (by omega), f1.i (by omega)]; exact h0.1) ((hWw.fr f1 (fun b k z1 z2 => by omega)).fr f2 (fun b k z1 z2 => by omega)) rfl (fun j x hj => by simp at hj)
    have qm3 : MS G' := f3'.ms (f2'.ms qm)
    have g56 : ji G' 30 56 = nI bs.length := by rw [f3'.i (by omega), f2'.i (by omega)]; exact h56
    have g52 : ji G' 30 52 = nI n := by rw [f3'.i (by omega), f2'.i (by omega)]; exact q3
    have g48 : ji G' 48 a = ji g' 48 a := by rw [f3'.i (by omega), f2'.i (by omega)]
    have r4 : jin (nI n) 2 = true := jin_nI (by omega) (by omega)
    have r5 : (nI n).toNatClampNeg = n := nI_clamp (by omega)
    have hend : jV 123 103 [some (.ref 30), some (.int (nI a)), some (.int (nI l)), some (.int 1), some (.int (nI n)), some (.int (nI bs.length))] [] G' = some (none, jsi (jsi (jsi G' 70 n (nI bs.length)) 30 52 (nI (n + 1))) 48 a (ji g' 48 a + 1)) := by
      simp only [s123_103, s123_104, s123_107, s123_109, s123_110, s123_113, s123_114, s123_115, s123_116, s123_119, s123_120, s123_121, s123_124, s123_125, s123_128, s123_129, s123_130, s123_131, s123_132, s123_133, s123_134, k30 qm3, k48 qm3, k70 qm3, p30_17 qm3, p30_51 qm3, g56, g52, g48, r4, r5, b4, b5, ji_si, nI_1, Nat.reduceEqDiff, ↓reduceIte, va_rf_s, va_rf_n, jb_some, jb_none, jtl_s, jtl_n, if_true, if_false, true_and, and_true, false_and, and_false, or_true, true_or, or_false, false_or, not_true_eq_false, not_false_eq_true, jk_si, jp_si, jj_si, jk_sj, jp_sj, ji_sj, jk_ci, jp_ci, jj_ci, jk_cj, jp_cj, ji_cj, jlng_n, jlng_i, jlng_r, jlng_0]
    have f4' : Fr (fun b k => b = 70 ∨ (b = 30 ∧ k = 52) ∨ (b = 48 ∧ k = a)) G' (jsi (jsi (jsi G' 70 n (nI bs.length)) 30 52 (nI (n + 1))) 48 a (ji g' 48 a + 1)) := (((Fr.refl G').si (Or.inl rfl)).si (Or.inr (Or.inl ⟨rfl, rfl⟩))).si (Or.inr (Or.inr ⟨rfl, rfl⟩))
    have fc : Fr (cYp t) g G := ((f1.sub (fun b k z => by omega)).trans (f2.sub (fun b k z => by omega))).trans (f3.sub (fun b k z => by omega))
    have fm : Fr (mYp a) g' (jsi (jsi (jsi G' 70 n (nI bs.length)) 30 52 (nI (n + 1))) 48 a (ji g' 48 a + 1)) := ((f2'.sub (fun b k z => by omega)).trans (f3'.sub (fun b k z => by omega))).trans (f4'.sub (fun b k z => by omega))
    have g10 : ji G 10 8 = nI (n + 1) := by
      rw [f3.i (by omega), f2.i (by omega), ji_si, if_neg (by omega), ji_si, if_pos ⟨rfl, rfl⟩]
    have m52 : ji (jsi (jsi (jsi G' 70 n (nI bs.length)) 30 52 (nI (n + 1))) 48 a (ji g' 48 a + 1)) 30 52 = nI (n + 1) := by simp [ji_si]
    have m70 : ∀ j, ji (jsi (jsi (jsi G' 70 n (nI bs.length)) 30 52 (nI (n + 1))) 48 a (ji g' 48 a + 1)) 70 j = if j = n then nI bs.length else ji G' 70 j := by
      intro j
      rw [ji_si, if_neg (by omega), ji_si, if_neg (by omega), ji_si]
      by_cases z : j = n
      · rw [if_pos ⟨rfl, z⟩, if_pos z]
      · rw [if_neg (fun y => z y.2), if_neg z]
    have m69 : ∀ j, ji (jsi (jsi (jsi G' 70 n (nI bs.length)) 30 52 (nI (n + 1))) 48 a (ji g' 48 a + 1)) 69 j = ji G' 69 j := fun j => f4'.i (by omega)
    have hSc : Sc (ji G t) (upd (mv (jsi (jsi (jsi G' 70 n (nI bs.length)) 30 52 (nI (n + 1))) 48 a (ji g' 48 a + 1)) a) 42 v) a := by
      have e1 : ji G t = upd (ji g t) 14 (ji g t 14 + 1) := by
        rw [tv_fr f3 (fun k => by omega), tv_fr f2 (fun k => by omega), tv_si, tv_no (by omega)]
      have e2 : mv (jsi (jsi (jsi G' 70 n (nI bs.length)) 30 52 (nI (n + 1))) 48 a (ji g' 48 a + 1)) a = upd (mv g' a) 48 (ji g' 48 a + 1) := by
        rw [mv_si (by omega), mv_no (by omega), mv_no (by omega), mv_fr f3' (fun l hl => by omega) (by omega) (by omega), mv_fr f2' (fun l hl => by omega) (by omega) (by omega)]
      rw [e1, e2]
      simp only [Sc, upd_e, Nat.reduceEqDiff, if_true, if_false]
      exact ⟨h0, h1, ⟨h34, h134, h5⟩, h6, h7, h8, h9, h10, h11, h12, by rw [h14, v48]⟩
    have hR4 : RLi (B + 33) G (jsi (jsi (jsi G' 70 n (nI bs.length)) 30 52 (nI (n + 1))) 48 a (ji g' 48 a + 1)) := (hR3.fr (Fr.refl (P := fun _ _ => False) G) f4' (fun b k _ _ => id) (fun k z => by omega) (fun b k z1 z2 => by omega)).mono (by omega) hB
    rcases hw with ⟨rfl, rfl⟩ | ⟨rfl, rfl⟩
    · refine ⟨G, _, 1, Hl, [], hcl.trans hG, (hml.trans hG').trans hend, hR4, ⟨by omega, ⟨g10, m52⟩, ⟨hW3, ?_⟩, fun z => absurd z (by omega), fun _ => rfl, fun _ => ⟨by rw [m70, if_pos rfl, hl3], by omega, fun j x hx => ?_⟩, fun z => absurd z (by omega)⟩, by omega, hSc, fc, fm, fun z => absurd z (by omega)⟩
      · have z : A1 = [] := q7 (by omega)
        rw [z] at q5
        exact ((q5.fr f1 (fun b k z1 z2 => by omega)).fr f2 (fun b k z1 z2 => by omega)).fr f3 (fun b k z1 z2 => by omega)
      · rw [m69]
        have := hA3 j x hx
        rw [Nat.mul_zero, Nat.zero_add] at this
        exact this
    · refine ⟨G, _, 2, A0, Hl, hcl.trans hG, (hml.trans hG').trans hend, hR4, ⟨by omega, ⟨g10, m52⟩, ⟨?_, hW3⟩, fun z => absurd z (by omega), fun z => absurd z (by omega), fun _ => ?_, fun _ => ⟨by rw [m70, if_pos rfl, hl3], by omega, fun j x hx => ?_⟩⟩, by omega, hSc, fc, fm, fun _ => rfl⟩
      · exact ((q4.fr f1 (fun b k z1 z2 => by omega)).fr f2 (fun b k z1 z2 => by omega)).fr f3 (fun b k z1 z2 => by omega)
      · obtain ⟨y1, y2, y3⟩ := q8 (by omega)
        refine ⟨?_, y2, fun j x hx => ?_⟩
        · rw [m70, if_neg (by omega), f3'.i (by omega), f2'.i (by omega)]
          exact y1
        · rw [m69, f3'.i (by have := (List.getElem?_eq_some_iff.mp hx).1; have := q4.2.1; omega), f2'.i (by omega)]
          exact y3 j x hx
      · rw [m69]
        have := hA3 j x hx
        rw [Nat.mul_one] at this
        exact this
theorem q_answer {B : Nat} {g g' : jH} (qc : CS g) (qm : MS g') (hB : B + 33 < 1610612736) {a t : Nat} (ha : a < 31) (ht : TSh g t) (hs : Sc (ji g t) (mv g' a) a) (h15 : ji g t 15 = ji g' 72 a) (hR : RLi B g g') {bs : List Nat} (hRp : Rp g g' bs) {n : Nat} (hn : n ≤ 1) {A0 A1 : List Int32} (hA : An g g' n A0 A1) {l : Nat} (hl : l ≤ 1) : ∃ G G' n' A0' A1', jV 15 0 [some (.ref 10), some (.ref t), some (.int (nI l)), none, none] [] g = some (none, G) ∧ jV 123 0 [some (.ref 30), some (.int (nI a)), some (.int (nI l)), some (.int 1), none, none] [] g' = some (none, G') ∧ RLi (B + 33) G G' ∧ An G G' n' A0' A1' ∧ n' ≤ n + 1 ∧ Sc (ji G t) (mv G' a) a ∧ Fr (cYp t) g G ∧ Fr (mYp a) g' G' ∧ (1 ≤ n → A0' = A0) := by
  have e : ∀ h : jH, upd (mv h a) 42 (mv h a 42) = mv h a := fun h => by
    funext j
    rw [upd_e]
    by_cases c : j = 42
    · rw [if_pos c, c]
    · rw [if_neg c]
  obtain ⟨G, G', n', A0', A1', z1, z2, z3, z4, z5, z6, z7, z8, z9⟩ := q_answer2 qc qm hB ha ht (v := mv g' a 42) (by rw [e]; exact hs) h15 hR hRp hn hA hl
  refine ⟨G, G', n', A0', A1', z1, z2, z3, z4, z5, ?_, z7, z8, z9⟩
  have e2 : mv g' a 42 = mv G' a 42 := by rw [mv_v (by omega), mv_v (by omega), z8.i (by omega)]
  rw [e2, e] at z6
  exact z6
