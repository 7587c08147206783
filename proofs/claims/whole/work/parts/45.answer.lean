/-! AN ANSWER is said: sayReply beside answer -/
theorem RLi.fr {P P' : Nat → Nat → Prop} {g h g' h' : jH} {B : Nat} (hR : RLi B g g') (f : Fr P g h) (f' : Fr P' g' h') (h1 : ∀ b k, 2 ≤ b → b ≤ 9 → ¬ P b k) (h2 : ∀ k, k = 21 ∨ k = 22 ∨ k = 29 → ¬ P' 30 k) (h3 : ∀ b k, 51 ≤ b → b ≤ 56 → ¬ P' b k) : RLi B h h' := by
  obtain ⟨hB, s, S, A, hs, ⟨h5, h21⟩, h6, hring, hT, hA, hP, hS⟩ := hR
  refine ⟨hB, s, S, A, hs, ⟨by rw [f.i (h1 2 5 (by omega) (by omega))]; exact h5, by rw [f'.i (h2 21 (by omega))]; exact h21⟩, by rw [f.i (h1 2 6 (by omega) (by omega)), f'.i (h2 22 (by omega))]; exact h6, fun i hi => ?_, hT.fr f (fun b k h4 h5 => h1 b k (by omega) (by omega)), hA.fr f' (h2 29 (by omega)) (fun k => h3 55 k (by omega) (by omega)) (fun k => h3 56 k (by omega) (by omega)), hP, hS⟩
  rw [f.i (h1 3 i (by omega) (by omega)), f.i (h1 4 i (by omega) (by omega)), f.i (h1 5 i (by omega) (by omega)), f.i (h1 6 i (by omega) (by omega)), f'.i (h3 51 i (by omega) (by omega)), f'.i (h3 52 i (by omega) (by omega)), f'.i (h3 53 i (by omega) (by omega)), f'.i (h3 54 i (by omega) (by omega))]
  exact hring i hi
theorem RLi.mono {g g' : jH} {B B' : Nat} (hR : RLi B g g') (h : B ≤ B') (hB' : B' < 2 ^ 30) : RLi B' g g' := by
  obtain ⟨_, s, S, A, hs, e, h6, hring, hT, hA, hP, hS⟩ := hR
  exact ⟨hB', s, S, A, by omega, e, h6, hring, hT, hA, hP, fun q hq => by
    obtain ⟨⟨j, h1, h2, h3⟩, h4⟩ := hS q hq
    exact ⟨⟨j, h1, by omega, h3⟩, h4⟩⟩
/-- a reply's words: the first a command, then data -/
def wl : List Nat → List Int32
  | [] => []
  | b :: r => nI (65536 * 1 + b) :: r.map fun b => nI (65536 * 0 + b)
theorem wl_len (bs : List Nat) : (wl bs).length = bs.length := by
  cases bs with
  | nil => rfl
  | cons b r => simp [wl]
theorem wl_get {bs : List Nat} {i b : Nat} (h : bs[i]? = some b) : (wl bs)[i]? = some (nI (65536 * (if i = 0 then 1 else 0) + b)) := by
  cases bs with
  | nil => simp at h
  | cons c r =>
    cases i with
    | zero =>
      simp at h
      subst h
      rfl
    | succ j =>
      rw [List.getElem?_cons_succ] at h
      show (r.map fun b => nI (65536 * 0 + b))[j]? = _
      rw [List.getElem?_map, h]
      rfl
/-- the reply, in both -/
def Rp (g g' : jH) (bs : List Nat) : Prop := (1 ≤ bs.length ∧ bs.length ≤ 33 ∧ ∀ b ∈ bs, b < 65536) ∧ WI g 18 (wl bs) ∧ ji g' 30 56 = nI bs.length ∧ ∀ (i b : Nat), bs[i]? = some b → ji g' 73 i = nI b
theorem Rp.fr {P P' : Nat → Nat → Prop} {g h g' h' : jH} {bs : List Nat} (hR : Rp g g' bs) (f : Fr P g h) (f' : Fr P' g' h') (h1 : ∀ b k, 18 ≤ b → b ≤ 20 → ¬ P b k) (h2 : ¬ P' 30 56) (h3 : ∀ k, ¬ P' 73 k) : Rp h h' bs :=
  ⟨hR.1, hR.2.1.fr f (fun b k h4 h5 => h1 b k h4 h5), by rw [f'.i h2]; exact hR.2.2.1, fun i b hb => by rw [f'.i (h3 i)]; exact hR.2.2.2 i b hb⟩
abbrev cSp (w : Nat) : Nat → Nat → Prop := fun b _ => (2 ≤ b ∧ b ≤ 9) ∨ (w ≤ b ∧ b ≤ w + 2)
abbrev mSp : Nat → Nat → Prop := fun b k => (51 ≤ b ∧ b ≤ 56) ∨ (b = 30 ∧ (k = 21 ∨ k = 22 ∨ k = 29)) ∨ b = 69
theorem an_loop {bs : List Nat} {w row t a : Nat} (hw : (w = 21 ∧ row = 0) ∨ (w = 24 ∧ row = 1)) (ht : 74 ≤ t) (line : Int32) (own : Option Value) : ∀ (n i : Nat) (B : Nat) (g g' : jH) (Hl : List Int32), i + n = bs.length → B + n < 2 ^ 30 → CS g → MS g' → RLi B g g' → Rp g g' bs → jk g t = (4, 0) → ji g t 0 = nI a → WI g w Hl → Hl.length = i → (∀ (j : Nat) (x : Int32), Hl[j]? = some x → ji g' 69 (40 * row + j) = x ∧ HW x) → ∃ G G' Hl', jV 15 67 [some (.ref 10), some (.ref t), some (.int line), some (.ref w), some (.int (nI i))] [] g = some (none, G) ∧ jV 123 52 [some (.ref 30), some (.int (nI a)), some (.int line), own, some (.int (nI row)), some (.int (nI i))] [] g' = jV 123 103 [some (.ref 30), some (.int (nI a)), some (.int line), own, some (.int (nI row)), some (.int (nI bs.length))] [] G' ∧ RLi (B + n) G G' ∧ WI G w Hl' ∧ Hl'.length = bs.length ∧ (∀ (j : Nat) (x : Int32), Hl'[j]? = some x → ji G' 69 (40 * row + j) = x ∧ HW x) ∧ Fr (cSp w) g G ∧ Fr mSp g' G'
  | 0, i, B, g, g', Hl, hi, hB, qc, qm, hR, hRp, kt, ht0, hW, hHl, hA => by
    obtain ⟨⟨hb1, hb2, hb3⟩, hW18, h56, h73⟩ := hRp
    have a1 : ¬ nI i < nI bs.length := nI_nlt (by omega) (by omega)
    have hlen := hW18.len.1
    rw [wl_len] at hlen
    refine ⟨g, g', Hl, ?_, ?_, hR, hW, by omega, hA, Fr.refl g, Fr.refl g'⟩
    · simp only [s15_67, s15_69, s15_70, s15_73, s15_76, s15_79, s15_79n, s15_80, s15_81, s15_84, s15_85, s15_88, s15_90, s15_93, s15_94, s15_95, s15_98, s15_101, s15_104, s15_107, s15_110, k10 qc, p10_4 qc, k18 qc, hlen, a1, ↓reduceIte, va_rf_s, va_rf_n, jb_some, jb_none, jtl_s, jtl_n, if_true, if_false, true_and, and_true, false_and, and_false, or_true, true_or, or_false, false_or, not_true_eq_false, not_false_eq_true, jk_si, jp_si, jj_si, jk_sj, jp_sj, ji_sj, jk_ci, jp_ci, jj_ci, jk_cj, jp_cj, ji_cj, jlng_n, jlng_i, jlng_r, jlng_0]
    · rw [show i = bs.length by omega] at a1 ⊢
      simp only [s123_52, s123_54, s123_55, s123_58, k30 qm, h56, a1, ↓reduceIte, va_rf_s, va_rf_n, jb_some, jb_none, jtl_s, jtl_n, if_true, if_false, true_and, and_true, false_and, and_false, or_true, true_or, or_false, false_or, not_true_eq_false, not_false_eq_true, jk_si, jp_si, jj_si, jk_sj, jp_sj, ji_sj, jk_ci, jp_ci, jj_ci, jk_cj, jp_cj, ji_cj, jlng_n, jlng_i, jlng_r, jlng_0]
  | n + 1, i, B, g, g', Hl, hi, hB, qc, qm, hR, hRp, kt, ht0, hW, hHl, hA => by
    obtain ⟨⟨hb1, hb2, hb3⟩, hW18, h56, h73⟩ := id hRp
    have a1 : nI i < nI bs.length := nI_lt (by omega) (by omega)
    have hlen := hW18.len.1
    rw [wl_len] at hlen
    have hq : bs[i]? = some bs[i] := List.getElem?_eq_getElem (by omega)
    have hbl : bs[i] < 65536 := hb3 _ (List.getElem_mem _)
    generalize bs[i] = b at hq hbl
    have hat := w_at hW18 (i := i) (by omega)
    rw [List.getD_eq_getElem?_getD, wl_get hq, Option.getD_some] at hat
    have h7 := h73 i b hq
    have a4 : jin (nI i) 33 = true := jin_nI (by omega) (by omega)
    have a5 : (nI i).toNatClampNeg = i := nI_clamp (by omega)
    obtain ⟨v, g1, g1', hsc, hsm, hHW, hR1, f1, f1'⟩ := q_say qc qm hR (by omega) (c := if i = 0 then 1 else 0) hbl (by split <;> omega) line (nI a)
    have hW1 := hW.fr f1 (fun b k h1 h2 => by omega)
    obtain ⟨g2, hadd, hW2, f2⟩ := w_add hW1 (by omega) v
    have e1 : (40 : Int32) * nI row + nI i = nI (40 * row + i) := by
      show nI 40 * nI row + nI i = _
      rw [pk_mul, nI_add]
    have b4 : jin (nI (40 * row + i)) 80 = true := jin_nI (by omega) (by omega)
    have b5 : (nI (40 * row + i)).toNatClampNeg = 40 * row + i := nI_clamp (by omega)
    have qm1 : MS g1' := f1'.ms qm
    have f2' : Fr (fun b k => b = 69) g1' (jsi g1' 69 (40 * row + i) v) := (Fr.refl g1').si rfl
    have hstep : jV 15 67 [some (.ref 10), some (.ref t), some (.int line), some (.ref w), some (.int (nI i))] [] g = jV 15 67 [some (.ref 10), some (.ref t), some (.int line), some (.ref w), some (.int (nI (i + 1)))] [] g2 := by
      simp only [s15_69, s15_70, s15_73, s15_76, s15_79, s15_79n, s15_80, s15_81, s15_84, s15_85, s15_88, s15_90, s15_93, s15_94, s15_95, s15_98, s15_101, s15_104, s15_107, s15_67 (x := nI i), k10 qc, p10_0 qc, k2 qc, p10_4 qc, k18 qc, hlen, a1, hat, kt, ht0, hsc, hW1.1.1, hadd, nI_1, ↓reduceIte, va_rf_s, va_rf_n, jb_some, jb_none, jtl_s, jtl_n, if_true, if_false, true_and, and_true, false_and, and_false, or_true, true_or, or_false, false_or, not_true_eq_false, not_false_eq_true, jk_si, jp_si, jj_si, jk_sj, jp_sj, ji_sj, jk_ci, jp_ci, jj_ci, jk_cj, jp_cj, ji_cj, jlng_n, jlng_i, jlng_r, jlng_0]
      rw [s15_104 (hq := jlng_r w)]
      simp only [s15_107, nI_1, ↓reduceIte, va_rf_s, va_rf_n, jb_some, jb_none, jtl_s, jtl_n, if_true, if_false, true_and, and_true, false_and, and_false, or_true, true_or, or_false, false_or, not_true_eq_false, not_false_eq_true, jk_si, jp_si, jj_si, jk_sj, jp_sj, ji_sj, jk_ci, jp_ci, jj_ci, jk_cj, jp_cj, ji_cj, jlng_n, jlng_i, jlng_r, jlng_0]
    have mstep : jV 123 52 [some (.ref 30), some (.int (nI a)), some (.int line), own, some (.int (nI row)), some (.int (nI i))] [] g' = jV 123 52 [some (.ref 30), some (.int (nI a)), some (.int line), own, some (.int (nI row)), some (.int (nI (i + 1)))] [] (jsi g1' 69 (40 * row + i) v) := by
      by_cases c0 : i = 0
      · subst c0
        have hsm' : jV 111 0 [some (.ref 30), some (.int line), some (.int (nI a)), some (.int 1), some (.int (nI b)), none, none, none] [] g' = some (some (.int v), g1') := hsm
        simp only [s123_54, s123_55, s123_58, s123_61, s123_62, s123_65, s123_67, s123_69, s123_70, s123_72, s123_73, s123_74, s123_75, s123_76, s123_78, s123_81, s123_82, s123_85, s123_86, s123_87, s123_90, s123_92, s123_93, s123_96, s123_97, s123_100, s123_52 (x := nI 0), k30 qm, k69 qm, k69 qm1, k73 qm, p30_50 qm, p30_55 qm, h56, a1, a4, a5, e1, b4, b5, h7, eq_true (show nI 0 = 0 from rfl), hsm', nI_1, ↓reduceIte, va_rf_s, va_rf_n, jb_some, jb_none, jtl_s, jtl_n, if_true, if_false, true_and, and_true, false_and, and_false, or_true, true_or, or_false, false_or, not_true_eq_false, not_false_eq_true, jk_si, jp_si, jj_si, jk_sj, jp_sj, ji_sj, jk_ci, jp_ci, jj_ci, jk_cj, jp_cj, ji_cj, jlng_n, jlng_i, jlng_r, jlng_0]
      · have hz : ¬ nI i = 0 := fun z => c0 ((e_eq (b := 0) (by omega) (by omega)).mp z)
        rw [if_neg c0] at hsm
        have hsm' : jV 111 0 [some (.ref 30), some (.int line), some (.int (nI a)), some (.int 0), some (.int (nI b)), none, none, none] [] g' = some (some (.int v), g1') := hsm
        simp only [s123_54, s123_55, s123_58, s123_61, s123_62, s123_65, s123_67, s123_69, s123_70, s123_72, s123_73, s123_74, s123_75, s123_76, s123_78, s123_81, s123_82, s123_85, s123_86, s123_87, s123_90, s123_92, s123_93, s123_96, s123_97, s123_100, s123_52 (x := nI i), k30 qm, k69 qm, k69 qm1, k73 qm, p30_50 qm, p30_55 qm, h56, a1, a4, a5, e1, b4, b5, h7, hz, hsm', nI_1, ↓reduceIte, va_rf_s, va_rf_n, jb_some, jb_none, jtl_s, jtl_n, if_true, if_false, true_and, and_true, false_and, and_false, or_true, true_or, or_false, false_or, not_true_eq_false, not_false_eq_true, jk_si, jp_si, jj_si, jk_sj, jp_sj, ji_sj, jk_ci, jp_ci, jj_ci, jk_cj, jp_cj, ji_cj, jlng_n, jlng_i, jlng_r, jlng_0]
    have hR2 : RLi (B + 1) g2 (jsi g1' 69 (40 * row + i) v) := hR1.fr f2 f2' (fun b k h1 h2 => by unfold wP; omega) (fun k _ => by omega) (fun b k _ _ => by omega)
    have hRp2 : Rp g2 (jsi g1' 69 (40 * row + i) v) bs := (hRp.fr f1 f1' (fun b k h1 h2 => by omega) (by omega) (fun k => by omega)).fr f2 f2' (fun b k h1 h2 => by unfold wP; omega) (by omega) (fun k => by omega)
    obtain ⟨G, G', Hl', hG, hG', hR3, hW3, hl3, hA3, f3, f3'⟩ := an_loop hw ht line own n (i + 1) (B + 1) g2 (jsi g1' 69 (40 * row + i) v) (Hl ++ [v]) (by omega) (by omega) (f2.cs (f1.cs qc)) (f2'.ms qm1) hR2 hRp2 (by rw [f2.k, f1.k]; exact kt) (by rw [f2.i (by unfold wP; omega), f1.i (by omega)]; exact ht0) hW2 (by rw [List.length_append, List.length_singleton]; omega) (by
      intro j x hj
      rw [ji_si]
      by_cases c : j = i
      · subst c
        rw [← hHl, List.getElem?_concat_length] at hj
        cases hj
        rw [if_pos ⟨rfl, rfl⟩]
        exact ⟨rfl, hHW⟩
      · have hl := (List.getElem?_eq_some_iff.mp hj).1
        rw [List.length_append, List.length_singleton] at hl
        rw [List.getElem?_append_left (by omega)] at hj
        rw [if_neg (by omega), f1'.i (by omega)]
        exact hA j x hj)
    refine ⟨G, G', Hl', hstep.trans hG, mstep.trans hG', by rw [show B + (n + 1) = B + 1 + n by omega]; exact hR3, hW3, hl3, hA3, ?_, ?_⟩
    · exact ((f1.sub (fun b k h => by omega)).trans (f2.sub (fun b k h => by unfold wP at h; omega))).trans f3
    · exact ((f1'.sub (fun b k h => by omega)).trans (f2'.sub (fun b k h => by omega))).trans f3'
