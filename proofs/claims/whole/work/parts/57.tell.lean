/-! A MESSAGE is composed and said -/
theorem or_10 {a l : Nat} (ha : a < 32) (hl : l < 1024) : (nI a <<< ((10 : Int32) &&& 31)) ||| nI l = nI (1024 * a + l) := by
  have h1 : nI a <<< ((10 : Int32) &&& 31) = nI (a * 2 ^ 10) := pk_shlN (10 &&& 31) 10 (by decide) (by omega)
  rw [h1]
  apply Int32.toBitVec_inj.1
  show BitVec.ofNat 32 (a * 2 ^ 10) ||| BitVec.ofNat 32 l = BitVec.ofNat 32 (1024 * a + l)
  rw [← BitVec.ofNat_or, ← Nat.shiftLeft_eq, ← Nat.shiftLeft_add_eq_or_of_lt (by omega), Nat.shiftLeft_eq]
  congr 1
  omega
theorem or_5 {a l : Nat} (ha : a < 32) (hl : l < 32) : (nI a <<< ((5 : Int32) &&& 31)) ||| nI l = nI (32 * a + l) := by
  have h1 : nI a <<< ((5 : Int32) &&& 31) = nI (a * 2 ^ 5) := pk_shlN (5 &&& 31) 5 (by decide) (by omega)
  rw [h1]
  apply Int32.toBitVec_inj.1
  show BitVec.ofNat 32 (a * 2 ^ 5) ||| BitVec.ofNat 32 l = BitVec.ofNat 32 (32 * a + l)
  rw [← BitVec.ofNat_or, ← Nat.shiftLeft_eq, ← Nat.shiftLeft_add_eq_or_of_lt (by omega), Nat.shiftLeft_eq]
  congr 1
  omega
/-- a command's bits -/
def CM (a s p c : Nat) : Nat := 2048 * a + (1024 * s + (32 * p + c % 32))
theorem CM_lt {a s p c : Nat} (ha : a < 32) (hs : s ≤ 1) (hp : p < 32) : CM a s p c < 65536 := by unfold CM; omega
theorem CM_a {a s p c : Nat} (ha : a < 32) (hs : s ≤ 1) (hp : p < 32) : aN (CM a s p c) = a := by show CM a s p c / 2048 % 32 = a; unfold CM; omega
theorem CM_e {a s p c : Nat} (ha : a < 32) (hs : s ≤ 1) (hp : p < 32) (hc : c < 65536) : ((nI a <<< ((11 : Int32) &&& 31)) ||| (nI s <<< ((10 : Int32) &&& 31))) ||| (nI p <<< ((5 : Int32) &&& 31)) ||| (nI c &&& 31) = nI (CM a s p c) := by
  rw [e_cod hc, Int32.or_assoc, Int32.or_assoc, or_5 hp (by omega), or_10 (by omega) (by omega), or_11 ha (by omega)]
  rfl
theorem m_cm {a s p c : Nat} (ha : a < 32) (hs : s ≤ 1) (hp : p < 32) (hc : c < 65536) (h : jH) : jV 131 0 [some (.int (nI a)), some (.int (nI s)), some (.int (nI p)), some (.int (nI c))] [] h = some (some (.int (nI (CM a s p c))), h) := by
  rw [m_command, CM_e ha hs hp hc]
abbrev cMp : Nat → Nat → Prop := fun b k => (2 ≤ b ∧ b ≤ 9) ∨ (15 ≤ b ∧ b ≤ 17)
abbrev mMp : Nat → Nat → Prop := fun b k => (51 ≤ b ∧ b ≤ 56) ∨ (b = 30 ∧ (k = 21 ∨ k = 22 ∨ k = 29 ∨ k = 49)) ∨ b = 68
theorem ML.snoc {g : jH} {L : List Int32} (h : ML g L) (hl : L.length < 33) (v : Int32) : ML (jsi (jsi g 68 L.length v) 30 49 (nI (L.length + 1))) (L ++ [v]) := by
  obtain ⟨h1, h2, h3⟩ := h
  refine ⟨by simp; omega, by rw [ji_si, if_pos ⟨rfl, rfl⟩]; simp, fun i x hx => ?_⟩
  rw [ji_si, if_neg (by omega), ji_si]
  by_cases c : i = L.length
  · subst c
    rw [if_pos ⟨rfl, rfl⟩]
    simpa using hx
  · rw [if_neg (fun z => c z.2)]
    have hi : i < L.length := by
      have := (List.getElem?_eq_some_iff.mp hx).1
      simp at this
      omega
    rw [List.getElem?_append_left hi] at hx
    exact h3 i x hx
/-- one word is said by the controller -/
theorem sm_step {B l i c b : Nat} {L LW : List Int32} {g g' : jH} (qc : CS g) (qm : MS g') (hR : RLi B g g') (hB : B + 1 < 1610612736) (hW : WI g 15 L) (hL : ML g' L) (hLi : L.length = i) (hi : i < 33) (hT : WI g 12 LW) (hx : LW[i]? = some (nI (65536 * c + b))) (hb : b < 65536) (hc : c ≤ 1) : ∃ G G' v, jV 12 33 [some (.ref 10), some (.int (nI l)), some (.int (nI i))] [] g = jV 12 33 [some (.ref 10), some (.int (nI l)), some (.int (nI (i + 1)))] [] G ∧ jV 130 0 [some (.ref 30), some (.int (nI l)), some (.int (nI c)), some (.int (nI b))] [] g' = some (none, G') ∧ RLi (B + 1) G G' ∧ WI G 15 (L ++ [v]) ∧ ML G' (L ++ [v]) ∧ WI G 12 LW ∧ CS G ∧ MS G' ∧ Fr cMp g G ∧ Fr mMp g' G' := by
  obtain ⟨v, g1, g1', h1, h2, hv, hR1, f1, f1'⟩ := q_say qc qm hR hB hb hc (nI l) 32
  have W1 : WI g1 15 L := hW.fr f1 (fun c k z1 z2 => by omega)
  obtain ⟨G, ad, W2, f2⟩ := w_add W1 (by omega) v
  have hat := w_at hT (i := i) (by omega)
  rw [List.getD_eq_getElem?_getD, hx, Option.getD_some] at hat
  have hil : i < LW.length := (List.getElem?_eq_some_iff.mp hx).1
  have hLW := hT.2.1
  have lt : nI i < nI LW.length := nI_lt hil (by omega)
  have qc1 := f1.cs qc
  have qm1 := f1'.ms qm
  have a4 : jin (nI i) 40 = true := jin_nI (by omega) (by omega)
  have a5 : (nI i).toNatClampNeg = i := nI_clamp (by omega)
  have e1 : nI i + 1 = nI (i + 1) := nI_add i 1
  have hsz : ji g' 30 49 = nI i := by rw [hL.2.1, hLi]
  have hsz1 : ji g1' 30 49 = nI i := by rw [f1'.i (by omega)]; exact hsz
  have L1 : ML g1' L := hL.fr f1' (by omega) (fun k => by omega)
  have F : Fr cMp g G := (f1.sub (fun b k z => by omega)).trans (f2.sub (fun b k z => by unfold wP at z; omega))
  have f3 : Fr (fun b k => b = 68 ∨ (b = 30 ∧ k = 49)) g1' (jsi (jsi g1' 68 i v) 30 49 (nI (i + 1))) := ((Fr.refl g1').si (Or.inl rfl)).si (Or.inr ⟨rfl, rfl⟩)
  have F' : Fr mMp g' (jsi (jsi g1' 68 i v) 30 49 (nI (i + 1))) := (f1'.sub (fun b k z => by omega)).trans (f3.sub (fun b k z => by omega))
  refine ⟨G, _, v, ?_, ?_, hR1.fr f2 f3 (fun b k z1 z2 => by unfold wP; omega) (fun k z => by omega) (fun b k z1 z2 => by omega), W2, ?_, hT.fr F (fun b k z1 z2 => by omega), F.cs qc, F'.ms qm, F, F'⟩
  · simp only [s12_33 (x := nI i), s12_34, s12_35, s12_38, s12_41, s12_44, s12_45, s12_48, s12_49, s12_52, s12_53, s12_56, s12_57, s12_60, s12_61, s12_63, s12_66, s12_69, s12_72, k10 qc, k12 qc, k2 qc, k15 qc1, p10_2 qc, p10_3 qc, p10_0 qc, hT.len.1, lt, hat, h1, ad, e1, ↓reduceIte, va_rf_s, va_rf_n, jb_some, jb_none, jtl_s, jtl_n, if_true, if_false, true_and, and_true, false_and, and_false, or_true, true_or, or_false, false_or, not_true_eq_false, not_false_eq_true, jk_si, jp_si, jj_si, jk_sj, jp_sj, ji_sj, jk_ci, jp_ci, jj_ci, jk_cj, jp_cj, ji_cj, jlng_n, jlng_i, jlng_r, jlng_0]
  · simp only [s130_0, s130_1, s130_4, s130_5, s130_8, s130_9, s130_10, s130_12, s130_13, s130_14, s130_17, s130_18, s130_19, s130_20, s130_23, s130_24, s130_25, s130_28, k30 qm, k30 qm1, k68 qm1, p30_48 qm, hsz, hsz1, h2, a4, a5, ji_si, e1, Nat.reduceEqDiff, ↓reduceIte, va_rf_s, va_rf_n, jb_some, jb_none, jtl_s, jtl_n, if_true, if_false, true_and, and_true, false_and, and_false, or_true, true_or, or_false, false_or, not_true_eq_false, not_false_eq_true, jk_si, jp_si, jj_si, jk_sj, jp_sj, ji_sj, jk_ci, jp_ci, jj_ci, jk_cj, jp_cj, ji_cj, jlng_n, jlng_i, jlng_r, jlng_0]
  · have := L1.snoc (by omega) v
    rw [hLi] at this
    exact this
/-- the words of a block are told, one by one -/
theorem sm_data {l i0 blk cnt : Nat} {LW : List Int32} {tt : Nat} (htt : tt < 24) (hcnt : cnt ≤ 32) (hblk : blk ≤ 15) : ∀ (n k B : Nat) (g g' : jH) (L : List Int32), k + n = cnt → CS g → MS g' → RLi B g g' → B + n < 1610612736 → WI g 15 L → ML g' L → L.length = 1 + k → WI g 12 LW → (ji g' 63 tt = nI cnt ∧ ji g' 64 tt = nI blk) → (∀ j, j < cnt → isD (ji g' 57 (32 * blk + j)) ∧ LW[1 + j]? = some (ji g' 57 (32 * blk + j))) → ∃ G G' L', jV 12 33 [some (.ref 10), some (.int (nI l)), some (.int (nI (1 + k)))] [] g = jV 12 33 [some (.ref 10), some (.int (nI l)), some (.int (nI (1 + cnt)))] [] G ∧ jV 133 44 [some (.ref 30), some (.int (nI tt)), some (.int (nI l)), some (.int (nI k))] [] g' = some (none, G') ∧ RLi (B + n) G G' ∧ WI G 15 L' ∧ ML G' L' ∧ WI G 12 LW ∧ CS G ∧ MS G' ∧ Fr cMp g G ∧ Fr mMp g' G'
  | 0, k, B, g, g', L, h, qc, qm, hR, hB, hW, hL, hl, hT, hm, hx => by
    have e : k = cnt := by omega
    subst e
    have lt : ¬ nI k < nI k := nI_nlt (Nat.le_refl k) (by omega)
    have a4 : jin (nI tt) 24 = true := jin_nI htt (by omega)
    have a5 : (nI tt).toNatClampNeg = tt := nI_clamp (by omega)
    exact ⟨g, g', L, rfl, by simp only [s133_44, s133_45, s133_46, s133_49, s133_50, s133_51, s133_54, s133_55, s133_56, s133_57, s133_58, s133_61, s133_63, s133_64, s133_67, s133_68, s133_69, s133_70, s133_71, s133_72, s133_73, s133_76, s133_79, s133_82, s133_260, k30 qm, k63 qm, p30_36 qm, a4, a5, hm.1, lt, ↓reduceIte, va_rf_s, va_rf_n, jb_some, jb_none, jtl_s, jtl_n, if_true, if_false, true_and, and_true, false_and, and_false, or_true, true_or, or_false, false_or, not_true_eq_false, not_false_eq_true, jk_si, jp_si, jj_si, jk_sj, jp_sj, ji_sj, jk_ci, jp_ci, jj_ci, jk_cj, jp_cj, ji_cj, jlng_n, jlng_i, jlng_r, jlng_0], hR, hW, hL, hT, qc, qm, Fr.refl g, Fr.refl g'⟩
  | n + 1, k, B, g, g', L, h, qc, qm, hR, hB, hW, hL, hl, hT, hm, hx => by
    have lt : nI k < nI cnt := nI_lt (by omega) (by omega)
    have a4 : jin (nI tt) 24 = true := jin_nI htt (by omega)
    have a5 : (nI tt).toNatClampNeg = tt := nI_clamp (by omega)
    obtain ⟨hD, hxk⟩ := hx k (by omega)
    obtain ⟨b, hb, eb⟩ := isD_nI hD
    rw [eb] at hxk
    have e0 : nI b = nI (65536 * 0 + b) := by rw [Nat.mul_zero, Nat.zero_add]
    rw [e0] at hxk
    obtain ⟨G, G', v, s1, s2, s3, s4, s5, s6, s7, s8, s9, s10⟩ := sm_step (l := l) qc qm hR (by omega) hW hL hl (by omega) hT hxk hb (show 0 ≤ 1 by omega)
    have hm' : ji G' 63 tt = nI cnt ∧ ji G' 64 tt = nI blk := ⟨by rw [s10.i (by omega)]; exact hm.1, by rw [s10.i (by omega)]; exact hm.2⟩
    obtain ⟨G2, G2', L2, r1, r2, r3, r4, r5, r6, r7, r8, r9, r10⟩ := sm_data (l := l) (i0 := i0) (LW := LW) htt hcnt hblk n (k + 1) (B + 1) G G' (L ++ [v]) (by omega) s7 s8 s3 (by omega) s4 s5 (by simp; omega) s6 hm' (fun j hj => by rw [s10.i (by omega)]; exact hx j hj)
    refine ⟨G2, G2', L2, s1.trans (by rw [show 1 + k + 1 = 1 + (k + 1) by omega]; exact r1), ?_, by rw [show B + (n + 1) = B + 1 + n by omega]; exact r3, r4, r5, r6, r7, r8, s9.trans r9, s10.trans r10⟩
    have c4 : jin (nI (32 * blk + k)) 512 = true := jin_nI (by omega) (by omega)
    have c5 : (nI (32 * blk + k)).toNatClampNeg = 32 * blk + k := nI_clamp (by omega)
    have e2 : (32 : Int32) * nI blk + nI k = nI (32 * blk + k) := by
      show nI 32 * nI blk + nI k = _
      rw [pk_mul, nI_add]
    have e1 : nI k + 1 = nI (k + 1) := nI_add k 1
    have s2' : jV 130 0 [some (.ref 30), some (.int (nI l)), some (.int 0), some (.int (nI b))] [] g' = some (none, G') := s2
    rw [← r2]
    simp only [s133_44 (x := nI k), s133_45, s133_46, s133_49, s133_50, s133_51, s133_54, s133_55, s133_56, s133_57, s133_58, s133_61, s133_63, s133_64, s133_67, s133_68, s133_69, s133_70, s133_71, s133_72, s133_73, s133_76, s133_79, k30 qm, k63 qm, k64 qm, k57 qm, p30_36 qm, p30_37 qm, p30_30 qm, a4, a5, c4, c5, hm.1, hm.2, lt, e2, eb, s2', e1, ↓reduceIte, va_rf_s, va_rf_n, jb_some, jb_none, jtl_s, jtl_n, if_true, if_false, true_and, and_true, false_and, and_false, or_true, true_or, or_false, false_or, not_true_eq_false, not_false_eq_true, jk_si, jp_si, jj_si, jk_sj, jp_sj, ji_sj, jk_ci, jp_ci, jj_ci, jk_cj, jp_cj, ji_cj, jlng_n, jlng_i, jlng_r, jlng_0]
