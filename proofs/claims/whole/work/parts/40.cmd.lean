/-! COMMANDS, as numbers -/
/-- the sixteen bits of a word -/
def cw (x : Int32) : Nat := x.toBitVec.toNat % 65536
theorem cw_lt (x : Int32) : cw x < 65536 := Nat.mod_lt _ (by decide)
theorem cw_and (x : Int32) : x &&& 65535 = nI (cw x) := pk_and x 16 (by decide)
theorem cw_nI {k : Nat} (h : k < 2 ^ 31) : cw (nI k) = k % 65536 := by unfold cw; rw [pk_tn (by omega)]
abbrev aN (c : Nat) : Nat := c / 2048 % 32
abbrev pN (c : Nat) : Nat := c / 32 % 32
abbrev sN (c : Nat) : Prop := c / 1024 % 2 = 1
abbrev dN (c : Nat) : Prop := c / 32 % 32 = 0 ∨ c / 32 % 32 = 31
def cN (c : Nat) : Nat := if c % 32 = 0 then 32 else c % 32
theorem cN_le (c : Nat) : 1 ≤ cN c ∧ cN c ≤ 32 := by unfold cN; split <;> omega
theorem jB_cg {p q : Prop} [Decidable p] [Decidable q] (h : p ↔ q) : jB p = jB q := by
  unfold jB
  by_cases c : p
  · rw [if_pos c, if_pos (h.mp c)]
  · rw [if_neg c, if_neg (fun z => c (h.mpr z))]
theorem e_adr {c : Nat} (h : c < 65536) : (nI c >>> ((11 : Int32) &&& 31)) &&& 31 = nI (aN c) := by
  have h1 : nI c >>> ((11 : Int32) &&& 31) = nI (c / 2 ^ 11) := pk_shrN (by omega) (11 &&& 31) 11 (by decide)
  rw [h1]
  exact pk_andN (by omega) 5 (by decide)
theorem e_plc {c : Nat} (h : c < 65536) : (nI c >>> ((5 : Int32) &&& 31)) &&& 31 = nI (pN c) := by
  have h1 : nI c >>> ((5 : Int32) &&& 31) = nI (c / 2 ^ 5) := pk_shrN (by omega) (5 &&& 31) 5 (by decide)
  rw [h1]
  exact pk_andN (by omega) 5 (by decide)
theorem e_cod {c : Nat} (h : c < 65536) : nI c &&& 31 = nI (c % 32) := pk_andN (by omega) 5 (by decide)
theorem e_t10 {c : Nat} (h : c < 65536) : (nI c >>> ((10 : Int32) &&& 31)) &&& 1 = nI (c / 1024 % 2) := by
  have h1 : nI c >>> ((10 : Int32) &&& 31) = nI (c / 2 ^ 10) := pk_shrN (by omega) (10 &&& 31) 10 (by decide)
  rw [h1]
  exact pk_andN (by omega) 1 (by decide)
theorem e_snd {c : Nat} (h : c < 65536) : (¬ nI c &&& 1024 = 0) ↔ sN c := by
  have h1 := nf_bit (nI c) 10 (by omega)
  rw [nx_bit h (by omega), Nat.testBit_eq_decide_div_mod_eq] at h1
  have h2 : ((1 : Int32) <<< (nI 10 &&& 31)) = 1024 := by decide
  rw [h2] at h1
  rw [← h1, decide_eq_false_iff_not]
  show ¬ ¬ (c / 1024 % 2 = 1) ↔ _
  exact Decidable.not_not
theorem aN_lt (c : Nat) : aN c < 65536 := by show c / 2048 % 32 < 65536; omega
theorem pN_lt (c : Nat) : pN c < 65536 := by show c / 32 % 32 < 65536; omega
theorem e_eq {a b : Nat} (ha : a < 65536) (hb : b < 65536) : nI a = nI b ↔ a = b := nI_eq (by omega) (by omega)
theorem n_addressOf {c : Nat} (hc : c < 65536) (h : jH) : jV 3 0 [some (.int (nI c))] [] h = some (some (.int (nI (aN c))), h) := by rw [c_addressOf, e_adr hc]
theorem n_placeOf {c : Nat} (hc : c < 65536) (h : jH) : jV 5 0 [some (.int (nI c))] [] h = some (some (.int (nI (pN c))), h) := by rw [c_placeOf, e_plc hc]
theorem n_codeOf {c : Nat} (hc : c < 65536) (h : jH) : jV 7 0 [some (.int (nI c))] [] h = some (some (.int (nI (c % 32))), h) := by rw [c_codeOf, e_cod hc]
theorem e_cnt {c : Nat} (hc : c < 65536) : (if nI c &&& 31 = 0 then (32 : Int32) else nI c &&& 31) = nI (cN c) := by
  rw [e_cod hc]
  unfold cN
  by_cases z : c % 32 = 0
  · rw [z, if_pos rfl]
    exact if_pos rfl
  · rw [if_neg z, if_neg (show ¬ nI (c % 32) = 0 from fun q => z ((e_eq (b := 0) (by omega) (by omega)).mp q))]
theorem n_countOf {c : Nat} (hc : c < 65536) (h : jH) : jV 8 0 [some (.int (nI c)), none] [] h = some (some (.int (nI (cN c))), h) := by rw [c_countOf, e_cnt hc]
theorem n_sends {c : Nat} (hc : c < 65536) (h : jH) : jV 4 0 [some (.int (nI c))] [] h = some (some (.int (jB (sN c))), h) := by rw [c_sends, jB_cg (e_snd hc)]
theorem e_mod {c : Nat} (hc : c < 65536) : ((nI c >>> ((5 : Int32) &&& 31)) &&& 31 = 0 ∨ (nI c >>> ((5 : Int32) &&& 31)) &&& 31 = 31) ↔ dN c := by
  rw [e_plc hc]
  exact or_congr (e_eq (b := 0) (pN_lt c) (by omega)) (e_eq (b := 31) (pN_lt c) (by omega))
theorem n_isMode {c : Nat} (hc : c < 65536) (h : jH) : jV 6 0 [some (.int (nI c)), none] [] h = some (some (.int (jB (dN c))), h) := by rw [c_isMode, jB_cg (e_mod hc)]
theorem o_addressOf {c : Nat} (hc : c < 65536) (h : jH) : jV 113 0 [some (.int (nI c))] [] h = some (some (.int (nI (aN c))), h) := by rw [m_addressOf, e_adr hc]
theorem o_placeOf {c : Nat} (hc : c < 65536) (h : jH) : jV 115 0 [some (.int (nI c))] [] h = some (some (.int (nI (pN c))), h) := by rw [m_placeOf, e_plc hc]
theorem o_countOf {c : Nat} (hc : c < 65536) (h : jH) : jV 117 0 [some (.int (nI c))] [] h = some (some (.int (nI (cN c))), h) := by rw [m_countOf, e_cnt hc]
theorem o_isToSend {c : Nat} (hc : c < 65536) (h : jH) : jV 114 0 [some (.int (nI c))] [] h = some (some (.int (jB (sN c))), h) := by
  rw [m_isToSend, e_t10 hc]
  exact congrArg (fun z => some (some (Value.int z), h)) (jB_cg (e_eq (b := 1) (by omega) (by omega)))
theorem o_isMode {c : Nat} (hc : c < 65536) (h : jH) : jV 116 0 [some (.int (nI c))] [] h = some (some (.int (jB (dN c))), h) := by rw [m_isMode, jB_cg (e_mod hc)]
theorem isC_iff (x : Int32) : 65535 < x ↔ isC x := by
  unfold isC
  simp only [lt_toInt]
  have h1 : (65535 : Int32).toInt = 65535 := rfl
  have h2 : (65536 : Int32).toInt = 65536 := rfl
  omega
theorem isD_iff (x : Int32) : (¬ x < 0 ∧ ¬ 65535 < x) ↔ isD x := by
  unfold isD
  simp only [lt_toInt]
  have h1 : (65535 : Int32).toInt = 65535 := rfl
  have h2 : (65536 : Int32).toInt = 65536 := rfl
  omega
theorem o_isCommand (v : Int32) (h : jH) : jV 109 0 [some (.int v)] [] h = some (some (.int (jB (isC v))), h) := by rw [m_isCommand, jB_cg (isC_iff v)]
theorem o_isData (v : Int32) (h : jH) : jV 110 0 [some (.int v)] [] h = some (some (.int (jB (isD v))), h) := by rw [m_isData, jB_cg (isD_iff v)]
theorem isD_nI {x : Int32} (h : isD x) : ∃ k, k < 65536 ∧ x = nI k := by
  obtain ⟨j, hj, e⟩ := nI_of h.1
  refine ⟨j, ?_, e⟩
  have := h.2
  rw [e] at this
  exact (nI_ltI (b := 65536) hj (by omega)).mp this
theorem nI_isD {k : Nat} (h : k < 65536) : isD (nI k) := ⟨nI_pos (by omega), nI_lt (b := 65536) h (by omega)⟩
theorem cw_isD {x : Int32} (h : isD x) : nI (cw x) = x := by
  obtain ⟨k, hk, rfl⟩ := isD_nI h
  rw [cw_nI (by omega), Nat.mod_eq_of_lt hk]
/-- the message's words, in the reference -/
def ML (g : jH) (L : List Int32) : Prop := L.length ≤ 33 ∧ ji g 30 49 = nI L.length ∧ ∀ (i : Nat) (x : Int32), L[i]? = some x → ji g 68 i = x
theorem ML.fr {g g' : jH} {L : List Int32} (h : ML g L) {P : Nat → Nat → Prop} (f : Fr P g g') (h1 : ¬ P 30 49) (h2 : ∀ k, ¬ P 68 k) : ML g' L :=
  ⟨h.1, by rw [f.i h1]; exact h.2.1, fun i q hi => by rw [f.i (h2 i)]; exact h.2.2 i q hi⟩
/-- whose last command it is: as numbers -/
theorem isA_iff {a : Nat} (ha : a < 31) (x : Int32) : isA (nI a) x ↔ isC x ∧ (aN (cw x) = a ∨ aN (cw x) = 31) := by
  unfold isA adr
  rw [cw_and, e_adr (cw_lt x), e_eq (aN_lt _) (by omega)]
  have : nI (aN (cw x)) = 31 ↔ aN (cw x) = 31 := e_eq (b := 31) (aN_lt _) (by omega)
  rw [this]
def LCN (a : Nat) (L : List Int32) (i : Nat) (x : Int32) : Prop := L[i]? = some x ∧ (isC x ∧ (aN (cw x) = a ∨ aN (cw x) = 31)) ∧ ∀ (j : Nat) (y : Int32), i < j → L[j]? = some y → ¬ (isC y ∧ (aN (cw y) = a ∨ aN (cw y) = 31))
theorem LC_n {a : Nat} (ha : a < 31) {L : List Int32} {r : Int32} (h : LC (nI a) L r) : (r = -1 ∧ ∀ (i : Nat) (x : Int32), ¬ LCN a L i x) ∨ ∃ i x, r = nI i ∧ LCN a L i x := by
  rcases h with ⟨h1, h2⟩ | ⟨i, x, h1, h2, h3, h4⟩
  · exact Or.inl ⟨h1, fun i x z => h2 i x z.1 ((isA_iff ha x).mpr z.2.1)⟩
  · exact Or.inr ⟨i, x, h1, h2, (isA_iff ha x).mp h3, fun j y hj hy z => h4 j y hj hy ((isA_iff ha y).mpr z)⟩
theorem LCN_uq {a : Nat} {L : List Int32} {i j : Nat} {x y : Int32} (h : LCN a L i x) (h' : LCN a L j y) : i = j ∧ x = y := by
  have e : i = j := by
    rcases Nat.lt_trichotomy i j with z | z | z
    · exact absurd h'.2.1 (h.2.2 j y z h'.1)
    · exact z
    · exact absurd h.2.1 (h'.2.2 i x z h.1)
  subst e
  exact ⟨rfl, Option.some.inj (h.1.symm.trans h'.1)⟩
theorem mc_loop {g : jH} (q : MS g) {L : List Int32} (hL : ML g L) {a : Nat} (ha : a < 31) : ∀ (n i : Nat) (r : Int32) (l4 : Option Value), i + n = L.length → LC (nI a) (L.take i) r → ∃ r', jV 118 4 [some (.ref 30), some (.int (nI a)), some (.int r), some (.int (nI i)), l4] [] g = some (some (.int r'), g) ∧ LC (nI a) L r'
  | 0, i, r, l4, hi, hr => by
    have hl := hL.1
    have a1 : ¬ nI i < nI L.length := nI_nlt (by omega) (by omega)
    refine ⟨r, ?_, ?_⟩
    · simp only [s118_4, s118_5, s118_6, s118_9, s118_12, s118_13, s118_16, s118_17, s118_18, s118_21, s118_24, s118_25, s118_28, s118_29, s118_30, s118_32, s118_33, s118_36, s118_38, s118_40, s118_41, s118_44, s118_46, s118_48, s118_51, s118_52, s118_55, s118_56, s118_57, s118_60, s118_63, s118_64, k30 q, hL.2.1, a1, ↓reduceIte, va_rf_s, va_rf_n, jb_some, jb_none, jtl_s, jtl_n, if_true, if_false, true_and, and_true, false_and, and_false, or_true, true_or, or_false, false_or, not_true_eq_false, not_false_eq_true, jk_si, jp_si, jj_si, jk_sj, jp_sj, ji_sj, jk_ci, jp_ci, jj_ci, jk_cj, jp_cj, ji_cj, jlng_n, jlng_i, jlng_r, jlng_0]
    · rw [List.take_of_length_le (by omega)] at hr
      exact hr
  | n + 1, i, r, l4, hi, hr => by
    have hl := hL.1
    have a1 : nI i < nI L.length := nI_lt (by omega) (by omega)
    have hq : L[i]? = some L[i] := List.getElem?_eq_getElem (by omega)
    have h1 := hL.2.2 i _ hq
    have a4 : jin (nI i) 40 = true := jin_nI (by omega) (by omega)
    have a5 : (nI i).toNatClampNeg = i := nI_clamp (by omega)
    generalize hx : L[i] = x at hq h1
    have et : L.take (i + 1) = L.take i ++ [x] := by rw [List.take_succ, hq]; rfl
    have hlt : (L.take i).length = i := by rw [List.length_take]; omega
    -- the step, for either outcome
    have go : ∀ (r2 : Int32) (l4' : Option Value), LC (nI a) (L.take (i + 1)) r2 → jV 118 4 [some (.ref 30), some (.int (nI a)), some (.int r), some (.int (nI i)), l4] [] g = jV 118 4 [some (.ref 30), some (.int (nI a)), some (.int r2), some (.int (nI (i + 1))), l4'] [] g → ∃ r', jV 118 4 [some (.ref 30), some (.int (nI a)), some (.int r), some (.int (nI i)), l4] [] g = some (some (.int r'), g) ∧ LC (nI a) L r' := by
      intro r2 l4' h2 h3
      obtain ⟨r', h4, h5⟩ := mc_loop q hL ha n (i + 1) r2 l4' (by omega) h2
      exact ⟨r', h3.trans h4, h5⟩
    have keep : ¬ isA (nI a) x → LC (nI a) (L.take (i + 1)) r := by
      intro hn
      rw [et]
      rcases hr with ⟨z1, z2⟩ | ⟨k, y, z1, z2, z3, z4⟩
      · refine Or.inl ⟨z1, fun j y hy => ?_⟩
        rcases Nat.lt_or_ge j i with c | c
        · rw [List.getElem?_append_left (by omega)] at hy
          exact z2 j y hy
        · rw [List.getElem?_append_right (by omega), List.getElem?_singleton] at hy
          split at hy
          · cases hy; exact hn
          · exact absurd hy (by simp)
      · refine Or.inr ⟨k, y, z1, ?_, z3, fun j w hj hw => ?_⟩
        · rw [List.getElem?_append_left (List.getElem?_eq_some_iff.mp z2).1]; exact z2
        · rcases Nat.lt_or_ge j i with c | c
          · rw [List.getElem?_append_left (by omega)] at hw
            exact z4 j w hj hw
          · rw [List.getElem?_append_right (by omega), List.getElem?_singleton] at hw
            split at hw
            · cases hw; exact hn
            · exact absurd hw (by simp)
    have oc := o_isCommand x g
    by_cases c1 : isC x
    · rw [jB_t c1] at oc
      have e1 := cw_and x
      have oa := o_addressOf (cw_lt x) g
      by_cases c2 : aN (cw x) = a ∨ aN (cw x) = 31
      · refine go (nI i) (some (.int (nI (aN (cw x))))) ?_ ?_
        · rw [et]
          refine Or.inr ⟨i, x, rfl, ?_, (isA_iff ha x).mpr ⟨c1, c2⟩, fun j w hj hw => ?_⟩
          · rw [List.getElem?_append_right (by omega), hlt, Nat.sub_self]; rfl
          · have := (List.getElem?_eq_some_iff.mp hw).1
            rw [List.length_append, List.length_singleton] at this
            omega
        · by_cases c3 : aN (cw x) = a
          · have b1 : nI (aN (cw x)) = nI a := by rw [c3]
            rw [b1] at oa ⊢
            simp only [s118_5, s118_6, s118_9, s118_12, s118_13, s118_16, s118_17, s118_18, s118_21, s118_24, s118_25, s118_28, s118_29, s118_30, s118_32, s118_33, s118_36, s118_38, s118_40, s118_41, s118_44, s118_46, s118_48, s118_51, s118_52, s118_55, s118_56, s118_57, s118_60, s118_4 (x := nI i), k30 q, k68 q, p30_48 q, hL.2.1, a1, a4, a5, h1, oc, e1, oa, nI_1, show ¬ (1 : Int32) = 0 by decide, ↓reduceIte, va_rf_s, va_rf_n, jb_some, jb_none, jtl_s, jtl_n, if_true, if_false, true_and, and_true, false_and, and_false, or_true, true_or, or_false, false_or, not_true_eq_false, not_false_eq_true, jk_si, jp_si, jj_si, jk_sj, jp_sj, ji_sj, jk_ci, jp_ci, jj_ci, jk_cj, jp_cj, ji_cj, jlng_n, jlng_i, jlng_r, jlng_0]
          · have b1 : ¬ nI (aN (cw x)) = nI a := fun z => c3 ((e_eq (aN_lt _) (by omega)).mp z)
            have b2 : aN (cw x) = 31 := c2.resolve_left c3
            have b3 : nI (aN (cw x)) = 31 := by rw [b2]; rfl
            rw [b3] at oa b1 ⊢
            simp only [s118_5, s118_6, s118_9, s118_12, s118_13, s118_16, s118_17, s118_18, s118_21, s118_24, s118_25, s118_28, s118_29, s118_30, s118_32, s118_33, s118_36, s118_38, s118_40, s118_41, s118_44, s118_46, s118_48, s118_51, s118_52, s118_55, s118_56, s118_57, s118_60, s118_4 (x := nI i), k30 q, k68 q, p30_48 q, hL.2.1, a1, a4, a5, h1, oc, e1, oa, b1, nI_1, show ¬ (1 : Int32) = 0 by decide, ↓reduceIte, va_rf_s, va_rf_n, jb_some, jb_none, jtl_s, jtl_n, if_true, if_false, true_and, and_true, false_and, and_false, or_true, true_or, or_false, false_or, not_true_eq_false, not_false_eq_true, jk_si, jp_si, jj_si, jk_sj, jp_sj, ji_sj, jk_ci, jp_ci, jj_ci, jk_cj, jp_cj, ji_cj, jlng_n, jlng_i, jlng_r, jlng_0]
      · refine go r (some (.int (nI (aN (cw x))))) (keep fun z => c2 ((isA_iff ha x).mp z).2) ?_
        have b1 : ¬ nI (aN (cw x)) = nI a := fun z => c2 (Or.inl ((e_eq (aN_lt _) (by omega)).mp z))
        have b2 : ¬ nI (aN (cw x)) = 31 := fun z => c2 (Or.inr ((e_eq (b := 31) (aN_lt _) (by omega)).mp z))
        simp only [s118_5, s118_6, s118_9, s118_12, s118_13, s118_16, s118_17, s118_18, s118_21, s118_24, s118_25, s118_28, s118_29, s118_30, s118_32, s118_33, s118_36, s118_38, s118_40, s118_41, s118_44, s118_46, s118_48, s118_51, s118_52, s118_55, s118_56, s118_57, s118_60, s118_4 (x := nI i), k30 q, k68 q, p30_48 q, hL.2.1, a1, a4, a5, h1, oc, e1, oa, b1, b2, nI_1, show ¬ (1 : Int32) = 0 by decide, ↓reduceIte, va_rf_s, va_rf_n, jb_some, jb_none, jtl_s, jtl_n, if_true, if_false, true_and, and_true, false_and, and_false, or_true, true_or, or_false, false_or, not_true_eq_false, not_false_eq_true, jk_si, jp_si, jj_si, jk_sj, jp_sj, ji_sj, jk_ci, jp_ci, jj_ci, jk_cj, jp_cj, ji_cj, jlng_n, jlng_i, jlng_r, jlng_0]
    · rw [jB_f c1] at oc
      refine go r l4 (keep fun z => c1 z.1) ?_
      simp only [s118_5, s118_6, s118_9, s118_12, s118_13, s118_16, s118_17, s118_18, s118_21, s118_24, s118_25, s118_28, s118_29, s118_30, s118_32, s118_33, s118_36, s118_38, s118_40, s118_41, s118_44, s118_46, s118_48, s118_51, s118_52, s118_55, s118_56, s118_57, s118_60, s118_4 (x := nI i), k30 q, k68 q, p30_48 q, hL.2.1, a1, a4, a5, h1, oc, nI_1, ↓reduceIte, va_rf_s, va_rf_n, jb_some, jb_none, jtl_s, jtl_n, if_true, if_false, true_and, and_true, false_and, and_false, or_true, true_or, or_false, false_or, not_true_eq_false, not_false_eq_true, jk_si, jp_si, jj_si, jk_sj, jp_sj, ji_sj, jk_ci, jp_ci, jj_ci, jk_cj, jp_cj, ji_cj, jlng_n, jlng_i, jlng_r, jlng_0]
theorem m_commandFor {g : jH} (q : MS g) {L : List Int32} (hL : ML g L) {a : Nat} (ha : a < 31) : ∃ r, jV 118 0 [some (.ref 30), some (.int (nI a)), none, none, none] [] g = some (some (.int r), g) ∧ LC (nI a) L r := by
  obtain ⟨r, h1, h2⟩ := mc_loop q hL ha L.length 0 (-1) none (by omega) (Or.inl ⟨rfl, fun i x hi => by simp at hi⟩)
  refine ⟨r, ?_, h2⟩
  rw [← h1]
  simp only [s118_0, s118_1, s118_2, s118_3, ↓reduceIte, va_rf_s, va_rf_n, jb_some, jb_none, jtl_s, jtl_n, if_true, if_false, true_and, and_true, false_and, and_false, or_true, true_or, or_false, false_or, not_true_eq_false, not_false_eq_true, jk_si, jp_si, jj_si, jk_sj, jp_sj, ji_sj, jk_ci, jp_ci, jj_ci, jk_cj, jp_cj, ji_cj, jlng_n, jlng_i, jlng_r, jlng_0]
  rfl
