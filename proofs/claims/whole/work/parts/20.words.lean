/-! CONTRACTS 2: rows of words -/
/-- nothing but P's entries changed, and no kind or reference -/
def Fr (P : Nat → Nat → Prop) (g g' : jH) : Prop := (∀ a k, ¬ P a k → ji g' a k = ji g a k ∧ jj g' a k = jj g a k) ∧ (∀ a, jk g' a = jk g a) ∧ (∀ a k, jp g' a k = jp g a k) ∧ g'.2 = g.2
theorem Fr.refl {P : Nat → Nat → Prop} (g : jH) : Fr P g g := ⟨fun _ _ _ => ⟨rfl, rfl⟩, fun _ => rfl, fun _ _ => rfl, rfl⟩
theorem Fr.trans {P : Nat → Nat → Prop} {g g' g'' : jH} (h1 : Fr P g g') (h2 : Fr P g' g'') : Fr P g g'' := ⟨fun a k ha => ⟨(h2.1 a k ha).1.trans (h1.1 a k ha).1, (h2.1 a k ha).2.trans (h1.1 a k ha).2⟩, fun a => (h2.2.1 a).trans (h1.2.1 a), fun a k => (h2.2.2.1 a k).trans (h1.2.2.1 a k), h2.2.2.2.trans h1.2.2.2⟩
theorem Fr.sub {P P' : Nat → Nat → Prop} {g g' : jH} (h : Fr P g g') (hp : ∀ a k, P a k → P' a k) : Fr P' g g' := ⟨fun a k ha => h.1 a k fun q => ha (hp a k q), h.2⟩
theorem Fr.k {P : Nat → Nat → Prop} {g g' : jH} (h : Fr P g g') (a : Nat) : jk g' a = jk g a := h.2.1 a
theorem Fr.i {P : Nat → Nat → Prop} {g g' : jH} (h : Fr P g g') {a k : Nat} (ha : ¬ P a k) : ji g' a k = ji g a k := (h.1 a k ha).1
theorem Fr.j {P : Nat → Nat → Prop} {g g' : jH} (h : Fr P g g') {a k : Nat} (ha : ¬ P a k) : jj g' a k = jj g a k := (h.1 a k ha).2
theorem Fr.p {P : Nat → Nat → Prop} {g g' : jH} (h : Fr P g g') (a k : Nat) : jp g' a k = jp g a k := h.2.2.1 a k
theorem Fr.x {P : Nat → Nat → Prop} {g g' : jH} (h : Fr P g g') : g'.2 = g.2 := h.2.2.2
theorem Fr.ci {P : Nat → Nat → Prop} {g g' : jH} (h : Fr P g g') {a : Nat} {f : Nat → Int32} (hf : ∀ k, ¬ P a k → f k = ji g' a k) : Fr P g (jci g' a f) := h.trans ⟨fun b k hb => ⟨by
  rw [ji_ci]
  by_cases c : b = a
  · rw [if_pos c, c]; exact hf k (c ▸ hb)
  · rw [if_neg c], jj_ci ..⟩, fun b => jk_ci .., fun b k => jp_ci .., rfl⟩
theorem Fr.cj {P : Nat → Nat → Prop} {g g' : jH} (h : Fr P g g') {a : Nat} {f : Nat → Int64} (hf : ∀ k, ¬ P a k → f k = jj g' a k) : Fr P g (jcj g' a f) := h.trans ⟨fun b k hb => ⟨ji_cj .., by
  rw [jj_cj]
  by_cases c : b = a
  · rw [if_pos c, c]; exact hf k (c ▸ hb)
  · rw [if_neg c]⟩, fun b => jk_cj .., fun b k => jp_cj .., rfl⟩
theorem Fr.si {P : Nat → Nat → Prop} {g g' : jH} (h : Fr P g g') {a k : Nat} {v : Int32} (hp : P a k) : Fr P g (jsi g' a k v) := h.trans ⟨fun b j hb => ⟨by
  rw [ji_si, if_neg]
  rintro ⟨rfl, rfl⟩
  exact hb hp, jj_si ..⟩, fun b => jk_si .., fun b k => jp_si .., rfl⟩
theorem Fr.sj {P : Nat → Nat → Prop} {g g' : jH} (h : Fr P g g') {a k : Nat} {v : Int64} (hp : P a k) : Fr P g (jsj g' a k v) := h.trans ⟨fun b j hb => ⟨ji_sj .., by
  rw [jj_sj, if_neg]
  rintro ⟨rfl, rfl⟩
  exact hb hp⟩, fun b => jk_sj .., fun b k => jp_sj .., rfl⟩
theorem Fr.cs {P : Nat → Nat → Prop} {g g' : jH} (h : Fr P g g') (q : CS g) : CS g' := CS_of h.k (fun _ _ => h.p _ _) q
theorem Fr.ms {P : Nat → Nat → Prop} {g g' : jH} (h : Fr P g g') (q : MS g) : MS g' := MS_of h.k (fun _ _ => h.p _ _) q
/-- the same by labels -/
abbrev Off (P : Nat → Prop) (g g' : jH) : Prop := Fr (fun a _ => P a) g g'
theorem Off.refl {P : Nat → Prop} (g : jH) : Off P g g := Fr.refl g
theorem Off.ci {P : Nat → Prop} {g : jH} {a : Nat} {f : Nat → Int32} (ha : P a) : Off P g (jci g a f) := (Fr.refl g).ci fun _ q => absurd ha q
theorem Off.si {P : Nat → Prop} {g : jH} {a k : Nat} {v : Int32} (ha : P a) : Off P g (jsi g a k v) := (Fr.refl g).si ha
theorem Off.cj {P : Nat → Prop} {g : jH} {a : Nat} {f : Nat → Int64} (ha : P a) : Off P g (jcj g a f) := (Fr.refl g).cj fun _ q => absurd ha q
theorem Off.sj {P : Nat → Prop} {g : jH} {a k : Nat} {v : Int64} (ha : P a) : Off P g (jsj g a k v) := (Fr.refl g).sj ha
/-- a data word, a command -/
abbrev isD (x : Int32) : Prop := ¬ x < 0 ∧ x < 65536
abbrev isC (x : Int32) : Prop := ¬ x < 65536
/-- where the commands stand; how many data words end the row -/
def cmds (L : List Int32) : List Nat := (List.range L.length).filter fun i => decide (isC (L.getD i 0))
def dtl (L : List Int32) : Nat := (L.reverse.takeWhile fun x => decide (isD x)).length
theorem cmds_snoc (L : List Int32) (x : Int32) : cmds (L ++ [x]) = if isC x then cmds L ++ [L.length] else cmds L := by
  unfold cmds
  rw [List.length_append, List.length_singleton, List.range_succ, List.filter_append]
  have h1 : (List.range L.length).filter (fun i => decide (isC ((L ++ [x]).getD i 0))) = (List.range L.length).filter (fun i => decide (isC (L.getD i 0))) := by
    apply List.filter_congr
    intro i hi
    have hi' := List.mem_range.mp hi
    rw [List.getD_eq_getElem?_getD, List.getD_eq_getElem?_getD, List.getElem?_append_left hi']
  have h2 : (L ++ [x]).getD L.length 0 = x := by
    rw [List.getD_eq_getElem?_getD, List.getElem?_append_right (Nat.le_refl _), Nat.sub_self]; rfl
  rw [h1]
  by_cases hx : isC x
  · rw [if_pos hx, List.filter_cons, h2, if_pos (decide_eq_true hx), List.filter_nil]
  · rw [if_neg hx, List.filter_cons, h2, if_neg (fun q => hx (of_decide_eq_true q)), List.filter_nil, List.append_nil]
theorem dtl_snoc (L : List Int32) (x : Int32) : dtl (L ++ [x]) = if isD x then dtl L + 1 else 0 := by
  unfold dtl
  rw [List.reverse_append, List.reverse_singleton, List.singleton_append, List.takeWhile_cons]
  by_cases hx : isD x
  · simp [hx]
  · simp [hx]
theorem cmds_len (L : List Int32) : (cmds L).length ≤ L.length := by
  unfold cmds
  exact Nat.le_trans (List.length_filter_le _ _) (by simp)
theorem cmds_lt {L : List Int32} {j i : Nat} (h : (cmds L)[j]? = some i) : i < L.length := by
  have := List.mem_of_getElem? h
  unfold cmds at this
  exact List.mem_range.mp (List.mem_filter.mp this).1
theorem dtl_le (L : List Int32) : dtl L ≤ L.length := by
  unfold dtl
  exact Nat.le_trans (List.takeWhile_sublist _).length_le (by rw [List.length_reverse]; exact Nat.le_refl _)
/-- the object at label w is the row L -/
def WI (g : jH) (w : Nat) (L : List Int32) : Prop :=
  (jk g w = (7, 0) ∧ jp g w 0 = some (w + 1) ∧ jp g w 1 = some (w + 2) ∧ jk g (w + 1) = (20, 33) ∧ jk g (w + 2) = (20, 33)) ∧ L.length ≤ 33 ∧ (ji g w 2 = nI L.length ∧ ji g w 3 = nI (cmds L).length ∧ ji g w 4 = nI (dtl L)) ∧ (∀ (i : Nat) (x : Int32), L[i]? = some x → ji g (w + 1) i = x) ∧ ∀ j i, (cmds L)[j]? = some i → ji g (w + 2) j = nI i
/-- the labels of a row of words -/
def wP (w : Nat) : Nat → Prop := fun a => w ≤ a ∧ a ≤ w + 2
theorem WI.fr {g g' : jH} {w : Nat} {L : List Int32} (h : WI g w L) {P : Nat → Nat → Prop} (ho : Fr P g g') (hp : ∀ a k, w ≤ a → a ≤ w + 2 → ¬ P a k) : WI g' w L := by
  obtain ⟨⟨h1, h2, h3, h4, h5⟩, h6, ⟨h7, h8, h9⟩, h10, h11⟩ := h
  have p0 := fun k => hp w k (by omega) (by omega)
  have p1 := fun k => hp (w + 1) k (by omega) (by omega)
  have p2 := fun k => hp (w + 2) k (by omega) (by omega)
  exact ⟨⟨by rw [ho.k]; exact h1, by rw [ho.p]; exact h2, by rw [ho.p]; exact h3, by rw [ho.k]; exact h4, by rw [ho.k]; exact h5⟩, h6, ⟨by rw [ho.i (p0 _)]; exact h7, by rw [ho.i (p0 _)]; exact h8, by rw [ho.i (p0 _)]; exact h9⟩, fun i x hi => by rw [ho.i (p1 _)]; exact h10 i x hi, fun j i hj => by rw [ho.i (p2 _)]; exact h11 j i hj⟩
theorem w_clear {g : jH} {w : Nat} {L : List Int32} (h : WI g w L) : ∃ g', jV 58 0 [some (.ref w)] [] g = some (none, g') ∧ WI g' w [] ∧ Off (wP w) g g' := by
  obtain ⟨⟨h1, h2, h3, h4, h5⟩, h6, ⟨h7, h8, h9⟩, h10, h11⟩ := h
  refine ⟨jsi (jsi (jsi g w 2 0) w 3 0) w 4 0, ?_, ⟨⟨?_, ?_, ?_, ?_, ?_⟩, by simp, ⟨?_, ?_, ?_⟩, fun i x hi => (by simp at hi), fun j i hj => (by simp [cmds] at hj)⟩, ?_⟩
  · simp only [s58_0, s58_1, s58_2, s58_5, s58_6, s58_7, s58_10, s58_11, s58_12, s58_15, h1, ↓reduceIte, va_rf_s, va_rf_n, jb_some, jb_none, jtl_s, jtl_n, if_true, if_false, true_and, and_true, false_and, and_false, or_true, true_or, or_false, false_or, not_true_eq_false, not_false_eq_true, jk_si, jp_si, jj_si, jk_sj, jp_sj, ji_sj, jk_ci, jp_ci, jj_ci, jk_cj, jp_cj, ji_cj, jlng_n, jlng_i, jlng_r, jlng_0]
  · simp only [↓reduceIte, va_rf_s, va_rf_n, jb_some, jb_none, jtl_s, jtl_n, if_true, if_false, true_and, and_true, false_and, and_false, or_true, true_or, or_false, false_or, not_true_eq_false, not_false_eq_true, jk_si, jp_si, jj_si, jk_sj, jp_sj, ji_sj, jk_ci, jp_ci, jj_ci, jk_cj, jp_cj, ji_cj, jlng_n, jlng_i, jlng_r, jlng_0]; exact h1
  · simp only [↓reduceIte, va_rf_s, va_rf_n, jb_some, jb_none, jtl_s, jtl_n, if_true, if_false, true_and, and_true, false_and, and_false, or_true, true_or, or_false, false_or, not_true_eq_false, not_false_eq_true, jk_si, jp_si, jj_si, jk_sj, jp_sj, ji_sj, jk_ci, jp_ci, jj_ci, jk_cj, jp_cj, ji_cj, jlng_n, jlng_i, jlng_r, jlng_0]; exact h2
  · simp only [↓reduceIte, va_rf_s, va_rf_n, jb_some, jb_none, jtl_s, jtl_n, if_true, if_false, true_and, and_true, false_and, and_false, or_true, true_or, or_false, false_or, not_true_eq_false, not_false_eq_true, jk_si, jp_si, jj_si, jk_sj, jp_sj, ji_sj, jk_ci, jp_ci, jj_ci, jk_cj, jp_cj, ji_cj, jlng_n, jlng_i, jlng_r, jlng_0]; exact h3
  · simp only [↓reduceIte, va_rf_s, va_rf_n, jb_some, jb_none, jtl_s, jtl_n, if_true, if_false, true_and, and_true, false_and, and_false, or_true, true_or, or_false, false_or, not_true_eq_false, not_false_eq_true, jk_si, jp_si, jj_si, jk_sj, jp_sj, ji_sj, jk_ci, jp_ci, jj_ci, jk_cj, jp_cj, ji_cj, jlng_n, jlng_i, jlng_r, jlng_0]; exact h4
  · simp only [↓reduceIte, va_rf_s, va_rf_n, jb_some, jb_none, jtl_s, jtl_n, if_true, if_false, true_and, and_true, false_and, and_false, or_true, true_or, or_false, false_or, not_true_eq_false, not_false_eq_true, jk_si, jp_si, jj_si, jk_sj, jp_sj, ji_sj, jk_ci, jp_ci, jj_ci, jk_cj, jp_cj, ji_cj, jlng_n, jlng_i, jlng_r, jlng_0]; exact h5
  · simp [ji_si, nI]
  · simp [ji_si, nI, cmds]
  · simp [ji_si, nI, dtl]
  · exact ((Off.si ⟨by omega, by omega⟩).trans (Off.si ⟨by omega, by omega⟩)).trans (Off.si ⟨by omega, by omega⟩)

theorem nI_lt33 {n : Nat} (h : n < 33) : nI n < nI 33 := nI_lt h (by omega)
theorem nI_ge33 {n : Nat} (h : 33 ≤ n) (hn : n < 2 ^ 31) : ¬ nI n < nI 33 := nI_nlt h hn
theorem WI.snoc {g g' : jH} {w : Nat} {L : List Int32} {x : Int32} (h : WI g w L) (hl : L.length < 33) (hk : ∀ a, jk g' a = jk g a) (hp : ∀ a k, jp g' a k = jp g a k) (e2 : ji g' w 2 = nI L.length + 1) (e3 : ji g' w 3 = nI (cmds (L ++ [x])).length) (e4 : ji g' w 4 = nI (dtl (L ++ [x]))) (e5 : ∀ i, ji g' (w + 1) i = if i = L.length then x else ji g (w + 1) i) (e6 : ∀ j, ji g' (w + 2) j = if isC x ∧ j = (cmds L).length then nI L.length else ji g (w + 2) j) : WI g' w (L ++ [x]) := by
  obtain ⟨⟨h1, h2, h3, h4, h5⟩, h6, ⟨h7, h8, h9⟩, h10, h11⟩ := h
  refine ⟨⟨by rw [hk]; exact h1, by rw [hp]; exact h2, by rw [hp]; exact h3, by rw [hk]; exact h4, by rw [hk]; exact h5⟩, by simp; omega, ⟨by rw [e2, nI_1]; simp, e3, e4⟩, fun i y hi => ?_, fun j i hj => ?_⟩
  · rw [e5]
    by_cases e : i = L.length
    · subst e
      rw [List.getElem?_append_right (Nat.le_refl _), Nat.sub_self] at hi
      rw [if_pos rfl]
      exact Option.some.inj hi
    · have hlt : i < L.length := by
        have := (List.getElem?_eq_some_iff.mp hi).1
        simp at this
        omega
      rw [List.getElem?_append_left hlt] at hi
      rw [if_neg e]
      exact h10 i y hi
  · rw [e6]
    rw [cmds_snoc] at hj
    by_cases hC : isC x
    · rw [if_pos hC] at hj
      by_cases e : j = (cmds L).length
      · subst e
        rw [List.getElem?_append_right (Nat.le_refl _), Nat.sub_self] at hj
        rw [if_pos ⟨hC, rfl⟩]
        have : L.length = i := Option.some.inj hj
        rw [this]
      · have hlt : j < (cmds L).length := by
          have := (List.getElem?_eq_some_iff.mp hj).1
          simp at this
          omega
        rw [List.getElem?_append_left hlt] at hj
        rw [if_neg (fun q => e q.2)]
        exact h11 j i hj
    · rw [if_neg hC] at hj
      rw [if_neg (fun q => hC q.1)]
      exact h11 j i hj
theorem w_add {g : jH} {w : Nat} {L : List Int32} (h : WI g w L) (hl : L.length < 33) (x : Int32) : ∃ g', jV 59 0 [some (.ref w), some (.int x)] [] g = some (none, g') ∧ WI g' w (L ++ [x]) ∧ Off (wP w) g g' := by
  obtain ⟨⟨h1, h2, h3, h4, h5⟩, h6, ⟨h7, h8, h9⟩, h10, h11⟩ := id h
  have hc := cmds_len L
  have hd := dtl_le L
  have a1 : ¬ nI L.length < 0 := nI_pos (by omega)
  have a2 := nI_lt33 hl
  have a3 : ¬ nI (cmds L).length < 0 := nI_pos (by omega)
  have a4 := nI_lt33 (Nat.lt_of_le_of_lt hc hl)
  have a5 : jin (nI L.length) 33 = true := jin_nI hl (by omega)
  have a6 : jin (nI (cmds L).length) 33 = true := jin_nI (by omega) (by omega)
  have a7 : (nI L.length).toNatClampNeg = L.length := nI_clamp (by omega)
  have a8 : (nI (cmds L).length).toNatClampNeg = (cmds L).length := nI_clamp (by omega)
  by_cases c1 : x < 65536
  · have hC : ¬ isC x := fun q => q c1
    by_cases c2 : x < 0
    · have hD : ¬ isD x := fun q => q.1 c2
      refine ⟨jsi (jsi (jsi g (w + 1) L.length x) w 4 0) w 2 (nI L.length + 1), ?_, h.snoc hl (fun a => ?_) (fun a k => ?_) ?_ ?_ ?_ (fun i => ?_) (fun j => ?_), ?_⟩
      · simp only [s59_0, s59_1, s59_4, s59_7, s59_8, s59_11, s59_12, s59_15, s59_16, s59_19, s59_20, s59_23, s59_26, s59_27, s59_30, s59_31, s59_34, s59_35, s59_38, s59_39, s59_40, s59_43, s59_44, s59_47, s59_48, s59_49, s59_50, s59_52, s59_55, s59_56, s59_59, s59_60, s59_63, s59_64, s59_67, s59_68, s59_69, s59_70, s59_73, s59_74, s59_75, s59_78, s59_79, s59_80, s59_83, s59_84, s59_86, s59_89, s59_90, s59_93, s59_94, s59_95, s59_98, s59_99, s59_102, s59_103, s59_104, s59_107, s59_108, s59_109, s59_112, h1, h2, h3, h4, h5, h7, h8, h9, a1, a2, a3, a4, a5, a6, a7, a8, c1, c2, ji_si, ↓reduceIte, va_rf_s, va_rf_n, jb_some, jb_none, jtl_s, jtl_n, if_true, if_false, true_and, and_true, false_and, and_false, or_true, true_or, or_false, false_or, not_true_eq_false, not_false_eq_true, jk_si, jp_si, jj_si, jk_sj, jp_sj, ji_sj, jk_ci, jp_ci, jj_ci, jk_cj, jp_cj, ji_cj, jlng_n, jlng_i, jlng_r, jlng_0]
        simp
      · simp only [↓reduceIte, va_rf_s, va_rf_n, jb_some, jb_none, jtl_s, jtl_n, if_true, if_false, true_and, and_true, false_and, and_false, or_true, true_or, or_false, false_or, not_true_eq_false, not_false_eq_true, jk_si, jp_si, jj_si, jk_sj, jp_sj, ji_sj, jk_ci, jp_ci, jj_ci, jk_cj, jp_cj, ji_cj, jlng_n, jlng_i, jlng_r, jlng_0]
      · simp only [↓reduceIte, va_rf_s, va_rf_n, jb_some, jb_none, jtl_s, jtl_n, if_true, if_false, true_and, and_true, false_and, and_false, or_true, true_or, or_false, false_or, not_true_eq_false, not_false_eq_true, jk_si, jp_si, jj_si, jk_sj, jp_sj, ji_sj, jk_ci, jp_ci, jj_ci, jk_cj, jp_cj, ji_cj, jlng_n, jlng_i, jlng_r, jlng_0]
      · simp [ji_si]
      · rw [cmds_snoc, if_neg hC]; simp [ji_si, h8]
      · rw [dtl_snoc, if_neg hD]; simp [ji_si, nI]
      · simp [ji_si]
      · rw [if_neg (fun q => hC q.1)]; simp [ji_si]
      · exact ((Off.si ⟨by omega, by omega⟩).trans (Off.si ⟨by omega, by omega⟩)).trans (Off.si ⟨by omega, by omega⟩)
    · have hD : isD x := ⟨c2, c1⟩
      refine ⟨jsi (jsi (jsi g (w + 1) L.length x) w 4 (nI (dtl L) + 1)) w 2 (nI L.length + 1), ?_, h.snoc hl (fun a => ?_) (fun a k => ?_) ?_ ?_ ?_ (fun i => ?_) (fun j => ?_), ?_⟩
      · simp only [s59_0, s59_1, s59_4, s59_7, s59_8, s59_11, s59_12, s59_15, s59_16, s59_19, s59_20, s59_23, s59_26, s59_27, s59_30, s59_31, s59_34, s59_35, s59_38, s59_39, s59_40, s59_43, s59_44, s59_47, s59_48, s59_49, s59_50, s59_52, s59_55, s59_56, s59_59, s59_60, s59_63, s59_64, s59_67, s59_68, s59_69, s59_70, s59_73, s59_74, s59_75, s59_78, s59_79, s59_80, s59_83, s59_84, s59_86, s59_89, s59_90, s59_93, s59_94, s59_95, s59_98, s59_99, s59_102, s59_103, s59_104, s59_107, s59_108, s59_109, s59_112, h1, h2, h3, h4, h5, h7, h8, h9, a1, a2, a3, a4, a5, a6, a7, a8, c1, c2, ji_si, ↓reduceIte, va_rf_s, va_rf_n, jb_some, jb_none, jtl_s, jtl_n, if_true, if_false, true_and, and_true, false_and, and_false, or_true, true_or, or_false, false_or, not_true_eq_false, not_false_eq_true, jk_si, jp_si, jj_si, jk_sj, jp_sj, ji_sj, jk_ci, jp_ci, jj_ci, jk_cj, jp_cj, ji_cj, jlng_n, jlng_i, jlng_r, jlng_0]
        simp [h9]
      · simp only [↓reduceIte, va_rf_s, va_rf_n, jb_some, jb_none, jtl_s, jtl_n, if_true, if_false, true_and, and_true, false_and, and_false, or_true, true_or, or_false, false_or, not_true_eq_false, not_false_eq_true, jk_si, jp_si, jj_si, jk_sj, jp_sj, ji_sj, jk_ci, jp_ci, jj_ci, jk_cj, jp_cj, ji_cj, jlng_n, jlng_i, jlng_r, jlng_0]
      · simp only [↓reduceIte, va_rf_s, va_rf_n, jb_some, jb_none, jtl_s, jtl_n, if_true, if_false, true_and, and_true, false_and, and_false, or_true, true_or, or_false, false_or, not_true_eq_false, not_false_eq_true, jk_si, jp_si, jj_si, jk_sj, jp_sj, ji_sj, jk_ci, jp_ci, jj_ci, jk_cj, jp_cj, ji_cj, jlng_n, jlng_i, jlng_r, jlng_0]
      · simp [ji_si]
      · rw [cmds_snoc, if_neg hC]; simp [ji_si, h8]
      · rw [dtl_snoc, if_pos hD]; simp [ji_si, nI_1]
      · simp [ji_si]
      · rw [if_neg (fun q => hC q.1)]; simp [ji_si]
      · exact ((Off.si ⟨by omega, by omega⟩).trans (Off.si ⟨by omega, by omega⟩)).trans (Off.si ⟨by omega, by omega⟩)
  · have hC : isC x := c1
    have c2 : ¬ x < 0 := fun q => c1 (Int32.lt_trans q (by decide))
    have hD : ¬ isD x := fun q => c1 q.2
    refine ⟨jsi (jsi (jsi (jsi (jsi g (w + 1) L.length x) (w + 2) (cmds L).length (nI L.length)) w 3 (nI (cmds L).length + 1)) w 4 0) w 2 (nI L.length + 1), ?_, h.snoc hl (fun a => ?_) (fun a k => ?_) ?_ ?_ ?_ (fun i => ?_) (fun j => ?_), ?_⟩
    · simp only [s59_0, s59_1, s59_4, s59_7, s59_8, s59_11, s59_12, s59_15, s59_16, s59_19, s59_20, s59_23, s59_26, s59_27, s59_30, s59_31, s59_34, s59_35, s59_38, s59_39, s59_40, s59_43, s59_44, s59_47, s59_48, s59_49, s59_50, s59_52, s59_55, s59_56, s59_59, s59_60, s59_63, s59_64, s59_67, s59_68, s59_69, s59_70, s59_73, s59_74, s59_75, s59_78, s59_79, s59_80, s59_83, s59_84, s59_86, s59_89, s59_90, s59_93, s59_94, s59_95, s59_98, s59_99, s59_102, s59_103, s59_104, s59_107, s59_108, s59_109, s59_112, h1, h2, h3, h4, h5, h7, h8, h9, a1, a2, a3, a4, a5, a6, a7, a8, c1, c2, ji_si, ↓reduceIte, va_rf_s, va_rf_n, jb_some, jb_none, jtl_s, jtl_n, if_true, if_false, true_and, and_true, false_and, and_false, or_true, true_or, or_false, false_or, not_true_eq_false, not_false_eq_true, jk_si, jp_si, jj_si, jk_sj, jp_sj, ji_sj, jk_ci, jp_ci, jj_ci, jk_cj, jp_cj, ji_cj, jlng_n, jlng_i, jlng_r, jlng_0]
      simp [h7, h8, a6, a8]
    · simp only [↓reduceIte, va_rf_s, va_rf_n, jb_some, jb_none, jtl_s, jtl_n, if_true, if_false, true_and, and_true, false_and, and_false, or_true, true_or, or_false, false_or, not_true_eq_false, not_false_eq_true, jk_si, jp_si, jj_si, jk_sj, jp_sj, ji_sj, jk_ci, jp_ci, jj_ci, jk_cj, jp_cj, ji_cj, jlng_n, jlng_i, jlng_r, jlng_0]
    · simp only [↓reduceIte, va_rf_s, va_rf_n, jb_some, jb_none, jtl_s, jtl_n, if_true, if_false, true_and, and_true, false_and, and_false, or_true, true_or, or_false, false_or, not_true_eq_false, not_false_eq_true, jk_si, jp_si, jj_si, jk_sj, jp_sj, ji_sj, jk_ci, jp_ci, jj_ci, jk_cj, jp_cj, ji_cj, jlng_n, jlng_i, jlng_r, jlng_0]
    · simp [ji_si]
    · rw [cmds_snoc, if_pos hC]; simp [ji_si, nI_1]
    · rw [dtl_snoc, if_neg hD]; simp [ji_si, nI]
    · simp [ji_si]
    · by_cases e : j = (cmds L).length
      · rw [if_pos ⟨hC, e⟩]; simp [ji_si, e]
      · rw [if_neg (fun q => e q.2)]; simp [ji_si, e]
    · exact ((((Off.si ⟨by omega, by omega⟩).trans (Off.si ⟨by omega, by omega⟩)).trans (Off.si ⟨by omega, by omega⟩)).trans (Off.si ⟨by omega, by omega⟩)).trans (Off.si ⟨by omega, by omega⟩)
theorem WI.len {g : jH} {w : Nat} {L : List Int32} (h : WI g w L) : ji g w 2 = nI L.length ∧ L.length ≤ 33 ∧ jk g w = (7, 0) := ⟨h.2.2.1.1, h.2.1, h.1.1⟩
theorem w_at {g : jH} {w : Nat} {L : List Int32} (h : WI g w L) {i : Nat} (hi : i < 2 ^ 31) : jV 60 0 [some (.ref w), some (.int (nI i))] [] g = some (some (.int (L.getD i (-1))), g) := by
  obtain ⟨⟨h1, h2, h3, h4, h5⟩, h6, ⟨h7, h8, h9⟩, h10, h11⟩ := id h
  have a1 : ¬ nI i < 0 := nI_pos hi
  have a7 : (nI i).toNatClampNeg = i := nI_clamp hi
  by_cases c : i < L.length
  · have a2 : nI i < nI L.length := nI_lt c (by omega)
    have a3 : nI i < nI 33 := nI_lt (by omega) (by omega)
    have a4 : jin (nI i) 33 = true := jin_nI (by omega) (by omega)
    have e := h10 i L[i] (List.getElem?_eq_getElem c)
    simp only [s60_0, s60_1, s60_4, s60_5, s60_6, s60_9, s60_12, s60_13, s60_14, s60_17, s60_18, s60_21, s60_22, s60_25, s60_26, s60_27, s60_30, s60_31, h1, h2, h4, h7, a1, a2, a3, a4, a7, e, ↓reduceIte, va_rf_s, va_rf_n, jb_some, jb_none, jtl_s, jtl_n, if_true, if_false, true_and, and_true, false_and, and_false, or_true, true_or, or_false, false_or, not_true_eq_false, not_false_eq_true, jk_si, jp_si, jj_si, jk_sj, jp_sj, ji_sj, jk_ci, jp_ci, jj_ci, jk_cj, jp_cj, ji_cj, jlng_n, jlng_i, jlng_r, jlng_0]
    rw [List.getD_eq_getElem?_getD, List.getElem?_eq_getElem c, Option.getD_some]
    simp
  · have a2 : ¬ nI i < nI L.length := nI_nlt (by omega) hi
    simp only [s60_0, s60_1, s60_4, s60_5, s60_6, s60_9, s60_12, s60_13, s60_14, s60_17, s60_18, s60_21, s60_22, s60_25, s60_26, s60_27, s60_30, s60_31, h1, h2, h4, h7, a1, a2, ↓reduceIte, va_rf_s, va_rf_n, jb_some, jb_none, jtl_s, jtl_n, if_true, if_false, true_and, and_true, false_and, and_false, or_true, true_or, or_false, false_or, not_true_eq_false, not_false_eq_true, jk_si, jp_si, jj_si, jk_sj, jp_sj, ji_sj, jk_ci, jp_ci, jj_ci, jk_cj, jp_cj, ji_cj, jlng_n, jlng_i, jlng_r, jlng_0]
    rw [List.getD_eq_getElem?_getD, List.getElem?_eq_none (by omega), Option.getD_none]
theorem w_isCommand {g : jH} {w : Nat} {L : List Int32} (h : WI g w L) {i : Nat} (hi : i < 2 ^ 31) : jV 61 0 [some (.ref w), some (.int (nI i))] [] g = some (some (.int (jB (isC (L.getD i (-1))))), g) := by
  by_cases c : L.getD i (-1) < 65536
  · rw [jB_f (fun q => q c)]
    simp only [s61_0, s61_1, s61_2, s61_5, s61_7, s61_10, s61_11, s61_14, s61_15, h.1.1, w_at h hi, c, ↓reduceIte, va_rf_s, va_rf_n, jb_some, jb_none, jtl_s, jtl_n, if_true, if_false, true_and, and_true, false_and, and_false, or_true, true_or, or_false, false_or, not_true_eq_false, not_false_eq_true, jk_si, jp_si, jj_si, jk_sj, jp_sj, ji_sj, jk_ci, jp_ci, jj_ci, jk_cj, jp_cj, ji_cj, jlng_n, jlng_i, jlng_r, jlng_0]
    try rfl
  · rw [jB_t c]
    simp only [s61_0, s61_1, s61_2, s61_5, s61_7, s61_10, s61_11, s61_14, s61_15, h.1.1, w_at h hi, c, ↓reduceIte, va_rf_s, va_rf_n, jb_some, jb_none, jtl_s, jtl_n, if_true, if_false, true_and, and_true, false_and, and_false, or_true, true_or, or_false, false_or, not_true_eq_false, not_false_eq_true, jk_si, jp_si, jj_si, jk_sj, jp_sj, ji_sj, jk_ci, jp_ci, jj_ci, jk_cj, jp_cj, ji_cj, jlng_n, jlng_i, jlng_r, jlng_0]
    try rfl
theorem w_bitsAt {g : jH} {w : Nat} {L : List Int32} (h : WI g w L) {i : Nat} (hi : i < 2 ^ 31) : jV 62 0 [some (.ref w), some (.int (nI i))] [] g = some (some (.int (L.getD i (-1) &&& 65535)), g) := by
  simp only [s62_0, s62_1, s62_2, s62_5, s62_7, s62_8, h.1.1, w_at h hi, ↓reduceIte, va_rf_s, va_rf_n, jb_some, jb_none, jtl_s, jtl_n, if_true, if_false, true_and, and_true, false_and, and_false, or_true, true_or, or_false, false_or, not_true_eq_false, not_false_eq_true, jk_si, jp_si, jj_si, jk_sj, jp_sj, ji_sj, jk_ci, jp_ci, jj_ci, jk_cj, jp_cj, ji_cj, jlng_n, jlng_i, jlng_r, jlng_0]

/-- the address in a heard word; a command to a or to all -/
abbrev adr (x : Int32) : Int32 := ((x &&& 65535) >>> ((11 : Int32) &&& 31)) &&& 31
abbrev isA (a x : Int32) : Prop := isC x ∧ (adr x = a ∨ adr x = 31)
/-- r is where the last command to a stands in L, or -1 -/
def LC (a : Int32) (L : List Int32) (r : Int32) : Prop :=
  (r = -1 ∧ ∀ (i : Nat) (x : Int32), L[i]? = some x → ¬ isA a x) ∨ ∃ (i : Nat) (x : Int32), r = nI i ∧ L[i]? = some x ∧ isA a x ∧ ∀ (j : Nat) (y : Int32), i < j → L[j]? = some y → ¬ isA a y
theorem cmds_mem {L : List Int32} {i : Nat} : i ∈ cmds L ↔ ∃ x, L[i]? = some x ∧ isC x := by
  unfold cmds
  constructor
  · intro h
    obtain ⟨h1, h2⟩ := List.mem_filter.mp h
    have h3 := List.mem_range.mp h1
    refine ⟨L[i], List.getElem?_eq_getElem h3, ?_⟩
    have := of_decide_eq_true h2
    rwa [List.getD_eq_getElem?_getD, List.getElem?_eq_getElem h3, Option.getD_some] at this
  · rintro ⟨x, h1, h2⟩
    have h3 := (List.getElem?_eq_some_iff.mp h1).1
    refine List.mem_filter.mpr ⟨List.mem_range.mpr h3, decide_eq_true ?_⟩
    rw [List.getD_eq_getElem?_getD, h1, Option.getD_some]
    exact h2
theorem cmds_up {L : List Int32} {j k i l : Nat} (h : j < k) (hj : (cmds L)[j]? = some i) (hk : (cmds L)[k]? = some l) : i < l := by
  have hp : (cmds L).Pairwise (· < ·) := List.Pairwise.filter _ List.pairwise_lt_range
  have h1 := (List.getElem?_eq_some_iff.mp hj)
  have h2 := (List.getElem?_eq_some_iff.mp hk)
  obtain ⟨a1, a2⟩ := h1
  obtain ⟨b1, b2⟩ := h2
  have := (List.pairwise_iff_getElem.mp hp) j k a1 b1 h
  rw [a2, b2] at this
  exact this
theorem w_last_loop {g : jH} {w : Nat} {L : List Int32} (h : WI g w L) (a : Int32) : ∀ (k : Nat) (l3 : Option Value), k ≤ (cmds L).length → (∀ (j i : Nat) (x : Int32), k ≤ j → (cmds L)[j]? = some i → L[i]? = some x → ¬ isA a x) → ∃ r, jV 63 15 [some (.ref w), some (.int a), some (.int (nI k - 1)), l3] [] g = some (some (.int r), g) ∧ LC a L r
  | 0, l3, hk, hn => by
    refine ⟨-1, ?_, Or.inl ⟨rfl, fun i x hi hA => ?_⟩⟩
    · have a1 : nI 0 - 1 < 0 := by decide
      simp only [s63_15, s63_16, s63_19, s63_20, s63_21, s63_24, s63_25, s63_26, s63_29, s63_32, s63_33, s63_34, s63_35, s63_38, s63_39, s63_41, s63_44, s63_45, s63_48, s63_49, s63_50, s63_51, s63_54, s63_57, s63_58, a1, ↓reduceIte, va_rf_s, va_rf_n, jb_some, jb_none, jtl_s, jtl_n, if_true, if_false, true_and, and_true, false_and, and_false, or_true, true_or, or_false, false_or, not_true_eq_false, not_false_eq_true, jk_si, jp_si, jj_si, jk_sj, jp_sj, ji_sj, jk_ci, jp_ci, jj_ci, jk_cj, jp_cj, ji_cj, jlng_n, jlng_i, jlng_r, jlng_0]
    · obtain ⟨j, hj⟩ := List.getElem?_of_mem (cmds_mem.mpr ⟨x, hi, hA.1⟩)
      exact hn j i x (Nat.zero_le _) hj hi hA
  | k + 1, l3, hk, hn => by
    obtain ⟨⟨h1, h2, h3, h4, h5⟩, h6, ⟨h7, h8, h9⟩, h10, h11⟩ := id h
    have hc := cmds_len L
    have hlt : k < (cmds L).length := by omega
    have hi := List.getElem?_eq_getElem hlt
    generalize (cmds L)[k] = i at hi
    have hiL := cmds_lt hi
    have e0 : nI (k + 1) - 1 = nI k := nI_pred k
    have a1 : ¬ nI k < 0 := nI_pos (by omega)
    have a4 : jin (nI k) 33 = true := jin_nI (by omega) (by omega)
    have a7 : (nI k).toNatClampNeg = k := nI_clamp (by omega)
    have e1 := h11 k i hi
    have hx := List.getElem?_eq_getElem hiL
    generalize L[i] = x at hx
    have e2 : L.getD i (-1) = x := by rw [List.getD_eq_getElem?_getD, hx, Option.getD_some]
    have hC : isC x := by
      obtain ⟨y, hy, hyc⟩ := cmds_mem.mp (List.mem_of_getElem? hi)
      rw [hx] at hy
      cases hy
      exact hyc
    have e3 := w_bitsAt h (i := i) (by omega)
    rw [e2] at e3
    rw [e0]
    by_cases c : adr x = a ∨ adr x = 31
    · refine ⟨nI i, ?_, Or.inr ⟨i, x, rfl, hx, ⟨hC, c⟩, fun j y hj hy hA => ?_⟩⟩
      · rcases c with c | c
        · have c' := c
          unfold adr at c'
          simp only [s63_15, s63_16, s63_19, s63_20, s63_21, s63_24, s63_25, s63_26, s63_29, s63_32, s63_33, s63_34, s63_35, s63_38, s63_39, s63_41, s63_44, s63_45, s63_48, s63_49, s63_50, s63_51, s63_54, s63_57, s63_58, a1, h1, h3, h5, a4, a7, e1, e3, c_addressOf, c', ↓reduceIte, va_rf_s, va_rf_n, jb_some, jb_none, jtl_s, jtl_n, if_true, if_false, true_and, and_true, false_and, and_false, or_true, true_or, or_false, false_or, not_true_eq_false, not_false_eq_true, jk_si, jp_si, jj_si, jk_sj, jp_sj, ji_sj, jk_ci, jp_ci, jj_ci, jk_cj, jp_cj, ji_cj, jlng_n, jlng_i, jlng_r, jlng_0]
        · by_cases c2 : adr x = a
          · have c' := c2
            unfold adr at c'
            simp only [s63_15, s63_16, s63_19, s63_20, s63_21, s63_24, s63_25, s63_26, s63_29, s63_32, s63_33, s63_34, s63_35, s63_38, s63_39, s63_41, s63_44, s63_45, s63_48, s63_49, s63_50, s63_51, s63_54, s63_57, s63_58, a1, h1, h3, h5, a4, a7, e1, e3, c_addressOf, c', ↓reduceIte, va_rf_s, va_rf_n, jb_some, jb_none, jtl_s, jtl_n, if_true, if_false, true_and, and_true, false_and, and_false, or_true, true_or, or_false, false_or, not_true_eq_false, not_false_eq_true, jk_si, jp_si, jj_si, jk_sj, jp_sj, ji_sj, jk_ci, jp_ci, jj_ci, jk_cj, jp_cj, ji_cj, jlng_n, jlng_i, jlng_r, jlng_0]
          · have c' := c
            unfold adr at c' c2
            simp only [s63_15, s63_16, s63_19, s63_20, s63_21, s63_24, s63_25, s63_26, s63_29, s63_32, s63_33, s63_34, s63_35, s63_38, s63_39, s63_41, s63_44, s63_45, s63_48, s63_49, s63_50, s63_51, s63_54, s63_57, s63_58, a1, h1, h3, h5, a4, a7, e1, e3, c_addressOf, c', ↓reduceIte, va_rf_s, va_rf_n, jb_some, jb_none, jtl_s, jtl_n, if_true, if_false, true_and, and_true, false_and, and_false, or_true, true_or, or_false, false_or, not_true_eq_false, not_false_eq_true, jk_si, jp_si, jj_si, jk_sj, jp_sj, ji_sj, jk_ci, jp_ci, jj_ci, jk_cj, jp_cj, ji_cj, jlng_n, jlng_i, jlng_r, jlng_0]
            rw [c'] at c2
            simp only [c2, ↓reduceIte, va_rf_s, va_rf_n, jb_some, jb_none, jtl_s, jtl_n, if_true, if_false, true_and, and_true, false_and, and_false, or_true, true_or, or_false, false_or, not_true_eq_false, not_false_eq_true, jk_si, jp_si, jj_si, jk_sj, jp_sj, ji_sj, jk_ci, jp_ci, jj_ci, jk_cj, jp_cj, ji_cj, jlng_n, jlng_i, jlng_r, jlng_0]
      · obtain ⟨j2, hj2⟩ := List.getElem?_of_mem (cmds_mem.mpr ⟨y, hy, hA.1⟩)
        have : k + 1 ≤ j2 := by
          rcases Nat.lt_or_ge k j2 with q | q
          · exact q
          · exfalso
            rcases Nat.lt_or_eq_of_le q with q | q
            · have := cmds_up q hj2 hi
              omega
            · subst q
              rw [hi] at hj2
              cases hj2
              omega
        exact hn j2 j y this hj2 hy hA
    · have c1 : ¬ adr x = a := fun q => c (Or.inl q)
      have c2 : ¬ adr x = 31 := fun q => c (Or.inr q)
      obtain ⟨r, hr, hL⟩ := w_last_loop h a k (some (.int (adr x))) (by omega) (fun j i2 x2 hj hi2 hx2 => by
        rcases Nat.lt_or_eq_of_le hj with q | q
        · exact hn j i2 x2 q hi2 hx2
        · subst q
          rw [hi] at hi2
          cases hi2
          rw [hx] at hx2
          cases hx2
          exact fun q => c q.2)
      refine ⟨r, ?_, hL⟩
      rw [← hr]
      unfold adr at c1 c2
      simp only [s63_16, s63_19, s63_20, s63_21, s63_24, s63_25, s63_26, s63_29, s63_32, s63_33, s63_34, s63_35, s63_38, s63_39, s63_41, s63_44, s63_45, s63_48, s63_49, s63_50, s63_51, s63_54, s63_57, s63_58, s63_15 (x := nI k), a1, h1, h3, h5, a4, a7, e1, e3, c_addressOf, c1, c2, nI_dec, ↓reduceIte, va_rf_s, va_rf_n, jb_some, jb_none, jtl_s, jtl_n, if_true, if_false, true_and, and_true, false_and, and_false, or_true, true_or, or_false, false_or, not_true_eq_false, not_false_eq_true, jk_si, jp_si, jj_si, jk_sj, jp_sj, ji_sj, jk_ci, jp_ci, jj_ci, jk_cj, jp_cj, ji_cj, jlng_n, jlng_i, jlng_r, jlng_0]
theorem w_last {g : jH} {w : Nat} {L : List Int32} (h : WI g w L) (a : Int32) : ∃ r, jV 63 0 [some (.ref w), some (.int a), none, none] [] g = some (some (.int r), g) ∧ LC a L r := by
  obtain ⟨⟨h1, h2, h3, h4, h5⟩, h6, ⟨h7, h8, h9⟩, h10, h11⟩ := id h
  have hc := cmds_len L
  obtain ⟨r, hr, hL⟩ := w_last_loop h a (cmds L).length none (Nat.le_refl _) (fun j i x hj hi _ => absurd (List.getElem?_eq_some_iff.mp hi).1 (by omega))
  refine ⟨r, ?_, hL⟩
  rw [← hr]
  have a1 : ¬ nI 33 < nI (cmds L).length := nI_nlt (by omega) (by omega)
  simp only [s63_0, s63_1, s63_4, s63_5, s63_8, s63_9, s63_12, s63_13, s63_14, h1, h3, h5, h8, a1, ↓reduceIte, va_rf_s, va_rf_n, jb_some, jb_none, jtl_s, jtl_n, if_true, if_false, true_and, and_true, false_and, and_false, or_true, true_or, or_false, false_or, not_true_eq_false, not_false_eq_true, jk_si, jp_si, jj_si, jk_sj, jp_sj, ji_sj, jk_ci, jp_ci, jj_ci, jk_cj, jp_cj, ji_cj, jlng_n, jlng_i, jlng_r, jlng_0]
  simp
theorem w_isJustData {g : jH} {w : Nat} {L : List Int32} (h : WI g w L) {f : Nat} (hf : f ≤ L.length) {n : Nat} (hn : n < 2 ^ 31) : jV 64 0 [some (.ref w), some (.int (nI f)), some (.int (nI n))] [] g = some (some (.int (jB (L.length - f = n ∧ n ≤ dtl L))), g) := by
  obtain ⟨⟨h1, h2, h3, h4, h5⟩, h6, ⟨h7, h8, h9⟩, h10, h11⟩ := id h
  have hd := dtl_le L
  have e1 : nI L.length - nI f = nI (L.length - f) := pk_sub hf
  have e2 : (nI (L.length - f) = nI n) ↔ L.length - f = n := nI_eq (by omega) hn
  have e3 : (nI (dtl L) < nI n) ↔ dtl L < n := nI_ltI (by omega) hn
  by_cases c1 : L.length - f = n
  · by_cases c2 : n ≤ dtl L
    · rw [jB_t ⟨c1, c2⟩]
      simp only [s64_0, s64_1, s64_4, s64_5, s64_6, s64_7, s64_10, s64_11, s64_14, s64_15, s64_18, s64_19, s64_22, s64_23, h1, h7, h9, e1, e2, e3, c1, Nat.not_lt.mpr c2, ↓reduceIte, va_rf_s, va_rf_n, jb_some, jb_none, jtl_s, jtl_n, if_true, if_false, true_and, and_true, false_and, and_false, or_true, true_or, or_false, false_or, not_true_eq_false, not_false_eq_true, jk_si, jp_si, jj_si, jk_sj, jp_sj, ji_sj, jk_ci, jp_ci, jj_ci, jk_cj, jp_cj, ji_cj, jlng_n, jlng_i, jlng_r, jlng_0]
      try rfl
    · rw [jB_f (fun q => c2 q.2)]
      simp only [s64_0, s64_1, s64_4, s64_5, s64_6, s64_7, s64_10, s64_11, s64_14, s64_15, s64_18, s64_19, s64_22, s64_23, h1, h7, h9, e1, e2, e3, c1, Nat.not_le.mp c2, ↓reduceIte, va_rf_s, va_rf_n, jb_some, jb_none, jtl_s, jtl_n, if_true, if_false, true_and, and_true, false_and, and_false, or_true, true_or, or_false, false_or, not_true_eq_false, not_false_eq_true, jk_si, jp_si, jj_si, jk_sj, jp_sj, ji_sj, jk_ci, jp_ci, jj_ci, jk_cj, jp_cj, ji_cj, jlng_n, jlng_i, jlng_r, jlng_0]
      try rfl
  · rw [jB_f (fun q => c1 q.1)]
    simp only [s64_0, s64_1, s64_4, s64_5, s64_6, s64_7, s64_10, s64_11, s64_14, s64_15, s64_18, s64_19, s64_22, s64_23, h1, h7, h9, e1, e2, e3, c1, ↓reduceIte, va_rf_s, va_rf_n, jb_some, jb_none, jtl_s, jtl_n, if_true, if_false, true_and, and_true, false_and, and_false, or_true, true_or, or_false, false_or, not_true_eq_false, not_false_eq_true, jk_si, jp_si, jj_si, jk_sj, jp_sj, ji_sj, jk_ci, jp_ci, jj_ci, jk_cj, jp_cj, ji_cj, jlng_n, jlng_i, jlng_r, jlng_0]
    try rfl
