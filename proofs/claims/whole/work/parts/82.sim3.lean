/-! SIMULATION 3: the methods' words; the step; calls; the run -/
def jws (y : Nat) : List Cond := .code (jm_name y) (jm_code y) (jm_max y) (jm_ret y) :: jw
set_option maxRecDepth 100000 in
theorem jm_codes : (jmL.take jmNL).map (fun e => Cond.code e.1 e.2.1 e.2.2.1 e.2.2.2.1) = jmC.filterMap (fun i => lw_tbl[i]?) := rfl
theorem jm_len : jmL.length = jmNL + 1 := by decide +kernel
theorem jm_in {y : Nat} (hy : y < jmNL) : jm y ∈ jmL.take jmNL := by
  have h1 : y < jmL.length := by rw [jm_len]; omega
  unfold jm
  rw [List.getD_eq_getElem?_getD, List.getElem?_eq_getElem h1, Option.getD_some]
  exact List.mem_take_iff_getElem.mpr ⟨y, by omega, rfl⟩
theorem jm_code_in {y : Nat} (hy : y < jmNL) : Cond.code (jm_name y) (jm_code y) (jm_max y) (jm_ret y) ∈ jw := by
  have h1 : Cond.code (jm_name y) (jm_code y) (jm_max y) (jm_ret y) ∈ (jmL.take jmNL).map (fun e => Cond.code e.1 e.2.1 e.2.2.1 e.2.2.2.1) := List.mem_map.mpr ⟨jm y, jm_in hy, rfl⟩
  rw [jm_codes] at h1
  obtain ⟨i, -, hi⟩ := List.mem_filterMap.mp h1
  exact jw_mem hi rfl
theorem j_good {y : Nat} (hy : y < jmNL) : GoodIn jw (jws y) := by
  intro w hw
  rcases List.mem_cons.mp hw with rfl | hw
  · exact ⟨jm_code_in hy, Or.inl rfl⟩
  · exact ⟨hw, good_of_word (List.mem_filter.mp hw).2⟩
/-- each method's words -/
theorem jm_ok0 : ((List.range jmNL).all fun y => match jmP[y]? with
  | some (a, b, c, true) => (decide (lw_tbl[a]? = some (.static (jm_name y))) && goodWord (.static (jm_name y))) && (decide (lw_tbl[c]? = some (.initialized (jm_name y).cls)) && goodWord (.initialized (jm_name y).cls)) && decide (b = 0)
  | some (a, b, c, false) => (decide (lw_tbl[a]? = some (.instanceMethod (jm_name y))) && goodWord (.instanceMethod (jm_name y))) && (decide (lw_tbl[c]? = some (.initialized (jm_name y).cls)) && goodWord (.initialized (jm_name y).cls)) && (jm_ini y || (decide (lw_tbl[b]? = some (.selects (jm_name y).cls (jm_name y) (jm_name y))) && goodWord (.selects (jm_name y).cls (jm_name y) (jm_name y))))
  | none => false) = true := by decide +kernel
theorem jm_ok1 : ((List.range jmNL).all fun y => plainName (jm_name y).cls && (decide ((jm_name y).cls ≠ "java/lang/invoke/MethodHandle") && (decide ((jm_name y).cls ≠ "java/lang/invoke/VarHandle") && (decide ((parseMethodDescriptor (jm_name y).desc).map (fun d => d.parameters.length) = some (jm_na y)) && (decide (jcn (jm_cn y) = (jm_name y).cls) && (decide (jm_max y ≤ 31) && ((!jm_ini y || (decide ((jm_name y).name = "<init>") && (decide (jcn (jm_cn y) = jcR (jm_ci y)) && decide (jm_ret y = none)))) && decide (jm_fr y ≤ 12)))))))) = true := by decide +kernel
theorem jm_ok {y : Nat} (hy : y < jmNL) : plainName (jm_name y).cls = true ∧ ((jm_name y).cls ≠ "java/lang/invoke/MethodHandle" ∧ (jm_name y).cls ≠ "java/lang/invoke/VarHandle" ∧ (parseMethodDescriptor (jm_name y).desc).map (fun d => d.parameters.length) = some (jm_na y)) ∧ jcn (jm_cn y) = (jm_name y).cls ∧ jm_max y ≤ 31 ∧ (jm_ini y = true → (jm_name y).name = "<init>" ∧ jcn (jm_cn y) = jcR (jm_ci y) ∧ jm_ret y = none) := by
  have h1 := List.all_eq_true.mp jm_ok1 y (List.mem_range.mpr hy)
  simp only [Bool.and_eq_true, Bool.or_eq_true, decide_eq_true_eq, Bool.not_eq_true'] at h1
  obtain ⟨h1, h2, h3, h4, h5, h6, h7, h8⟩ := h1
  refine ⟨h1, ⟨h2, h3, h4⟩, h5, h6, fun hi => ?_⟩
  rcases h7 with h7 | h7
  · rw [hi] at h7; cases h7
  · exact h7
theorem jm_stat {y : Nat} (hy : y < jmNL) (hs : (jmP.getD y (0, 0, 0, false)).2.2.2 = true) : Cond.static (jm_name y) ∈ jw ∧ Cond.initialized (jm_name y).cls ∈ jw := by
  have h1 := List.all_eq_true.mp jm_ok0 y (List.mem_range.mpr hy)
  rw [List.getD_eq_getElem?_getD] at hs
  cases hp : jmP[y]? with
  | none => rw [hp] at h1; cases h1
  | some q =>
    obtain ⟨a, b, c, t⟩ := q
    rw [hp] at h1 hs
    cases t with
    | false => cases hs
    | true =>
      simp only [Bool.and_eq_true, decide_eq_true_eq] at h1
      exact ⟨jw_mem h1.1.1.1 h1.1.1.2, jw_mem h1.1.2.1 h1.1.2.2⟩
theorem jm_inst {y : Nat} (hy : y < jmNL) (hs : (jmP.getD y (0, 0, 0, true)).2.2.2 = false) : Cond.instanceMethod (jm_name y) ∈ jw ∧ Cond.initialized (jm_name y).cls ∈ jw ∧ (jm_ini y = false → Cond.selects (jm_name y).cls (jm_name y) (jm_name y) ∈ jw) := by
  have h1 := List.all_eq_true.mp jm_ok0 y (List.mem_range.mpr hy)
  rw [List.getD_eq_getElem?_getD] at hs
  cases hp : jmP[y]? with
  | none => rw [hp] at h1; cases h1
  | some q =>
    obtain ⟨a, b, c, t⟩ := q
    rw [hp] at h1 hs
    cases t with
    | true => cases hs
    | false =>
      simp only [Bool.and_eq_true, Bool.or_eq_true, decide_eq_true_eq] at h1
      refine ⟨jw_mem h1.1.1.1 h1.1.1.2, jw_mem h1.1.2.1 h1.1.2.2, fun hi => ?_⟩
      rcases h1.2 with h2 | h2
      · rw [hi] at h2; cases h2
      · exact jw_mem h2.1 h2.2
def jmw (w i kind cal : Nat) : Cond := match kind with
  | 0 => .methodLink (jcn w) i (jm_name cal)
  | 2 => .methodLink (jcn w) i (jm_name cal)
  | 4 => .methodLink (jcn w) i (jm_name cal)
  | 6 => .methodLink (jcn w) i objectInit
  | 7 => .methodLink (jcn w) i Lib.Math.max.name
  | 8 => .methodLink (jcn w) i Lib.Math.min.name
  | 9 => .methodLink (jcn w) i arraycopyName
  | _ => .methodLinkNest (jcn w) i (jm_name cal) RX9
theorem jt_m_ok0 : (jt_mL.all fun e => decide (lw_tbl[e.2.2.2]? = some (jmw e.1.1 e.1.2 e.2.1 e.2.2.1)) && ((bif jnest (jmw e.1.1 e.1.2 e.2.1 e.2.2.1) then (decide (e.2.1 = 1) || (decide (e.2.1 = 3) || decide (e.2.1 = 5))) else goodWord (jmw e.1.1 e.1.2 e.2.1 e.2.2.1) && !(decide (e.2.1 = 1) || (decide (e.2.1 = 3) || decide (e.2.1 = 5)))) && (decide (6 ≤ e.2.1) || (decide (e.2.2.1 < jmNL) && (bif decide (e.2.1 ≤ 1) then (jmP.getD e.2.2.1 (0, 0, 0, false)).2.2.2 else !(jmP.getD e.2.2.1 (0, 0, 0, true)).2.2.2 && (bif decide (e.2.1 ≤ 3) then !jm_ini e.2.2.1 && decide (jcR (jm_ci e.2.2.1) = (jm_name e.2.2.1).cls ∧ jm_ci e.2.2.1 < 9) else jm_ini e.2.2.1)))))) = true := by decide +kernel
