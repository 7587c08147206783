/-! SIMULATION 5: what a run keeps; returns and calls -/
/-- labels and slots grow; the script stays -/
def jMo (h h' : jH) : Prop := h.2.1 ≤ h'.2.1 ∧ h.2.2 ≤ h'.2.2 ∧ ∀ a, (jk h' a).1 = 30 → h'.1 a = h.1 a
theorem jMo.refl (h : jH) : jMo h h := ⟨Nat.le_refl _, Nat.le_refl _, fun _ _ => rfl⟩
theorem jMo.trans {h h' h'' : jH} (a : jMo h h') (b : jMo h' h'') : jMo h h'' := ⟨Nat.le_trans a.1 b.1, Nat.le_trans a.2.1 b.2.1, fun x e => by
  have h1 := b.2.2 x e
  have h2 : (jk h' x).1 = 30 := by unfold jk at e ⊢; rw [← h1]; exact e
  rw [h1, a.2.2 x h2]⟩
theorem jMo.set {h : jH} {a : Nat} {c' : jC} (hk : c'.1 = jk h a) (h0 : (jk h a).1 ≠ 30) : jMo h (jset h a c') := ⟨Nat.le_refl _, Nat.le_refl _, fun x e => by
  show (if x = a then c' else h.1 x) = h.1 x
  by_cases q : x = a
  · subst q
    have e' : ((if x = x then c' else h.1 x).1).1 = 30 := e
    rw [if_pos rfl, hk] at e'
    exact absurd e' h0
  · rw [if_neg q]⟩
theorem jMo.put {ty : FieldType} {h h' : jH} {a k : Nat} {v : Value} (hp : jput ty h a k v = some h') (h0 : (jk h a).1 ≠ 30) : jMo h h' := by
  obtain ⟨c', rfl, hk, -⟩ := jput_spec hp
  exact jMo.set hk h0
theorem jMo.new {h : jH} {k n z : Nat} (hk : k ≠ 30) : jMo h (jnew h k n z) := ⟨Nat.le_succ _, Nat.le_add_right _ _, fun x e => by
  rw [jk_new] at e
  by_cases q : x = h.2.1
  · rw [if_pos q] at e; exact absurd e hk
  · show (if x = h.2.1 then _ else h.1 x) = h.1 x
    rw [if_neg q]⟩
/-- instructions that go on, with nothing returned or called -/
def jgoer : Instr → Bool := fun i => match i with
  | .ireturn => false | .lreturn => false | .areturn => false | .return_ => false
  | .invokestatic _ => false | .invokevirtual _ => false | .invokespecial _ => false
  | _ => true
set_option maxHeartbeats 2000000 in
theorem jN_goer {i : Instr} {y pc : Nat} {ls : jL} {st : List Value} {h : jH} {r : jR} (hg : jgoer i = true) (e : jN i y pc ls st h = some r) : ∃ z, r = .inl z := by
  revert e
  cases i <;> first
    | (cases hg; done)
    | (simp only [jN, jN_load, jN_st1, jN_st2, jN_i2, jN_l2, jN_li, jN_ald, jN_ast, jN_aast, jN_get, jN_put, Bool.cond_eq_ite]
       repeat' split
       all_goals (intro q; cases q; try exact ⟨_, rfl⟩))
set_option maxHeartbeats 4000000 in
theorem jN_mo {i : Instr} {y pc : Nat} {ls : jL} {st : List Value} {h : jH} {pc' : Nat} {ls' : jL} {st' : List Value} {h' : jH} (e : jN i y pc ls st h = some (.inl (pc', ls', st', h'))) : jMo h h' := by
  revert e
  cases i
  case putfield k =>
    show jN_put y k pc ls st h = _ → _
    simp only [jN_put, Bool.cond_eq_ite]
    split
    · next c0 k0 b q hf =>
      have hc := (jt_f_ok hf).2.1
      split
      · split
        · split
          · next hk =>
            split
            · next hp =>
              intro q; cases q
              exact jMo.put hp (by omega)
            · intro q; cases q
          · intro q; cases q
        · intro q; cases q
      · intro q; cases q
    · intro q; cases q
  case iastore =>
    show jN_ast 20 pc ls st h _ = _ → _
    simp only [jN_ast]
    split
    · split
      · next hk =>
        split
        · next hp => intro q; cases q; exact jMo.put hp (by omega)
        · intro q; cases q
      · intro q; cases q
    · intro q; cases q
  case lastore =>
    show jN_ast 21 pc ls st h _ = _ → _
    simp only [jN_ast]
    split
    · split
      · next hk =>
        split
        · next hp => intro q; cases q; exact jMo.put hp (by omega)
        · intro q; cases q
      · intro q; cases q
    · intro q; cases q
  case bastore =>
    show jN_ast 22 pc ls st h _ = _ → _
    simp only [jN_ast]
    split
    · split
      · next hk =>
        split
        · next hp => intro q; cases q; exact jMo.put hp (by omega)
        · intro q; cases q
      · intro q; cases q
    · intro q; cases q
  case aastore =>
    show jN_aast pc ls st h = _ → _
    simp only [jN_aast]
    split
    · split
      · next hk => intro q; cases q; exact jMo.set rfl (by omega)
      · intro q; cases q
    · intro q; cases q
  case newarray t =>
    simp only [jN]
    split
    · split
      · intro q; cases q
      · split <;> (intro q; cases q; try exact jMo.new (by omega))
    · intro q; cases q
  case anewarray k =>
    simp only [jN]
    split
    · next hf =>
      have ht := (jt_a_ok hf).2
      split
      · split
        · intro q; cases q
        · intro q; cases q; exact jMo.new (by omega)
      · intro q; cases q
    · intro q; cases q
  case new k =>
    simp only [jN]
    split
    · next hf =>
      have ht := (jt_n_ok hf).2.2.2
      intro q; cases q; exact jMo.new (by omega)
    · intro q; cases q
  case invokestatic k =>
    show jN_call y k pc ls st h 0 = _ → _
    simp only [jN_call, jcl, jN_copy, Bool.cond_eq_ite]
    repeat' split
    all_goals first | (exfalso; omega) | (intro q; cases q <;> first | exact jMo.refl _ | exact jMo.set rfl (by omega))
  case invokevirtual k =>
    show jN_call y k pc ls st h 1 = _ → _
    simp only [jN_call, jcl, jN_copy, Bool.cond_eq_ite]
    repeat' split
    all_goals first | (exfalso; omega) | (intro q; cases q <;> exact jMo.refl _)
  case invokespecial k =>
    show jN_call y k pc ls st h 2 = _ → _
    simp only [jN_call, jcl, jN_copy, Bool.cond_eq_ite]
    repeat' split
    all_goals first | (exfalso; omega) | (intro q; cases q <;> exact jMo.refl _)
  all_goals
    (simp only [jN, jN_load, jN_st1, jN_st2, jN_i2, jN_l2, jN_li, jN_ald, jN_get, Bool.cond_eq_ite]
     repeat' split
     all_goals (intro q; cases q; try exact jMo.refl _))
/-- what is returned -/
def jRet (y : Nat) (i : Instr) (st : List Value) (h : jH) (x : Option Value × jH) : Prop :=
  (∃ v, i = .ireturn ∧ st = [.int v] ∧ x = (some (.int v), h) ∧ (jm_ret y = some .int ∨ (jm_ret y = some .boolean ∧ (v = 0 ∨ v = 1)))) ∨
  (∃ v, i = .lreturn ∧ st = [.long v] ∧ x = (some (.long v), h) ∧ jm_ret y = some .long) ∨
  (∃ v nm, i = .areturn ∧ st = [v] ∧ x = (some v, h) ∧ jm_ret y = some (.object nm) ∧ (v = .null ∨ ∃ a, v = .ref a)) ∨
  (i = .return_ ∧ st = [] ∧ x = (none, h) ∧ jm_ret y = none)
theorem jN_ret {i : Instr} {y pc : Nat} {ls : jL} {st : List Value} {h : jH} {x : Option Value × jH} (e : jN i y pc ls st h = some (.inr (.inl x))) : jRet y i st h x := by
  cases hg : jgoer i with
  | true =>
    obtain ⟨z, hz⟩ := jN_goer hg e
    cases hz
  | false =>
    revert e
    cases i <;> first | (cases hg; done) | skip
    case ireturn =>
      simp only [jN]
      split
      · split
        · next hr => intro q; cases q; exact Or.inl ⟨_, rfl, rfl, rfl, Or.inl hr⟩
        · next hr =>
          split
          · next hv => intro q; cases q; exact Or.inl ⟨_, rfl, rfl, rfl, Or.inr ⟨hr, hv⟩⟩
          · intro q; cases q
        · intro q; cases q
      · intro q; cases q
    case lreturn =>
      simp only [jN]
      split
      · split
        · next hr => intro q; cases q; exact Or.inr (Or.inl ⟨_, rfl, rfl, rfl, hr⟩)
        · intro q; cases q
      · intro q; cases q
    case areturn =>
      simp only [jN]
      split
      · split
        · next hr => intro q; cases q; exact Or.inr (Or.inr (Or.inl ⟨_, _, rfl, rfl, rfl, hr, Or.inr ⟨_, rfl⟩⟩))
        · intro q; cases q
      · split
        · next hr => intro q; cases q; exact Or.inr (Or.inr (Or.inl ⟨_, _, rfl, rfl, rfl, hr, Or.inl rfl⟩))
        · intro q; cases q
      · intro q; cases q
    case return_ =>
      simp only [jN]
      split
      · split
        · next hr => intro q; cases q; exact Or.inr (Or.inr (Or.inr ⟨rfl, rfl, rfl, hr⟩))
        · intro q; cases q
      · intro q; cases q
    case invokestatic k =>
      show jN_call y k pc ls st h 0 = _ → _
      simp only [jN_call, jcl, jN_copy, Bool.cond_eq_ite]
      repeat' split
      all_goals (intro q; cases q)
    case invokevirtual k =>
      show jN_call y k pc ls st h 1 = _ → _
      simp only [jN_call, jcl, jN_copy, Bool.cond_eq_ite]
      repeat' split
      all_goals first | (exfalso; omega) | (intro q; cases q)
    case invokespecial k =>
      show jN_call y k pc ls st h 2 = _ → _
      simp only [jN_call, jcl, jN_copy, Bool.cond_eq_ite]
      repeat' split
      all_goals first | (exfalso; omega) | (intro q; cases q)
/-- what is called: kind 0, 1 static; 2, 3 virtual; 4, 5 a constructor -/
def jCal (y : Nat) (i : Instr) (st : List Value) (h : jH) (cal : Nat) (lc : jL) (rest : List Value) : Prop :=
  ∃ (idx kind q k : Nat), jt_m (jm_cn y) idx = some (kind, cal, q) ∧ kind < 6 ∧ k ≤ st.length ∧ jm_fr cal < jm_fr y ∧ ((st.take k).map fun v => v.category).sum ≤ jm_max cal ∧ (rest.map fun v => v.category).sum ≤ 8 ∧ lc = jlv (st.take k).reverse (jm_max cal) ∧ rest = st.drop k ∧
    ((i = .invokestatic idx ∧ kind ≤ 1 ∧ k = jm_na cal) ∨ (i = .invokevirtual idx ∧ 2 ≤ kind ∧ kind ≤ 3 ∧ k = jm_na cal + 1 ∧ ∃ a, st[jm_na cal]? = some (.ref a) ∧ (jk h a).1 = 1 + jm_ci cal) ∨ (i = .invokespecial idx ∧ 4 ≤ kind ∧ k = jm_na cal + 1 ∧ ∃ a, st[jm_na cal]? = some (.ref a)))
theorem jcl_spec {y cal0 k cal : Nat} {st : List Value} {lc : jL} {rest : List Value} (e : jcl y cal0 k st = some (.inr (.inr (cal, lc, rest)))) : cal = cal0 ∧ k ≤ st.length ∧ jm_fr cal < jm_fr y ∧ ((st.take k).map fun v => v.category).sum ≤ jm_max cal ∧ (rest.map fun v => v.category).sum ≤ 8 ∧ lc = jlv (st.take k).reverse (jm_max cal) ∧ rest = st.drop k := by
  unfold jcl at e
  cases hq : (Nat.ble k st.length && (Nat.blt (jm_fr cal0) (jm_fr y) && (Nat.ble ((st.take k).map fun v => v.category).sum (jm_max cal0) && Nat.ble ((st.drop k).map fun v => v.category).sum 8))) with
  | false => rw [hq] at e; cases e
  | true =>
    rw [hq] at e
    simp only [Bool.and_eq_true] at hq
    cases e
    exact ⟨rfl, Nat.le_of_ble_eq_true hq.1, Nat.le_of_ble_eq_true hq.2.1, Nat.le_of_ble_eq_true hq.2.2.1, Nat.le_of_ble_eq_true hq.2.2.2, rfl, rfl⟩
theorem jN_cal {i : Instr} {y pc : Nat} {ls : jL} {st : List Value} {h : jH} {cal : Nat} {lc : jL} {rest : List Value} (e : jN i y pc ls st h = some (.inr (.inr (cal, lc, rest)))) : jCal y i st h cal lc rest := by
  cases hg : jgoer i with
  | true =>
    obtain ⟨z, hz⟩ := jN_goer hg e
    cases hz
  | false =>
    cases i <;> first | (cases hg; done) | skip
    case ireturn => exfalso; revert e; simp only [jN]; repeat' split
                    all_goals (intro q; cases q)
    case lreturn => exfalso; revert e; simp only [jN]; repeat' split
                    all_goals (intro q; cases q)
    case areturn => exfalso; revert e; simp only [jN]; repeat' split
                    all_goals (intro q; cases q)
    case return_ => exfalso; revert e; simp only [jN]; repeat' split
                    all_goals (intro q; cases q)
    case invokestatic k =>
      replace e : jN_call y k pc ls st h 0 = some (.inr (.inr (cal, lc, rest))) := e
      unfold jN_call at e
      split at e
      · next kind cal0 q hf =>
        split at e
        all_goals first
          | (exfalso; omega)
          | (obtain ⟨rfl, h2, h3, h4, h5, h6, h7⟩ := jcl_spec e
             exact ⟨k, _, q, _, hf, by omega, h2, h3, h4, h5, h6, h7, Or.inl ⟨rfl, by omega, rfl⟩⟩)
          | (exfalso; revert e; simp only [jN_copy, Bool.cond_eq_ite]; repeat' split
             all_goals (intro q; cases q))
          | (cases e; done)
      · cases e
    case invokevirtual k =>
      replace e : jN_call y k pc ls st h 1 = some (.inr (.inr (cal, lc, rest))) := e
      unfold jN_call at e
      split at e
      · next kind cal0 q hf =>
        split at e
        all_goals first
          | (exfalso; omega)
          | (split at e
             · next a ha =>
               split at e
               · next hk =>
                 obtain ⟨rfl, h2, h3, h4, h5, h6, h7⟩ := jcl_spec e
                 exact ⟨k, _, q, _, hf, by omega, h2, h3, h4, h5, h6, h7, Or.inr (Or.inl ⟨rfl, by omega, by omega, rfl, a, ha, hk⟩)⟩
               · cases e
             · cases e)
          | (exfalso; revert e; simp only [jN_copy, Bool.cond_eq_ite]; repeat' split
             all_goals (intro q; cases q))
          | (cases e; done)
      · cases e
    case invokespecial k =>
      replace e : jN_call y k pc ls st h 2 = some (.inr (.inr (cal, lc, rest))) := e
      unfold jN_call at e
      split at e
      · next kind cal0 q hf =>
        split at e
        all_goals first
          | (exfalso; omega)
          | (split at e
             · next a ha =>
               obtain ⟨rfl, h2, h3, h4, h5, h6, h7⟩ := jcl_spec e
               exact ⟨k, _, q, _, hf, by omega, h2, h3, h4, h5, h6, h7, Or.inr (Or.inr ⟨rfl, by omega, rfl, a, ha⟩)⟩
             · cases e)
          | (exfalso; revert e; simp only [jN_copy, Bool.cond_eq_ite]; repeat' split
             all_goals (intro q; cases q))
          | (cases e; done)
      · cases e
theorem jE_mo : ∀ (n : Nat) {y pc : Nat} {ls : jL} {st : List Value} {h : jH} {x : Option Value × jH}, jE n y pc ls st h = some x → jMo h x.2
  | 0, _, _, _, _, _, _, e => by cases e
  | n + 1, y, pc, ls, st, h, x, e => by
    rw [jE] at e
    split at e
    · split at e
      · next hN => exact (jN_mo hN).trans (jE_mo n e)
      · next hN =>
        cases e
        rcases jN_ret hN with ⟨v, -, -, rfl, -⟩ | ⟨v, -, -, rfl, -⟩ | ⟨v, nm, -, -, rfl, -⟩ | ⟨-, -, rfl, -⟩ <;> exact jMo.refl _
      · next cal lc rest hN =>
        cases h1 : jE n cal 0 lc [] h with
        | none => rw [h1] at e; cases e
        | some z =>
          rw [h1] at e
          exact (jE_mo n h1).trans (jE_mo n e)
      · cases e
    · cases e
