/-! SIMULATION 1: labels and addresses; what a heap is to a store -/
def ja (ad : Nat → Nat) (v : Value) : Value := match v with
  | .ref a => .ref (ad a)
  | v => v
theorem ja_cat (ad : Nat → Nat) (v : Value) : (ja ad v).category = v.category := by cases v <;> rfl
theorem ja_rf (ad : Nat → Nat) (r : Option Nat) : ja ad (va_rf r) = va_rf (r.map ad) := by cases r <;> rfl
theorem ja_sum (ad : Nat → Nat) (st : List Value) : ((st.map (ja ad)).map fun v => v.category).sum = (st.map fun v => v.category).sum := by
  rw [List.map_map]
  congr 1
  exact List.map_congr_left fun v _ => ja_cat ad v
def jok (n : Nat) (v : Value) : Prop := match v with
  | .ref a => a < n
  | _ => True
theorem jok_rf {n : Nat} {r : Option Nat} (h : ∀ a, r = some a → a < n) : jok n (va_rf r) := by
  cases r with
  | none => trivial
  | some a => exact h a rfl
theorem jok_le {n m : Nat} (hn : n ≤ m) {v : Value} (h : jok n v) : jok m v := by
  cases v <;> first | trivial | exact Nat.lt_of_lt_of_le h hn
theorem ja_eq {n : Nat} {ad ad' : Nat → Nat} (h : ∀ a, a < n → ad' a = ad a) {v : Value} (hv : jok n v) : ja ad' v = ja ad v := by
  cases v <;> first | rfl | exact congrArg Value.ref (h _ hv)
theorem ja_eqs {n : Nat} {ad ad' : Nat → Nat} (h : ∀ a, a < n → ad' a = ad a) {st : List Value} (hv : ∀ v ∈ st, jok n v) : st.map (ja ad') = st.map (ja ad) :=
  List.map_congr_left fun v hm => ja_eq h (hv v hm)
/-- the locals, by their places -/
def jal (ad : Nat → Nat) (ls : jL) : List (Nat × Value) := ls.zipIdx.filterMap fun q => q.1.map fun v => (q.2, ja ad v)
theorem mem_jal {ad : Nat → Nat} {ls : jL} {i : Nat} {w : Value} : (i, w) ∈ jal ad ls ↔ ∃ v, ls[i]? = some (some v) ∧ w = ja ad v := by
  unfold jal
  constructor
  · intro h
    obtain ⟨⟨o, j⟩, h1, h2⟩ := List.mem_filterMap.mp h
    have h3 := List.mem_zipIdx_iff_getElem?.mp h1
    cases o with
    | none => simp at h2
    | some v =>
      simp only [Option.map_some, Option.some.injEq, Prod.mk.injEq] at h2
      obtain ⟨rfl, rfl⟩ := h2
      exact ⟨v, h3, rfl⟩
  · rintro ⟨v, h1, rfl⟩
    exact List.mem_filterMap.mpr ⟨(some v, i), List.mem_zipIdx_iff_getElem?.mpr h1, rfl⟩
theorem lv_sup {lr : Array Slot} {n : Nat} {l l' : List (Nat × Value)} (h : lv_has lr n l) (hs : ∀ q ∈ l', q ∈ l) : lv_has lr n l' := ⟨h.1, h.2.1, fun q hq => h.2.2 q (hs q hq)⟩
theorem jal_at {ad : Nat → Nat} {ls : jL} {lr : Array Slot} {n i : Nat} {v : Value} (h : lv_has lr n (jal ad ls)) (hv : jld ls i = some v) : lr[i]? = some (.val (ja ad v)) := by
  refine h.2.2 (i, ja ad v) (mem_jal.mpr ⟨v, ?_, rfl⟩)
  unfold jld at hv
  cases hi : ls[i]? with
  | none => rw [hi] at hv; cases hv
  | some o => rw [hi] at hv; exact congrArg some hv
theorem jld_mem {ls : jL} {i : Nat} {v : Value} (hv : jld ls i = some v) : some v ∈ ls := by
  unfold jld at hv
  cases hi : ls[i]? with
  | none => rw [hi] at hv; cases hv
  | some o => rw [hi] at hv; rw [← hv]; exact List.mem_of_getElem? hi
theorem jst1_spec {ls ls' : jL} {i : Nat} {v : Value} (h : jst1 ls i v = some ls') : i < ls.length ∧ ls' = ls.set i (some v) ∧ ∀ j w, j + 1 = i → ls[j]? = some (some w) → w.category ≠ 2 := by
  cases i with
  | zero =>
    replace h : (bif Nat.blt 0 ls.length then some (ls.set 0 (some v)) else none) = some ls' := h
    cases hb : Nat.blt 0 ls.length with
    | false => rw [hb] at h; cases h
    | true =>
      rw [hb] at h
      exact ⟨by have := Nat.le_of_ble_eq_true hb; omega, (Option.some.inj h).symm, fun j w e => absurd e (by omega)⟩
  | succ i =>
    replace h : (bif Nat.blt (i + 1) ls.length && !jlng ls[i]? then some (ls.set (i + 1) (some v)) else none) = some ls' := h
    cases hb : Nat.blt (i + 1) ls.length && !jlng ls[i]? with
    | false => rw [hb] at h; cases h
    | true =>
      rw [hb] at h
      rw [Bool.and_eq_true] at hb
      refine ⟨by have := Nat.le_of_ble_eq_true hb.1; omega, (Option.some.inj h).symm, fun j w e hw => ?_⟩
      have : j = i := by omega
      subst this
      rw [hw] at hb
      intro hc
      simp [jlng, hc] at hb
theorem jst2_spec {ls ls' : jL} {i : Nat} {v : Value} (h : jst2 ls i v = some ls') : i + 1 < ls.length ∧ ls' = (ls.set i (some v)).set (i + 1) none ∧ ∀ j w, j + 1 = i → ls[j]? = some (some w) → w.category ≠ 2 := by
  cases i with
  | zero =>
    replace h : (bif Nat.blt 1 ls.length then some ((ls.set 0 (some v)).set 1 none) else none) = some ls' := h
    cases hb : Nat.blt 1 ls.length with
    | false => rw [hb] at h; cases h
    | true =>
      rw [hb] at h
      exact ⟨by have := Nat.le_of_ble_eq_true hb; omega, (Option.some.inj h).symm, fun j w e => absurd e (by omega)⟩
  | succ i =>
    replace h : (bif Nat.blt (i + 2) ls.length && !jlng ls[i]? then some ((ls.set (i + 1) (some v)).set (i + 2) none) else none) = some ls' := h
    cases hb : Nat.blt (i + 2) ls.length && !jlng ls[i]? with
    | false => rw [hb] at h; cases h
    | true =>
      rw [hb] at h
      rw [Bool.and_eq_true] at hb
      refine ⟨by have := Nat.le_of_ble_eq_true hb.1; omega, (Option.some.inj h).symm, fun j w e hw => ?_⟩
      have : j = i := by omega
      subst this
      rw [hw] at hb
      intro hc
      simp [jlng, hc] at hb
theorem jal_st1 {ad : Nat → Nat} {ls ls' : jL} {i : Nat} {v : Value} (h : jst1 ls i v = some ls') : ∀ q ∈ jal ad ls', q ∈ (i, ja ad v) :: (jal ad ls).filter (fun q => !(q.1 == i) && !(q.1 + 1 == i && q.2.category == 2)) := by
  obtain ⟨hi, rfl, hc⟩ := jst1_spec h
  rintro ⟨j, w⟩ hq
  obtain ⟨u, hu, rfl⟩ := mem_jal.mp hq
  by_cases e : j = i
  · subst e
    rw [List.getElem?_set_self hi] at hu
    cases hu
    exact List.mem_cons_self
  · rw [List.getElem?_set_ne (fun q => e q.symm)] at hu
    refine List.mem_cons_of_mem _ (List.mem_filter.mpr ⟨mem_jal.mpr ⟨u, hu, rfl⟩, ?_⟩)
    have h2 : ¬ (j + 1 = i ∧ u.category = 2) := fun ⟨q1, q2⟩ => hc j u q1 hu q2
    simp only [ja_cat]
    by_cases e1 : j + 1 = i
    · have : ¬ u.category = 2 := fun q => h2 ⟨e1, q⟩
      simp [e, this]
    · simp [e, e1]
theorem jal_st2 {ad : Nat → Nat} {ls ls' : jL} {i : Nat} {v : Value} (h : jst2 ls i v = some ls') : ∀ q ∈ jal ad ls', q ∈ (i, ja ad v) :: (jal ad ls).filter (fun q => !(q.1 == i) && (!(q.1 == i + 1) && !(q.1 + 1 == i && q.2.category == 2))) := by
  obtain ⟨hi, rfl, hc⟩ := jst2_spec h
  rintro ⟨j, w⟩ hq
  obtain ⟨u, hu, rfl⟩ := mem_jal.mp hq
  by_cases e3 : j = i + 1
  · subst e3
    rw [List.getElem?_set_self (by simpa using hi)] at hu
    cases hu
  rw [List.getElem?_set_ne (fun q => e3 q.symm)] at hu
  by_cases e : j = i
  · subst e
    rw [List.getElem?_set_self (by omega)] at hu
    cases hu
    exact List.mem_cons_self
  · rw [List.getElem?_set_ne (fun q => e q.symm)] at hu
    refine List.mem_cons_of_mem _ (List.mem_filter.mpr ⟨mem_jal.mpr ⟨u, hu, rfl⟩, ?_⟩)
    have h2 : ¬ (j + 1 = i ∧ u.category = 2) := fun ⟨q1, q2⟩ => hc j u q1 hu q2
    simp only [ja_cat]
    by_cases e1 : j + 1 = i
    · have : ¬ u.category = 2 := fun q => h2 ⟨e1, q⟩
      simp [e, e3, this]
    · simp [e, e1, e3]
theorem jal_len1 {ls ls' : jL} {i : Nat} {v : Value} (h : jst1 ls i v = some ls') : ls'.length = ls.length := by
  obtain ⟨-, rfl, -⟩ := jst1_spec h
  simp
theorem jal_len2 {ls ls' : jL} {i : Nat} {v : Value} (h : jst2 ls i v = some ls') : ls'.length = ls.length := by
  obtain ⟨-, rfl, -⟩ := jst2_spec h
  simp
theorem jal_eq {n : Nat} {ad ad' : Nat → Nat} (h : ∀ a, a < n → ad' a = ad a) {ls : jL} (hv : ∀ v, some v ∈ ls → jok n v) : ∀ q ∈ jal ad' ls, q ∈ jal ad ls := by
  rintro ⟨j, w⟩ hq
  obtain ⟨u, hu, rfl⟩ := mem_jal.mp hq
  exact mem_jal.mpr ⟨u, hu, ja_eq h (hv u (List.mem_of_getElem? hu))⟩
theorem jwf_st1 {n : Nat} {ls ls' : jL} {i : Nat} {v : Value} (h : jst1 ls i v = some ls') (hv : jok n v) (hl : ∀ u, some u ∈ ls → jok n u) : ∀ u, some u ∈ ls' → jok n u := by
  obtain ⟨-, rfl, -⟩ := jst1_spec h
  intro u hu
  rcases List.mem_or_eq_of_mem_set hu with h1 | h1
  · exact hl u h1
  · rw [Option.some.inj h1]; exact hv
theorem jwf_st2 {n : Nat} {ls ls' : jL} {i : Nat} {v : Value} (h : jst2 ls i v = some ls') (hv : jok n v) (hl : ∀ u, some u ∈ ls → jok n u) : ∀ u, some u ∈ ls' → jok n u := by
  obtain ⟨-, rfl, -⟩ := jst2_spec h
  intro u hu
  rcases List.mem_or_eq_of_mem_set hu with h1 | h1
  · rcases List.mem_or_eq_of_mem_set h1 with h2 | h2
    · exact hl u h2
    · rw [Option.some.inj h2]; exact hv
  · cases h1
/-- what a heap is to a cell -/
def jcell (D : va_G) (cA : Nat → ClassId) (s : State) (A : Nat → Prop) (ad : Nat → Nat) (q : Nat) (c : jC) (H : Heap) : Prop :=
  (∀ k, k < 9 → c.1.1 = 1 + k → A q ∧ t_OB q (D.1 k) (jcN k) (D.2 k) H (fun j => ja ad (jfv (jty k j) c j))) ∧
  (∀ t, t < 5 → c.1.1 = 20 + t → A q ∧ H[q]? = some (arrV (cA t) c.1.2 (fun j => ja ad (jfv (jet t) c j)))) ∧
  (c.1.1 = 30 → ¬ A q ∧ q < s.heap.size ∧ va_X q c.1.2 c.2.1 s s.heap)
def jvk (k : Nat) : Prop := k ≤ 9 ∨ (20 ≤ k ∧ k ≤ 24) ∨ k = 30
def jRel (D : va_G) (cA : Nat → ClassId) (s : State) (A : Nat → Prop) (ad : Nat → Nat) (h : jH) (H : Heap) : Prop :=
  (∀ a, jcell D cA s A ad (ad a) (h.1 a) H) ∧ (∀ a b, (jk h a).1 ≠ 0 → (jk h b).1 ≠ 0 → ad a = ad b → a = b) ∧ (∀ a, h.2.1 ≤ a → (jk h a).1 = 0) ∧ (∀ a k r, jp h a k = some r → r < h.2.1) ∧ ∀ a, jvk (jk h a).1
def jtys (cA : Nat → ClassId) : List (ClassId × FieldType) := [(cA 0, jet 0), (cA 1, jet 1), (cA 2, jet 2), (cA 3, jet 3), (cA 4, jet 4)]
def jKn (D : va_G) (cA : Nat → ClassId) (s : State) : Prop := va_K D vwCl (jtys cA) s ∧ va_AO RX5 s ∧ va_AO RX7 s
theorem jKn.moved {D : va_G} {cA : Nat → ClassId} {u U : State} (hvm : u.vm.Alike U.vm) (h : jKn D cA u) : jKn D cA U := ⟨h.1.moved hvm, h.2.1.moved hvm, h.2.2.moved hvm⟩
theorem jKn.arr {D : va_G} {cA : Nat → ClassId} {s : State} (h : jKn D cA s) {t : Nat} (ht : t < 5) : ArrOfT s (cA t) (jet t) ∧ va_RA s (cA t) (jet t) := by
  refine h.1.2 t (cA t, jet t) ?_
  rcases t with _ | _ | _ | _ | _ | t <;> first | rfl | omega
theorem jKn.obj {D : va_G} {cA : Nat → ClassId} {s : State} (h : jKn D cA s) {k : Nat} (hk : k < 9) : u_Kn s (jcR k) (jtT k) (jcN k) (D.1 k) (D.2 k) := by
  refine h.1.1 k (jcR k, jtT k, jcN k) ?_
  rcases k with _ | _ | _ | _ | _ | _ | _ | _ | _ | k <;> first | rfl | omega
/-- the words that hold everywhere -/
def jw : List Cond := lw_tbl.filter goodWord
def jnest : Cond → Bool := fun w => match w with
  | .fieldLinkNest .. => true
  | .methodLinkNest .. => true
  | _ => false
def jwn : List Cond := lw_tbl.filter jnest
/-- where a method stands -/
def jX (p : Program) (R : Room) (s : State) (m : MethodId) (args : Array Value) (meth : Method) (c : Code) (y : Nat) : Prop :=
  p.tables.exec = Jvm.exec ∧ c.code = jm_code y ∧ meth.sig.returnType = jm_ret y ∧ c.maxLocals = jm_max y ∧ s.vm.findClass (jcn (jm_cn y)) = some m.cls ∧ (∀ w ∈ jw, w.before args s = true) ∧ (∀ w ∈ jwn, va_Nw w s) ∧ meth.locks = false ∧ (jm_ini y = true → meth.name = "<init>") ∧ jm_fr y ≤ R.frames ∧ 50 * jm_fr y ≤ R.locals
/-- what holds at each step of it -/
def jI (D : va_G) (cA : Nat → ClassId) (s : State) (A : Nat → Prop) (ad0 : Nat → Nat) (n0 s0 y : Nat) (ad : Nat → Nat) (h : jH) (ls : jL) (st : List Value) (H : Heap) (locs : List Loc) (lr : Array Slot) (cells slots : Nat) : Prop :=
  jRel D cA s A ad h H ∧ va_S A s.heap H locs ∧ lv_has lr (jm_max y) (jal ad ls) ∧ ls.length = jm_max y ∧ (∀ v ∈ st, jok h.2.1 v) ∧ (∀ v, some v ∈ ls → jok h.2.1 v) ∧ (∀ a, a < n0 → ad a = ad0 a) ∧ cells + n0 = h.2.1 ∧ slots + s0 = h.2.2
/-! the tables, checked -/
theorem jw_mem {i : Nat} {w : Cond} (h : lw_tbl[i]? = some w) (hg : goodWord w = true) : w ∈ jw := List.mem_filter.mpr ⟨List.mem_of_getElem? h, hg⟩
theorem jwn_mem {i : Nat} {w : Cond} (h : lw_tbl[i]? = some w) (hg : jnest w = true) : w ∈ jwn := List.mem_filter.mpr ⟨List.mem_of_getElem? h, hg⟩
theorem j_lookup {α : Type} {l : List ((Nat × Nat) × α)} {c i : Nat} {x : α} (h : l.lookup (c, i) = some x) : ((c, i), x) ∈ l := by
  induction l with
  | nil => cases h
  | cons a l ih =>
    obtain ⟨k, b⟩ := a
    rw [List.lookup_cons] at h
    by_cases e : (c, i) = k
    · subst e
      simp at h
      subst h
      exact List.mem_cons_self
    · have : ((c, i) == k) = false := by simpa using e
      rw [this] at h
      exact List.mem_cons_of_mem _ (ih h)
def jfw (e : (Nat × Nat) × Nat × Nat × Bool × Nat) : Cond := match e with
  | ((w, i), c, k, b, _) => bif b then .fieldLinkNest (jcn w) i (jcR c) (jtT c k).2.1 (jtT c k).2.2.1 RX9 else .fieldLink (jcn w) i (jcR c) (jtT c k).2.1 (jtT c k).2.2.1
theorem jt_f_ok0 : (jt_fL.all fun e => decide (lw_tbl[e.2.2.2.2]? = some (jfw e)) && (decide (e.2.1 < 9) && (decide (e.2.2.1 < jcN e.2.1) && (decide ((jtT e.2.1 e.2.2.1).1 = jcR e.2.1) && (bif e.2.2.2.1 then jnest (jfw e) else goodWord (jfw e)))))) = true := by decide +kernel
theorem jt_k_ok0 : (jt_kL.all fun e => decide (lw_tbl[e.2.2]? = some (.constant (jcn e.1.1) e.1.2 e.2.1)) && goodWord (.constant (jcn e.1.1) e.1.2 e.2.1)) = true := by decide +kernel
theorem jt_l_ok0 : (jt_lL.all fun e => decide (lw_tbl[e.2.2]? = some (.constantLong (jcn e.1.1) e.1.2 e.2.1)) && goodWord (.constantLong (jcn e.1.1) e.1.2 e.2.1)) = true := by decide +kernel
theorem jt_n_ok0 : (jt_nL.all fun e => (decide (lw_tbl[e.2.2.1]? = some (.classLink (jcn e.1.1) e.1.2 (jcR e.2.1))) && goodWord (.classLink (jcn e.1.1) e.1.2 (jcR e.2.1))) && ((decide (lw_tbl[e.2.2.2.1]? = some (.instantiable (jcR e.2.1) (jcN e.2.1))) && goodWord (.instantiable (jcR e.2.1) (jcN e.2.1))) && ((decide (lw_tbl[e.2.2.2.2]? = some (.initialized (jcR e.2.1))) && goodWord (.initialized (jcR e.2.1))) && decide (e.2.1 < 9)))) = true := by decide +kernel
def jaR : Nat → String := fun t => match t with | 3 => RX5 | _ => RX7
theorem jt_a_ok0 : (jt_aL.all fun e => (decide (lw_tbl[e.2.2]? = some (.classLink (jcn e.1.1) e.1.2 (jaR e.2.1))) && goodWord (.classLink (jcn e.1.1) e.1.2 (jaR e.2.1))) && (decide (e.2.1 = 3) || decide (e.2.1 = 4))) = true := by decide +kernel

theorem jt_f_ok {w i c k q : Nat} {b : Bool} (h : jt_f w i = some (c, k, b, q)) : (bif b then jfw ((w, i), c, k, b, q) ∈ jwn else jfw ((w, i), c, k, b, q) ∈ jw) ∧ c < 9 ∧ k < jcN c ∧ (jtT c k).1 = jcR c := by
  have h1 := List.all_eq_true.mp jt_f_ok0 _ (j_lookup h)
  simp only [Bool.and_eq_true, decide_eq_true_eq] at h1
  obtain ⟨h1, h2, h3, h4, h5⟩ := h1
  refine ⟨?_, h2, h3, h4⟩
  cases b with
  | true => exact jwn_mem h1 h5
  | false => exact jw_mem h1 h5
theorem jt_k_ok {w i q : Nat} {v : Int32} (h : jt_k w i = some (v, q)) : Cond.constant (jcn w) i v ∈ jw := by
  have h1 := List.all_eq_true.mp jt_k_ok0 _ (j_lookup h)
  simp only [Bool.and_eq_true, decide_eq_true_eq] at h1
  exact jw_mem h1.1 h1.2
theorem jt_l_ok {w i q : Nat} {v : Int64} (h : jt_l w i = some (v, q)) : Cond.constantLong (jcn w) i v ∈ jw := by
  have h1 := List.all_eq_true.mp jt_l_ok0 _ (j_lookup h)
  simp only [Bool.and_eq_true, decide_eq_true_eq] at h1
  exact jw_mem h1.1 h1.2
theorem jt_n_ok {w i c q1 q2 q3 : Nat} (h : jt_n w i = some (c, q1, q2, q3)) : Cond.classLink (jcn w) i (jcR c) ∈ jw ∧ Cond.instantiable (jcR c) (jcN c) ∈ jw ∧ Cond.initialized (jcR c) ∈ jw ∧ c < 9 := by
  have h1 := List.all_eq_true.mp jt_n_ok0 _ (j_lookup h)
  simp only [Bool.and_eq_true, decide_eq_true_eq] at h1
  exact ⟨jw_mem h1.1.1 h1.1.2, jw_mem h1.2.1.1 h1.2.1.2, jw_mem h1.2.2.1.1 h1.2.2.1.2, h1.2.2.2⟩
theorem jt_a_ok {w i t q : Nat} (h : jt_a w i = some (t, q)) : Cond.classLink (jcn w) i (jaR t) ∈ jw ∧ (t = 3 ∨ t = 4) := by
  have h1 := List.all_eq_true.mp jt_a_ok0 _ (j_lookup h)
  simp only [Bool.and_eq_true, Bool.or_eq_true, decide_eq_true_eq] at h1
  exact ⟨jw_mem h1.1.1 h1.1.2, h1.2⟩
theorem j_arrI : Cond.arrayClass .int ∈ jw := List.mem_filter.mpr ⟨by decide +kernel, rfl⟩
theorem j_arrJ : Cond.arrayClass .long ∈ jw := List.mem_filter.mpr ⟨by decide +kernel, rfl⟩
theorem j_arrZ : Cond.arrayClass .boolean ∈ jw := List.mem_filter.mpr ⟨by decide +kernel, rfl⟩
theorem j_lays0 : ((List.range 9).all fun c => (u_ws (jcR c) (jtT c) (jcN c)).all fun w => decide (w ∈ lw_tbl) && goodWord w) = true := by decide +kernel
theorem j_lays {k : Nat} (hk : k < 9) : ∀ w ∈ u_ws (jcR k) (jtT k) (jcN k), w ∈ jw := by
  intro w hw
  have h1 := List.all_eq_true.mp (List.all_eq_true.mp j_lays0 k (List.mem_range.mpr hk)) w hw
  simp only [Bool.and_eq_true, decide_eq_true_eq] at h1
  exact List.mem_filter.mpr h1
theorem j_tyok {c : Nat} (hc : c < 9) : ∀ k, k < jcN c → parseFieldDescriptor (jtT c k).2.2.1 = some (jty c k) := by
  rcases c with _ | _ | _ | _ | _ | _ | _ | _ | _ | c
  · exact tyX2_ok
  · exact tyX3_ok
  · exact tyX4_ok
  · exact tyX5_ok
  · exact tyX6_ok
  · exact tyX7_ok
  · exact tyX8_ok
  · exact tyX9_ok
  · exact tyX10_ok
  · omega
theorem j_nm {c : Nat} (hc : c < 9) : ∀ a, a < jcN c → ∀ b, b < jcN c → a ≠ b → (jtT c a).2.1 ≠ (jtT c b).2.1 := by
  rcases c with _ | _ | _ | _ | _ | _ | _ | _ | _ | c
  · exact nmX2
  · exact nmX3
  · exact nmX4
  · exact nmX5
  · exact nmX6
  · exact nmX7
  · exact nmX8
  · exact nmX9
  · exact nmX10
  · omega
theorem j_vw {c : Nat} (hc : c < 9) : vwCl[c]? = some (jcR c, jtT c, jcN c) := by
  rcases c with _ | _ | _ | _ | _ | _ | _ | _ | _ | c <;> first | rfl | omega
theorem j_d {y pc : Nat} {i : Instr} (d : jD y pc = some i) : ∃ n, decode (jm_code y) pc = .ok (i, n) ∧ jlk i n = true := by
  unfold jD at d
  split at d
  · next j n hd =>
    cases hb : jlk j n with
    | false => rw [hb] at d; cases d
    | true =>
      rw [hb] at d
      cases d
      exact ⟨n, hd, hb⟩
  · cases d
theorem j_tg {pc : Nat} {off : Int} (h : jokt pc off = true) : (pc : Int) + off = ((jtgt pc off : Nat) : Int) := by
  have h1 : 0 ≤ (pc : Int) + off := by simpa [jokt] using h
  unfold jtgt
  omega
theorem jin_vp {i : Int32} {n : Nat} (h : jin i n = true) : vp_in i n := by
  unfold jin at h
  unfold vp_in
  simpa using h
theorem jcell.kept {D : va_G} {cA : Nat → ClassId} {s : State} {A : Nat → Prop} {ad : Nat → Nat} {q : Nat} {c : jC} {H H1 : Heap} (h : jcell D cA s A ad q c H) (hq : H1[q]? = H[q]?) : jcell D cA s A ad q c H1 :=
  ⟨fun k hk e => ⟨(h.1 k hk e).1, (h.1 k hk e).2.kept hq⟩, fun t ht e => ⟨(h.2.1 t ht e).1, by rw [hq]; exact (h.2.1 t ht e).2⟩, h.2.2⟩
theorem jcell.zero {D : va_G} {cA : Nat → ClassId} {s : State} {A : Nat → Prop} {ad : Nat → Nat} {q : Nat} {c : jC} {H : Heap} (h : c.1.1 = 0) : jcell D cA s A ad q c H :=
  ⟨fun k _ e => by omega, fun t _ e => by omega, fun e => by omega⟩
theorem jcell.lt {D : va_G} {cA : Nat → ClassId} {s : State} {A : Nat → Prop} {ad : Nat → Nat} {q : Nat} {c : jC} {H : Heap} (h : jcell D cA s A ad q c H) (hs : s.heap.size ≤ H.size) (h0 : c.1.1 ≠ 0) (hv : jvk c.1.1) : q < H.size := by
  rcases hv with hv | hv | hv
  · obtain ⟨-, cell, hc, -⟩ := h.1 (c.1.1 - 1) (by omega) (by omega)
    exact (Array.getElem?_eq_some_iff.mp hc).1
  · have hc := (h.2.1 (c.1.1 - 20) (by omega) (by omega)).2
    exact (Array.getElem?_eq_some_iff.mp hc).1
  · exact Nat.lt_of_lt_of_le (h.2.2 hv).2.1 hs
theorem jcell.eq {D : va_G} {cA : Nat → ClassId} {s : State} {A : Nat → Prop} {ad ad' : Nat → Nat} {q n : Nat} {c : jC} {H : Heap} (h : jcell D cA s A ad q c H) (ha : ∀ a, a < n → ad' a = ad a) (hp : ∀ k r, c.2.2.2 k = some r → r < n) : jcell D cA s A ad' q c H := by
  have hv : ∀ (ty : FieldType) (j : Nat), ja ad' (jfv ty c j) = ja ad (jfv ty c j) := by
    intro ty j
    refine ja_eq ha ?_
    cases ty <;> first | trivial | exact jok_rf (fun a e => hp j a e)
  refine ⟨fun k hk e => ?_, fun t ht e => ?_, h.2.2⟩
  · obtain ⟨h1, h2⟩ := h.1 k hk e
    exact ⟨h1, h2.to fun j _ => (hv _ j).symm⟩
  · obtain ⟨h1, h2⟩ := h.2.1 t ht e
    refine ⟨h1, ?_⟩
    rw [h2]
    congr 2
    funext j
    exact (hv _ j).symm
/-- a cell is changed -/
theorem jRel.put {D : va_G} {cA : Nat → ClassId} {s : State} {A : Nat → Prop} {ad : Nat → Nat} {h : jH} {H H1 : Heap} (hR : jRel D cA s A ad h H) {a : Nat} {c' : jC} (hk : c'.1 = jk h a) (h0 : (jk h a).1 ≠ 0) (hc : jcell D cA s A ad (ad a) c' H1) (hq : ∀ q, q ≠ ad a → H1[q]? = H[q]?) (hp : ∀ k r, c'.2.2.2 k = some r → r < h.2.1) : jRel D cA s A ad (jset h a c') H1 := by
  obtain ⟨r1, r2, r3, r4, r5⟩ := hR
  have hkk : ∀ b, jk (jset h a c') b = jk h b := by
    intro b
    unfold jk jset
    by_cases e : b = a
    · subst e; simp only [if_true]; exact hk
    · simp only [e, if_false]
  refine ⟨fun b => ?_, fun b d hb hd e => r2 b d (by rw [← hkk]; exact hb) (by rw [← hkk]; exact hd) e, fun b hb => by rw [hkk]; exact r3 b hb, fun b k r hr => ?_, fun b => by rw [hkk]; exact r5 b⟩
  · by_cases e : b = a
    · subst e
      show jcell D cA s A ad (ad b) (if b = b then c' else h.1 b) H1
      rw [if_pos rfl]
      exact hc
    · show jcell D cA s A ad (ad b) (if b = a then c' else h.1 b) H1
      rw [if_neg e]
      by_cases z : (jk h b).1 = 0
      · exact jcell.zero z
      · exact (r1 b).kept (hq _ fun q => e (r2 b a z h0 q))
  · unfold jp jset at hr
    by_cases e : b = a
    · simp only [e, if_true] at hr; exact hp k r hr
    · simp only [e, if_false] at hr; exact r4 b k r hr
/-- a cell is made -/
theorem jRel.new {D : va_G} {cA : Nat → ClassId} {s : State} {A : Nat → Prop} {ad : Nat → Nat} {h : jH} {H H1 : Heap} (hR : jRel D cA s A ad h H) (hs : s.heap.size ≤ H.size) {k n z : Nat} (hv : jvk k) (hq : ∀ q, q < H.size → H1[q]? = H[q]?)
    (hc : ∀ ad' : Nat → Nat, jcell D cA s A ad' H.size ((k, n), fun _ => 0, fun _ => 0, fun _ => none) H1) :
    jRel D cA s A (fun b => if b = h.2.1 then H.size else ad b) (jnew h k n z) H1 := by
  obtain ⟨r1, r2, r3, r4, r5⟩ := hR
  have had : ∀ a, a < h.2.1 → (fun b => if b = h.2.1 then H.size else ad b) a = ad a := fun a ha => if_neg (Nat.ne_of_lt ha)
  have hlt : ∀ b, (jk h b).1 ≠ 0 → ad b < H.size := fun b hb => (r1 b).lt hs hb (r5 b)
  have hold : ∀ b, b ≠ h.2.1 → jk (jnew h k n z) b = jk h b := fun b hb => by rw [jk_new, if_neg hb]
  refine ⟨fun b => ?_, fun b d hb hd e => ?_, fun b hb => ?_, fun b j r hr => ?_, fun b => ?_⟩
  · by_cases e : b = h.2.1
    · subst e
      show jcell D cA s A _ (if h.2.1 = h.2.1 then H.size else ad h.2.1) (if h.2.1 = h.2.1 then _ else h.1 h.2.1) H1
      rw [if_pos rfl, if_pos rfl]
      exact hc _
    · show jcell D cA s A _ (if b = h.2.1 then H.size else ad b) (if b = h.2.1 then _ else h.1 b) H1
      rw [if_neg e, if_neg e]
      by_cases zz : (jk h b).1 = 0
      · exact jcell.zero zz
      · exact ((r1 b).eq had (fun j r hr => r4 b j r hr)).kept (hq _ (hlt b zz))
  · by_cases e1 : b = h.2.1
    · by_cases e2 : d = h.2.1
      · rw [e1, e2]
      · rw [hold d e2] at hd
        have h1 := hlt d hd
        simp only [e1, e2, if_true, if_false] at e
        omega
    · rw [hold b e1] at hb
      have h1 := hlt b hb
      by_cases e2 : d = h.2.1
      · simp only [e1, e2, if_true, if_false] at e
        omega
      · rw [hold d e2] at hd
        simp only [e1, e2, if_false] at e
        exact r2 b d hb hd e
  · have hb' : h.2.1 + 1 ≤ b := hb
    rw [hold b (by omega)]
    exact r3 b (by omega)
  · rw [jp_new] at hr
    show r < h.2.1 + 1
    by_cases e : b = h.2.1
    · rw [if_pos e] at hr; cases hr
    · rw [if_neg e] at hr
      have := r4 b j r hr
      omega
  · by_cases e : b = h.2.1
    · rw [jk_new, if_pos e]; exact hv
    · rw [hold b e]; exact r5 b
