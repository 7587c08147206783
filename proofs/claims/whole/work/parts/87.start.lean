/-! THE START: the law's run in my machine gives the claim's walk -/
def R_law : String := "TwinLinesLaw"
def lw_P (b : Addr) (xs : List Int32) (args : Array Value) (s : State) : Prop := args = #[.ref b] ∧ s.IntsAt b xs ∧ xs.length ≤ 4608 ∧ (Jvm.Cond.and given_1 narrow_1).before args s = true
def lw_Q (_ : Array Value) (s : State) (o : Outcome) (t : State) : Prop := o = .returned (some (.int 1)) ∧ Framed s o t [] 600000 7302250
def lw_Z (below : List Frame) (a : Array Value) (s : State) : State → Prop := fun t => ∃ o, t.status = .running ∧ Ended t below o ∧ lw_Q a s o t
/-- the law's own end, with 1 on the stack, nothing written that was there before, its room as the claim has it -/
theorem lw_ret {p : Program} {l : Launch} {e : Env} {s : State} {m : MethodId} {below : List Frame} {meth : Method} {c : Code} {b : Nat} (hx : p.tables.exec = Jvm.exec) (hb : c.code = code) (hr : meth.sig.returnType = ret) (hlocks : meth.locks = false) {pc : Nat} {H : Heap} {ls : Array Slot} (hdg : decode code pc = .ok (.ireturn, 1)) : W p l e room_1 s m #[Value.ref b] below meth c H [] 600000 7302250 (lw_Z below #[Value.ref b] s) (F0 m pc ls [.int 1]) := by
  intro T hT X
  obtain ⟨fs, hret, hrun, hended, hW, hframe⟩ := X.leave (v := some (.int 1)) (hlocks := hlocks) (fun h => by rw [hr] at h; cases h)
  have hmeth' : T.vm.method? m = some meth := X.method'
  refine ⟨T.setFrames fs, ?_, .returned (some (.int 1)), hrun, hended, rfl, ⟨_, rfl⟩, hW, hframe⟩
  jvm_step X.here [X.here.top, hx, hb, hdg, hmeth', hr, ret, narrow_b1]
  (try refine ⟨rfl, ?_⟩); (try refine ⟨rfl, ?_⟩)
  first | (intro acts; rw [hret _ acts rfl rfl rfl]) | rw [hret _ _ rfl rfl rfl]
  exact Steps.refl _
/-- what holds at the law's entry: the machine, the code, the tables' words (any of lw_tbl by 'hts w (by decide +kernel)'), the script of L ints xs at the cell b, what the Statement gives of the start (any of its parts by flat_of_before) -/
def lw_At (p : Program) (s : State) (m : MethodId) (meth : Method) (c : Code) (b L : Nat) (xs : Nat → Int32) : Prop :=
  p.tables.exec = Jvm.exec ∧ c.code = code ∧ meth.sig.returnType = ret ∧ c.maxLocals = 4 ∧ s.vm.findClass R_law = some m.cls ∧ (∀ w ∈ lw_tbl, w.before #[Value.ref b] s = true) ∧ va_X b L xs s s.heap ∧ b < s.heap.size ∧ meth.locks = false ∧ (Jvm.Cond.and given_1 narrow_1).before #[Value.ref b] s = true

/-- the store at the law's entry: the script, of L ints xs, at label 0 -/
def jh0 (L : Nat) (xs : Nat → Int32) : jH := (fun a => if a = 0 then ((30, L), xs, fun _ => 0, fun _ => none) else ((0, 0), fun _ => 0, fun _ => 0, fun _ => none), 1, 0)
theorem j_inst0 : ((List.range 9).all fun c => decide (Cond.instantiable (jcR c) (jcN c) ∈ lw_tbl) && goodWord (.instantiable (jcR c) (jcN c))) = true := by decide +kernel
theorem j_inst9 {k : Nat} (hk : k < 9) : Cond.instantiable (jcR k) (jcN k) ∈ jw := by
  have h1 := List.all_eq_true.mp j_inst0 k (List.mem_range.mpr hk)
  simp only [Bool.and_eq_true, decide_eq_true_eq] at h1
  exact List.mem_filter.mpr h1
theorem j_over5 : Cond.arrayOver (.object RX5) ∈ lw_tbl := by decide +kernel
theorem j_over7 : Cond.arrayOver (.object RX7) ∈ lw_tbl := by decide +kernel
theorem j_arr1 {s : State} {args : Array Value} {ty : FieldType} (hn : ∀ C, ty ≠ .object C) (h : (Cond.arrayClass ty).before args s = true) : ∃ cA : ClassId, ArrOfT s cA ty ∧ va_RA s cA ty := by
  obtain ⟨cA, kA, comp, h1, h2, h3⟩ := Cond.arrayClass_spec h
  refine ⟨cA, fun n z => ⟨fun k h => (by cases h), kA, h2, comp, h3⟩, ?_⟩
  cases ty <;> first | exact h1 | exact absurd rfl (hn _)
theorem j_arr2 {s : State} {C : String} (h : va_AO C s) : ∃ cA : ClassId, ArrOfT s cA (.object C) ∧ va_RA s cA (.object C) := by
  obtain ⟨comp, c, k, h1, h2, h3, h4, h5⟩ := Cond.arrayOver_spec h
  exact ⟨c, fun n z => ⟨fun k h => (by cases h), k, h3, comp, h4⟩, k, comp, h3, h4, h1, h5⟩
theorem j_nestT {w : Cond} (h : jnest w = true) : w.onTables = true := by cases w <;> first | rfl | cases h
theorem whole_of {p : Program} {e : Env} {s : State} {m : MethodId} {below : List Frame} {meth : Method} {c : Code} (l : Launch) {b L : Nat} {xs : Nat → Int32} (C0 : lw_At p s m meth c b L xs) (hrun : ∃ h' : jH, jV jmNL 0 [some (.ref 0), none, none, none] [] (jh0 L xs) = some (some (.int 1), h') ∧ h'.2.1 ≤ 600001 ∧ h'.2.2 ≤ 7302250) : W p l e room_1 s m #[Value.ref b] below meth c s.heap [] 0 0 (lw_Z below #[Value.ref b] s) (entryFrame m ([Value.ref b] : List Value).toArray 4) := by
  obtain ⟨hx, hb, hr, hml, hown, hts, hX, hbl, hlocks, hgv⟩ := C0
  obtain ⟨h', hV, hc1, hc2⟩ := hrun
  obtain ⟨n, hE⟩ := jV_to hV
  have htsw : ∀ w ∈ jw, w.before #[Value.ref b] s = true := fun w hw => hts w (List.mem_filter.mp hw).1
  have hnw : ∀ w ∈ jwn, va_Nw w s := fun w hw => va_Nw.of (j_nestT (List.mem_filter.mp hw).2) (hts w (List.mem_filter.mp hw).1)
  have hcls : ∀ k, ∃ (cC : ClassId) (iS : Nat → Nat), k < 9 → u_Kn s (jcR k) (jtT k) (jcN k) cC iS := by
    intro k
    by_cases hk : k < 9
    · obtain ⟨c0, i0, h0⟩ := u_known htsw (j_lays hk) (htsw _ (j_inst9 hk))
      exact ⟨c0, i0, fun _ => h0⟩
    · exact ⟨0, fun _ => 0, fun q => absurd q hk⟩
  have hO5 : va_AO RX5 s := va_AO.of (hts _ j_over5)
  have hO7 : va_AO RX7 s := va_AO.of (hts _ j_over7)
  obtain ⟨a0, A0⟩ := j_arr1 (ty := .int) (fun C q => by cases q) (htsw _ j_arrI)
  obtain ⟨a1, A1⟩ := j_arr1 (ty := .long) (fun C q => by cases q) (htsw _ j_arrJ)
  obtain ⟨a2, A2⟩ := j_arr1 (ty := .boolean) (fun C q => by cases q) (htsw _ j_arrZ)
  obtain ⟨a3, A3⟩ := j_arr2 hO5
  obtain ⟨a4, A4⟩ := j_arr2 hO7
  have hK : jKn (fun k => Classical.choose (hcls k), fun k => Classical.choose (Classical.choose_spec (hcls k))) (fun t => match t with | 0 => a0 | 1 => a1 | 2 => a2 | 3 => a3 | _ => a4) s := by
    refine ⟨⟨fun k q hq => ?_, fun k q hq => ?_⟩, hO5, hO7⟩
    · have hk : k < 9 := (List.getElem?_eq_some_iff.mp hq).1
      rw [j_vw hk] at hq
      cases hq
      exact Classical.choose_spec (Classical.choose_spec (hcls k)) hk
    · rcases k with _ | _ | _ | _ | _ | k
      · cases hq; exact A0
      · cases hq; exact A1
      · cases hq; exact A2
      · cases hq; exact A3
      · cases hq; exact A4
      · cases hq
  have C : jX p room_1 s m #[Value.ref b] meth c jmNL := ⟨hx, hb, hr, hml, hown, htsw, hnw, hlocks, fun hi => absurd hi (by decide +kernel), by decide +kernel, by decide +kernel⟩
  have hl := lv_entry ([.ref b]) (n := 4) (Nat.le_of_ble_eq_true rfl)
  rw [lg_entry_eq]
  generalize (lg_sl ([.ref b]) ++ List.replicate (4 - (lg_sl ([.ref b])).length) Slot.unset).toArray = lr at hl ⊢
  refine j_sim l _ _ n p e room_1 s m _ below meth c _ (fun q => s.heap.size ≤ q) (fun _ => b) 1 0 jmNL C (Nat.le_refl _) hK (fun _ h => h) (some (.int 1), h') (by show h'.2.1 ≤ 1 + 600000; omega) (by show h'.2.2 ≤ 0 + 7302250; omega) ?_ 0 _ [] (jh0 L xs) hE (fun _ => b) s.heap [] lr 0 0 ?_
  · intro pc i ls st h2 hd hret ad' H' locs lr' cells slots I
    obtain ⟨nn, dd, hlk⟩ := j_d hd
    obtain ⟨I1, I2, -, -, I5, -, I7, I8, I9⟩ := I
    rcases hret with ⟨v, rfl, rfl, hz, -⟩ | ⟨v, -, -, hz, -⟩ | ⟨v, nm, -, -, hz, h3, -⟩ | ⟨-, -, hz, -⟩
    · obtain rfl : nn = 1 := eq_of_beq hlk
      cases hz
      refine va_forget (fun q hq => I2.2.2 q hq) ?_
      refine W.widen (k := 600000) (n := 7302250) (by omega) (by omega) ?_
      exact lw_ret hx hb hr hlocks dd
    · cases hz
    · exact absurd h3 (by have : jm_ret jmNL = some .boolean := by decide +kernel
                          rw [this]; intro q; cases q)
    · cases hz
  · have hkd : ∀ a, (jk (jh0 L xs) a).1 = if a = 0 then 30 else 0 := by
      intro a
      unfold jk jh0
      by_cases q : a = 0 <;> simp [q]
    refine ⟨⟨fun a => ?_, fun a d ha hd _ => ?_, fun a ha => ?_, fun a k r hr => ?_, fun a => ?_⟩, va_S.rf, lv_sup hl ?_, rfl, fun v hv => (by cases hv), fun v hv => ?_, fun _ _ => rfl, rfl, rfl⟩
    · by_cases q : a = 0
      · subst q
        refine ⟨fun k hk e => ?_, fun t ht e => ?_, fun e => ⟨Nat.not_le.mpr hbl, hbl, hX⟩⟩
        · have e' : 30 = 1 + k := e
          omega
        · have e' : 30 = 20 + t := e
          omega
      · refine jcell.zero ?_
        have := hkd a
        rw [if_neg q] at this
        exact this
    · rw [hkd] at ha hd
      by_cases q : a = 0
      · by_cases q2 : d = 0
        · omega
        · rw [if_neg q2] at hd; exact absurd rfl hd
      · rw [if_neg q] at ha; exact absurd rfl ha
    · have ha' : 1 ≤ a := ha
      rw [hkd, if_neg (by omega)]
    · unfold jp jh0 at hr
      by_cases q : a = 0 <;> simp [q] at hr
    · rw [hkd]
      by_cases q : a = 0
      · rw [if_pos q]; exact Or.inr (Or.inr rfl)
      · rw [if_neg q]; exact Or.inl (by omega)
    · intro q hq
      obtain ⟨j, w⟩ := q
      obtain ⟨u, hu, rfl⟩ := mem_jal.mp hq
      rcases j with _ | _ | _ | _ | j
      · cases hu; exact List.mem_cons_self
      · cases hu
      · cases hu
      · cases hu
      · cases hu
    · have h1 : v = .ref 0 := by simpa using hv
      rw [h1]
      exact Nat.zero_lt_one
