/-! SIMULATION 6: calls, and runs of any length -/
/-- the cells that a call may change -/
def jAc (ad : Nat → Nat) (h : jH) (sz : Nat) : Nat → Prop := fun q => (∃ a, (jk h a).1 ≠ 0 ∧ (jk h a).1 ≠ 30 ∧ ad a = q) ∨ sz ≤ q
theorem jRel.enter {D : va_G} {cA : Nat → ClassId} {s U : State} {A : Nat → Prop} {ad : Nat → Nat} {h : jH} {H : Heap} {locs : List Loc} (hR : jRel D cA s A ad h H) (hS : va_S A s.heap H locs) (hU : U.heap = H) (hvm : s.vm.Alike U.vm) : jRel D cA U (jAc ad h H.size) ad h H := by
  obtain ⟨r1, r2, r3, r4, r5⟩ := hR
  refine ⟨fun a => ?_, r2, r3, r4, r5⟩
  obtain ⟨c1, c2, c3⟩ := r1 a
  refine ⟨fun k hk e => ⟨Or.inl ⟨a, ?_, ?_, rfl⟩, (c1 k hk e).2⟩, fun t ht e => ⟨Or.inl ⟨a, ?_, ?_, rfl⟩, (c2 t ht e).2⟩, fun e => ?_⟩
  · show (h.1 a).1.1 ≠ 0; omega
  · show (h.1 a).1.1 ≠ 30; omega
  · show (h.1 a).1.1 ≠ 0; omega
  · show (h.1 a).1.1 ≠ 30; omega
  · obtain ⟨g1, g2, g3⟩ := c3 e
    have hlt : ad a < H.size := Nat.lt_of_lt_of_le g2 hS.1
    refine ⟨fun q => ?_, by rw [hU]; exact hlt, ?_⟩
    · rcases q with ⟨b, b0, b1, b2⟩ | q
      · have := r2 b a b0 (by show (h.1 a).1.1 ≠ 0; omega) b2
        subst this
        exact b1 e
      · omega
    · have h1 := (g3.kept (hS.2.1 _ g2 g1)).moved hvm
      rw [hU]
      exact h1
theorem jAc.sub {D : va_G} {cA : Nat → ClassId} {s : State} {A : Nat → Prop} {ad : Nat → Nat} {h : jH} {H : Heap} {locs : List Loc} (hR : jRel D cA s A ad h H) (hS : va_S A s.heap H locs) (hA : ∀ q, s.heap.size ≤ q → A q) : ∀ q, jAc ad h H.size q → A q := by
  intro q hq
  rcases hq with ⟨a, a0, a1, rfl⟩ | hq
  · rcases hR.2.2.2.2 a with hv | hv | hv
    · exact ((hR.1 a).1 ((jk h a).1 - 1) (by omega) (by show (jk h a).1 = _; omega)).1
    · exact ((hR.1 a).2.1 ((jk h a).1 - 20) (by omega) (by show (jk h a).1 = _; omega)).1
    · exact absurd hv a1
  · exact hA q (Nat.le_trans hS.1 hq)
theorem jRel.leave {D : va_G} {cA : Nat → ClassId} {s U : State} {A : Nat → Prop} {ad ad' : Nat → Nat} {h h' : jH} {H H1 : Heap} {locs : List Loc} (hR : jRel D cA s A ad h H) (hS : va_S A s.heap H locs) (hA : ∀ q, s.heap.size ≤ q → A q) (hR1 : jRel D cA U (jAc ad h H.size) ad' h' H1) (had : ∀ a, a < h.2.1 → ad' a = ad a) (hmo : jMo h h') : jRel D cA s A ad' h' H1 := by
  obtain ⟨r1, r2, r3, r4, r5⟩ := hR1
  have hsub := jAc.sub hR hS hA
  refine ⟨fun a => ?_, r2, r3, r4, r5⟩
  obtain ⟨c1, c2, c3⟩ := r1 a
  refine ⟨fun k hk e => ⟨hsub _ (c1 k hk e).1, (c1 k hk e).2⟩, fun t ht e => ⟨hsub _ (c2 t ht e).1, (c2 t ht e).2⟩, fun e => ?_⟩
  have e1 := hmo.2.2 a e
  have e2 : (jk h a).1 = 30 := by unfold jk; rw [← e1]; exact e
  have hlt : a < h.2.1 := by
    rcases Nat.lt_or_ge a h.2.1 with q | q
    · exact q
    · have := hR.2.2.1 a q; omega
  have g := (hR.1 a).2.2 e2
  rw [had a hlt, e1]
  exact g
/-- the locals with which a method begins -/
theorem jlv_jal (ad : Nat → Nat) : ∀ (vs : List Value) (n i : Nat), ∀ (j : Nat) (v : Value), ((vs.flatMap fun v => if v.category = 2 then [some v, none] else [some v]) ++ List.replicate n (none : Option Value))[j]? = some (some v) → (i + j, ja ad v) ∈ lv_args i (vs.map (ja ad))
  | [], n, i, j, v, e => by
    rw [List.flatMap_nil, List.nil_append] at e
    rw [List.getElem?_replicate] at e
    split at e
    · cases e
    · cases e
  | u :: vs, n, i, j, v, e => by
    rw [List.flatMap_cons] at e
    rw [List.map_cons, lv_args, ja_cat]
    by_cases hc : u.category = 2
    · simp only [hc, if_true] at e ⊢
      rcases j with _ | _ | j
      · simp at e
        subst e
        exact List.mem_cons_self
      · simp at e
      · refine List.mem_cons_of_mem _ ?_
        have h1 := jlv_jal ad vs n (i + 2) j v (by simpa using e)
        rwa [show i + 2 + j = i + (j + 1 + 1) by omega] at h1
    · simp only [hc, if_false] at e ⊢
      rcases j with _ | j
      · simp at e
        subst e
        exact List.mem_cons_self
      · refine List.mem_cons_of_mem _ ?_
        have h1 := jlv_jal ad vs n (i + 1) j v (by simpa using e)
        rwa [show i + 1 + j = i + (j + 1) by omega] at h1
theorem jlv_len (vs : List Value) {n : Nat} (h : (lg_sl vs).length ≤ n) : (jlv vs n).length = n := by
  have e : (vs.flatMap fun v => if v.category = 2 then [some v, none] else [some v]).length = (lg_sl vs).length := by
    unfold lg_sl
    induction vs with
    | nil => rfl
    | cons u vs ih =>
      have h' : (lg_sl vs).length ≤ n := by
        unfold lg_sl at h ⊢
        rw [List.flatMap_cons, List.length_append] at h
        omega
      rw [List.flatMap_cons, List.flatMap_cons, List.length_append, List.length_append, ih h']
      congr 1
      split <;> rfl
  unfold jlv
  rw [List.length_append, List.length_replicate, e]
  omega
theorem lg_ja (ad : Nat → Nat) (vs : List Value) : (lg_sl (vs.map (ja ad))).length = (lg_sl vs).length := by
  unfold lg_sl
  induction vs with
  | nil => rfl
  | cons u vs ih =>
    rw [List.map_cons, List.flatMap_cons, List.flatMap_cons, List.length_append, List.length_append, ih, ja_cat]
    congr 1
    split <;> rfl
theorem jlv_mem {vs : List Value} {n : Nat} {v : Value} (h : some v ∈ jlv vs n) : v ∈ vs := by
  unfold jlv at h
  rcases List.mem_append.mp h with h | h
  · obtain ⟨u, hu, hv⟩ := List.mem_flatMap.mp h
    by_cases hc : u.category = 2
    · rw [if_pos hc] at hv
      rcases List.mem_cons.mp hv with e | hv
      · cases e; exact hu
      · rcases List.mem_cons.mp hv with e | hv
        · cases e
        · cases hv
    · rw [if_neg hc] at hv
      rcases List.mem_cons.mp hv with e | hv
      · cases e; exact hu
      · cases hv
  · have := (List.mem_replicate.mp h).2
    cases this
theorem lg_slots (vs : List Value) : (lg_sl vs).length = (vs.map fun v => v.category).sum := by
  unfold lg_sl
  induction vs with
  | nil => rfl
  | cons u vs ih =>
    rw [List.flatMap_cons, List.length_append, ih, List.map_cons, List.sum_cons]
    congr 1
    rcases lv_cat u with hc | hc <;> simp [hc]
/-- runs of n steps are runs of the machine -/
def jSim (l : Launch) (D : va_G) (cA : Nat → ClassId) (n : Nat) : Prop :=
  ∀ (p : Program) (e : Env) (R : Room) (s : State) (m : MethodId) (args : Array Value) (below : List Frame) (meth : Method) (c : Code) (Q : State → Prop) (A : Nat → Prop) (ad0 : Nat → Nat) (n0 s0 y : Nat),
    jX p R s m args meth c y → y ≤ jmNL → jKn D cA s → (∀ q, s.heap.size ≤ q → A q) → ∀ x : Option Value × jH, x.2.2.1 ≤ n0 + R.cells → x.2.2.2 ≤ s0 + R.slots →
    (∀ (pc : Nat) (i : Instr) (ls : jL) (st : List Value) (h : jH), jD y pc = some i → jRet y i st h x → jKK p l e R s m args below meth c Q D cA A ad0 n0 s0 y pc ls st h) →
    ∀ (pc : Nat) (ls : jL) (st : List Value) (h : jH), jE n y pc ls st h = some x → jKK p l e R s m args below meth c Q D cA A ad0 n0 s0 y pc ls st h
/-- a method's contract, out of its run -/
theorem jMet {l : Launch} {D : va_G} {cA : Nat → ClassId} {n : Nat} (ih : jSim l D cA n) {cal : Nat} (hcal : cal < jmNL) {vs : List Value} {h : jH} {z : Option Value × jH} (e1 : jE n cal 0 (jlv vs (jm_max cal)) [] h = some z) (hlen : (lg_sl vs).length ≤ jm_max cal) (hok : ∀ v ∈ vs, jok h.2.1 v) (ad : Nat → Nat) (H : Heap) :
    Met l (jm_name cal) (jws cal) { frames := jm_fr cal, cells := z.2.2.1 - h.2.1, slots := z.2.2.2 - h.2.2, locals := 50 * jm_fr cal } (fun v U => v = (vs.map (ja ad)).toArray ∧ U.heap = H ∧ jKn D cA U ∧ (∀ w ∈ jwn, va_Nw w U) ∧ jRel D cA U (jAc ad h H.size) ad h H)
      (fun _ U o t => ∃ ad' : Nat → Nat, o = .returned (z.1.map (ja ad')) ∧ jRel D cA U (jAc ad h H.size) ad' z.2 t.heap ∧ (∀ a, a < h.2.1 → ad' a = ad a) ∧ va_F (jAc ad h H.size) U t ∧ ∀ v, z.1 = some v → jok z.2.2.1 v) (z.2.2.1 - h.2.1) (z.2.2.2 - h.2.2) (jAc ad h H.size) := by
  obtain ⟨hpl, hnm, hcn, hmx, hin⟩ := jm_ok hcal
  have hmo := jE_mo n e1
  refine Met.ofW (cc := jm_code cal) (maxL := jm_max cal) (ret := jm_ret cal) hpl rfl ?_
  intro p e s m args below meth c s₁ B hml hv
  obtain ⟨rfl, rfl, hK, hnw, hR⟩ := hv
  have hts := atoms_spec (ws := jws cal) B.pre
  have hlocks := B.notSynchronized
  have C : jX p (headSpec (jws cal) { frames := jm_fr cal, cells := z.2.2.1 - h.2.1, slots := z.2.2.2 - h.2.2, locals := 50 * jm_fr cal }).room s m (vs.map (ja ad)).toArray meth c cal :=
    ⟨B.exec, B.bytes, B.returns, hml, by rw [hcn]; exact findClass_of_methodNamed B.named, fun w hw => hts w (List.mem_cons_of_mem _ hw), hnw, hlocks, fun hi => (name_of_methodNamed B.named B.method).1.trans (hin hi).1, Nat.le_refl _, Nat.le_refl _⟩
  have hl := lv_entry (vs.map (ja ad)) (n := jm_max cal) (by rw [lg_ja]; exact hlen)
  rw [lg_entry_eq]
  generalize (lg_sl (vs.map (ja ad)) ++ List.replicate (jm_max cal - (lg_sl (vs.map (ja ad))).length) Slot.unset).toArray = lr at hl ⊢
  refine ih p e _ s m _ below meth c _ (jAc ad h s.heap.size) ad h.2.1 h.2.2 cal C (Nat.le_of_lt hcal) hK (fun q hq => Or.inr hq) z ?_ ?_ ?_ 0 _ [] h e1 ad s.heap [] lr 0 0 ?_
  · show z.2.2.1 ≤ h.2.1 + (z.2.2.1 - h.2.1)
    have := hmo.1
    omega
  · show z.2.2.2 ≤ h.2.2 + (z.2.2.2 - h.2.2)
    have := hmo.2.1
    omega
  · intro pc i ls st h2 hd hret ad' H' locs lr' cells slots I
    obtain ⟨nn, dd, hlk⟩ := j_d hd
    obtain ⟨I1, I2, -, -, I5, -, I7, I8, I9⟩ := I
    rcases hret with ⟨v, rfl, rfl, rfl, hr⟩ | ⟨v, rfl, rfl, rfl, hr⟩ | ⟨v, nm, rfl, rfl, rfl, hr, hv⟩ | ⟨rfl, rfl, rfl, hr⟩
    · obtain rfl : nn = 1 := eq_of_beq hlk
      have hc : cells = h2.2.1 - h.2.1 := by omega
      have hs : slots = h2.2.2 - h.2.2 := by omega
      subst hc hs
      rcases hr with hr | ⟨hr, hv⟩
      · exact W.iret B.exec B.bytes (B.returns.trans hr) (fun t ht hW => ⟨ad', rfl, by rw [ht]; exact I1, I7, I2.F ht, fun u hu => by cases hu; trivial⟩) I2.2.2 dd
      · exact W.zret B.exec B.bytes (B.returns.trans hr) (by rcases hv with rfl | rfl <;> decide) (fun t ht hW => ⟨ad', rfl, by rw [ht]; exact I1, I7, I2.F ht, fun u hu => by cases hu; trivial⟩) I2.2.2 dd
    · obtain rfl : nn = 1 := eq_of_beq hlk
      have hc : cells = h2.2.1 - h.2.1 := by omega
      have hs : slots = h2.2.2 - h.2.2 := by omega
      subst hc hs
      exact W.lret B.exec B.bytes (B.returns.trans hr) (fun t ht hW => ⟨ad', rfl, by rw [ht]; exact I1, I7, I2.F ht, fun u hu => by cases hu; trivial⟩) I2.2.2 dd
    · obtain rfl : nn = 1 := eq_of_beq hlk
      have hc : cells = h2.2.1 - h.2.1 := by omega
      have hs : slots = h2.2.2 - h.2.2 := by omega
      subst hc hs
      exact W.aret B.exec B.bytes (B.returns.trans hr) (Or.inl ⟨nm, rfl⟩) (by rcases hv with rfl | ⟨a, rfl⟩; exact Or.inl rfl; exact Or.inr ⟨_, rfl⟩) (fun t ht hW => ⟨ad', rfl, by rw [ht]; exact I1, I7, I2.F ht, fun u hu => by cases hu; exact I5 v List.mem_cons_self⟩) I2.2.2 dd
    · obtain rfl : nn = 1 := eq_of_beq hlk
      have hc : cells = h2.2.1 - h.2.1 := by omega
      have hs : slots = h2.2.2 - h.2.2 := by omega
      subst hc hs
      exact W.vret B.exec B.bytes (B.returns.trans hr) (fun t ht hW => ⟨ad', rfl, by rw [ht]; exact I1, I7, I2.F ht, fun u hu => by cases hu⟩) I2.2.2 dd
  · refine ⟨hR, va_S.rf, lv_sup hl ?_, jlv_len vs hlen, fun v hv => (by cases hv), fun v hv => hok v (jlv_mem hv), fun _ _ => rfl, by omega, by omega⟩
    rintro ⟨j, w⟩ hq
    obtain ⟨u, hu, rfl⟩ := mem_jal.mp hq
    have h1 := jlv_jal ad vs _ 0 j u hu
    rwa [Nat.zero_add] at h1
