/-! SIMULATION 2: a step of my machine is a step of the machine -/
def jKK (p : Program) (l : Launch) (e : Env) (R : Room) (s : State) (m : MethodId) (args : Array Value) (below : List Frame) (meth : Method) (c : Code) (Q : State → Prop) (D : va_G) (cA : Nat → ClassId) (A : Nat → Prop) (ad0 : Nat → Nat) (n0 s0 y pc : Nat) (ls : jL) (st : List Value) (h : jH) : Prop :=
  ∀ (ad : Nat → Nat) (H : Heap) (locs : List Loc) (lr : Array Slot) (cells slots : Nat), jI D cA s A ad0 n0 s0 y ad h ls st H locs lr cells slots → W p l e R s m args below meth c H locs cells slots Q (F0 m pc lr (st.map (ja ad)))
section
variable {p : Program} {l : Launch} {e : Env} {R : Room} {s : State} {m : MethodId} {args : Array Value} {below : List Frame} {meth : Method} {c : Code} {Q : State → Prop} {D : va_G} {cA : Nat → ClassId} {A : Nat → Prop} {ad0 : Nat → Nat} {n0 s0 y : Nat}
variable {pc : Nat} {ls : jL} {st : List Value} {h : jH} {pc' : Nat} {ls' : jL} {st' : List Value} {h' : jH}
theorem jI.stk {ad : Nat → Nat} {H : Heap} {locs : List Loc} {lr : Array Slot} {cells slots : Nat} (I : jI D cA s A ad0 n0 s0 y ad h ls st H locs lr cells slots) (hs : ∀ v ∈ st', jok h.2.1 v) : jI D cA s A ad0 n0 s0 y ad h ls st' H locs lr cells slots :=
  ⟨I.1, I.2.1, I.2.2.1, I.2.2.2.1, hs, I.2.2.2.2.2⟩
theorem jI.okc {ad : Nat → Nat} {H : Heap} {locs : List Loc} {lr : Array Slot} {cells slots : Nat} {v : Value} (I : jI D cA s A ad0 n0 s0 y ad h ls (v :: st) H locs lr cells slots) : jok h.2.1 v ∧ ∀ u ∈ st, jok h.2.1 u :=
  ⟨I.2.2.2.2.1 v List.mem_cons_self, fun u hu => I.2.2.2.2.1 u (List.mem_cons_of_mem _ hu)⟩
theorem j_ok1 {n : Nat} {v : Value} {st : List Value} (hv : jok n v) (h : ∀ u ∈ st, jok n u) : ∀ u ∈ v :: st, jok n u := List.forall_mem_cons.mpr ⟨hv, h⟩
/-- something pushed -/
theorem jp_push {v : Value} {k : Nat} (hv : ∀ ad : Nat → Nat, ja ad v = v) (hj : ∀ n, jok n v)
    (row : ∀ (H : Heap) (locs : List Loc) (lr : Array Slot) (cells slots : Nat) (rest : List Value), W p l e R s m args below meth c H locs cells slots Q (F0 m (pc + k) lr (v :: rest)) → W p l e R s m args below meth c H locs cells slots Q (F0 m pc lr rest))
    (kk : jKK p l e R s m args below meth c Q D cA A ad0 n0 s0 y (pc + k) ls (v :: st) h) : jKK p l e R s m args below meth c Q D cA A ad0 n0 s0 y pc ls st h := by
  intro ad H locs lr cells slots I
  refine row _ _ _ _ _ _ ?_
  have h1 := kk ad H locs lr cells slots (I.stk (j_ok1 (hj _) I.2.2.2.2.1))
  rwa [List.map_cons, hv] at h1
theorem jp_i2 {f : Int32 → Int32 → Int32}
    (row : ∀ (H : Heap) (locs : List Loc) (lr : Array Slot) (cells slots : Nat) (rest : List Value) (x z : Int32), W p l e R s m args below meth c H locs cells slots Q (F0 m (pc + 1) lr (.int (f x z) :: rest)) → W p l e R s m args below meth c H locs cells slots Q (F0 m pc lr (.int z :: .int x :: rest)))
    (eN : jN_i2 f pc ls st h = some (.inl (pc', ls', st', h'))) (kk : jKK p l e R s m args below meth c Q D cA A ad0 n0 s0 y pc' ls' st' h') : jKK p l e R s m args below meth c Q D cA A ad0 n0 s0 y pc ls st h := by
  unfold jN_i2 at eN
  split at eN
  · cases eN
    intro ad H locs lr cells slots I
    exact row _ _ _ _ _ _ _ _ (kk ad H locs lr cells slots (I.stk (j_ok1 trivial (fun u hu => I.okc.2 u (List.mem_cons_of_mem _ hu)))))
  · cases eN
theorem jp_l2 {f : Int64 → Int64 → Int64}
    (row : ∀ (H : Heap) (locs : List Loc) (lr : Array Slot) (cells slots : Nat) (rest : List Value) (x z : Int64), W p l e R s m args below meth c H locs cells slots Q (F0 m (pc + 1) lr (.long (f x z) :: rest)) → W p l e R s m args below meth c H locs cells slots Q (F0 m pc lr (.long z :: .long x :: rest)))
    (eN : jN_l2 f pc ls st h = some (.inl (pc', ls', st', h'))) (kk : jKK p l e R s m args below meth c Q D cA A ad0 n0 s0 y pc' ls' st' h') : jKK p l e R s m args below meth c Q D cA A ad0 n0 s0 y pc ls st h := by
  unfold jN_l2 at eN
  split at eN
  · cases eN
    intro ad H locs lr cells slots I
    exact row _ _ _ _ _ _ _ _ (kk ad H locs lr cells slots (I.stk (j_ok1 trivial (fun u hu => I.okc.2 u (List.mem_cons_of_mem _ hu)))))
  · cases eN
theorem jp_li {f : Int64 → Int32 → Int64}
    (row : ∀ (H : Heap) (locs : List Loc) (lr : Array Slot) (cells slots : Nat) (rest : List Value) (x : Int64) (z : Int32), W p l e R s m args below meth c H locs cells slots Q (F0 m (pc + 1) lr (.long (f x z) :: rest)) → W p l e R s m args below meth c H locs cells slots Q (F0 m pc lr (.int z :: .long x :: rest)))
    (eN : jN_li f pc ls st h = some (.inl (pc', ls', st', h'))) (kk : jKK p l e R s m args below meth c Q D cA A ad0 n0 s0 y pc' ls' st' h') : jKK p l e R s m args below meth c Q D cA A ad0 n0 s0 y pc ls st h := by
  unfold jN_li at eN
  split at eN
  · cases eN
    intro ad H locs lr cells slots I
    exact row _ _ _ _ _ _ _ _ (kk ad H locs lr cells slots (I.stk (j_ok1 trivial (fun u hu => I.okc.2 u (List.mem_cons_of_mem _ hu)))))
  · cases eN

theorem jp_load {k i : Nat} {want : Value → Bool}
    (row : ∀ (H : Heap) (locs : List Loc) (lr : Array Slot) (cells slots : Nat) (rest : List Value) (ad : Nat → Nat) (v : Value), want v = true → lr[i]? = some (.val (ja ad v)) → W p l e R s m args below meth c H locs cells slots Q (F0 m (pc + k) lr (ja ad v :: rest)) → W p l e R s m args below meth c H locs cells slots Q (F0 m pc lr rest))
    (eN : jN_load k ls i pc st h want = some (.inl (pc', ls', st', h'))) (kk : jKK p l e R s m args below meth c Q D cA A ad0 n0 s0 y pc' ls' st' h') : jKK p l e R s m args below meth c Q D cA A ad0 n0 s0 y pc ls st h := by
  unfold jN_load at eN
  split at eN
  · next v hv =>
    cases hw : want v with
    | false => rw [hw] at eN; cases eN
    | true =>
      rw [hw] at eN
      cases eN
      intro ad H locs lr cells slots I
      exact row _ _ _ _ _ _ ad v hw (jal_at I.2.2.1 hv) (kk ad H locs lr cells slots (I.stk (j_ok1 (I.2.2.2.2.2.1 v (jld_mem hv)) I.2.2.2.2.1)))
  · cases eN
theorem jp_st1 {k i : Nat} {want : Value → Bool} (hw1 : ∀ v, want v = true → v.category = 1)
    (row : ∀ (H : Heap) (locs : List Loc) (lr : Array Slot) (cells slots : Nat) (rest : List Value) (ad : Nat → Nat) (v : Value) (lv lv' : List (Nat × Value)), want v = true → lv_has lr (jm_max y) lv → i < jm_max y → (i, ja ad v) :: lv.filter (fun q => !(q.1 == i) && !(q.1 + 1 == i && q.2.category == 2)) = lv' → (∀ lr' : Array Slot, lv_has lr' (jm_max y) lv' → W p l e R s m args below meth c H locs cells slots Q (F0 m (pc + k) lr' rest)) → W p l e R s m args below meth c H locs cells slots Q (F0 m pc lr (ja ad v :: rest)))
    (eN : jN_st1 k ls i pc st h want = some (.inl (pc', ls', st', h'))) (kk : jKK p l e R s m args below meth c Q D cA A ad0 n0 s0 y pc' ls' st' h') : jKK p l e R s m args below meth c Q D cA A ad0 n0 s0 y pc ls st h := by
  unfold jN_st1 at eN
  split at eN
  · next v st0 =>
    cases hw : want v with
    | false => rw [hw] at eN; cases eN
    | true =>
      rw [hw] at eN
      simp only [cond_true] at eN
      split at eN
      · next ls1 hl1 =>
        cases eN
        intro ad H locs lr cells slots I
        have hi := (jst1_spec hl1).1
        refine row _ _ _ _ _ _ ad v _ _ hw I.2.2.1 (by rw [← I.2.2.2.1]; exact hi) rfl fun lr' hlr => ?_
        exact kk ad H locs lr' cells slots ⟨I.1, I.2.1, lv_sup hlr (jal_st1 hl1), by rw [jal_len1 hl1]; exact I.2.2.2.1, I.okc.2, jwf_st1 hl1 I.okc.1 I.2.2.2.2.2.1, I.2.2.2.2.2.2⟩
      · cases eN
  · cases eN
theorem jp_st2 {k i : Nat}
    (row : ∀ (H : Heap) (locs : List Loc) (lr : Array Slot) (cells slots : Nat) (rest : List Value) (x : Int64) (lv lv' : List (Nat × Value)), lv_has lr (jm_max y) lv → i + 1 < jm_max y → (i, Value.long x) :: lv.filter (fun q => !(q.1 == i) && (!(q.1 == i + 1) && !(q.1 + 1 == i && q.2.category == 2))) = lv' → (∀ lr' : Array Slot, lv_has lr' (jm_max y) lv' → W p l e R s m args below meth c H locs cells slots Q (F0 m (pc + k) lr' rest)) → W p l e R s m args below meth c H locs cells slots Q (F0 m pc lr (.long x :: rest)))
    (eN : jN_st2 k ls i pc st h = some (.inl (pc', ls', st', h'))) (kk : jKK p l e R s m args below meth c Q D cA A ad0 n0 s0 y pc' ls' st' h') : jKK p l e R s m args below meth c Q D cA A ad0 n0 s0 y pc ls st h := by
  unfold jN_st2 at eN
  split at eN
  · next x st0 =>
    split at eN
    · next ls1 hl1 =>
      cases eN
      intro ad H locs lr cells slots I
      have hi := (jst2_spec hl1).1
      refine row _ _ _ _ _ _ x _ _ I.2.2.1 (by rw [← I.2.2.2.1]; exact hi) rfl fun lr' hlr => ?_
      exact kk ad H locs lr' cells slots ⟨I.1, I.2.1, lv_sup hlr (jal_st2 hl1), by rw [jal_len2 hl1]; exact I.2.2.2.1, I.okc.2, jwf_st2 hl1 I.okc.1 I.2.2.2.2.2.1, I.2.2.2.2.2.2⟩
    · cases eN
  · cases eN
theorem jal_idx {ad : Nat → Nat} {v : Value} {i : Nat} (hv : jld ls i = some v) : ∃ k : Nat, (jal ad ls)[k]? = some (i, ja ad v) := by
  have h1 : (i, ja ad v) ∈ jal ad ls := by
    refine mem_jal.mpr ⟨v, ?_, rfl⟩
    unfold jld at hv
    cases hi : ls[i]? with
    | none => rw [hi] at hv; cases hv
    | some o => rw [hi] at hv; exact congrArg some hv
  exact List.getElem?_of_mem h1
theorem jp_inc {i : Nat} {n : Int} {x : Int32} (hx : p.tables.exec = Jvm.exec) (hb : c.code = jm_code y) (dd : decode (jm_code y) pc = .ok (.iinc i n, 3)) (hv : jld ls i = some (.int x)) (hl1 : jst1 ls i (.int (x + Int32.ofInt n)) = some ls') (kk : jKK p l e R s m args below meth c Q D cA A ad0 n0 s0 y (pc + 3) ls' st h) : jKK p l e R s m args below meth c Q D cA A ad0 n0 s0 y pc ls st h := by
  intro ad H locs lr cells slots I
  obtain ⟨k, hk⟩ := jal_idx (ad := ad) hv
  have hi := (jst1_spec hl1).1
  refine lv_iinc hx hb dd I.2.2.1 hk rfl (by rw [← I.2.2.2.1]; exact hi) rfl fun lr' hlr => ?_
  exact kk ad H locs lr' cells slots ⟨I.1, I.2.1, lv_sup hlr (jal_st1 (v := .int (x + Int32.ofInt n)) hl1), by rw [jal_len1 hl1]; exact I.2.2.2.1, I.2.2.2.2.1, jwf_st1 hl1 trivial I.2.2.2.2.2.1, I.2.2.2.2.2.2⟩
/-- a comparison of two ints -/
theorem jp_icmp {cd : ClassFile.Cond} {off : Int} {x z : Int32} (hx : p.tables.exec = Jvm.exec) (hb : c.code = jm_code y) (dd : decode (jm_code y) pc = .ok (.if_icmp cd off, 3)) (hj : jokt pc off = true) (kk : jKK p l e R s m args below meth c Q D cA A ad0 n0 s0 y (jbr cd x z (jtgt pc off) (pc + 3)) ls st h) : jKK p l e R s m args below meth c Q D cA A ad0 n0 s0 y pc ls (.int z :: .int x :: st) h := by
  intro ad H locs lr cells slots I
  have k1 := kk ad H locs lr cells slots (I.stk (fun u hu => I.okc.2 u (List.mem_cons_of_mem _ hu)))
  have ht := j_tg hj
  cases cd
  · exact lv_icmp_eq hx hb dd ht (fun q => by rwa [show jbr .eq x z (jtgt pc off) (pc + 3) = jtgt pc off from if_pos q] at k1) (fun q => by rwa [show jbr .eq x z (jtgt pc off) (pc + 3) = pc + 3 from if_neg q] at k1)
  · exact lv_icmp_ne hx hb dd ht (fun q => by rwa [show jbr .ne x z (jtgt pc off) (pc + 3) = jtgt pc off from if_neg q] at k1) (fun q => by rwa [show jbr .ne x z (jtgt pc off) (pc + 3) = pc + 3 from if_pos q] at k1)
  · exact lv_icmp_lt hx hb dd ht (fun q => by rwa [show jbr .lt x z (jtgt pc off) (pc + 3) = jtgt pc off from if_pos q] at k1) (fun q => by rwa [show jbr .lt x z (jtgt pc off) (pc + 3) = pc + 3 from if_neg q] at k1)
  · exact lv_icmp_ge hx hb dd ht (fun q => by rwa [show jbr .ge x z (jtgt pc off) (pc + 3) = jtgt pc off from if_neg (Int32.not_lt.mpr q)] at k1) (fun q => by rwa [show jbr .ge x z (jtgt pc off) (pc + 3) = pc + 3 from if_pos (Int32.not_le.mp q)] at k1)
  · exact lv_icmp_gt hx hb dd ht (fun q => by rwa [show jbr .gt x z (jtgt pc off) (pc + 3) = jtgt pc off from if_pos q] at k1) (fun q => by rwa [show jbr .gt x z (jtgt pc off) (pc + 3) = pc + 3 from if_neg q] at k1)
  · exact lv_icmp_le hx hb dd ht (fun q => by rwa [show jbr .le x z (jtgt pc off) (pc + 3) = jtgt pc off from if_neg (Int32.not_lt.mpr q)] at k1) (fun q => by rwa [show jbr .le x z (jtgt pc off) (pc + 3) = pc + 3 from if_pos (Int32.not_le.mp q)] at k1)
theorem jp_ifc {cd : ClassFile.Cond} {off : Int} {x : Int32} (hx : p.tables.exec = Jvm.exec) (hb : c.code = jm_code y) (dd : decode (jm_code y) pc = .ok (.ifCond cd off, 3)) (hj : jokt pc off = true) (kk : jKK p l e R s m args below meth c Q D cA A ad0 n0 s0 y (jbr cd x 0 (jtgt pc off) (pc + 3)) ls st h) : jKK p l e R s m args below meth c Q D cA A ad0 n0 s0 y pc ls (.int x :: st) h := by
  intro ad H locs lr cells slots I
  have k1 := kk ad H locs lr cells slots (I.stk I.okc.2)
  have ht := j_tg hj
  cases cd
  · exact lv_if_eq hx hb dd ht (fun q => by rwa [show jbr .eq x 0 (jtgt pc off) (pc + 3) = jtgt pc off from if_pos q] at k1) (fun q => by rwa [show jbr .eq x 0 (jtgt pc off) (pc + 3) = pc + 3 from if_neg q] at k1)
  · exact lv_if_ne hx hb dd ht (fun q => by rwa [show jbr .ne x 0 (jtgt pc off) (pc + 3) = jtgt pc off from if_neg q] at k1) (fun q => by rwa [show jbr .ne x 0 (jtgt pc off) (pc + 3) = pc + 3 from if_pos q] at k1)
  · exact lv_if_lt hx hb dd ht (fun q => by rwa [show jbr .lt x 0 (jtgt pc off) (pc + 3) = jtgt pc off from if_pos q] at k1) (fun q => by rwa [show jbr .lt x 0 (jtgt pc off) (pc + 3) = pc + 3 from if_neg q] at k1)
  · exact lv_if_ge hx hb dd ht (fun q => by rwa [show jbr .ge x 0 (jtgt pc off) (pc + 3) = jtgt pc off from if_neg (Int32.not_lt.mpr q)] at k1) (fun q => by rwa [show jbr .ge x 0 (jtgt pc off) (pc + 3) = pc + 3 from if_pos (Int32.not_le.mp q)] at k1)
  · exact lv_if_gt hx hb dd ht (fun q => by rwa [show jbr .gt x 0 (jtgt pc off) (pc + 3) = jtgt pc off from if_pos q] at k1) (fun q => by rwa [show jbr .gt x 0 (jtgt pc off) (pc + 3) = pc + 3 from if_neg q] at k1)
  · exact lv_if_le hx hb dd ht (fun q => by rwa [show jbr .le x 0 (jtgt pc off) (pc + 3) = jtgt pc off from if_neg (Int32.not_lt.mpr q)] at k1) (fun q => by rwa [show jbr .le x 0 (jtgt pc off) (pc + 3) = pc + 3 from if_pos (Int32.not_le.mp q)] at k1)
/-- fields -/
theorem jp_get {i : Nat} (C : jX p R s m args meth c y) (hK : jKn D cA s) (dd : decode (jm_code y) pc = .ok (.getfield i, 3)) (eN : jN_get y i pc ls st h = some (.inl (pc', ls', st', h'))) (kk : jKK p l e R s m args below meth c Q D cA A ad0 n0 s0 y pc' ls' st' h') : jKK p l e R s m args below meth c Q D cA A ad0 n0 s0 y pc ls st h := by
  obtain ⟨hx, hb, hr, hml, hown, hts, hnw, -⟩ := C
  unfold jN_get at eN
  split at eN
  · next k0 k b q hf =>
    split at eN
    · next a st0 =>
      split at eN
      · next hkind =>
        cases eN
        obtain ⟨hlink, hc, hk, hdecl⟩ := jt_f_ok hf
        intro ad H locs lr cells slots I
        obtain ⟨hR, hS, -⟩ := id I
        obtain ⟨cell, q1, q2, q3, q4⟩ := ((hR.1 a).1 k0 hc hkind).2
        obtain ⟨hSl, hfc, kC, hkC, hkk⟩ := hK.obj hc
        obtain ⟨cf, kf, fi, f, hi, hsl⟩ := hSl k hk
        have hst := (u_facts hfc hkC (u_lays hts (j_lays hc) hk) hi).1
        have hv : jok h.2.1 (jfv (jty k0 k) (h.1 a) k) := by
          cases jty k0 k <;> first | trivial | exact jok_rf (fun r hr => hR.2.2.2.1 a k r hr)
        have k1 := kk ad H locs lr cells slots (I.stk (j_ok1 hv I.okc.2))
        rw [hdecl] at hi
        cases b with
        | false => exact W.getf hx hb hown (hts _ hlink) hi hst q1 (by rw [q3]; exact fun h => by cases h) (by rw [hsl, q4 k hk]) rfl rfl dd k1
        | true => exact va_Wgetf hx hb hown (va_Nw.use rfl (hnw _ hlink)) hi hst q1 (by rw [q3]; exact fun h => by cases h) (by rw [hsl, q4 k hk]) rfl rfl dd k1
      · cases eN
    · cases eN
  · cases eN
theorem j_fits {ty : FieldType} {a k : Nat} {v : Value} (ad : Nat → Nat) (hp : jput ty h a k v = some h') : narrow ty (ja ad v) = ja ad v ∧ fits ty (ja ad v) = true := by
  unfold jput at hp
  split at hp
  · split at hp
    · exact ⟨rfl, rfl⟩
    · cases hp
  · split at hp
    · exact ⟨rfl, rfl⟩
    · exact ⟨rfl, rfl⟩
    · cases hp
  · split at hp
    · exact ⟨rfl, rfl⟩
    · exact ⟨rfl, rfl⟩
    · cases hp
  · split at hp
    · next x =>
      split at hp
      · next hz =>
        rcases hz with rfl | rfl
        · exact ⟨(by decide : narrow .boolean (.int 0) = .int 0), (by decide : fits .boolean (.int 0) = true)⟩
        · exact ⟨(by decide : narrow .boolean (.int 1) = .int 1), (by decide : fits .boolean (.int 1) = true)⟩
      · cases hp
    · cases hp
  · split at hp
    · exact ⟨rfl, rfl⟩
    · cases hp
  · cases hp
/-- what a put changes -/
theorem jput_spec {ty : FieldType} {a k : Nat} {v : Value} (hp : jput ty h a k v = some h') : ∃ c' : jC, h' = jset h a c' ∧ c'.1 = jk h a ∧ (∀ j, jfv ty c' j = if j = k then v else jfv ty (h.1 a) j) ∧ (∀ (t2 : FieldType) (j : Nat), j ≠ k → jfv t2 c' j = jfv t2 (h.1 a) j) ∧ ∀ j r, c'.2.2.2 j = some r → (v = .ref r ∨ jp h a j = some r) := by
  unfold jput at hp
  have one : ∀ x : Int32, jsi h a k x = jset h a ((h.1 a).1, upd (ji h a) k x, (h.1 a).2.2) := fun _ => rfl
  split at hp
  · split at hp
    · next x =>
      cases hp
      refine ⟨_, rfl, rfl, fun j => ?_, fun t2 j hj => ?_, fun j r hr => Or.inr hr⟩
      · by_cases e : j = k
        · subst e; simp [jfv, vp_updL]
        · simp [jfv, vp_updL, e, jj]
      · cases t2 <;> simp [jfv, vp_updL, hj, jj]
    · cases hp
  · split at hp
    · next x =>
      cases hp
      refine ⟨_, rfl, rfl, fun j => ?_, fun t2 j hj => ?_, fun j r hr => ?_⟩
      · by_cases e : j = k
        · subst e; simp [jfv, va_up, va_rf]
        · simp [jfv, va_up, e, jp]
      · cases t2 <;> simp [jfv, va_up, hj, jp]
      · by_cases e : j = k
        · subst e; simp [va_up] at hr; exact Or.inl (by rw [hr])
        · simp [va_up, e] at hr; exact Or.inr hr
    · cases hp
      refine ⟨_, rfl, rfl, fun j => ?_, fun t2 j hj => ?_, fun j r hr => ?_⟩
      · by_cases e : j = k
        · subst e; simp [jfv, va_up, va_rf]
        · simp [jfv, va_up, e, jp]
      · cases t2 <;> simp [jfv, va_up, hj, jp]
      · by_cases e : j = k
        · subst e; simp [va_up] at hr
        · simp [va_up, e] at hr; exact Or.inr hr
    · cases hp
  · split at hp
    · next x =>
      cases hp
      refine ⟨_, rfl, rfl, fun j => ?_, fun t2 j hj => ?_, fun j r hr => ?_⟩
      · by_cases e : j = k
        · subst e; simp [jfv, va_up, va_rf]
        · simp [jfv, va_up, e, jp]
      · cases t2 <;> simp [jfv, va_up, hj, jp]
      · by_cases e : j = k
        · subst e; simp [va_up] at hr; exact Or.inl (by rw [hr])
        · simp [va_up, e] at hr; exact Or.inr hr
    · cases hp
      refine ⟨_, rfl, rfl, fun j => ?_, fun t2 j hj => ?_, fun j r hr => ?_⟩
      · by_cases e : j = k
        · subst e; simp [jfv, va_up, va_rf]
        · simp [jfv, va_up, e, jp]
      · cases t2 <;> simp [jfv, va_up, hj, jp]
      · by_cases e : j = k
        · subst e; simp [va_up] at hr
        · simp [va_up, e] at hr; exact Or.inr hr
    · cases hp
  · split at hp
    · next x =>
      split at hp
      · cases hp
        refine ⟨_, rfl, rfl, fun j => ?_, fun t2 j hj => ?_, fun j r hr => Or.inr hr⟩
        · by_cases e : j = k
          · subst e; simp [jfv, upd]
          · simp [jfv, upd, e, ji]
        · cases t2 <;> simp [jfv, upd, hj, ji]
      · cases hp
    · cases hp
  · split at hp
    · next x =>
      cases hp
      refine ⟨_, rfl, rfl, fun j => ?_, fun t2 j hj => ?_, fun j r hr => Or.inr hr⟩
      · by_cases e : j = k
        · subst e; simp [jfv, upd]
        · simp [jfv, upd, e, ji]
      · cases t2 <;> simp [jfv, upd, hj, ji]
    · cases hp
  · cases hp


/-- the store's cell at a label is changed, and the heap's cell at its address -/
theorem jI.put {ad : Nat → Nat} {H H1 : Heap} {locs : List Loc} {lr : Array Slot} {cells slots a j : Nat} {c' : jC} {st0 : List Value} (I : jI D cA s A ad0 n0 s0 y ad h ls st H locs lr cells slots) (hst : ∀ v ∈ st0, jok h.2.1 v) (hk : c'.1 = jk h a) (h0 : (jk h a).1 ≠ 0) (hc : jcell D cA s A ad (ad a) c' H1) (hz : H1.size = H.size) (hq : ∀ q, q ≠ ad a → H1[q]? = H[q]?) (hp : ∀ k r, c'.2.2.2 k = some r → r < h.2.1) (hA : A (ad a)) : jI D cA s A ad0 n0 s0 y ad (jset h a c') ls st0 H1 (locs ++ [⟨ad a, j⟩]) lr cells slots :=
  ⟨I.1.put hk h0 hc hq hp, I.2.1.put hz hq hA, I.2.2.1, I.2.2.2.1, hst, I.2.2.2.2.2⟩
theorem jp_put {i : Nat} (C : jX p R s m args meth c y) (hK : jKn D cA s) (hci : jm_ini y = true → jcn (jm_cn y) = jcR (jm_ci y)) (dd : decode (jm_code y) pc = .ok (.putfield i, 3)) (eN : jN_put y i pc ls st h = some (.inl (pc', ls', st', h'))) (kk : jKK p l e R s m args below meth c Q D cA A ad0 n0 s0 y pc' ls' st' h') : jKK p l e R s m args below meth c Q D cA A ad0 n0 s0 y pc ls st h := by
  obtain ⟨hx, hb, hr, hml, hown, hts, hnw, -, hini, -⟩ := C
  unfold jN_put at eN
  split at eN
  · next k0 k b q hf =>
    split at eN
    · next v a st0 =>
      cases hfin : (!(jtT k0 k).2.2.2 || (jm_ini y && (jm_ci y == k0 && !b))) with
      | false => rw [hfin] at eN; cases eN
      | true =>
        rw [hfin] at eN
        simp only [cond_true] at eN
        split at eN
        · next hkind =>
          split at eN
          · next h1 hput =>
            cases eN
            obtain ⟨hlink, hc, hk, hdecl⟩ := jt_f_ok hf
            intro ad H locs lr cells slots I
            obtain ⟨hR, hS, -⟩ := id I
            obtain ⟨hAa, cell, q1, q2, q3, q4⟩ := (hR.1 a).1 k0 hc hkind
            obtain ⟨hSl, hfc, kC, hkC, hkk⟩ := hK.obj hc
            obtain ⟨cf, kf, fi, f, hi, hsl⟩ := hSl k hk
            have hap := va_apart (own := jcR k0) hts (j_lays hc) (jty k0) (j_tyok hc) (j_nm hc) hK.1 (j_vw hc)
            have hst := (u_facts hfc hkC (u_lays hts (j_lays hc) hk) hi).1
            obtain ⟨hn, hfit⟩ := j_fits ad hput
            obtain ⟨c', rfl, hck, hcv, hco, hcr⟩ := jput_spec hput
            have hok := I.okc
            have hst0 : ∀ u ∈ st', jok h.2.1 u := fun u hu => hok.2 u (List.mem_cons_of_mem _ hu)
            have fin : ∀ H1 : Heap, H1[ad a]? = some (cell.setSlot f.slot (ja ad v)) → H1.size = H.size → (∀ q, q ≠ ad a → H1[q]? = H[q]?) → W p l e R s m args below meth c H1 (locs ++ [⟨ad a, f.slot⟩]) cells slots Q (F0 m (pc + 3) lr (st'.map (ja ad))) := by
              intro H1 e1 e2 e3
              refine kk ad H1 _ lr cells slots (I.put hst0 hck (by omega) ?_ e2 e3 (fun j r hr => ?_) hAa)
              · refine ⟨fun k2 hk2 e => ?_, fun t ht e => ?_, fun e => ?_⟩
                · have : k2 = k0 := by rw [hck] at e; omega
                  subst this
                  refine ⟨hAa, t_OB.to (V := updV (fun j => ja ad (jfv (jty k2 j) (h.1 a) j)) k (ja ad v)) ⟨_, e1, q2, q3, ?_⟩ (fun j hj => ?_)⟩
                  · rw [hsl]
                    exact t_set q4 hap hk (ja ad v)
                  · unfold updV
                    by_cases ej : j = k
                    · subst ej
                      have := hcv j
                      rw [if_pos rfl] at this
                      rw [if_pos rfl, this]
                    · rw [if_neg ej, hco _ j ej]
                · rw [hck] at e; omega
                · rw [hck] at e; omega
              · rcases hcr j r hr with e | e
                · have := hok.1
                  rw [e] at this
                  exact this
                · exact hR.2.2.2.1 a j r e
            have hlt : f.slot < cell.slots.size := by rw [hsl]; exact k2_hasslot (q4 k hk)
            have hd := j_tyok hc k hk
            have hlay := hts _ (j_lays hc _ (u_in_lay hk))
            cases hfl : (jtT k0 k).2.2.2 with
            | false =>
              unfold u_lay at hlay
              rw [if_neg (by rw [hfl]; decide)] at hlay
              have h6 := u_store hfc hkC hkk hlay hi hd hn hfit
              rw [hdecl] at hi
              cases b with
              | false => exact W.putK hx hb (f := f) ⟨hown, hts _ hlink, ⟨_, _, _, hi⟩, hst⟩ (by rw [q2]; exact h6) q1 q3 hlt rfl rfl dd fin
              | true => exact va_WputK hx hb (f := f) hown (va_Nw.use rfl (hnw _ hlink)) hi hst (by rw [q2]; exact h6) q1 q3 hlt rfl rfl dd fin
            | true =>
              rw [hfl] at hfin
              simp only [Bool.not_true, Bool.false_or, Bool.and_eq_true, beq_iff_eq, Bool.not_eq_true'] at hfin
              obtain ⟨f1, f2, f3⟩ := hfin
              subst f3
              unfold u_lay at hlay
              rw [if_pos hfl] at hlay
              have hcf : m.cls = cf := by
                obtain ⟨_, _, c'', _, _, _, -, -, hf', -, -, -, hown2, -⟩ := Cond.laysFinal_spec hlay
                have e1 : c'' = cf := by have := hi.symm.trans hf'; simp at this; exact this.1.symm
                rw [hdecl, ← f2, ← hci f1] at hown2
                rw [← e1]; exact Option.some.inj (hown.symm.trans hown2)
              have h6 := u_fits hfc hkC hkk (Or.inr hlay) hi hd hn hfit
              rw [hdecl] at hi
              exact W.putFinK hx hb hown (hts _ hlink) hi hst hcf (hini f1) (by rw [q2]; exact h6) q1 q3 hlt rfl rfl dd fin
          · cases eN
        · cases eN
    · cases eN
  · cases eN
theorem j_arrc {ad : Nat → Nat} {H : Heap} {t a : Nat} (hR : jRel D cA s A ad h H) (ht : t < 5) (hk : (jk h a).1 = 20 + t) : A (ad a) ∧ H[ad a]? = some (arrV (cA t) (jk h a).2 (fun j => ja ad (jfv (jet t) (h.1 a) j))) := (hR.1 a).2.1 t ht hk
theorem j_in {i : Int32} {n : Nat} (hi : jin i n = true) (cI : ClassId) (f : Nat → Value) : ¬ (i < 0 ∨ (arrV cI n f).slots.size ≤ i.toNatClampNeg) := by
  rw [arrV_size]; exact jin_vp hi
theorem j_lt {i : Int32} {n : Nat} (hi : jin i n = true) : i.toNatClampNeg < n := Nat.not_le.mp fun q => jin_vp hi (Or.inr q)
theorem jp_ald {t : Nat} (ht : t < 5) {val : jC → Nat → Value} (hval : ∀ c j, val c j = jfv (jet t) c j)
    (row : ∀ (H : Heap) (locs : List Loc) (lr : Array Slot) (cells slots : Nat) (rest : List Value) (a : Nat) (i : Int32) (n : Nat) (f : Nat → Value), H[a]? = some (arrV (cA t) n f) → jin i n = true → W p l e R s m args below meth c H locs cells slots Q (F0 m (pc + 1) lr (f i.toNatClampNeg :: rest)) → W p l e R s m args below meth c H locs cells slots Q (F0 m pc lr (.int i :: .ref a :: rest)))
    (eN : jN_ald (20 + t) pc ls st h val = some (.inl (pc', ls', st', h'))) (kk : jKK p l e R s m args below meth c Q D cA A ad0 n0 s0 y pc' ls' st' h') : jKK p l e R s m args below meth c Q D cA A ad0 n0 s0 y pc ls st h := by
  unfold jN_ald at eN
  split at eN
  · next i a st0 =>
    split at eN
    · next hc =>
      cases eN
      intro ad H locs lr cells slots I
      refine row _ _ _ _ _ _ _ _ _ _ (j_arrc I.1 ht hc.1).2 hc.2 ?_
      have hv : jok h.2.1 (val (h.1 a) i.toNatClampNeg) := by
        rw [hval]
        cases jet t <;> first | trivial | exact jok_rf (fun r hr => I.1.2.2.2.1 a _ r hr)
      have k1 := kk ad H locs lr cells slots (I.stk (j_ok1 hv (fun u hu => I.okc.2 u (List.mem_cons_of_mem _ hu))))
      rw [List.map_cons, hval] at k1
      exact k1
    · cases eN
  · cases eN
theorem jp_ast {t : Nat} (ht : t < 5)
    (row : ∀ (H : Heap) (locs : List Loc) (lr : Array Slot) (cells slots : Nat) (rest : List Value) (a : Nat) (i : Int32) (v : Value) (n : Nat) (f : Nat → Value) (h2 : jH) (b k : Nat) (ad : Nat → Nat), jput (jet t) h b k v = some h2 → H[a]? = some (arrV (cA t) n f) → jin i n = true → (∀ H1 : Heap, H1[a]? = some ((arrV (cA t) n f).setSlot i.toNatClampNeg (ja ad v)) → H1.size = H.size → (∀ q, q ≠ a → H1[q]? = H[q]?) → W p l e R s m args below meth c H1 (locs ++ [⟨a, i.toNatClampNeg⟩]) cells slots Q (F0 m (pc + 1) lr rest)) → W p l e R s m args below meth c H locs cells slots Q (F0 m pc lr (ja ad v :: .int i :: .ref a :: rest)))
    (eN : jN_ast (20 + t) pc ls st h (fun a j v => jput (jet t) h a j v) = some (.inl (pc', ls', st', h'))) (kk : jKK p l e R s m args below meth c Q D cA A ad0 n0 s0 y pc' ls' st' h') : jKK p l e R s m args below meth c Q D cA A ad0 n0 s0 y pc ls st h := by
  unfold jN_ast at eN
  split at eN
  · next v i a st0 =>
    split at eN
    · next hc =>
      split at eN
      · next h1 hput =>
        cases eN
        intro ad H locs lr cells slots I
        obtain ⟨hAa, hcell⟩ := j_arrc I.1 ht hc.1
        have hok := I.okc
        refine row _ _ _ _ _ _ _ _ v _ _ _ _ _ ad hput hcell hc.2 fun H1 e1 e2 e3 => ?_
        obtain ⟨c', rfl, hck, hcv, hco, hcr⟩ := jput_spec hput
        refine kk ad H1 _ lr cells slots (I.put (fun u hu => hok.2 u (List.mem_cons_of_mem _ (List.mem_cons_of_mem _ hu))) hck (by omega) ?_ e2 e3 (fun j r hr => ?_) hAa)
        · refine ⟨fun k2 hk2 e => ?_, fun t2 ht2 e => ?_, fun e => ?_⟩
          · rw [hck] at e; omega
          · have : t2 = t := by rw [hck] at e; omega
            subst this
            refine ⟨hAa, ?_⟩
            rw [e1, arrV_store, hck]
            congr 2
            funext j
            rw [hcv j]
            unfold updV
            by_cases ej : j = i.toNatClampNeg
            · rw [if_pos ej, if_pos ej]
            · rw [if_neg ej, if_neg ej]
          · rw [hck] at e; omega
        · rcases hcr j r hr with e | e
          · have := hok.1
            rw [e] at this
            exact this
          · exact I.1.2.2.2.1 a j r e
      · cases eN
    · cases eN
  · cases eN

theorem j_nof0 : ((List.range 9).all fun c => (List.range (jcN c)).all fun k => match jty c k with
  | .float => false
  | .double => false
  | _ => true) = true := by decide +kernel
theorem j_nof {k0 j : Nat} (hk : k0 < 9) (hj : j < jcN k0) : (match jty k0 j with
  | .float => false
  | .double => false
  | _ => true) = true := List.all_eq_true.mp (List.all_eq_true.mp j_nof0 k0 (List.mem_range.mpr hk)) j (List.mem_range.mpr hj)
theorem j_objc {ad : Nat → Nat} {H : Heap} {k a : Nat} (hR : jRel D cA s A ad h H) (hk : k < 9) (hc : (jk h a).1 = 1 + k) : A (ad a) ∧ t_OB (ad a) (D.1 k) (jcN k) (D.2 k) H (fun j => ja ad (jfv (jty k j) (h.1 a) j)) := (hR.1 a).1 k hk hc
/-- an object into an array of its class -/
theorem jp_aast (C : jX p R s m args meth c y) (hK : jKn D cA s) (dd : decode (jm_code y) pc = .ok (.aastore, 1)) (eN : jN_aast pc ls st h = some (.inl (pc', ls', st', h'))) (kk : jKK p l e R s m args below meth c Q D cA A ad0 n0 s0 y pc' ls' st' h') : jKK p l e R s m args below meth c Q D cA A ad0 n0 s0 y pc ls st h := by
  obtain ⟨hx, hb, -⟩ := C
  have key : ∀ (r a t k0 : Nat) (i : Int32) (st0 : List Value), t < 5 → k0 < 9 → (jk h a).1 = 20 + t → (jk h r).1 = 1 + k0 → jet t = .object (jcR k0) → jin i (jk h a).2 = true → jKK p l e R s m args below meth c Q D cA A ad0 n0 s0 y (pc + 1) ls st0 (jsp h a i.toNatClampNeg (some r)) → jKK p l e R s m args below meth c Q D cA A ad0 n0 s0 y pc ls (.ref r :: .int i :: .ref a :: st0) h := by
    intro r a t k0 i st0 ht hk0 ha hr hty hi kk ad H locs lr cells slots I
    obtain ⟨hAa, hcell⟩ := j_arrc I.1 ht ha
    obtain ⟨-, cellV, g1, g2, g3, -⟩ := j_objc I.1 hk0 hr
    have hcls := (hK.obj hk0).2
    have hRA := (hK.arr ht).2
    rw [hty] at hRA
    obtain ⟨kA, comp, k1, k2, k3, -⟩ := hRA
    have hcomp : comp = D.1 k0 := Option.some.inj (k3.symm.trans hcls.1)
    subst hcomp
    obtain ⟨kC, hkC, -⟩ := hcls.2
    have hok := I.okc
    refine W.aast hx hb hcell (fun q h => by cases h) (fun h => by cases h) k1 k2 rfl hkC ⟨fun q => jin_vp hi (Or.inl q), by rw [arrV_size]; exact j_lt hi⟩ g1 (fun q h => by rw [g3] at h; cases h) (by rw [g2]; exact hkC) (by rw [g2]; exact va_assign hcls) rfl rfl dd fun H1 e1 e2 e3 => ?_
    have hput : jput (jet t) h a i.toNatClampNeg (.ref r) = some (jsp h a i.toNatClampNeg (some r)) := by rw [hty]; rfl
    obtain ⟨c', hce, hck, hcv, hco, hcr⟩ := jput_spec hput
    rw [hce] at kk
    refine kk ad H1 _ lr cells slots (I.put (fun u hu => hok.2 u (List.mem_cons_of_mem _ (List.mem_cons_of_mem _ hu))) hck (by omega) ?_ e2 e3 (fun j r2 hr2 => ?_) hAa)
    · refine ⟨fun k2 hk2 e => ?_, fun t2 ht2 e => ?_, fun e => ?_⟩
      · rw [hck] at e; omega
      · have : t2 = t := by rw [hck] at e; omega
        subst this
        refine ⟨hAa, ?_⟩
        rw [e1, arrV_store, hck]
        congr 2
        funext j
        rw [hcv j]
        unfold updV
        by_cases ej : j = i.toNatClampNeg
        · rw [if_pos ej, if_pos ej]; rfl
        · rw [if_neg ej, if_neg ej]
      · rw [hck] at e; omega
    · rcases hcr j r2 hr2 with e | e
      · have h1 := hok.1
        rw [e] at h1
        exact h1
      · exact I.1.2.2.2.1 a j r2 e
  unfold jN_aast at eN
  split at eN
  · next r i a st0 =>
    split at eN
    · next hc =>
      cases eN
      rcases hc.2 with h1 | h1
      · exact key r a 3 3 i _ (by omega) (by omega) h1.1 h1.2 rfl hc.1 kk
      · exact key r a 4 5 i _ (by omega) (by omega) h1.1 h1.2 rfl hc.1 kk
    · cases eN
  · cases eN
theorem jp_alen (C : jX p R s m args meth c y) (hK : jKn D cA s) (dd : decode (jm_code y) pc = .ok (.arraylength, 1)) {a : Nat} (hc : 20 ≤ (jk h a).1 ∧ (jk h a).1 ≤ 24 ∨ (jk h a).1 = 30) (kk : jKK p l e R s m args below meth c Q D cA A ad0 n0 s0 y (pc + 1) ls (.int (nI (jk h a).2) :: st) h) : jKK p l e R s m args below meth c Q D cA A ad0 n0 s0 y pc ls (.ref a :: st) h := by
  obtain ⟨hx, hb, -⟩ := C
  intro ad H locs lr cells slots I
  have k1 := kk ad H locs lr cells slots (I.stk (j_ok1 trivial I.okc.2))
  rcases hc with hc | hc
  · obtain ⟨t, ht, hk⟩ : ∃ t, t < 5 ∧ (jk h a).1 = 20 + t := ⟨(jk h a).1 - 20, by omega, by omega⟩
    obtain ⟨-, hcell⟩ := j_arrc I.1 ht hk
    exact W.alen (n := nI (jk h a).2) hx hb hcell ((hK.arr ht).1 _ _) (by rw [arrV_size]; rfl) rfl rfl dd k1
  · obtain ⟨g1, g2, g3⟩ := (I.1.1 a).2.2 hc
    exact va_slen hx hb g3 g2 g1 I.2.1 dd k1
/-- the script is read -/
theorem jp_sld (C : jX p R s m args meth c y) (dd : decode (jm_code y) pc = .ok (.iaload, 1)) (eN : jN_ald 30 pc ls st h j_ival = some (.inl (pc', ls', st', h'))) (kk : jKK p l e R s m args below meth c Q D cA A ad0 n0 s0 y pc' ls' st' h') : jKK p l e R s m args below meth c Q D cA A ad0 n0 s0 y pc ls st h := by
  obtain ⟨hx, hb, -⟩ := C
  unfold jN_ald at eN
  split at eN
  · next i a st0 =>
    split at eN
    · next hc =>
      cases eN
      intro ad H locs lr cells slots I
      obtain ⟨g1, g2, g3⟩ := (I.1.1 a).2.2 hc.1
      exact va_sld hx hb g3 g2 g1 I.2.1 (jin_vp hc.2) dd (kk ad H locs lr cells slots (I.stk (j_ok1 trivial (fun u hu => I.okc.2 u (List.mem_cons_of_mem _ hu)))))
    · cases eN
  · cases eN
/-- something made -/
theorem jI.new {ad : Nat → Nat} {H H1 : Heap} {locs : List Loc} {lr : Array Slot} {cells slots k n z : Nat} {st0 : List Value} (I : jI D cA s A ad0 n0 s0 y ad h ls st H locs lr cells slots) (hA : ∀ q, s.heap.size ≤ q → A q) (hst : ∀ v ∈ st0, jok h.2.1 v) (hv : jvk k) (hz : H1.size = H.size + 1) (hq : ∀ q, q < H.size → H1[q]? = H[q]?)
    (hc : ∀ ad' : Nat → Nat, jcell D cA s A ad' H.size ((k, n), fun _ => 0, fun _ => 0, fun _ => none) H1) :
    jI D cA s A ad0 n0 s0 y (fun b => if b = h.2.1 then H.size else ad b) (jnew h k n z) ls (.ref h.2.1 :: st0) H1 locs lr (cells + 1) (slots + z) ∧ (Value.ref h.2.1 :: st0).map (ja (fun b => if b = h.2.1 then H.size else ad b)) = .ref H.size :: st0.map (ja ad) := by
  have had : ∀ a, a < h.2.1 → (fun b => if b = h.2.1 then H.size else ad b) a = ad a := fun a ha => if_neg (Nat.ne_of_lt ha)
  obtain ⟨hR, hS, hl, hlen, -, hw, h0, hn, hs⟩ := I
  refine ⟨⟨hR.new hS.1 hv hq hc, ⟨by rw [hz]; have := hS.1; omega, fun q h1 h2 => (hq q (Nat.lt_of_lt_of_le h1 hS.1)).trans (hS.2.1 q h1 h2), hS.2.2⟩, lv_sup hl (jal_eq had hw), hlen, ?_, fun v hv => jok_le (Nat.le_succ _) (hw v hv), fun a ha => ?_, ?_, ?_⟩, ?_⟩
  · refine j_ok1 (show h.2.1 < h.2.1 + 1 by omega) (fun v hv => jok_le (Nat.le_succ _) (hst v hv))
  · rw [had a (by omega)]; exact h0 a ha
  · show cells + 1 + n0 = h.2.1 + 1; omega
  · show slots + z + s0 = h.2.2 + z; omega
  · rw [List.map_cons, ja_eqs had hst]
    show Value.ref (if h.2.1 = h.2.1 then H.size else ad h.2.1) :: _ = _
    rw [if_pos rfl]
theorem jq_new {i k0 q1 q2 q3 : Nat} (C : jX p R s m args meth c y) (hK : jKn D cA s) (hA : ∀ q, s.heap.size ≤ q → A q) (dd : decode (jm_code y) pc = .ok (.new i, 3)) (hf : jt_n (jm_cn y) i = some (k0, q1, q2, q3)) (hb1 : h.2.1 + 1 ≤ n0 + R.cells) (hb2 : h.2.2 + jcN k0 ≤ s0 + R.slots) (kk : jKK p l e R s m args below meth c Q D cA A ad0 n0 s0 y (pc + 3) ls (.ref h.2.1 :: st) (jnew h (1 + k0) 0 (jcN k0))) : jKK p l e R s m args below meth c Q D cA A ad0 n0 s0 y pc ls st h := by
  obtain ⟨hx, hb, hr, hml, hown, hts, hnw, -⟩ := C
  obtain ⟨w1, w2, w3, hk0⟩ := jt_n_ok hf
  intro ad H locs lr cells slots I
  obtain ⟨-, -, -, -, hst, -, -, hn, hs⟩ := id I
  have hKn := hK.obj hk0
  refine W.newcK hx hb hown (hts _ w1) (hts _ w2) (hts _ w3) rfl dd (by omega) (by omega) hKn.2.1 rfl fun H1 kC hkC e1 z1 o1 => ?_
  obtain ⟨I2, hm⟩ := I.new (k := 1 + k0) (n := 0) (z := jcN k0) hA hst (Or.inl (by omega)) z1 o1 (fun ad' => by
    refine ⟨fun k2 hk2 e => ?_, fun t ht e => ?_, fun e => ?_⟩
    · have e' : 1 + k0 = 1 + k2 := e
      have : k2 = k0 := by omega
      subst this
      refine ⟨hA _ I.2.1.1, (u_born (jty k2) hts (j_lays hk0) hKn hkC e1 (j_tyok hk0)).to (fun j hj => ?_)⟩
      have hnf := j_nof hk0 hj
      cases hjt : jty k2 j <;> first | rfl | (rw [hjt] at hnf; cases hnf)
    · have e' : 1 + k0 = 20 + t := e
      omega
    · have e' : 1 + k0 = 30 := e
      omega)
  have k1 := kk _ H1 locs lr _ _ I2
  rw [hm] at k1
  exact k1
theorem jp_newa {t : Nat} {at0 : ArrayType} {n : Int32} (C : jX p R s m args meth c y) (hK : jKn D cA s) (hA : ∀ q, s.heap.size ≤ q → A q) (dd : decode (jm_code y) pc = .ok (.newarray at0, 2)) (ht : t < 3) (hty : newarray.typeOf at0 = jet t) (hw : Cond.arrayClass (newarray.typeOf at0) ∈ jw) (hn : ¬ (n < 0 ∨ 1000000 < n)) (hb1 : h.2.1 + 1 ≤ n0 + R.cells) (hb2 : h.2.2 + n.toNatClampNeg ≤ s0 + R.slots) (kk : jKK p l e R s m args below meth c Q D cA A ad0 n0 s0 y (pc + 2) ls (.ref h.2.1 :: st) (jnew h (20 + t) n.toNatClampNeg n.toNatClampNeg)) : jKK p l e R s m args below meth c Q D cA A ad0 n0 s0 y pc ls (.int n :: st) h := by
  obtain ⟨hx, hb, hr, hml, hown, hts, hnw, -⟩ := C
  intro ad H locs lr cells slots I
  obtain ⟨-, -, -, -, hst, -, -, hn0, hs0⟩ := id I
  have hsz : n.toNatClampNeg ≤ 1000000 := by
    have h1 : ¬ 1000000 < n := fun q => hn (Or.inr q)
    have h2 := Int32.not_lt.mp h1
    have h3 := Int32.le_iff_toInt_le.mp h2
    have h4 : (1000000 : Int32).toInt = 1000000 := by decide
    show n.toInt.toNat ≤ 1000000
    omega
  have hby : n.toNatClampNeg * componentBytes (newarray.typeOf at0) ≤ 536870912 := by
    have : componentBytes (newarray.typeOf at0) ≤ 8 := by cases at0 <;> decide
    have := Nat.mul_le_mul hsz this
    omega
  refine va_newaK hx hb (hts _ hw) rfl dd rfl (fun q => hn (Or.inl q)) rfl hby (by omega) (by omega) rfl fun H1 cA1 e1 z1 o1 hAr hNm => ?_
  have hcA : cA1 = cA t := by
    have h1 := (hK.arr (t := t) (by omega)).2
    rw [← hty] at h1
    have h2 : s.vm.findClass ("[" ++ (newarray.typeOf at0).toString) = some (cA t) := by
      cases at0 <;> exact h1
    exact Option.some.inj (hNm.symm.trans h2)
  subst hcA
  obtain ⟨I2, hm⟩ := I.new (k := 20 + t) (n := n.toNatClampNeg) (z := n.toNatClampNeg) (st0 := st) hA I.okc.2 (Or.inr (Or.inl (by omega))) z1 o1 (fun ad' => by
    refine ⟨fun k2 hk2 e => ?_, fun t2 ht2 e => ?_, fun e => ?_⟩
    · have e' : 20 + t = 1 + k2 := e
      omega
    · have e' : 20 + t = 20 + t2 := e
      have : t2 = t := by omega
      subst this
      refine ⟨hA _ I.2.1.1, ?_⟩
      rw [e1, hty]
      congr 2
      funext j
      rcases t2 with _ | _ | _ | t2 <;> first | rfl | omega
    · have e' : 20 + t = 30 := e
      omega)
  have k1 := kk _ H1 locs lr _ _ I2
  rw [hm] at k1
  exact k1
theorem jp_anew {t i q : Nat} {n : Int32} (C : jX p R s m args meth c y) (hK : jKn D cA s) (hA : ∀ q, s.heap.size ≤ q → A q) (dd : decode (jm_code y) pc = .ok (.anewarray i, 3)) (hf : jt_a (jm_cn y) i = some (t, q)) (hn : ¬ (n < 0 ∨ 1000000 < n)) (hb1 : h.2.1 + 1 ≤ n0 + R.cells) (hb2 : h.2.2 + n.toNatClampNeg ≤ s0 + R.slots) (kk : jKK p l e R s m args below meth c Q D cA A ad0 n0 s0 y (pc + 3) ls (.ref h.2.1 :: st) (jnew h (20 + t) n.toNatClampNeg n.toNatClampNeg)) : jKK p l e R s m args below meth c Q D cA A ad0 n0 s0 y pc ls (.int n :: st) h := by
  obtain ⟨hx, hb, hr, hml, hown, hts, hnw, -⟩ := C
  obtain ⟨w1, ht⟩ := jt_a_ok hf
  intro ad H locs lr cells slots I
  obtain ⟨-, -, -, -, hst, -, -, hn0, hs0⟩ := id I
  have hsz : n.toNatClampNeg ≤ 1000000 := by
    have h1 : ¬ 1000000 < n := fun q => hn (Or.inr q)
    have h2 := Int32.not_lt.mp h1
    have h3 := Int32.le_iff_toInt_le.mp h2
    have h4 : (1000000 : Int32).toInt = 1000000 := by decide
    show n.toInt.toNat ≤ 1000000
    omega
  have hAO : va_AO (jaR t) s := by rcases ht with rfl | rfl; exact hK.2.1; exact hK.2.2
  have hjt : jet t = .object (jaR t) := by rcases ht with rfl | rfl <;> rfl
  have ht5 : t < 5 := by omega
  refine W.anew hx hb hown (hts _ w1) (va_AO.use hAO) rfl dd rfl (fun q => hn (Or.inl q)) (by omega) (by omega) (by omega) fun cA1 kA comp f1 f2 f3 f4 => ?_
  have hcA : cA1 = cA t := by
    have h1 := (hK.arr ht5).2
    rw [hjt] at h1
    obtain ⟨_, _, -, -, -, h2⟩ := h1
    exact Option.some.inj (f1.symm.trans h2)
  subst hcA
  generalize hH1 : H.push ({ cls := cA t, slots := Array.replicate n.toNatClampNeg .null, vm := .none } : Cell) = H1
  have z1 : H1.size = H.size + 1 := by rw [← hH1, Array.size_push]
  have e1 : H1[H.size]? = some (arrV (cA t) n.toNatClampNeg (fun _ => .null)) := by rw [← hH1, Array.getElem?_push_size, ← arrV_new]
  have o1 : ∀ q : Nat, q < H.size → H1[q]? = H[q]? := fun q hq => by rw [← hH1, Array.getElem?_push, if_neg (Nat.ne_of_lt hq)]
  obtain ⟨I2, hm⟩ := I.new (k := 20 + t) (n := n.toNatClampNeg) (z := n.toNatClampNeg) (st0 := st) hA I.okc.2 (Or.inr (Or.inl (by omega))) z1 o1 (fun ad' => by
    refine ⟨fun k2 hk2 e => ?_, fun t2 ht2 e => ?_, fun e => ?_⟩
    · have e' : 20 + t = 1 + k2 := e
      omega
    · have e' : 20 + t = 20 + t2 := e
      have : t2 = t := by omega
      subst this
      refine ⟨hA _ I.2.1.1, ?_⟩
      rw [e1, hjt]
      rfl
    · have e' : 20 + t = 30 := e
      omega)
  have k1 := kk _ H1 locs lr _ _ I2
  rw [hm] at k1
  exact k1

/-- the copying of a stretch of one array into another -/
theorem jI.cpy {ad : Nat → Nat} {H H1 : Heap} {locs : List Loc} {lr : Array Slot} {cells slots b : Nat} {c' : jC} {st0 : List Value} {L : List Loc} (I : jI D cA s A ad0 n0 s0 y ad h ls st H locs lr cells slots) (hst : ∀ v ∈ st0, jok h.2.1 v) (hk : c'.1 = jk h b) (h0 : (jk h b).1 ≠ 0) (hc : jcell D cA s A ad (ad b) c' H1) (hq : ∀ q, q ≠ ad b → H1[q]? = H[q]?) (hS : va_S A s.heap H1 L) (hp : ∀ k r, c'.2.2.2 k = some r → r < h.2.1) : jI D cA s A ad0 n0 s0 y ad (jset h b c') ls st0 H1 L lr cells slots :=
  ⟨I.1.put hk h0 hc hq hp, hS, I.2.2.1, I.2.2.2.1, hst, I.2.2.2.2.2⟩
theorem j_cat8 {st : List Value} (hs : Nat.ble (st.map fun v => v.category).sum 8 = true) : (st.map fun v => v.category).sum ≤ 8 := Nat.le_of_ble_eq_true hs
theorem j_natw : Cond.native arraycopyName ∈ jw ∧ Cond.static arraycopyName ∈ jw ∧ Cond.initialized "java/lang/System" ∈ jw := ⟨List.mem_filter.mpr ⟨by decide +kernel, rfl⟩, List.mem_filter.mpr ⟨by decide +kernel, rfl⟩, List.mem_filter.mpr ⟨by decide +kernel, rfl⟩⟩
theorem jW_copy {α : Type} (mk : α → Value) {H : Heap} {locs : List Loc} {lr : Array Slot} {cells slots : Nat} {cc : ByteArray} {rest : List Value} (hexec : p.tables.exec = Jvm.exec) (hb : c.code = cc) (hml : c.maxLocals = lr.size) {own : String} {index : Nat} (hown : s.vm.findClass own = some m.cls) (hlink : (Cond.methodLink own index arraycopyName).before args s = true) (hnat : (Cond.native arraycopyName).before args s = true) (hstat : (Cond.static arraycopyName).before args s = true) (hini : (Cond.initialized "java/lang/System").before args s = true)
    {a0 a : Nat} {c0 : ClassId} {n0 n1 : Nat} {f g : Nat → α} {ty : FieldType} (hc0 : H[a0]? = some (arrV c0 n0 (fun j => mk (f j)))) (hc1 : H[a]? = some (arrV c0 n1 (fun j => mk (g j)))) (hA0 : ArrOfT s c0 ty) (hprim : refKind ty = false) (hmk : ∀ x, mk x ≠ .null ∧ ∀ r, mk x ≠ .ref r)
    {sp dp n : Int32} (h1 : ¬ sp < 0) (h2 : ¬ dp < 0) (h3 : ¬ n < 0) (h4 : sp.toNatClampNeg + n.toNatClampNeg ≤ n0) (h5 : dp.toNatClampNeg + n.toNatClampNeg ≤ n1) (hfit : ∀ x, fits ty (mk x) = true)
    (hframes : 1 ≤ R.frames) (hlocals : (rest.map fun v => v.category).sum + (nativeFrameWords "java/lang/System" "arraycopy" 5 + 11) ≤ R.locals) (hdg : decode cc pc = .ok (.invokestatic index, 3))
    (kk : ∀ (H1 : Heap) (L : List Loc), H1[a]? = some (arrV c0 n1 (fun j => mk (va_cpy f g sp.toNatClampNeg dp.toNatClampNeg n.toNatClampNeg j))) → H1.size = H.size → (∀ q, q ≠ a → H1[q]? = H[q]?) → (∀ q ∈ L, q.base = a) → W p l e R s m args below meth c H1 (locs ++ L) cells slots Q (F0 m (pc + 3) lr rest)) : W p l e R s m args below meth c H locs cells slots Q (F0 m pc lr (.int n :: .int dp :: .ref a :: .int sp :: .ref a0 :: rest)) := by
  have nn : ∀ z : Int32, ¬ z < 0 → z.toInt = (z.toNatClampNeg : Int) := by
    intro z hz
    have hz0 : (0 : Int) ≤ z.toInt := by
      have := Int32.not_lt.mp hz
      simpa using Int32.le_iff_toInt_le.mp this
    show z.toInt = ((z.toInt.toNat : Nat) : Int)
    omega
  intro T hT X
  obtain ⟨-, k0, hk0, cm0, hkk0⟩ := hA0 n0 (fun j => mk (f j))
  obtain ⟨-, k1, hk1, cm1, hkk1⟩ := hA0 n1 (fun j => mk (g j))
  obtain ⟨vm', X', step⟩ := X.arraycopy hexec hown hlink hnat hstat hini (src := a0) (dst := a) (cs := arrV c0 n0 (fun j => mk (f j))) (cd := arrV c0 n1 (fun j => mk (g j))) (srcPos := sp) (destPos := dp) (n := n) (by rw [hT]; exact hc0) (by rw [hT]; exact hc1)
    (fun _ h => by cases h) (fun _ h => by cases h) (fun h => by cases h) (fun h => by cases h) hk0 hk1 hkk0 hkk1 (by simp [hprim]) h1 h2 h3
    (by rw [nn sp h1, nn n h3, arrV_size]; omega)
    (by rw [nn dp h2, nn n h3, arrV_size]; omega)
    (fun vm₁ _ i hi => by
      have e : (arrV c0 n0 (fun j => mk (f j))).slots.getD (sp.toNatClampNeg + i) .null = mk (f (sp.toNatClampNeg + i)) := by
        rw [Array.getD_eq_getD_getElem?, arrV_read _ _ (by omega)]
        rfl
      refine ⟨?_, ?_⟩
      · rw [e]
        exact hfit _
      · rw [e]
        have := hmk (f (sp.toNatClampNeg + i))
        cases hm : mk (f (sp.toNatClampNeg + i)) <;> first | exact trivial | exact absurd hm (this.2 _) | exact absurd hm this.1)
    (g := F0 m pc lr (.int n :: .int dp :: .ref a :: .int sp :: .ref a0 :: rest)) rfl (by rw [hml]) (rest := rest) rfl (by rw [hb]; exact hdg) hframes (by show 2 * 0 + _ + _ ≤ _; omega)
  have e1 : copied (arrV c0 n0 (fun j => mk (f j))) (arrV c0 n1 (fun j => mk (g j))) sp dp n = arrV c0 n1 (fun j => mk (va_cpy f g sp.toNatClampNeg dp.toNatClampNeg n.toNatClampNeg j)) := va_copied mk c0 c0 f g h4
  rw [e1] at X' step
  have hl : a < H.size := (Array.getElem?_eq_some_iff.mp hc1).1
  have hheap : ∀ cell : Cell, ((T.setVm vm').setCell a cell).heap = H.setIfInBounds a cell := fun _ => by rw [← hT]; rfl
  obtain ⟨t, a1, b1⟩ := kk _ _ (by simp [Array.getElem?_setIfInBounds, hl]) (by simp) (fun q hq => by simp [Array.getElem?_setIfInBounds, Ne.symm hq]) (fun q hq => by
      obtain ⟨z, -, hz⟩ := List.mem_map.mp hq
      rw [← hz]) _ (hheap _) X'
  exact ⟨t, step t a1, b1⟩
theorem jp_copy {i : Nat} (C : jX p R s m args meth c y) (hK : jKn D cA s) (hlink : Cond.methodLink (jcn (jm_cn y)) i arraycopyName ∈ jw) (hfr : 1 ≤ jm_fr y) (dd : decode (jm_code y) pc = .ok (.invokestatic i, 3)) (eN : jN_copy pc ls st h = some (.inl (pc', ls', st', h'))) (kk : jKK p l e R s m args below meth c Q D cA A ad0 n0 s0 y pc' ls' st' h') : jKK p l e R s m args below meth c Q D cA A ad0 n0 s0 y pc ls st h := by
  obtain ⟨hx, hb, hr, hml, hown, hts, hnw, -, -, hf1, hf2⟩ := C
  have hnative : nativeFrameWords "java/lang/System" "arraycopy" 5 = 7 := by decide
  unfold jN_copy at eN
  split at eN
  · next n dp b sp a st0 =>
    cases hcat : Nat.ble (st0.map fun v => v.category).sum 8 with
    | false => rw [hcat] at eN; cases eN
    | true =>
      rw [hcat] at eN
      simp only [cond_true] at eN
      have hcat8 := j_cat8 hcat
      split at eN
      · next hg =>
        obtain ⟨g1, g2, g3, g4, g5⟩ := hg
        split at eN
        · next hkk =>
          cases eN
          intro ad H locs lr cells slots I
          obtain ⟨hAa, ha⟩ := j_arrc (t := 0) I.1 (by omega) hkk.1
          obtain ⟨hAb, hbb⟩ := j_arrc (t := 0) I.1 (by omega) hkk.2
          have hok := I.okc
          have hst : ∀ u ∈ st', jok h.2.1 u := fun u hu => hok.2 u (List.mem_cons_of_mem _ (List.mem_cons_of_mem _ (List.mem_cons_of_mem _ (List.mem_cons_of_mem _ hu))))
          refine jW_copy (fun x : Int32 => Value.int x) (f := ji h a) (g := ji h b) (ty := .int) hx hb (by rw [hml]; exact I.2.2.1.1.symm) hown (hts _ hlink) (hts _ j_natw.1) (hts _ j_natw.2.1) (hts _ j_natw.2.2) ha hbb (hK.arr (t := 0) (by omega)).1 rfl (fun x => ⟨fun q => (by cases q), fun r q => (by cases q)⟩) g1 g2 g3 g4 g5 (fun _ => rfl) (by omega) (by rw [ja_sum, hnative]; omega) dd fun H1 L e1 e2 e3 e4 => ?_
          refine kk ad H1 _ lr cells slots (I.cpy hst rfl (by omega) ?_ e3 ⟨by rw [e2]; exact I.2.1.1, fun q z1 z2 => ?_, fun q hq => ?_⟩ (fun k r hr => I.1.2.2.2.1 b k r hr))
          · refine ⟨fun k2 hk2 e => ?_, fun t2 ht2 e => ?_, fun e => ?_⟩
            · have e' : (jk h b).1 = 1 + k2 := e
              omega
            · have e' : (jk h b).1 = 20 + t2 := e
              have : t2 = 0 := by omega
              subst this
              exact ⟨hAb, e1⟩
            · have e' : (jk h b).1 = 30 := e
              omega
          · rw [e3 q (fun e => z2 (by rw [e]; exact hAb))]
            exact I.2.1.2.1 q z1 z2
          · rcases List.mem_append.mp hq with hq | hq
            · exact I.2.1.2.2 q hq
            · rw [e4 q hq]; exact hAb
        · split at eN
          · next hkk =>
            cases eN
            intro ad H locs lr cells slots I
            obtain ⟨hAa, ha⟩ := j_arrc (t := 1) I.1 (by omega) hkk.1
            obtain ⟨hAb, hbb⟩ := j_arrc (t := 1) I.1 (by omega) hkk.2
            have hok := I.okc
            have hst : ∀ u ∈ st', jok h.2.1 u := fun u hu => hok.2 u (List.mem_cons_of_mem _ (List.mem_cons_of_mem _ (List.mem_cons_of_mem _ (List.mem_cons_of_mem _ hu))))
            refine jW_copy (fun x : Int64 => Value.long x) (f := jj h a) (g := jj h b) (ty := .long) hx hb (by rw [hml]; exact I.2.2.1.1.symm) hown (hts _ hlink) (hts _ j_natw.1) (hts _ j_natw.2.1) (hts _ j_natw.2.2) ha hbb (hK.arr (t := 1) (by omega)).1 rfl (fun x => ⟨fun q => (by cases q), fun r q => (by cases q)⟩) g1 g2 g3 g4 g5 (fun _ => rfl) (by omega) (by rw [ja_sum, hnative]; omega) dd fun H1 L e1 e2 e3 e4 => ?_
            refine kk ad H1 _ lr cells slots (I.cpy hst rfl (by omega) ?_ e3 ⟨by rw [e2]; exact I.2.1.1, fun q z1 z2 => ?_, fun q hq => ?_⟩ (fun k r hr => I.1.2.2.2.1 b k r hr))
            · refine ⟨fun k2 hk2 e => ?_, fun t2 ht2 e => ?_, fun e => ?_⟩
              · have e' : (jk h b).1 = 1 + k2 := e
                omega
              · have e' : (jk h b).1 = 20 + t2 := e
                have : t2 = 1 := by omega
                subst this
                exact ⟨hAb, e1⟩
              · have e' : (jk h b).1 = 30 := e
                omega
            · rw [e3 q (fun e => z2 (by rw [e]; exact hAb))]
              exact I.2.1.2.1 q z1 z2
            · rcases List.mem_append.mp hq with hq | hq
              · exact I.2.1.2.2 q hq
              · rw [e4 q hq]; exact hAb
          · cases eN
      · cases eN
  · cases eN
end
