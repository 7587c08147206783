/-! SIMULATION 4: one step, of any kind -/
theorem jt_m_ok {w i kind cal q : Nat} (h : jt_m w i = some (kind, cal, q)) : (bif jnest (jmw w i kind cal) then jmw w i kind cal ∈ jwn ∧ (kind = 1 ∨ kind = 3 ∨ kind = 5) else jmw w i kind cal ∈ jw ∧ ¬ (kind = 1 ∨ kind = 3 ∨ kind = 5)) ∧ (kind < 6 → cal < jmNL ∧ (kind ≤ 1 → (jmP.getD cal (0, 0, 0, false)).2.2.2 = true) ∧ (2 ≤ kind → (jmP.getD cal (0, 0, 0, true)).2.2.2 = false) ∧ (2 ≤ kind → kind ≤ 3 → jm_ini cal = false ∧ jcR (jm_ci cal) = (jm_name cal).cls ∧ jm_ci cal < 9) ∧ (4 ≤ kind → jm_ini cal = true)) := by
  have h1 := List.all_eq_true.mp jt_m_ok0 _ (j_lookup h)
  simp only [Bool.and_eq_true, Bool.or_eq_true, decide_eq_true_eq] at h1
  obtain ⟨h1, h2, h3⟩ := h1
  refine ⟨?_, fun hk => ?_⟩
  · cases hn : jnest (jmw w i kind cal) with
    | true =>
      rw [hn] at h2
      simp only [cond_true, Bool.or_eq_true, decide_eq_true_eq] at h2
      exact ⟨jwn_mem h1 hn, h2⟩
    | false =>
      rw [hn] at h2
      simp only [cond_false, Bool.and_eq_true, Bool.not_eq_true', Bool.or_eq_false_iff, decide_eq_false_iff_not] at h2
      exact ⟨jw_mem h1 h2.1, fun q => by rcases q with q | q | q; exact h2.2.1 q; exact h2.2.2.1 q; exact h2.2.2.2 q⟩
  · rcases h3 with h3 | h3
    · omega
    · obtain ⟨h3, h4⟩ := h3
      refine ⟨h3, fun q => ?_, fun q => ?_, fun q q2 => ?_, fun q => ?_⟩
      · rw [decide_eq_true q] at h4
        exact h4
      · rw [decide_eq_false (by omega)] at h4
        simp only [cond_false, Bool.and_eq_true, Bool.not_eq_true'] at h4
        exact h4.1
      · rw [decide_eq_false (by omega)] at h4
        simp only [cond_false, Bool.and_eq_true] at h4
        rw [decide_eq_true q2] at h4
        simp only [cond_true, Bool.and_eq_true, Bool.not_eq_true', decide_eq_true_eq] at h4
        exact h4.2
      · rw [decide_eq_false (by omega)] at h4
        simp only [cond_false, Bool.and_eq_true] at h4
        rw [decide_eq_false (by omega)] at h4
        exact h4.2
set_option maxRecDepth 100000 in
theorem j_codeM : Cond.code Lib.Math.max.name Lib.Math.max.code 2 (some .int) ∈ jw ∧ Cond.code Lib.Math.min.name Lib.Math.min.code 2 (some .int) ∈ jw ∧ Cond.code objectInit ⟨#[0xb1]⟩ 1 none ∈ jw :=
  ⟨jw_mem (i := jmX.getD 0 0) rfl rfl, jw_mem (i := jmX.getD 1 0) rfl rfl, jw_mem (i := jmX.getD 2 0) rfl rfl⟩
theorem j_wordM : Cond.static Lib.Math.max.name ∈ jw ∧ Cond.static Lib.Math.min.name ∈ jw ∧ Cond.instanceMethod objectInit ∈ jw ∧ Cond.initialized "java/lang/Math" ∈ jw :=
  ⟨jw_mem (i := jmX.getD 3 0) (by decide +kernel) rfl, jw_mem (i := jmX.getD 4 0) (by decide +kernel) rfl, jw_mem (i := jmX.getD 5 0) (by decide +kernel) rfl, jw_mem (i := jmX.getD 6 0) (by decide +kernel) rfl⟩
section
variable {p : Program} {l : Launch} {e : Env} {R : Room} {s : State} {m : MethodId} {args : Array Value} {below : List Frame} {meth : Method} {c : Code} {Q : State → Prop} {D : va_G} {cA : Nat → ClassId} {A : Nat → Prop} {ad0 : Nat → Nat} {n0 s0 y : Nat}
variable {pc : Nat} {ls : jL} {st : List Value} {h : jH} {pc' : Nat} {ls' : jL} {st' : List Value} {h' : jH}
theorem jp_calls {i op : Nat} {ins : Instr} (C : jX p R s m args meth c y) (hK : jKn D cA s) (hb1 : h'.2.1 ≤ n0 + R.cells) (hb2 : h'.2.2 ≤ s0 + R.slots) (hop : (op = 0 ∧ ins = .invokestatic i) ∨ (op = 1 ∧ ins = .invokevirtual i) ∨ (op = 2 ∧ ins = .invokespecial i)) (dd : decode (jm_code y) pc = .ok (ins, 3)) (eN : jN_call y i pc ls st h op = some (.inl (pc', ls', st', h'))) (kk : jKK p l e R s m args below meth c Q D cA A ad0 n0 s0 y pc' ls' st' h') : jKK p l e R s m args below meth c Q D cA A ad0 n0 s0 y pc ls st h := by
  have ncl : ∀ (cal k : Nat) (z : Nat × jL × List Value × jH), jcl y cal k st ≠ some (.inl z) := by
    intro cal k z hz
    unfold jcl at hz
    cases hq : (Nat.ble k st.length && (Nat.blt (jm_fr cal) (jm_fr y) && (Nat.ble ((st.take k).map fun v => v.category).sum (jm_max cal) && Nat.ble ((st.drop k).map fun v => v.category).sum 8))) <;> rw [hq] at hz <;> cases hz
  obtain ⟨hx, hb, hr, hml, hown, hts, hnw, -, -, hf1, hf2⟩ := id C
  unfold jN_call at eN
  split at eN
  · next kind cal q hf =>
    obtain ⟨hw, -⟩ := jt_m_ok hf
    split at eN
    · exact absurd eN (ncl _ _ _)
    · exact absurd eN (ncl _ _ _)
    · split at eN
      · next b a st0 =>
        cases hcat : (Nat.ble 1 (jm_fr y) && Nat.ble (st0.map fun v => v.category).sum 8) with
        | false => rw [hcat] at eN; cases eN
        | true =>
          rw [hcat] at eN
          rw [Bool.and_eq_true] at hcat
          have h1 := Nat.le_of_ble_eq_true hcat.1
          have h2 := j_cat8 hcat.2
          cases eN
          rcases hop with ⟨-, rfl⟩ | ⟨q0, -⟩ | ⟨q0, -⟩
          · intro ad H locs lr cells slots I
            obtain ⟨-, -, -, -, hst, -, -, hn, hs⟩ := id I
            exact va_mmax hx hb (by rw [hml]; exact I.2.2.1.1.symm) hown (hts _ hw.1) (hts _ j_wordM.1) (hts _ j_wordM.2.2.2) (hts _ j_codeM.1) (by omega) (by rw [ja_sum]; omega) (by omega) (by omega) dd (kk ad H locs lr cells slots (I.stk (j_ok1 trivial (fun u hu => I.okc.2 u (List.mem_cons_of_mem _ hu)))))
          · cases q0
          · cases q0
      · cases eN
    · split at eN
      · next b a st0 =>
        cases hcat : (Nat.ble 1 (jm_fr y) && Nat.ble (st0.map fun v => v.category).sum 8) with
        | false => rw [hcat] at eN; cases eN
        | true =>
          rw [hcat] at eN
          rw [Bool.and_eq_true] at hcat
          have h1 := Nat.le_of_ble_eq_true hcat.1
          have h2 := j_cat8 hcat.2
          cases eN
          rcases hop with ⟨-, rfl⟩ | ⟨q0, -⟩ | ⟨q0, -⟩
          · intro ad H locs lr cells slots I
            obtain ⟨-, -, -, -, hst, -, -, hn, hs⟩ := id I
            exact va_mmin hx hb (by rw [hml]; exact I.2.2.1.1.symm) hown (hts _ hw.1) (hts _ j_wordM.2.1) (hts _ j_wordM.2.2.2) (hts _ j_codeM.2.1) (by omega) (by rw [ja_sum]; omega) (by omega) (by omega) dd (kk ad H locs lr cells slots (I.stk (j_ok1 trivial (fun u hu => I.okc.2 u (List.mem_cons_of_mem _ hu)))))
          · cases q0
          · cases q0
      · cases eN
    · cases hcat : Nat.ble 1 (jm_fr y) with
      | false => rw [hcat] at eN; cases eN
      | true =>
        rw [hcat] at eN
        rcases hop with ⟨-, rfl⟩ | ⟨q0, -⟩ | ⟨q0, -⟩
        · exact jp_copy C hK hw.1 (Nat.le_of_ble_eq_true hcat) dd eN kk
        · cases q0
        · cases q0
    · split at eN
      · split at eN
        · exact absurd eN (ncl _ _ _)
        · cases eN
      · cases eN
    · split at eN
      · split at eN
        · exact absurd eN (ncl _ _ _)
        · cases eN
      · cases eN
    · split at eN
      · exact absurd eN (ncl _ _ _)
      · cases eN
    · split at eN
      · exact absurd eN (ncl _ _ _)
      · cases eN
    · split at eN
      · next a st0 =>
        cases hcat : (Nat.ble 1 (jm_fr y) && Nat.ble (st0.map fun v => v.category).sum 8) with
        | false => rw [hcat] at eN; cases eN
        | true =>
          rw [hcat] at eN
          rw [Bool.and_eq_true] at hcat
          have h1 := Nat.le_of_ble_eq_true hcat.1
          have h2 := j_cat8 hcat.2
          cases eN
          rcases hop with ⟨q0, -⟩ | ⟨q0, -⟩ | ⟨-, rfl⟩
          · cases q0
          · cases q0
          · intro ad H locs lr cells slots I
            exact W.objInit hx hb hown (hts _ hw.1) (hts _ j_wordM.2.2.1) (hts _ j_codeM.2.2) rfl (by rw [hml]; exact I.2.2.1.1) rfl dd (by omega) (by show 2 * 0 + _ + 12 ≤ _; rw [ja_sum]; omega) (kk ad H locs lr cells slots (I.stk I.okc.2))
      · cases eN
    · cases eN
  · cases eN
set_option maxHeartbeats 2000000 in
theorem j_step {i : Instr} (C : jX p R s m args meth c y) (hK : jKn D cA s) (hA : ∀ q, s.heap.size ≤ q → A q) (hci : jm_ini y = true → jcn (jm_cn y) = jcR (jm_ci y)) (hb1 : h'.2.1 ≤ n0 + R.cells) (hb2 : h'.2.2 ≤ s0 + R.slots) (d : jD y pc = some i) (eN : jN i y pc ls st h = some (.inl (pc', ls', st', h'))) (kk : jKK p l e R s m args below meth c Q D cA A ad0 n0 s0 y pc' ls' st' h') : jKK p l e R s m args below meth c Q D cA A ad0 n0 s0 y pc ls st h := by
  obtain ⟨n, dd, hl⟩ := j_d d
  obtain ⟨hx, hb, hr, hml, hown, hts, hnw, -⟩ := id C
  cases i
  case iconst k =>
    obtain rfl : n = 1 := eq_of_beq hl
    cases eN
    exact jp_push (fun _ => by rfl) (fun _ => by trivial) (fun _ _ _ _ _ _ w => lv_iconst hx hb dd rfl w) kk
  case bipush k =>
    obtain rfl : n = 2 := eq_of_beq hl
    cases eN
    exact jp_push (fun _ => by rfl) (fun _ => by trivial) (fun _ _ _ _ _ _ w => lv_bipush hx hb dd rfl w) kk
  case sipush k =>
    obtain rfl : n = 3 := eq_of_beq hl
    cases eN
    exact jp_push (fun _ => by rfl) (fun _ => by trivial) (fun _ _ _ _ _ _ w => lv_sipush hx hb dd rfl w) kk
  case lconst k =>
    obtain rfl : n = 1 := eq_of_beq hl
    cases eN
    exact jp_push (fun _ => by rfl) (fun _ => by trivial) (fun _ _ _ _ _ _ w => lv_lconst hx hb dd rfl w) kk
  case aconst_null =>
    obtain rfl : n = 1 := eq_of_beq hl
    cases eN
    exact jp_push (fun _ => by rfl) (fun _ => by trivial) (fun _ _ _ _ _ _ w => lv_null hx hb dd w) kk
  case ldc k =>
    obtain rfl : n = 2 := eq_of_beq hl
    replace eN : (match jt_k (jm_cn y) k with
      | some (v, _) => jgo (pc + 2) ls (.int v :: st) h
      | none => none) = some (.inl (pc', ls', st', h')) := eN
    split at eN
    · next hf =>
      cases eN
      exact jp_push (fun _ => by rfl) (fun _ => by trivial) (fun _ _ _ _ _ _ w => lv_ldc hx hb hown (hts _ (jt_k_ok hf)) dd w) kk
    · cases eN
  case ldc_w k =>
    obtain rfl : n = 3 := eq_of_beq hl
    replace eN : (match jt_k (jm_cn y) k with
      | some (v, _) => jgo (pc + 3) ls (.int v :: st) h
      | none => none) = some (.inl (pc', ls', st', h')) := eN
    split at eN
    · next hf =>
      cases eN
      exact jp_push (fun _ => by rfl) (fun _ => by trivial) (fun _ _ _ _ _ _ w => lv_ldcw hx hb hown (hts _ (jt_k_ok hf)) dd w) kk
    · cases eN
  case ldc2_w k =>
    obtain rfl : n = 3 := eq_of_beq hl
    replace eN : (match jt_l (jm_cn y) k with
      | some (v, _) => jgo (pc + 3) ls (.long v :: st) h
      | none => none) = some (.inl (pc', ls', st', h')) := eN
    split at eN
    · next hf =>
      cases eN
      exact jp_push (fun _ => by rfl) (fun _ => by trivial) (fun _ _ _ _ _ _ w => lv_ldc2 hx hb hown (hts _ (jt_l_ok hf)) dd w) kk
    · cases eN
  case iload_n k =>
    obtain rfl : n = 1 := eq_of_beq hl
    exact jp_load (fun _ _ _ _ _ _ ad v hv hl w => by cases v <;> first | exact lv_iload_n hx hb dd rfl hl w | cases hv) eN kk
  case iload k =>
    obtain rfl : n = 2 := eq_of_beq hl
    exact jp_load (fun _ _ _ _ _ _ ad v hv hl w => by cases v <;> first | exact lv_iload hx hb dd hl w | cases hv) eN kk
  case lload_n k =>
    obtain rfl : n = 1 := eq_of_beq hl
    exact jp_load (fun _ _ _ _ _ _ ad v hv hl w => by cases v <;> first | exact lv_lload_n hx hb dd rfl hl w | cases hv) eN kk
  case lload k =>
    obtain rfl : n = 2 := eq_of_beq hl
    exact jp_load (fun _ _ _ _ _ _ ad v hv hl w => by cases v <;> first | exact lv_lload hx hb dd hl w | cases hv) eN kk
  case aload_n k =>
    obtain rfl : n = 1 := eq_of_beq hl
    exact jp_load (fun _ _ _ _ _ _ ad v hv hl w => by cases v <;> first | exact lv_aload_n hx hb dd rfl hl w | exact lv_aload_nN hx hb dd rfl hl w | cases hv) eN kk
  case aload k =>
    obtain rfl : n = 2 := eq_of_beq hl
    exact jp_load (fun _ _ _ _ _ _ ad v hv hl w => by cases v <;> first | exact lv_aload hx hb dd hl w | exact lv_aloadN hx hb dd hl w | cases hv) eN kk
  case istore_n k =>
    obtain rfl : n = 1 := eq_of_beq hl
    exact jp_st1 (fun v hv => by cases v <;> first | rfl | cases hv) (fun _ _ _ _ _ _ ad v _ _ hv h0 hn hl w => by cases v <;> first | exact lv_istore_n hx hb dd rfl h0 hn hl w | cases hv) eN kk
  case istore k =>
    obtain rfl : n = 2 := eq_of_beq hl
    exact jp_st1 (fun v hv => by cases v <;> first | rfl | cases hv) (fun _ _ _ _ _ _ ad v _ _ hv h0 hn hl w => by cases v <;> first | exact lv_istore hx hb dd h0 hn hl w | cases hv) eN kk
  case astore_n k =>
    obtain rfl : n = 1 := eq_of_beq hl
    exact jp_st1 (fun v hv => by cases v <;> first | rfl | cases hv) (fun _ _ _ _ _ _ ad v _ _ hv h0 hn hl w => by cases v <;> first | exact lv_astore_n hx hb dd rfl h0 hn hl w | exact lv_astore_nN hx hb dd rfl h0 hn hl w | cases hv) eN kk
  case astore k =>
    obtain rfl : n = 2 := eq_of_beq hl
    exact jp_st1 (fun v hv => by cases v <;> first | rfl | cases hv) (fun _ _ _ _ _ _ ad v _ _ hv h0 hn hl w => by cases v <;> first | exact lv_astore hx hb dd h0 hn hl w | exact lv_astoreN hx hb dd h0 hn hl w | cases hv) eN kk
  case lstore_n k =>
    obtain rfl : n = 1 := eq_of_beq hl
    exact jp_st2 (fun _ _ _ _ _ _ x _ _ h0 hn hl w => lv_lstore_n hx hb dd rfl h0 hn hl w) eN kk
  case lstore k =>
    obtain rfl : n = 2 := eq_of_beq hl
    exact jp_st2 (fun _ _ _ _ _ _ x _ _ h0 hn hl w => lv_lstore hx hb dd h0 hn hl w) eN kk
  case iinc k q =>
    obtain rfl : n = 3 := eq_of_beq hl
    replace eN : (match jld ls k with
      | some (.int x) => match jst1 ls k (.int (x + Int32.ofInt q)) with
        | some ls' => jgo (pc + 3) ls' st h
        | none => none
      | _ => none) = some (.inl (pc', ls', st', h')) := eN
    split at eN
    · next x hv =>
      split at eN
      · next ls1 hl1 =>
        cases eN
        exact jp_inc hx hb dd hv hl1 kk
      · cases eN
    · cases eN
  case iadd =>
    obtain rfl : n = 1 := eq_of_beq hl
    exact jp_i2 (fun _ _ _ _ _ _ _ _ w => lv_iadd hx hb dd w) eN kk
  case isub =>
    obtain rfl : n = 1 := eq_of_beq hl
    exact jp_i2 (fun _ _ _ _ _ _ _ _ w => lv_isub hx hb dd w) eN kk
  case imul =>
    obtain rfl : n = 1 := eq_of_beq hl
    exact jp_i2 (fun _ _ _ _ _ _ _ _ w => lv_imul hx hb dd w) eN kk
  case iand =>
    obtain rfl : n = 1 := eq_of_beq hl
    exact jp_i2 (fun _ _ _ _ _ _ _ _ w => lv_iand hx hb dd w) eN kk
  case ior =>
    obtain rfl : n = 1 := eq_of_beq hl
    exact jp_i2 (fun _ _ _ _ _ _ _ _ w => lv_ior hx hb dd w) eN kk
  case ixor =>
    obtain rfl : n = 1 := eq_of_beq hl
    exact jp_i2 (fun _ _ _ _ _ _ _ _ w => lv_ixor hx hb dd w) eN kk
  case ishl =>
    obtain rfl : n = 1 := eq_of_beq hl
    exact jp_i2 (fun _ _ _ _ _ _ _ _ w => lv_ishl hx hb dd w) eN kk
  case ishr =>
    obtain rfl : n = 1 := eq_of_beq hl
    exact jp_i2 (fun _ _ _ _ _ _ _ _ w => lv_ishr hx hb dd w) eN kk
  case iushr =>
    obtain rfl : n = 1 := eq_of_beq hl
    exact jp_i2 (fun _ _ _ _ _ _ _ _ w => lv_iushr hx hb dd rfl w) eN kk
  case idiv =>
    obtain rfl : n = 1 := eq_of_beq hl
    replace eN : (match st with
      | .int b :: .int a :: st => if b = 0 then none else jgo (pc + 1) ls (.int (a / b) :: st) h
      | _ => none) = some (.inl (pc', ls', st', h')) := eN
    split at eN
    · split at eN
      · cases eN
      · next hz =>
        cases eN
        intro ad H locs lr cells slots I
        exact lv_idiv hx hb dd hz (kk ad H locs lr cells slots (I.stk (j_ok1 trivial (fun u hu => I.okc.2 u (List.mem_cons_of_mem _ hu)))))
    · cases eN
  case irem =>
    obtain rfl : n = 1 := eq_of_beq hl
    replace eN : (match st with
      | .int b :: .int a :: st => if b = 0 then none else jgo (pc + 1) ls (.int (a - a / b * b) :: st) h
      | _ => none) = some (.inl (pc', ls', st', h')) := eN
    split at eN
    · split at eN
      · cases eN
      · next hz =>
        cases eN
        intro ad H locs lr cells slots I
        exact lv_irem hx hb dd hz (kk ad H locs lr cells slots (I.stk (j_ok1 trivial (fun u hu => I.okc.2 u (List.mem_cons_of_mem _ hu)))))
    · cases eN
  case land =>
    obtain rfl : n = 1 := eq_of_beq hl
    exact jp_l2 (fun _ _ _ _ _ _ _ _ w => lv_land hx hb dd w) eN kk
  case lor =>
    obtain rfl : n = 1 := eq_of_beq hl
    exact jp_l2 (fun _ _ _ _ _ _ _ _ w => lv_lor hx hb dd w) eN kk
  case lxor =>
    obtain rfl : n = 1 := eq_of_beq hl
    exact jp_l2 (fun _ _ _ _ _ _ _ _ w => lv_lxor hx hb dd w) eN kk
  case lshl =>
    obtain rfl : n = 1 := eq_of_beq hl
    exact jp_li (fun _ _ _ _ _ _ _ _ w => lv_lshl hx hb dd rfl w) eN kk
  case lshr =>
    obtain rfl : n = 1 := eq_of_beq hl
    exact jp_li (fun _ _ _ _ _ _ _ _ w => lv_lshr hx hb dd rfl w) eN kk
  case lcmp =>
    obtain rfl : n = 1 := eq_of_beq hl
    replace eN : (match st with
      | .long b :: .long a :: st => jgo (pc + 1) ls (.int (lg_cmp a b) :: st) h
      | _ => none) = some (.inl (pc', ls', st', h')) := eN
    split at eN
    · cases eN
      intro ad H locs lr cells slots I
      exact W.lcmp hx hb dd (kk ad H locs lr cells slots (I.stk (j_ok1 trivial (fun u hu => I.okc.2 u (List.mem_cons_of_mem _ hu)))))
    · cases eN
  case i2l =>
    obtain rfl : n = 1 := eq_of_beq hl
    replace eN : (match st with
      | .int a :: st => jgo (pc + 1) ls (.long a.toInt64 :: st) h
      | _ => none) = some (.inl (pc', ls', st', h')) := eN
    split at eN
    · cases eN
      intro ad H locs lr cells slots I
      exact lv_i2l hx hb dd rfl (kk ad H locs lr cells slots (I.stk (j_ok1 trivial I.okc.2)))
    · cases eN
  case l2i =>
    obtain rfl : n = 1 := eq_of_beq hl
    replace eN : (match st with
      | .long a :: st => jgo (pc + 1) ls (.int a.toInt32 :: st) h
      | _ => none) = some (.inl (pc', ls', st', h')) := eN
    split at eN
    · cases eN
      intro ad H locs lr cells slots I
      exact lv_l2i hx hb dd rfl (kk ad H locs lr cells slots (I.stk (j_ok1 trivial I.okc.2)))
    · cases eN
  case dup =>
    obtain rfl : n = 1 := eq_of_beq hl
    replace eN : (match st with
      | v :: st => bif v.category == 1 then jgo (pc + 1) ls (v :: v :: st) h else none
      | _ => none) = some (.inl (pc', ls', st', h')) := eN
    split at eN
    · next v st0 =>
      cases hc : (v.category == 1) with
      | false => rw [hc] at eN; cases eN
      | true =>
        rw [hc] at eN
        cases eN
        intro ad H locs lr cells slots I
        exact lv_dup hx hb dd (by rw [ja_cat]; exact eq_of_beq hc) (kk ad H locs lr cells slots (I.stk (j_ok1 I.okc.1 (j_ok1 I.okc.1 I.okc.2))))
    · cases eN
  case dup2 =>
    obtain rfl : n = 1 := eq_of_beq hl
    replace eN : (match st with
      | v :: w :: st => bif v.category == 1 && w.category == 1 then jgo (pc + 1) ls (v :: w :: v :: w :: st) h else none
      | _ => none) = some (.inl (pc', ls', st', h')) := eN
    split at eN
    · next v w st0 =>
      cases hc : (v.category == 1 && w.category == 1) with
      | false => rw [hc] at eN; cases eN
      | true =>
        rw [hc] at eN
        rw [Bool.and_eq_true] at hc
        cases eN
        intro ad H locs lr cells slots I
        have o1 := I.okc
        exact lv_dup2_11 hx hb dd (by rw [ja_cat]; exact eq_of_beq hc.1) (by rw [ja_cat]; exact eq_of_beq hc.2) (kk ad H locs lr cells slots (I.stk (j_ok1 o1.1 (j_ok1 (o1.2 _ List.mem_cons_self) (j_ok1 o1.1 o1.2)))))
    · cases eN
  case ifCond cd off =>
    obtain rfl : n = 3 := eq_of_beq hl
    replace eN : (match st with
      | .int x :: st => bif jokt pc off then jgo (jbr cd x 0 (jtgt pc off) (pc + 3)) ls st h else none
      | _ => none) = some (.inl (pc', ls', st', h')) := eN
    split at eN
    · cases hj : jokt pc off with
      | false => rw [hj] at eN; cases eN
      | true =>
        rw [hj] at eN
        cases eN
        exact jp_ifc hx hb dd hj kk
    · cases eN
  case if_icmp cd off =>
    obtain rfl : n = 3 := eq_of_beq hl
    replace eN : (match st with
      | .int b :: .int a :: st => bif jokt pc off then jgo (jbr cd a b (jtgt pc off) (pc + 3)) ls st h else none
      | _ => none) = some (.inl (pc', ls', st', h')) := eN
    split at eN
    · cases hj : jokt pc off with
      | false => rw [hj] at eN; cases eN
      | true =>
        rw [hj] at eN
        cases eN
        exact jp_icmp hx hb dd hj kk
    · cases eN
  case ifnull off =>
    obtain rfl : n = 3 := eq_of_beq hl
    replace eN : (match st with
      | .null :: st => bif jokt pc off then jgo (jtgt pc off) ls st h else none
      | .ref _ :: st => jgo (pc + 3) ls st h
      | _ => none) = some (.inl (pc', ls', st', h')) := eN
    split at eN
    · cases hj : jokt pc off with
      | false => rw [hj] at eN; cases eN
      | true =>
        rw [hj] at eN
        cases eN
        intro ad H locs lr cells slots I
        exact lv_ifnullN hx hb dd (j_tg hj) (kk ad H locs lr cells slots (I.stk I.okc.2))
    · cases eN
      intro ad H locs lr cells slots I
      exact lv_ifnull hx hb dd (kk ad H locs lr cells slots (I.stk I.okc.2))
    · cases eN
  case ifnonnull off =>
    obtain rfl : n = 3 := eq_of_beq hl
    replace eN : (match st with
      | .ref _ :: st => bif jokt pc off then jgo (jtgt pc off) ls st h else none
      | .null :: st => jgo (pc + 3) ls st h
      | _ => none) = some (.inl (pc', ls', st', h')) := eN
    split at eN
    · cases hj : jokt pc off with
      | false => rw [hj] at eN; cases eN
      | true =>
        rw [hj] at eN
        cases eN
        intro ad H locs lr cells slots I
        exact lv_ifnonnull hx hb dd (j_tg hj) (kk ad H locs lr cells slots (I.stk I.okc.2))
    · cases eN
      intro ad H locs lr cells slots I
      exact lv_ifnonnullN hx hb dd (kk ad H locs lr cells slots (I.stk I.okc.2))
    · cases eN
  case goto off =>
    obtain rfl : n = 3 := eq_of_beq hl
    replace eN : (bif jokt pc off then jgo (jtgt pc off) ls st h else none) = some (.inl (pc', ls', st', h')) := eN
    cases hj : jokt pc off with
    | false => rw [hj] at eN; cases eN
    | true =>
      rw [hj] at eN
      cases eN
      intro ad H locs lr cells slots I
      exact lv_goto hx hb dd (j_tg hj) (kk ad H locs lr cells slots I)
  case tableswitch dflt lo hi offs =>
    replace eN : (match st with
      | .int x :: st => if x.toInt < lo ∨ hi < x.toInt then (bif jokt pc dflt then jgo (jtgt pc dflt) ls st h else none) else match offs[(x.toInt - lo).toNat]? with
        | some off => bif jokt pc off then jgo (jtgt pc off) ls st h else none
        | none => none
      | _ => none) = some (.inl (pc', ls', st', h')) := eN
    split at eN
    · next x st0 =>
      split at eN
      · next hout =>
        cases hj : jokt pc dflt with
        | false => rw [hj] at eN; cases eN
        | true =>
          rw [hj] at eN
          cases eN
          intro ad H locs lr cells slots I
          exact lv_tableOut hx hb dd hout (j_tg hj) (kk ad H locs lr cells slots (I.stk I.okc.2))
      · next hin =>
        split at eN
        · next off ho =>
          cases hj : jokt pc off with
          | false => rw [hj] at eN; cases eN
          | true =>
            rw [hj] at eN
            cases eN
            intro ad H locs lr cells slots I
            exact lv_tableIn hx hb dd (fun q => hin (Or.inl q)) (fun q => hin (Or.inr q)) ho (j_tg hj) (kk ad H locs lr cells slots (I.stk I.okc.2))
        · cases eN
    · cases eN
  case getfield k =>
    obtain rfl : n = 3 := eq_of_beq hl
    exact jp_get C hK dd eN kk
  case putfield k =>
    obtain rfl : n = 3 := eq_of_beq hl
    exact jp_put C hK hci dd eN kk
  case iaload =>
    obtain rfl : n = 1 := eq_of_beq hl
    replace eN : jN_ald (bif jm_cn y == 12 then 30 else 20) pc ls st h j_ival = some (.inl (pc', ls', st', h')) := eN
    cases hcn : (jm_cn y == 12) with
    | true =>
      rw [hcn] at eN
      exact jp_sld C dd eN kk
    | false =>
      rw [hcn] at eN
      exact jp_ald (t := 0) (by omega) (fun _ _ => rfl) (fun _ _ _ _ _ _ _ _ _ f hc hi w => W.iald hx hb hc ((hK.arr (t := 0) (by omega)).1 _ _) (fun q => by cases q) (j_in hi _ _) (by rw [arrV_read _ _ (j_lt hi)]) rfl rfl dd w) eN kk
  case laload =>
    obtain rfl : n = 1 := eq_of_beq hl
    exact jp_ald (t := 1) (by omega) (fun _ _ => rfl) (fun _ _ _ _ _ _ _ _ _ f hc hi w => W.lald hx hb hc ((hK.arr (t := 1) (by omega)).1 _ _) (fun q => by cases q) (j_in hi _ _) (by rw [arrV_read _ _ (j_lt hi)]) rfl rfl dd w) eN kk
  case baload =>
    obtain rfl : n = 1 := eq_of_beq hl
    exact jp_ald (t := 2) (by omega) (fun _ _ => rfl) (fun _ _ _ _ _ _ _ _ _ f hc hi w => W.zald hx hb hc ((hK.arr (t := 2) (by omega)).1 _ _) (fun q => by cases q) (j_in hi _ _) (by rw [arrV_read _ _ (j_lt hi)]) rfl rfl dd w) eN kk
  case aaload =>
    obtain rfl : n = 1 := eq_of_beq hl
    replace eN : jN_ald (bif jm_cn y == 2 then 23 else 24) pc ls st h j_aval = some (.inl (pc', ls', st', h')) := eN
    cases hcn : (jm_cn y == 2) with
    | true =>
      rw [hcn] at eN
      exact jp_ald (t := 3) (by omega) (fun _ _ => rfl) (fun _ _ _ _ _ _ _ _ _ f hc hi w => W.aald (ty := .object RX5) hx hb hc ((hK.arr (t := 3) (by omega)).1 _ _) rfl (fun q => by cases q) (j_in hi _ _) (by rw [arrV_read _ _ (j_lt hi)]) rfl rfl dd w) eN kk
    | false =>
      rw [hcn] at eN
      exact jp_ald (t := 4) (by omega) (fun _ _ => rfl) (fun _ _ _ _ _ _ _ _ _ f hc hi w => W.aald (ty := .object RX7) hx hb hc ((hK.arr (t := 4) (by omega)).1 _ _) rfl (fun q => by cases q) (j_in hi _ _) (by rw [arrV_read _ _ (j_lt hi)]) rfl rfl dd w) eN kk
  case iastore =>
    obtain rfl : n = 1 := eq_of_beq hl
    refine jp_ast (t := 0) (by omega) (fun _ _ _ _ _ _ _ _ v _ f _ _ _ ad hput hc hi w => ?_) eN kk
    cases v <;> first | exact W.iast hx hb hc ((hK.arr (t := 0) (by omega)).1 _ _) (fun q => by cases q) (j_in hi _ _) rfl rfl dd w | cases hput
  case lastore =>
    obtain rfl : n = 1 := eq_of_beq hl
    refine jp_ast (t := 1) (by omega) (fun _ _ _ _ _ _ _ _ v _ f _ _ _ ad hput hc hi w => ?_) eN kk
    cases v <;> first | exact W.last hx hb hc ((hK.arr (t := 1) (by omega)).1 _ _) (fun q => by cases q) (j_in hi _ _) rfl rfl dd w | cases hput
  case bastore =>
    obtain rfl : n = 1 := eq_of_beq hl
    refine jp_ast (t := 2) (by omega) (fun _ _ _ _ _ _ _ _ v _ f _ _ _ ad hput hc hi w => ?_) eN kk
    have hn := (j_fits ad hput).1
    cases v <;> first | cases hput | skip
    next x =>
      have hn2 : narrow .boolean (.int x) = .int x := hn
      refine W.zast hx hb hc ((hK.arr (t := 2) (by omega)).1 _ _) (fun q => by cases q) (j_in hi _ _) rfl rfl dd fun H1 e1 e2 e3 => w H1 ?_ e2 e3
      rw [hn2] at e1
      exact e1
  case aastore =>
    obtain rfl : n = 1 := eq_of_beq hl
    exact jp_aast C hK dd eN kk
  case arraylength =>
    obtain rfl : n = 1 := eq_of_beq hl
    replace eN : (match st with
      | .ref a :: st => if 20 ≤ (jk h a).1 ∧ (jk h a).1 ≤ 24 ∨ (jk h a).1 = 30 then jgo (pc + 1) ls (.int (nI (jk h a).2) :: st) h else none
      | _ => none) = some (.inl (pc', ls', st', h')) := eN
    split at eN
    · split at eN
      · next hc =>
        cases eN
        exact jp_alen C hK dd hc kk
      · cases eN
    · cases eN
  case newarray t0 =>
    obtain rfl : n = 2 := eq_of_beq hl
    replace eN : (match st with
      | .int n :: st => if n < 0 ∨ 1000000 < n then none else match t0 with
        | .int => jgo (pc + 2) ls (.ref h.2.1 :: st) (jnew h 20 n.toNatClampNeg n.toNatClampNeg)
        | .long => jgo (pc + 2) ls (.ref h.2.1 :: st) (jnew h 21 n.toNatClampNeg n.toNatClampNeg)
        | .boolean => jgo (pc + 2) ls (.ref h.2.1 :: st) (jnew h 22 n.toNatClampNeg n.toNatClampNeg)
        | _ => none
      | _ => none) = some (.inl (pc', ls', st', h')) := eN
    split at eN
    · split at eN
      · cases eN
      · next hn =>
        split at eN
        · cases eN; exact jp_newa (t := 0) C hK hA dd (by omega) rfl j_arrI hn hb1 hb2 kk
        · cases eN; exact jp_newa (t := 1) C hK hA dd (by omega) rfl j_arrJ hn hb1 hb2 kk
        · cases eN; exact jp_newa (t := 2) C hK hA dd (by omega) rfl j_arrZ hn hb1 hb2 kk
        · cases eN
    · cases eN
  case anewarray k =>
    obtain rfl : n = 3 := eq_of_beq hl
    replace eN : (match jt_a (jm_cn y) k with
      | some (t, _) => match st with
        | .int n :: st => if n < 0 ∨ 1000000 < n then none else jgo (pc + 3) ls (.ref h.2.1 :: st) (jnew h (20 + t) n.toNatClampNeg n.toNatClampNeg)
        | _ => none
      | none => none) = some (.inl (pc', ls', st', h')) := eN
    split at eN
    · next hf =>
      split at eN
      · split at eN
        · cases eN
        · next hn =>
          cases eN
          exact jp_anew C hK hA dd hf hn hb1 hb2 kk
      · cases eN
    · cases eN
  case new k =>
    obtain rfl : n = 3 := eq_of_beq hl
    replace eN : (match jt_n (jm_cn y) k with
      | some (c, _, _, _) => jgo (pc + 3) ls (.ref h.2.1 :: st) (jnew h (1 + c) 0 (jcN c))
      | none => none) = some (.inl (pc', ls', st', h')) := eN
    split at eN
    · next hf =>
      cases eN
      exact jq_new C hK hA dd hf hb1 hb2 kk
    · cases eN
  case invokestatic k =>
    obtain rfl : n = 3 := eq_of_beq hl
    exact jp_calls C hK hb1 hb2 (Or.inl ⟨rfl, rfl⟩) dd eN kk
  case invokevirtual k =>
    obtain rfl : n = 3 := eq_of_beq hl
    exact jp_calls C hK hb1 hb2 (Or.inr (Or.inl ⟨rfl, rfl⟩)) dd eN kk
  case invokespecial k =>
    obtain rfl : n = 3 := eq_of_beq hl
    exact jp_calls C hK hb1 hb2 (Or.inr (Or.inr ⟨rfl, rfl⟩)) dd eN kk
  all_goals first
    | (cases eN; done)
    | (exfalso
       clear d dd hl
       simp only [jN] at eN
       revert eN
       repeat' split
       all_goals (intro q; cases q))
end
