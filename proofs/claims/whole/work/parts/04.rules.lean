/-! RULES: what the value of a run is at an instruction -/
section
variable {y pc : Nat} {ls : jL} {st : List Value} {h : jH}
theorem jV_ite {P : Prop} {D : Decidable P} {a b : Nat} : jV y (@ite _ P D a b) ls st h = @ite _ P D (jV y a ls st h) (jV y b ls st h) := by
  by_cases hp : P
  · rw [if_pos hp, if_pos hp]
  · rw [if_neg hp, if_neg hp]
theorem jV_if {P : Prop} {D : Decidable P} {i : Instr} {pc' : Nat} {ls' : jL} {st' : List Value} {h' : jH} (d : jD y pc = some i) (e : jN i y pc ls st h = @ite _ P D (jgo pc' ls' st' h') none) : jV y pc ls st h = @ite _ P D (jV y pc' ls' st' h') none := by
  by_cases hp : P
  · rw [if_pos hp] at e ⊢
    exact jV_go d e
  · rw [if_neg hp] at e ⊢
    exact jV_stuck d e
theorem jV_retif {P : Prop} {D : Decidable P} {i : Instr} {x : Option Value × jH} (d : jD y pc = some i) (e : jN i y pc ls st h = @ite _ P D (some (.inr (.inl x))) none) : jV y pc ls st h = @ite _ P D (some x) none := by
  by_cases hp : P
  · rw [if_pos hp] at e ⊢
    exact jV_ret d e
  · rw [if_neg hp] at e ⊢
    exact jV_stuck d e
theorem jV_callif {P : Prop} {D : Decidable P} {i : Instr} {cal : Nat} {lc : jL} {rest : List Value} (d : jD y pc = some i) (e : jN i y pc ls st h = @ite _ P D (some (.inr (.inr (cal, lc, rest)))) none) :
    jV y pc ls st h = @ite _ P D ((jV cal 0 lc [] h).bind fun x => jV y (pc + 3) ls (x.1.toList ++ rest) x.2) none := by
  by_cases hp : P
  · rw [if_pos hp] at e ⊢
    exact jV_call d e
  · rw [if_neg hp] at e ⊢
    exact jV_stuck d e
theorem jV_br {i : Instr} {t f : Nat} {c : ClassFile.Cond} {x z : Int32} {st' : List Value} (d : jD y pc = some i) (e : jN i y pc ls st h = jgo (jbr c x z t f) ls st' h) : jV y pc ls st h = jV y (jbr c x z t f) ls st' h := jV_go d e
variable {i c k q w cal kind : Nat} {b : Bool} {a : Nat}
theorem jV_get (d : jD y pc = some (.getfield i)) (hc : jm_cn y = w) (hf : jt_f w i = some (c, k, b, q)) : jV y pc ls (.ref a :: st) h = if (jk h a).1 = 1 + c then jV y (pc + 3) ls (jfv (jty c k) (h.1 a) k :: st) h else none :=
  jV_if d (by subst hc; show jN_get y i pc ls (.ref a :: st) h = _; unfold jN_get; rw [hf])
theorem jV_put {v : Value} {h' : jH} (d : jD y pc = some (.putfield i)) (hc : jm_cn y = w) (hf : jt_f w i = some (c, k, b, q)) (hi : (!(jtT c k).2.2.2 || (jm_ini y && (jm_ci y == c && !b))) = true) (hp : jput (jty c k) h a k v = some h') : jV y pc ls (v :: .ref a :: st) h = if (jk h a).1 = 1 + c then jV y (pc + 3) ls st h' else none :=
  jV_if d (by subst hc; show jN_put y i pc ls (v :: .ref a :: st) h = _; unfold jN_put; rw [hf]; simp only [hi, hp]; rfl)
theorem jV_putz {x : Int32} (d : jD y pc = some (.putfield i)) (hc : jm_cn y = w) (hf : jt_f w i = some (c, k, b, q)) (hi : (!(jtT c k).2.2.2 || (jm_ini y && (jm_ci y == c && !b))) = true) (hz : jty c k = .boolean) : jV y pc ls (.int x :: .ref a :: st) h = if (jk h a).1 = 1 + c ∧ (x = 0 ∨ x = 1) then jV y (pc + 3) ls st (jsi h a k x) else none :=
  jV_if d (by
    subst hc; show jN_put y i pc ls (.int x :: .ref a :: st) h = _; unfold jN_put; rw [hf]; simp only [hi, hz, jput, cond_true]
    by_cases h1 : (jk h a).1 = 1 + c
    · by_cases h2 : x = 0 ∨ x = 1
      · simp only [h1, h2, if_true, and_self]
      · simp only [h1, h2, if_true, if_false, and_false]
    · simp only [h1, if_false, false_and])
theorem jV_stat {lc : jL} {rest : List Value} (d : jD y pc = some (.invokestatic i)) (hc : jm_cn y = w) (hf : jt_m w i = some (kind, cal, q)) (hk : kind = 0 ∨ kind = 1) (e : jcl y cal (jm_na cal) st = some (.inr (.inr (cal, lc, rest)))) :
    jV y pc ls st h = (jV cal 0 lc [] h).bind fun x => jV y (pc + 3) ls (x.1.toList ++ rest) x.2 :=
  jV_call d (by subst hc; show jN_call y i pc ls st h 0 = _; unfold jN_call; rw [hf]; rcases hk with rfl | rfl <;> exact e)
theorem jV_virt {lc : jL} {rest : List Value} (d : jD y pc = some (.invokevirtual i)) (hc : jm_cn y = w) (hf : jt_m w i = some (kind, cal, q)) (hk : kind = 2 ∨ kind = 3) (ha : st[jm_na cal]? = some (.ref a)) (e : jcl y cal (jm_na cal + 1) st = some (.inr (.inr (cal, lc, rest)))) :
    jV y pc ls st h = if (jk h a).1 = 1 + jm_ci cal then ((jV cal 0 lc [] h).bind fun x => jV y (pc + 3) ls (x.1.toList ++ rest) x.2) else none :=
  jV_callif d (by subst hc; show jN_call y i pc ls st h 1 = _; unfold jN_call; rw [hf]; rcases hk with rfl | rfl <;> simp only [ha, e])
theorem jV_spec {lc : jL} {rest : List Value} (d : jD y pc = some (.invokespecial i)) (hc : jm_cn y = w) (hf : jt_m w i = some (kind, cal, q)) (hk : kind = 4 ∨ kind = 5) (ha : st[jm_na cal]? = some (.ref a)) (e : jcl y cal (jm_na cal + 1) st = some (.inr (.inr (cal, lc, rest)))) :
    jV y pc ls st h = (jV cal 0 lc [] h).bind fun x => jV y (pc + 3) ls (x.1.toList ++ rest) x.2 :=
  jV_call d (by subst hc; show jN_call y i pc ls st h 2 = _; unfold jN_call; rw [hf]; rcases hk with rfl | rfl <;> simp only [ha, e])
theorem jV_obj (d : jD y pc = some (.invokespecial i)) (hc : jm_cn y = w) (hf : jt_m w i = some (6, cal, q)) (hk : (Nat.ble 1 (jm_fr y) && Nat.ble (st.map fun v => v.category).sum 8) = true) : jV y pc ls (.ref a :: st) h = jV y (pc + 3) ls st h :=
  jV_go d (by subst hc; show jN_call y i pc ls (.ref a :: st) h 2 = _; unfold jN_call; rw [hf]; simp only [hk, cond_true])
theorem jV_max {x z : Int32} (d : jD y pc = some (.invokestatic i)) (hc : jm_cn y = w) (hf : jt_m w i = some (7, cal, q)) (hk : (Nat.ble 1 (jm_fr y) && Nat.ble (st.map fun v => v.category).sum 8) = true) : jV y pc ls (.int z :: .int x :: st) h = jV y (pc + 3) ls (.int (if x < z then z else x) :: st) h :=
  jV_go d (by subst hc; show jN_call y i pc ls (.int z :: .int x :: st) h 0 = _; unfold jN_call; rw [hf]; simp only [hk, cond_true])
theorem jV_min {x z : Int32} (d : jD y pc = some (.invokestatic i)) (hc : jm_cn y = w) (hf : jt_m w i = some (8, cal, q)) (hk : (Nat.ble 1 (jm_fr y) && Nat.ble (st.map fun v => v.category).sum 8) = true) : jV y pc ls (.int z :: .int x :: st) h = jV y (pc + 3) ls (.int (if z < x then z else x) :: st) h :=
  jV_go d (by subst hc; show jN_call y i pc ls (.int z :: .int x :: st) h 0 = _; unfold jN_call; rw [hf]; simp only [hk, cond_true])
theorem jV_copyi {m dp sp : Int32} {a2 : Nat} (d : jD y pc = some (.invokestatic i)) (hc : jm_cn y = w) (hf : jt_m w i = some (9, cal, q)) (hk : (Nat.ble 1 (jm_fr y) && Nat.ble (st.map fun v => v.category).sum 8) = true) (k1 : (jk h a).1 = 20) (k2 : (jk h a2).1 = 20) :
    jV y pc ls (.int m :: .int dp :: .ref a2 :: .int sp :: .ref a :: st) h = if ¬ sp < 0 ∧ ¬ dp < 0 ∧ ¬ m < 0 ∧ sp.toNatClampNeg + m.toNatClampNeg ≤ (jk h a).2 ∧ dp.toNatClampNeg + m.toNatClampNeg ≤ (jk h a2).2 then jV y (pc + 3) ls st (jci h a2 (va_cpy (ji h a) (ji h a2) sp.toNatClampNeg dp.toNatClampNeg m.toNatClampNeg)) else none :=
  jV_if d (by subst hc; simp only [Bool.and_eq_true] at hk; show jN_call y i pc ls (.int m :: .int dp :: .ref a2 :: .int sp :: .ref a :: st) h 0 = _; unfold jN_call; rw [hf]; simp only [hk, cond_true, jN_copy, k1, k2, and_self, if_true])
theorem jV_copyj {m dp sp : Int32} {a2 : Nat} (d : jD y pc = some (.invokestatic i)) (hc : jm_cn y = w) (hf : jt_m w i = some (9, cal, q)) (hk : (Nat.ble 1 (jm_fr y) && Nat.ble (st.map fun v => v.category).sum 8) = true) (k1 : (jk h a).1 = 21) (k2 : (jk h a2).1 = 21) :
    jV y pc ls (.int m :: .int dp :: .ref a2 :: .int sp :: .ref a :: st) h = if ¬ sp < 0 ∧ ¬ dp < 0 ∧ ¬ m < 0 ∧ sp.toNatClampNeg + m.toNatClampNeg ≤ (jk h a).2 ∧ dp.toNatClampNeg + m.toNatClampNeg ≤ (jk h a2).2 then jV y (pc + 3) ls st (jcj h a2 (va_cpy (jj h a) (jj h a2) sp.toNatClampNeg dp.toNatClampNeg m.toNatClampNeg)) else none :=
  jV_if d (by subst hc; simp only [Bool.and_eq_true] at hk; show jN_call y i pc ls (.int m :: .int dp :: .ref a2 :: .int sp :: .ref a :: st) h 0 = _; unfold jN_call; rw [hf]; simp only [hk, cond_true, jN_copy, k1, k2, and_self, if_true]; simp)
theorem jV_ldc {v : Int32} (d : jD y pc = some (.ldc i)) (hc : jm_cn y = w) (hf : jt_k w i = some (v, q)) : jV y pc ls st h = jV y (pc + 2) ls (.int v :: st) h :=
  jV_go d (by subst hc; simp only [jN, hf])
theorem jV_ldcw {v : Int32} (d : jD y pc = some (.ldc_w i)) (hc : jm_cn y = w) (hf : jt_k w i = some (v, q)) : jV y pc ls st h = jV y (pc + 3) ls (.int v :: st) h :=
  jV_go d (by subst hc; simp only [jN, hf])
theorem jV_ldc2 {v : Int64} (d : jD y pc = some (.ldc2_w i)) (hc : jm_cn y = w) (hf : jt_l w i = some (v, q)) : jV y pc ls st h = jV y (pc + 3) ls (.long v :: st) h :=
  jV_go d (by subst hc; simp only [jN, hf])
theorem jV_new {q1 q2 : Nat} (d : jD y pc = some (.new i)) (hc : jm_cn y = w) (hf : jt_n w i = some (c, q, q1, q2)) : jV y pc ls st h = jV y (pc + 3) ls (.ref h.2.1 :: st) (jnew h (1 + c) 0 (jcN c)) :=
  jV_go d (by subst hc; simp only [jN, hf])
theorem jV_anew {x : Int32} (d : jD y pc = some (.anewarray i)) (hc : jm_cn y = w) (hf : jt_a w i = some (c, q)) (hx : ¬ (x < 0 ∨ 1000000 < x)) : jV y pc ls (.int x :: st) h = jV y (pc + 3) ls (.ref h.2.1 :: st) (jnew h (20 + c) x.toNatClampNeg x.toNatClampNeg) :=
  jV_go d (by subst hc; simp only [jN, hf, hx, if_false])
theorem jV_newi {x : Int32} (d : jD y pc = some (.newarray .int)) (hx : ¬ (x < 0 ∨ 1000000 < x)) : jV y pc ls (.int x :: st) h = jV y (pc + 2) ls (.ref h.2.1 :: st) (jnew h 20 x.toNatClampNeg x.toNatClampNeg) :=
  jV_go d (by simp only [jN, hx, if_false])
theorem jV_newj {x : Int32} (d : jD y pc = some (.newarray .long)) (hx : ¬ (x < 0 ∨ 1000000 < x)) : jV y pc ls (.int x :: st) h = jV y (pc + 2) ls (.ref h.2.1 :: st) (jnew h 21 x.toNatClampNeg x.toNatClampNeg) :=
  jV_go d (by simp only [jN, hx, if_false])
theorem jV_newz {x : Int32} (d : jD y pc = some (.newarray .boolean)) (hx : ¬ (x < 0 ∨ 1000000 < x)) : jV y pc ls (.int x :: st) h = jV y (pc + 2) ls (.ref h.2.1 :: st) (jnew h 22 x.toNatClampNeg x.toNatClampNeg) :=
  jV_go d (by simp only [jN, hx, if_false])
theorem jV_bast {x j : Int32} (d : jD y pc = some .bastore) : jV y pc ls (.int x :: .int j :: .ref a :: st) h = if ((jk h a).1 = 22 ∧ jin j (jk h a).2 = true) ∧ (x = 0 ∨ x = 1) then jV y (pc + 1) ls st (jsi h a j.toNatClampNeg x) else none :=
  jV_if d (by
    show jN_ast 22 pc ls (.int x :: .int j :: .ref a :: st) h _ = _
    unfold jN_ast
    by_cases h1 : (jk h a).1 = 22 ∧ jin j (jk h a).2 = true
    · by_cases h2 : x = 0 ∨ x = 1
      · simp only [h1, h2, jput, if_true, and_self]
      · simp only [h1, h2, jput, if_true, if_false, and_self, and_false]
    · simp only [h1, if_false, false_and])
/-- a table switch -/
theorem jV_swd {x : Int32} {dd lo hi : Int} {offs : Array Int} (d : jD y pc = some (.tableswitch dd lo hi offs)) (hx : x.toInt < lo ∨ hi < x.toInt) (hj : jokt pc dd = true) : jV y pc ls (.int x :: st) h = jV y (jtgt pc dd) ls st h :=
  jV_go d (by simp only [jN, hx, if_true, hj, cond_true])
theorem jV_swi {x : Int32} {dd lo hi : Int} {offs : Array Int} {off : Int} (d : jD y pc = some (.tableswitch dd lo hi offs)) (hx : ¬ (x.toInt < lo ∨ hi < x.toInt)) (ho : offs[(x.toInt - lo).toNat]? = some off) (hj : jokt pc off = true) : jV y pc ls (.int x :: st) h = jV y (jtgt pc off) ls st h :=
  jV_go d (by simp only [jN, hx, if_false, ho, hj, cond_true])
end
/-! reading a changed store -/
theorem ji_ci (h : jH) (a : Nat) (f : Nat → Int32) (b k : Nat) : ji (jci h a f) b k = if b = a then f k else ji h b k := by
  unfold ji jci jset; by_cases e : b = a <;> simp [e]
theorem jj_ci (h : jH) (a : Nat) (f : Nat → Int32) (b k : Nat) : jj (jci h a f) b k = jj h b k := by
  unfold jj jci jset; by_cases e : b = a <;> simp [e]
theorem jp_ci (h : jH) (a : Nat) (f : Nat → Int32) (b k : Nat) : jp (jci h a f) b k = jp h b k := by
  unfold jp jci jset; by_cases e : b = a <;> simp [e]
theorem jk_ci (h : jH) (a : Nat) (f : Nat → Int32) (b : Nat) : jk (jci h a f) b = jk h b := by
  unfold jk jci jset; by_cases e : b = a <;> simp [e]
theorem ji_cj (h : jH) (a : Nat) (f : Nat → Int64) (b k : Nat) : ji (jcj h a f) b k = ji h b k := by
  unfold ji jcj jset; by_cases e : b = a <;> simp [e]
theorem jj_cj (h : jH) (a : Nat) (f : Nat → Int64) (b k : Nat) : jj (jcj h a f) b k = if b = a then f k else jj h b k := by
  unfold jj jcj jset; by_cases e : b = a <;> simp [e]
theorem jp_cj (h : jH) (a : Nat) (f : Nat → Int64) (b k : Nat) : jp (jcj h a f) b k = jp h b k := by
  unfold jp jcj jset; by_cases e : b = a <;> simp [e]
theorem jk_cj (h : jH) (a : Nat) (f : Nat → Int64) (b : Nat) : jk (jcj h a f) b = jk h b := by
  unfold jk jcj jset; by_cases e : b = a <;> simp [e]
theorem ji_cp (h : jH) (a : Nat) (f : Nat → Option Nat) (b k : Nat) : ji (jcp h a f) b k = ji h b k := by
  unfold ji jcp jset; by_cases e : b = a <;> simp [e]
theorem jj_cp (h : jH) (a : Nat) (f : Nat → Option Nat) (b k : Nat) : jj (jcp h a f) b k = jj h b k := by
  unfold jj jcp jset; by_cases e : b = a <;> simp [e]
theorem jp_cp (h : jH) (a : Nat) (f : Nat → Option Nat) (b k : Nat) : jp (jcp h a f) b k = if b = a then f k else jp h b k := by
  unfold jp jcp jset; by_cases e : b = a <;> simp [e]
theorem jk_cp (h : jH) (a : Nat) (f : Nat → Option Nat) (b : Nat) : jk (jcp h a f) b = jk h b := by
  unfold jk jcp jset; by_cases e : b = a <;> simp [e]
theorem ji_si (h : jH) (a k : Nat) (v : Int32) (b j : Nat) : ji (jsi h a k v) b j = if b = a ∧ j = k then v else ji h b j := by
  unfold jsi; rw [ji_ci]; unfold upd
  by_cases e : b = a
  · subst e; by_cases e2 : j = k <;> simp [e2]
  · simp [e]
theorem jj_si (h : jH) (a k : Nat) (v : Int32) (b j : Nat) : jj (jsi h a k v) b j = jj h b j := jj_ci ..
theorem jp_si (h : jH) (a k : Nat) (v : Int32) (b j : Nat) : jp (jsi h a k v) b j = jp h b j := jp_ci ..
theorem jk_si (h : jH) (a k : Nat) (v : Int32) (b : Nat) : jk (jsi h a k v) b = jk h b := jk_ci ..
theorem ji_sj (h : jH) (a k : Nat) (v : Int64) (b j : Nat) : ji (jsj h a k v) b j = ji h b j := ji_cj ..
theorem jj_sj (h : jH) (a k : Nat) (v : Int64) (b j : Nat) : jj (jsj h a k v) b j = if b = a ∧ j = k then v else jj h b j := by
  unfold jsj; rw [jj_cj]; unfold vp_updL
  by_cases e : b = a
  · subst e; by_cases e2 : j = k <;> simp [e2]
  · simp [e]
theorem jp_sj (h : jH) (a k : Nat) (v : Int64) (b j : Nat) : jp (jsj h a k v) b j = jp h b j := jp_cj ..
theorem jk_sj (h : jH) (a k : Nat) (v : Int64) (b : Nat) : jk (jsj h a k v) b = jk h b := jk_cj ..
theorem ji_sp (h : jH) (a k : Nat) (v : Option Nat) (b j : Nat) : ji (jsp h a k v) b j = ji h b j := ji_cp ..
theorem jj_sp (h : jH) (a k : Nat) (v : Option Nat) (b j : Nat) : jj (jsp h a k v) b j = jj h b j := jj_cp ..
theorem jp_sp (h : jH) (a k : Nat) (v : Option Nat) (b j : Nat) : jp (jsp h a k v) b j = if b = a ∧ j = k then v else jp h b j := by
  unfold jsp; rw [jp_cp]; unfold va_up
  by_cases e : b = a
  · subst e; by_cases e2 : j = k <;> simp [e2]
  · simp [e]
theorem jk_sp (h : jH) (a k : Nat) (v : Option Nat) (b : Nat) : jk (jsp h a k v) b = jk h b := jk_cp ..
theorem ji_new (h : jH) (k n z b j : Nat) : ji (jnew h k n z) b j = if b = h.2.1 then 0 else ji h b j := by
  unfold ji jnew; by_cases e : b = h.2.1 <;> simp [e]
theorem jj_new (h : jH) (k n z b j : Nat) : jj (jnew h k n z) b j = if b = h.2.1 then 0 else jj h b j := by
  unfold jj jnew; by_cases e : b = h.2.1 <;> simp [e]
theorem jp_new (h : jH) (k n z b j : Nat) : jp (jnew h k n z) b j = if b = h.2.1 then none else jp h b j := by
  unfold jp jnew; by_cases e : b = h.2.1 <;> simp [e]
theorem jk_new (h : jH) (k n z b : Nat) : jk (jnew h k n z) b = if b = h.2.1 then (k, n) else jk h b := by
  unfold jk jnew; by_cases e : b = h.2.1 <;> simp [e]
theorem jx_ci (h : jH) (a : Nat) (f : Nat → Int32) : (jci h a f).2 = h.2 := rfl
theorem jx_cj (h : jH) (a : Nat) (f : Nat → Int64) : (jcj h a f).2 = h.2 := rfl
theorem jx_cp (h : jH) (a : Nat) (f : Nat → Option Nat) : (jcp h a f).2 = h.2 := rfl
theorem jx_si (h : jH) (a k : Nat) (v : Int32) : (jsi h a k v).2 = h.2 := rfl
theorem jx_sj (h : jH) (a k : Nat) (v : Int64) : (jsj h a k v).2 = h.2 := rfl
theorem jx_sp (h : jH) (a k : Nat) (v : Option Nat) : (jsp h a k v).2 = h.2 := rfl
theorem jx_new (h : jH) (k n z : Nat) : (jnew h k n z).2 = (h.2.1 + 1, h.2.2 + z) := rfl
/-- two stores are one if they read alike -/
theorem jH_ext {g h : jH} (hk : ∀ a, jk g a = jk h a) (hi : ∀ a k, ji g a k = ji h a k) (hj : ∀ a k, jj g a k = jj h a k) (hp : ∀ a k, jp g a k = jp h a k) (hx : g.2 = h.2) : g = h := by
  obtain ⟨g1, g2⟩ := g
  obtain ⟨h1, h2⟩ := h
  simp only at hx
  subst hx
  refine Prod.ext (funext fun a => ?_) rfl
  exact Prod.ext (hk a) (Prod.ext (funext (hi a)) (Prod.ext (funext (hj a)) (funext (hp a))))
theorem jV_div {y pc : Nat} {ls : jL} {st : List Value} {h : jH} {i : Instr} {pc' : Nat} {ls' : jL} {st' : List Value} {h' : jH} {z : Int32} (d : jD y pc = some i) (e : jN i y pc ls st h = if z = 0 then none else jgo pc' ls' st' h') : jV y pc ls st h = if z = 0 then none else jV y pc' ls' st' h' := by
  by_cases hp : z = 0
  · rw [if_pos hp] at e ⊢
    exact jV_stuck d e
  · rw [if_neg hp] at e ⊢
    exact jV_go d e
theorem jlng_n : jlng (some none) = false := rfl
theorem jlng_i (x : Int32) : jlng (some (some (.int x))) = false := rfl
theorem jlng_r (x : Nat) : jlng (some (some (.ref x))) = false := rfl
theorem jlng_0 : jlng (some (some .null)) = false := rfl
theorem va_rf_s (a : Nat) : va_rf (some a) = .ref a := rfl
theorem va_rf_n : va_rf none = .null := rfl
