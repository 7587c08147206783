/-! SIMULATION 7: a call; runs of any length; the claim out of the law's run -/
theorem j_goodl {ws : List Cond} (h : ∀ w ∈ ws, w ∈ jw) : GoodIn jw ws := fun w hw => ⟨h w hw, good_of_word (List.mem_filter.mp (h w hw)).2⟩
theorem j_jws {y : Nat} (hy : y < jmNL) : ∀ w ∈ jws y, w ∈ jw := fun w hw => by
  rcases List.mem_cons.mp hw with rfl | hw
  · exact jm_code_in hy
  · exact hw
section
variable {p : Program} {l : Launch} {e : Env} {R : Room} {s : State} {m : MethodId} {args : Array Value} {below : List Frame} {meth : Method} {c : Code} {Q : State → Prop} {D : va_G} {cA : Nat → ClassId} {A : Nat → Prop} {ad0 : Nat → Nat} {n0 s0 y : Nat}
variable {pc : Nat} {ls : jL} {st : List Value} {h : jH}
set_option maxHeartbeats 2000000 in
theorem j_call {n : Nat} {i : Instr} {cal : Nat} {lc : jL} {rest : List Value} {z : Option Value × jH} (ih : jSim l D cA n) (C : jX p R s m args meth c y) (hK : jKn D cA s) (hA : ∀ q, s.heap.size ≤ q → A q) (d : jD y pc = some i) (hN : jCal y i st h cal lc rest) (e1 : jE n cal 0 lc [] h = some z) (hb1 : z.2.2.1 ≤ n0 + R.cells) (hb2 : z.2.2.2 ≤ s0 + R.slots)
    (kk : jKK p l e R s m args below meth c Q D cA A ad0 n0 s0 y (pc + 3) ls (z.1.toList ++ rest) z.2) : jKK p l e R s m args below meth c Q D cA A ad0 n0 s0 y pc ls st h := by
  obtain ⟨nn, dd, hlk⟩ := j_d d
  obtain ⟨hx, hb, hr, hml, hown, hts, hnw, hlocks, -, hf1, hf2⟩ := id C
  obtain ⟨idx, kind, q, k, hf, hk6, hkl, hfr, hsl, hrs, rfl, rfl, hi⟩ := hN
  obtain ⟨hw, hcs⟩ := jt_m_ok hf
  obtain ⟨hcal, hst1, hin1, hvir, hini⟩ := hcs hk6
  obtain ⟨hpl, hnm, hcn, hmx, hinn⟩ := jm_ok hcal
  intro ad H locs lr cells slots I
  obtain ⟨hR, hS, hlv, hlen, hso, hlo, hag, hn, hs⟩ := id I
  have hmo := jE_mo n e1
  have hvs : ∀ v ∈ (st.take k).reverse, jok h.2.1 v := fun v hv => hso v (List.mem_of_mem_take (List.mem_reverse.mp hv))
  have hsl2 : (lg_sl (st.take k).reverse).length ≤ jm_max cal := by
    rw [lg_slots, List.map_reverse, List.sum_reverse]
    exact hsl
  have M := jMet ih hcal e1 hsl2 hvs ad H
  have hstk : st.map (ja ad) = ((st.take k).reverse.map (ja ad)).reverse ++ (st.drop k).map (ja ad) := by
    rw [List.map_reverse, List.reverse_reverse, ← List.map_append, List.take_append_drop]
  have hblind : FrameBlind (fun (v : Array Value) (U : State) => v = ((st.take k).reverse.map (ja ad)).toArray ∧ U.heap = H ∧ jKn D cA U ∧ (∀ w ∈ jwn, va_Nw w U) ∧ jRel D cA U (jAc ad h H.size) ad h H) := by
    intro a U g mk ⟨g1, g2, g3, g4, g5⟩
    refine ⟨g1, g2, g3.moved (Vm.Alike.refl U.vm), fun w hw => ?_, g5.1, g5.2⟩
    exact va_Nw.same (u := U) (U := U.calling g mk a) (by have := (List.mem_filter.mp hw).2; cases w <;> first | rfl | cases this) rfl (g4 w hw)
  have hpre : ∀ U : State, U.heap = H → s.WarmedH U.vm → ((st.take k).reverse.map (ja ad)).toArray = ((st.take k).reverse.map (ja ad)).toArray ∧ U.heap = H ∧ jKn D cA U ∧ (∀ w ∈ jwn, va_Nw w U) ∧ jRel D cA U (jAc ad h H.size) ad h H := by
    intro U hU hW
    refine ⟨rfl, hU, hK.moved hW.alike, fun w hw => ?_, hR.enter hS hU hW.alike⟩
    have hwn := hnw w hw
    have hj := (List.mem_filter.mp hw).2
    cases w <;> first | (cases hj; done) | exact va_Nw.warmF hW hwn | exact va_Nw.warmM hW hwn
  have hfit : cells + (z.2.2.1 - h.2.1) ≤ R.cells ∧ slots + (z.2.2.2 - h.2.2) ≤ R.slots := by
    have := hmo.1
    have := hmo.2.1
    omega
  have hroom : jm_fr cal + 1 ≤ R.frames ∧ 8 + (jm_max cal + 11) + 50 * jm_fr cal ≤ R.locals := by omega
  have hcat : 2 * (F0 m pc lr (st.map (ja ad))).monitorRoom + (((st.drop k).map (ja ad)).map fun v => v.category).sum ≤ 8 := by
    rw [ja_sum]
    show 2 * 0 + _ ≤ 8
    omega
  have hsz : (F0 m pc lr (st.map (ja ad))).locals.size = jm_max y := hlv.1
  have hfin : va_Run p l e R s m args below meth c H locs cells slots (z.2.2.1 - h.2.1) (z.2.2.2 - h.2.2) (F0 m pc lr (st.map (ja ad))) ((st.drop k).map (ja ad)) ((fun _ U o t => ∃ ad' : Nat → Nat, o = .returned (z.1.map (ja ad')) ∧ jRel D cA U (jAc ad h H.size) ad' z.2 t.heap ∧ (∀ a, a < h.2.1 → ad' a = ad a) ∧ va_F (jAc ad h H.size) U t ∧ ∀ v, z.1 = some v → jok z.2.2.1 v) ((st.take k).reverse.map (ja ad)).toArray) (jAc ad h H.size) := by
    rcases hi with ⟨rfl, hk1, rfl⟩ | ⟨rfl, hk2, hk3, rfl, a, ha, hka⟩ | ⟨rfl, hk4, rfl, a, ha⟩
    · obtain rfl : nn = 3 := eq_of_beq hlk
      obtain ⟨w1, w2⟩ := jm_stat hcal (hst1 hk1)
      have hla : ((st.take (jm_na cal)).reverse.map (ja ad)).length = jm_na cal := by
        rw [List.length_map, List.length_reverse, List.length_take]; omega
      rcases (show kind = 0 ∨ kind = 1 by omega) with rfl | rfl
      · have hw0 : Cond.methodLink (jcn (jm_cn y)) idx (jm_name cal) ∈ jw := hw.1
        exact va_runS ⟨hx, hb, hml, hown, hts⟩ M (va_cwS (jm_na cal) hts (j_goodl (fun w hw => by
          rcases List.mem_append.mp hw with h1 | h1
          · rcases List.mem_cons.mp h1 with rfl | h1
            · exact hw0
            · rcases List.mem_cons.mp h1 with rfl | h1
              · exact w1
              · rw [List.mem_singleton.mp h1]; exact w2
          · exact j_jws hcal w h1)) rfl rfl rfl hnm hroom) ⟨hblind, hpre⟩ rfl hla hsz hstk hcat dd hfit
      · have hw0 : Cond.methodLinkNest (jcn (jm_cn y)) idx (jm_name cal) RX9 ∈ jwn := hw.1
        exact va_runSN ⟨hx, hb, hml, hown, hts⟩ M ⟨va_cnB (jm_na cal) hts (j_goodl (j_jws hcal)) rfl rfl rfl (hnw _ hw0) (hts _ w2) hnm hroom, hts _ w1, trivial⟩ ⟨hblind, hpre⟩ rfl hla hsz hstk hcat dd hfit
    · obtain rfl : nn = 3 := eq_of_beq hlk
      obtain ⟨w1, w2, w3⟩ := jm_inst hcal (hin1 hk2)
      obtain ⟨v1, v2, v3⟩ := hvir hk2 hk3
      have w3 := w3 v1
      have htk : st.take (jm_na cal + 1) = st.take (jm_na cal) ++ [.ref a] := by
        rw [List.take_succ, ha]; rfl
      have hAs : (st.take (jm_na cal + 1)).reverse.map (ja ad) = .ref (ad a) :: (st.take (jm_na cal)).reverse.map (ja ad) := by
        rw [htk, List.reverse_append]; rfl
      have hla : ((st.take (jm_na cal)).reverse.map (ja ad)).length = jm_na cal := by
        rw [List.length_map, List.length_reverse, List.length_take]; omega
      have hstk2 : st.map (ja ad) = ((st.take (jm_na cal)).reverse.map (ja ad)).reverse ++ .ref (ad a) :: (st.drop (jm_na cal + 1)).map (ja ad) := by
        rw [hstk, hAs, List.reverse_cons, List.append_assoc]; rfl
      obtain ⟨-, cellB, g1, g2, g3, -⟩ := j_objc hR v3 hka
      have hrecv : ∃ cellB : Cell, H[ad a]? = some cellB ∧ cellB.vm.isStatics = false ∧ s.vm.findClass (jm_name cal).cls = some cellB.cls := ⟨cellB, g1, by rw [g3]; rfl, by rw [g2, ← v2]; exact (hK.obj v3).2.1⟩
      rw [hAs] at M hblind hpre ⊢
      rcases (show kind = 2 ∨ kind = 3 by omega) with rfl | rfl
      · have hw0 : Cond.methodLink (jcn (jm_cn y)) idx (jm_name cal) ∈ jw := hw.1
        exact va_runV ⟨hx, hb, hml, hown, hts⟩ M (cwV (jm_na cal) hts (j_goodl (fun w hw => by
          rcases List.mem_append.mp hw with h1 | h1
          · rcases List.mem_cons.mp h1 with rfl | h1
            · exact hw0
            · rcases List.mem_cons.mp h1 with rfl | h1
              · exact w1
              · rcases List.mem_cons.mp h1 with rfl | h1
                · exact w3
                · rw [List.mem_singleton.mp h1]; exact w2
          · exact j_jws hcal w h1)) rfl rfl rfl ⟨rfl, hnm⟩ hroom) ⟨hblind, hrecv, hpre⟩ rfl hla hsz hstk2 hcat dd hfit
      · have hw0 : Cond.methodLinkNest (jcn (jm_cn y)) idx (jm_name cal) RX9 ∈ jwn := hw.1
        exact va_runVN ⟨hx, hb, hml, hown, hts⟩ M ⟨va_cnB (jm_na cal) hts (j_goodl (j_jws hcal)) rfl rfl rfl (hnw _ hw0) (hts _ w2) hnm hroom, hts _ w1, hts _ w3⟩ ⟨hblind, hrecv, hpre⟩ rfl hla hsz hstk2 hcat dd hfit
    · obtain rfl : nn = 3 := eq_of_beq hlk
      obtain ⟨w1, w2, -⟩ := jm_inst hcal (hin1 (by omega))
      obtain ⟨i1, i2, i3⟩ := hinn (hini hk4)
      have htk : st.take (jm_na cal + 1) = st.take (jm_na cal) ++ [.ref a] := by
        rw [List.take_succ, ha]; rfl
      have hAs : (st.take (jm_na cal + 1)).reverse.map (ja ad) = .ref (ad a) :: (st.take (jm_na cal)).reverse.map (ja ad) := by
        rw [htk, List.reverse_append]; rfl
      have hla : ((st.take (jm_na cal)).reverse.map (ja ad)).length = jm_na cal := by
        rw [List.length_map, List.length_reverse, List.length_take]; omega
      have hstk2 : st.map (ja ad) = ((st.take (jm_na cal)).reverse.map (ja ad)).reverse ++ .ref (ad a) :: (st.drop (jm_na cal + 1)).map (ja ad) := by
        rw [hstk, hAs, List.reverse_cons, List.append_assoc]; rfl
      have hjw : jws cal = Cond.code (jm_name cal) (jm_code cal) (jm_max cal) none :: jw := by unfold jws; rw [i3]
      rw [hAs] at M hblind hpre ⊢
      rcases (show kind = 4 ∨ kind = 5 by omega) with rfl | rfl
      · have hw0 : Cond.methodLink (jcn (jm_cn y)) idx (jm_name cal) ∈ jw := hw.1
        exact va_runI ⟨hx, hb, hml, hown, hts⟩ M (cwI (jm_na cal) hts (j_goodl (j_jws hcal)) hjw rfl rfl (hts _ w2) (hts _ hw0) (hts _ w1) i1 hnm hroom) ⟨hblind, hpre⟩ rfl hla hsz hstk2 hcat dd hfit
      · have hw0 : Cond.methodLinkNest (jcn (jm_cn y)) idx (jm_name cal) RX9 ∈ jwn := hw.1
        exact va_runIN ⟨hx, hb, hml, hown, hts⟩ M ⟨va_cnB (jm_na cal) hts (j_goodl (j_jws hcal)) hjw rfl rfl (hnw _ hw0) (hts _ w2) hnm hroom, i1, hts _ w1⟩ ⟨hblind, hpre⟩ rfl hla hsz hstk2 hcat dd hfit
  intro T hT X
  obtain ⟨v, st₀, t, T', L, h0, X', hL, t1, t2, ⟨ad', hv, hrel, hag2, hF, hvok⟩, stp⟩ := hfin T hT X
  cases hv
  have hsub := jAc.sub hR hS hA
  have I' : jI D cA s A ad0 n0 s0 y ad' z.2 ls (z.1.toList ++ st.drop k) T'.heap (locs ++ L) lr (cells + (z.2.2.1 - h.2.1)) (slots + (z.2.2.2 - h.2.2)) := by
    refine ⟨by rw [t1]; exact hR.leave hS hA hrel hag2 hmo, ?_, lv_sup hlv (jal_eq hag2 hlo), hlen, fun u hu => ?_, fun u hu => jok_le hmo.1 (hlo u hu), fun a ha => ?_, ?_, ?_⟩
    · obtain ⟨f1, f2⟩ := hF
      rw [h0] at f1 f2
      refine ⟨Nat.le_trans hS.1 (by rw [t1]; exact f1), fun q q1 q2 => ?_, fun q hq => ?_⟩
      · rw [t1, f2 q (Nat.lt_of_lt_of_le q1 hS.1) (fun zz => q2 (hsub q zz))]
        exact hS.2.1 q q1 q2
      · rcases List.mem_append.mp hq with hq | hq
        · exact hS.2.2 q hq
        · exact hsub _ (hL q hq)
    · rcases List.mem_append.mp hu with hu | hu
      · cases hz : z.1 with
        | none => rw [hz] at hu; cases hu
        | some w =>
          rw [hz] at hu
          have : u = w := by simpa using hu
          rw [this]
          exact hvok w hz
      · exact jok_le hmo.1 (hso u (List.mem_of_mem_drop hu))
    · have hlt : n0 ≤ h.2.1 := by omega
      rw [hag2 a (by omega)]
      exact hag a ha
    · have := hmo.1; omega
    · have := hmo.2.1; omega
  have k1 := kk ad' T'.heap _ lr _ _ I'
  have hmp : (z.1.toList ++ st.drop k).map (ja ad') = (z.1.map (ja ad')).toList ++ (st.drop k).map (ja ad) := by
    rw [List.map_append, ja_eqs hag2 (fun u hu => hso u (List.mem_of_mem_drop hu))]
    congr 1
    cases z.1 <;> rfl
  rw [hmp] at k1
  obtain ⟨t3, a1, b1⟩ := k1 T' rfl X'
  exact ⟨t3, stp t3 a1, b1⟩
end
theorem j_ciok {y : Nat} (hy : y ≤ jmNL) : jm_ini y = true → jcn (jm_cn y) = jcR (jm_ci y) := by
  intro hi
  rcases Nat.lt_or_ge y jmNL with h | h
  · exact ((jm_ok h).2.2.2.2 hi).2.1
  · have : y = jmNL := by omega
    subst this
    exact absurd hi (by decide +kernel)
theorem j_sim (l : Launch) (D : va_G) (cA : Nat → ClassId) : ∀ n, jSim l D cA n
  | 0 => by
    intro p e R s m args below meth c Q A ad0 n0 s0 y C hy hK hA x hb1 hb2 fin pc ls st h ee
    cases ee
  | n + 1 => by
    intro p e R s m args below meth c Q A ad0 n0 s0 y C hy hK hA x hb1 hb2 fin pc ls st h ee
    have ih := j_sim l D cA n
    rw [jE] at ee
    split at ee
    · next i hd =>
      split at ee
      · next pc' ls' st' h' hN =>
        have hmo := jE_mo n ee
        exact j_step C hK hA (j_ciok hy) (Nat.le_trans hmo.1 hb1) (Nat.le_trans hmo.2.1 hb2) hd hN (ih p e R s m args below meth c Q A ad0 n0 s0 y C hy hK hA x hb1 hb2 fin pc' ls' st' h' ee)
      · next hN =>
        cases ee
        exact fin pc i ls st h hd (jN_ret hN)
      · next cal lc rest hN =>
        cases h1 : jE n cal 0 lc [] h with
        | none => rw [h1] at ee; cases ee
        | some z =>
          rw [h1] at ee
          have hmo := jE_mo n ee
          exact j_call ih C hK hA hd (jN_cal hN) h1 (Nat.le_trans hmo.1 hb1) (Nat.le_trans hmo.2.1 hb2) (ih p e R s m args below meth c Q A ad0 n0 s0 y C hy hK hA x hb1 hb2 fin _ ls _ _ ee)
      · cases ee
    · cases ee
