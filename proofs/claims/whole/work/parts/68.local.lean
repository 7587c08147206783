/-! WHAT THE STATE DEPENDS ON -/
theorem Fr.cell {P : Nat → Nat → Prop} {g h : jH} (f : Fr P g h) {b : Nat} (hp : ∀ k, ¬ P b k) : h.1 b = g.1 b := by
  have e1 := f.k b
  have e2 : ji h b = ji g b := funext fun k => f.i (hp k)
  have e3 : jj h b = jj g b := funext fun k => f.j (hp k)
  have e4 : jp h b = jp g b := funext fun k => f.p b k
  exact Prod.ext e1 (Prod.ext e2 (Prod.ext e3 e4))
theorem lk {g h : jH} {b : Nat} (e : h.1 b = g.1 b) : jk h b = jk g b := congrArg Prod.fst e
theorem li {g h : jH} {b : Nat} (e : h.1 b = g.1 b) : ji h b = ji g b := congrArg (fun c => c.2.1) e
theorem lj {g h : jH} {b : Nat} (e : h.1 b = g.1 b) : jj h b = jj g b := congrArg (fun c => c.2.2.1) e
theorem lp {g h : jH} {b : Nat} (e : h.1 b = g.1 b) : jp h b = jp g b := congrArg (fun c => c.2.2.2) e
theorem WI.lc {g h : jH} {w : Nat} {L : List Int32} (hW : WI g w L) (e : ∀ b, w ≤ b → b ≤ w + 2 → h.1 b = g.1 b) : WI h w L := by
  have e0 := e w (by omega) (by omega)
  have e1 := e (w + 1) (by omega) (by omega)
  have e2 := e (w + 2) (by omega) (by omega)
  unfold WI at hW ⊢
  rw [lk e0, lk e1, lk e2, lp e0, li e0, li e1, li e2]
  exact hW
theorem TI.lc {g h : jH} {t N : Nat} {S : List (Int32 × Int64)} (hT : TI g t N S) (e : ∀ b, t ≤ b → b ≤ t + 2 → h.1 b = g.1 b) : TI h t N S := by
  have e0 := e t (by omega) (by omega)
  have e1 := e (t + 1) (by omega) (by omega)
  have e2 := e (t + 2) (by omega) (by omega)
  unfold TI at hT ⊢
  rw [lk e0, lk e1, lk e2, lp e0, li e0, li e1, lj e2]
  exact hT
theorem CS.lc {g h : jH} (q : CS g) (e : ∀ b, 1 ≤ b → b ≤ 29 → h.1 b = g.1 b) (hr : ∀ x ∈ rCS, 1 ≤ x.1.1 ∧ x.1.1 ≤ 29) : CS h := ⟨fun a h1 h2 => by rw [lk (e a h1 h2)]; exact q.1 a h1 h2, fun x hx => by rw [lp (e _ (hr x hx).1 (hr x hx).2)]; exact q.2 x hx⟩
theorem MS.lc {g h : jH} (q : MS g) (e : ∀ b, 30 ≤ b → b ≤ 73 → h.1 b = g.1 b) (hr : ∀ x ∈ rMS, 30 ≤ x.1.1 ∧ x.1.1 ≤ 73) : MS h := ⟨fun a h1 h2 => by rw [lk (e a h1 h2)]; exact q.1 a h1 h2, fun x hx => by rw [lp (e _ (hr x hx).1 (hr x hx).2)]; exact q.2 x hx⟩
theorem rCS_in : ∀ x ∈ rCS, 1 ≤ x.1.1 ∧ x.1.1 ≤ 29 := by decide
theorem rMS_in : ∀ x ∈ rMS, 30 ≤ x.1.1 ∧ x.1.1 ≤ 73 := by decide
theorem RLi.lc {g g' h h' : jH} {B : Nat} (hR : RLi B g g') (e : ∀ b, 2 ≤ b → b ≤ 9 → h.1 b = g.1 b) (e' : ∀ b, 30 ≤ b → b ≤ 73 → h'.1 b = g'.1 b) : RLi B h h' := by
  obtain ⟨hB, s, S, A, hs, ⟨h5, h21⟩, h6, hring, hT, hA, hP, hS⟩ := hR
  have c2 := li (e 2 (by omega) (by omega))
  have c3 := li (e 3 (by omega) (by omega))
  have c4 := li (e 4 (by omega) (by omega))
  have c5 := li (e 5 (by omega) (by omega))
  have c6 := li (e 6 (by omega) (by omega))
  have d30 := li (e' 30 (by omega) (by omega))
  have d51 := li (e' 51 (by omega) (by omega))
  have d52 := li (e' 52 (by omega) (by omega))
  have d53 := li (e' 53 (by omega) (by omega))
  have d54 := li (e' 54 (by omega) (by omega))
  have d55 := li (e' 55 (by omega) (by omega))
  have d56 := lj (e' 56 (by omega) (by omega))
  refine ⟨hB, s, S, A, hs, ⟨by rw [c2]; exact h5, by rw [d30]; exact h21⟩, by rw [c2, d30]; exact h6, fun i hi => ?_, hT.lc (fun b z1 z2 => e b (by omega) (by omega)), ?_, hP, hS⟩
  · rw [c3, c4, c5, c6, d51, d52, d53, d54]
    exact hring i hi
  · unfold AL at hA ⊢
    rw [d30, d55, d56]
    exact hA
theorem mv_lc {g' h' : jH} (e' : ∀ b, 30 ≤ b → b ≤ 73 → h'.1 b = g'.1 b) (a : Nat) : mv h' a = mv g' a := by
  funext l
  unfold mv
  rw [li (e' 33 (by omega) (by omega)), li (e' 34 (by omega) (by omega))]
  by_cases c : vL l
  · rw [if_pos c, if_pos c, li (e' l (by omega) (by omega))]
  · rw [if_neg c, if_neg c]
theorem TM.lc {B a t : Nat} {g g' h h' : jH} (hT : TM B g g' a t) (e : ∀ b, t ≤ b → b ≤ t + 6 → h.1 b = g.1 b) (e' : ∀ b, 30 ≤ b → b ≤ 73 → h'.1 b = g'.1 b) : TM B h h' a t := by
  obtain ⟨q1, q2, ⟨hB, k, S, M, m1, m2, m3, m4, m5⟩, q4, q5⟩ := hT
  have e0 := e t (by omega) (by omega)
  have e1 := e (t + 1) (by omega) (by omega)
  have e2 := e (t + 2) (by omega) (by omega)
  have e3 := e (t + 3) (by omega) (by omega)
  refine ⟨?_, ?_, ⟨hB, k, S, M, m1, ?_, m3.lc (fun b z1 z2 => e b (by omega) (by omega)), ?_, m5⟩, ?_, ?_⟩
  · unfold TSh at q1 ⊢
    rw [lk e0, lk e1, lk e2, lk e3, lp e0, lp e1]
    exact q1
  · rw [li e0, mv_lc e' a]
    exact q2
  · rw [li e0, li (e' 47 (by omega) (by omega))]
    exact m2
  · unfold MuM at m4 ⊢
    rw [li (e' 50 (by omega) (by omega)), li (e' 49 (by omega) (by omega))]
    exact m4
  · unfold Ba at q4 ⊢
    rw [li e1, li (e' 37 (by omega) (by omega))]
    exact q4
  · unfold Pl at q5 ⊢
    rw [li e2, li e3, li (e' 35 (by omega) (by omega)), li (e' 36 (by omega) (by omega))]
    exact q5
theorem Ab.lc {g' h' : jH} {a : Nat} (hA : Ab g' a) (e' : ∀ b, 30 ≤ b → b ≤ 73 → h'.1 b = g'.1 b) : Ab h' a := by
  obtain ⟨q1, q2, q3, q4, q5, q6⟩ := hA
  refine ⟨fun l hl => ?_, ?_, ?_, fun b k z1 z2 z3 => ?_, fun k z1 z2 => ?_, ?_⟩
  · rw [li (e' l (by omega) (by omega))]; exact q1 l hl
  · rw [li (e' 33 (by omega) (by omega))]; exact q2
  · rw [li (e' 34 (by omega) (by omega))]; exact q3
  · rw [li (e' b (by omega) (by omega))]; exact q4 b k z1 z2 z3
  · rw [li (e' 37 (by omega) (by omega))]; exact q5 k z1 z2
  · rw [li (e' 50 (by omega) (by omega))]; exact q6
theorem TK.lc {g g' h h' : jH} {i q : Nat} (hK : TK g g' i q) (e : h.1 q = g.1 q) (e' : ∀ b, 30 ≤ b → b ≤ 73 → h'.1 b = g'.1 b) : TK h h' i q := by
  obtain ⟨q1, q2, q3, ⟨ln, q4, q5, q6⟩, q7⟩ := hK
  exact ⟨q1, q2, by rw [lk e]; exact q3, ⟨ln, q4, by rw [li e]; exact q5, by rw [li (e' 65 (by omega) (by omega))]; exact q6⟩, q7.cg (fun k hk => by rw [li e]) (fun l y1 y2 => by
    show ji h' l i = ji g' l i
    rw [li (e' l (by omega) (by omega))])⟩
/-- the class's labels that are in use, and the reference's -/
theorem AT.lc {B : Nat} {g g' h h' : jH} (hA : AT B g g') (hL : LB g) (e : ∀ b, 1 ≤ b → ¬ (30 ≤ b ∧ b ≤ 73) → b < g.2.1 → h.1 b = g.1 b) (e' : ∀ b, 30 ≤ b → b ≤ 73 → h'.1 b = g'.1 b) : AT B h h' := by
  obtain ⟨qc, qm, hR, hT, hb, ⟨L1, w1⟩, ⟨L2, w2⟩, ⟨L3, w3⟩, ⟨L4, w4⟩, ⟨L5, w5⟩⟩ := hA
  have h74 := hL.1
  have ec : ∀ b, 1 ≤ b → b ≤ 29 → h.1 b = g.1 b := fun b z1 z2 => e b z1 (by omega) (by omega)
  refine ⟨qc.lc ec rCS_in, qm.lc e' rMS_in, hR.lc (fun b z1 z2 => ec b (by omega) (by omega)) e', fun a ha => ?_, fun k hk => ?_, ⟨L1, w1.lc (fun b z1 z2 => ec b (by omega) (by omega))⟩, ⟨L2, w2.lc (fun b z1 z2 => ec b (by omega) (by omega))⟩, ⟨L3, w3.lc (fun b z1 z2 => ec b (by omega) (by omega))⟩, ⟨L4, w4.lc (fun b z1 z2 => ec b (by omega) (by omega))⟩, ⟨L5, w5.lc (fun b z1 z2 => ec b (by omega) (by omega))⟩⟩
  · rcases hT a ha with ⟨z1, z2, z3⟩ | ⟨t, z1, z2, z3⟩
    · exact Or.inl ⟨by rw [lp (ec 11 (by omega) (by omega))]; exact z1, by rw [li (e' 31 (by omega) (by omega))]; exact z2, z3.lc e'⟩
    · have ht := z3.1.1
      have hlt := hL.2.1 a t ha z1
      exact Or.inr ⟨t, by rw [lp (ec 11 (by omega) (by omega))]; exact z1, by rw [li (e' 31 (by omega) (by omega))]; exact z2, z3.lc (fun b y1 y2 => e b (by omega) (by omega) (by omega)) e'⟩
  · rw [li (ec 27 (by omega) (by omega)), li (e' 57 (by omega) (by omega))]
    exact hb k hk
theorem TRF.lc {T : Nat} {g g' h h' : jH} (hT : TRF T g g') (hL : LB g) (hT24 : T ≤ 24) (e : ∀ b, 1 ≤ b → ¬ (30 ≤ b ∧ b ≤ 73) → b < g.2.1 → h.1 b = g.1 b) (e' : ∀ b, 30 ≤ b → b ≤ 73 → h'.1 b = g'.1 b) : TRF T h h' := by
  obtain ⟨q1, q2, q3⟩ := hT
  have h74 := hL.1
  have e28 := lp (e 28 (by omega) (by omega) (by omega))
  have e66 := li (e' 66 (by omega) (by omega))
  refine ⟨fun i hi => ?_, fun i y1 y2 => ?_, fun a b q2 ha hb y1 y2 => q3 a b q2 ha hb (by rw [← e28]; exact y1) (by rw [← e28]; exact y2)⟩
  · obtain ⟨q, p1, p2, p3⟩ := q1 i hi
    have hq := hL.2.2 i q (by omega) p1
    have eq := e q (by have := p2.2.1; omega) (by have := p2.2.1; omega) hq
    exact ⟨q, by rw [e28]; exact p1, p2.lc eq e', fun j hj => by rw [li eq, e66]; exact p3 j hj⟩
  · rw [e28, e66]
    exact q2 i y1 y2
theorem RR.lc {B : Nat} {g g' h h' : jH} (hR : RR B g g') (e : ∀ b, 1 ≤ b → ¬ (30 ≤ b ∧ b ≤ 73) → b < g.2.1 → h.1 b = g.1 b) (e' : ∀ b, 30 ≤ b → b ≤ 73 → h'.1 b = g'.1 b) (hx : g.2.1 ≤ h.2.1) : RR B h h' := by
  obtain ⟨hA, ⟨s1, s2, s3, s4⟩, hL, T, F, N, r, ⟨t1, t2, t3, t4⟩, ⟨a1, a2⟩, ⟨b1, b2⟩, ⟨c1, c2⟩, ⟨d1, d2⟩, hF, hT⟩ := hR
  have h74 := hL.1
  have i1 := li (e 1 (by omega) (by omega) (by omega))
  have i10 := li (e 10 (by omega) (by omega) (by omega))
  have i29 := li (e 29 (by omega) (by omega) (by omega))
  have p11 := lp (e 11 (by omega) (by omega) (by omega))
  have p28 := lp (e 28 (by omega) (by omega) (by omega))
  have m30 := li (e' 30 (by omega) (by omega))
  have m67 := li (e' 67 (by omega) (by omega))
  refine ⟨hA.lc hL e e', ⟨by rw [i1, m30]; exact s1, by rw [i1, m30]; exact s2, by rw [i1, m30]; exact s3, by rw [i10, m30]; exact s4⟩, ⟨by omega, fun a t ha hp => ?_, fun i q hi hp => ?_⟩, T, F, N, r, ⟨t1, t2, t3, t4⟩, ⟨by rw [i1]; exact a1, by rw [m30]; exact a2⟩, ⟨by rw [i1]; exact b1, by rw [m30]; exact b2⟩, ⟨by rw [i1]; exact c1, by rw [m30]; exact c2⟩, ⟨by rw [i1]; exact d1, by rw [m30]; exact d2⟩, fun k hk => ?_, hT.lc hL t1 e e'⟩
  · rw [p11] at hp
    have := hL.2.1 a t ha hp
    omega
  · rw [p28] at hp
    have := hL.2.2 i q hi hp
    omega
  · rw [i29, m67]
    exact hF k hk
/-- what kind of value a method of the class gives back -/
def VT (yc : Nat) (v : Value) : Prop := if yc = 85 then ∃ r, v = Value.long r else ∃ r, v = Value.int r
/-- a call of the class and one of the reference: the same answer, the same state -/
def PR (δ : Nat) (yc ym : Nat) (lc lm : List (Option Value)) : Prop := ∀ (B : Nat) (g g' : jH), RR B g g' → B + δ < 1610612736 → ∃ v G G', jV yc 0 lc [] g = some (some v, G) ∧ jV ym 0 lm [] g' = some (some v, G') ∧ RR (B + δ) G G' ∧ (∀ b, 30 ≤ b → b ≤ 73 → G.1 b = g.1 b) ∧ (∀ b, ¬ (30 ≤ b ∧ b ≤ 73) → G'.1 b = g'.1 b) ∧ (G.1 0 = g.1 0) ∧ (g.2.1 ≤ G.2.1 ∧ G.2.1 ≤ g.2.1 + 7 ∧ G.2.2 ≤ g.2.2 + 2100) ∧ G'.2 = g'.2 ∧ VT yc v
/-- both, in one store -/
theorem PR.both {δ yc ym : Nat} {lc lm : List (Option Value)} (h : PR δ yc ym lc lm) {B : Nat} {g : jH} (hR : RR B g g) (hB : B + δ < 1610612736) : ∃ v G H, jV yc 0 lc [] g = some (some v, G) ∧ jV ym 0 lm [] G = some (some v, H) ∧ VT yc v ∧ (∀ b, 30 ≤ b → b ≤ 73 → G.1 b = g.1 b) ∧ G.1 0 = g.1 0 ∧ RR (B + δ) H H ∧ H.1 0 = g.1 0 ∧ H.2.1 ≤ g.2.1 + 7 ∧ H.2.2 ≤ g.2.2 + 2100 := by
  obtain ⟨v, G, _, h1, _, _, h4, _, h6, ⟨h7, h7', h7''⟩, _, h9⟩ := h B g g hR hB
  have hR2 : RR B g G := hR.lc (h := g) (fun b _ _ _ => rfl) h4 (Nat.le_refl _)
  obtain ⟨v2, G2, H, k1, k2, k3, k4, k5, k6, k7, k8, k9⟩ := h B g G hR2 hB
  have e : some (some v, G) = some (some v2, G2) := h1.symm.trans k1
  have e1 : v = v2 := Option.some.inj (Prod.mk.inj (Option.some.inj e)).1
  have e2 : G = G2 := (Prod.mk.inj (Option.some.inj e)).2
  subst e1
  subst e2
  refine ⟨v, G, H, h1, k2, h9, h4, h6, k3.lc (fun b _ z _ => k5 b z) (fun b _ _ => rfl) (by rw [k8]; exact Nat.le_refl _), ?_, by rw [k8]; exact h7', by rw [k8]; exact h7''⟩
  rw [k5 0 (by omega), h6]
