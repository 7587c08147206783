/-! HEARING: all of it -/
theorem q_hear {B n a t l : Nat} {L A0 A1 : List Int32} {g g' : jH} (hC : HC B L g g' a t n A0 A1) (hB : B + 34 < 1610612736) (hl : l ≤ 1) (hli : (ji g t 4 >>> (nI l &&& 31)) &&& 1 = 1) (hn : WA a L → n = 0) (hn1 : n ≤ 1) : HO (B + 34) L g g' a t l n A0 A1 (jV 31 0 [some (.ref t), some (.ref 15), some (.int (nI l)), some (.ref 18), none, none, none] [] g) (jV 126 0 [some (.ref 30), some (.int (nI a)), some (.int (nI l)), none, none, none, none, none, none] [] g') := by
  rcases hr_pre hC (by omega) hl hli with ⟨_, h1, h2⟩ | ⟨i, x, G, G', hx, h1, h2, hC1, h15, F, F', E⟩
  · exact ⟨0, g, h1, Or.inl ⟨rfl, g', h2, hC.mono (by omega) (by omega), Fr.refl g, Fr.refl g', rfl⟩⟩
  · by_cases c : dN (cw x) ∧ sN (cw x) ∧ aN (cw x) = a ∧ L.length = i + 1 ∧ (cw x % 32 = 2 ∨ cw x % 32 = 18)
    · exact (hr_ask hC1 (by omega) hl hx hn hn1 h15 c.1 c.2.1 c.2.2.1 c.2.2.2.1 c.2.2.2.2).pre F F' E h1 h2
    · obtain ⟨G2, G2', e1, e2, hC2, h15', h12, h43, h44, F2, F2', E2⟩ := hr_set hC1 (by omega) hl hx hn hn1 h15 c
      refine HO.pre (g1 := G2) (g1' := G2') (c := jV 31 139 [some (.ref t), some (.ref 15), some (.int (nI l)), some (.ref 18), some (.int (nI i)), some (.int (nI (cw x))), some (.int (nI (i + 1)))] [] G2) (m := jV 126 202 [some (.ref 30), some (.int (nI a)), some (.int (nI l)), some (.int (nI i)), some (.int (nI (cw x))), some (.int (nI (i + 1))), some (.int (jB (aN (cw x) = a))), none, none] [] G2') ?_ (F.trans F2) (F'.trans F2') (E2.trans E) (h1.trans e1) (h2.trans e2)
      by_cases d1 : dN (cw x)
      · exact hr_mode hC2 (by omega) hl hx hn hn1 h15' h12 h43 h44 d1
      · by_cases d2 : sN (cw x)
        · exact hr_send hC2 (by omega) hl hx hn hn1 h15' h12 h43 h44 d1 d2
        · by_cases d3 : JDt L (i + 1) (cN (cw x))
          · exact hr_recv hC2 (by omega) hl hx hn hn1 h15' h12 h43 h44 d1 d2 d3
          · exact hr_wait hC2 (by omega) hl hx hn hn1 h15' h12 h43 h44 d1 d2 d3
