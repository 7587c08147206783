/-! A MESSAGE: compose and sayMessage beside tell -/
theorem tl_head {B l : Nat} {g g' g1 : jH} {LW : List Int32} (hA : AT B g g') (hW : WI g1 12 LW) (f1 : Off (wP 12) g g1) : ∃ g2, jV 12 0 [some (.ref 10), some (.int (nI l)), none] [] g1 = jV 12 33 [some (.ref 10), some (.int (nI l)), some (.int (nI 0))] [] g2 ∧ CS g2 ∧ MS (jsi g' 30 49 0) ∧ RLi B g2 (jsi g' 30 49 0) ∧ WI g2 15 [] ∧ ML (jsi g' 30 49 0) [] ∧ WI g2 12 LW ∧ WI g2 21 [] ∧ WI g2 24 [] ∧ ji g2 10 8 = 0 ∧ ji g2 10 9 = 0 ∧ Fr cTp g g2 ∧ Fr mMp g' (jsi g' 30 49 0) := by
  obtain ⟨qc, qm, hR, hT, hb, _, ⟨L15, W15⟩, _, ⟨L21, W21⟩, ⟨L24, W24⟩⟩ := hA
  obtain ⟨g2, a1, a2, a3, a4, a5, a6, f2⟩ := sm_head (l := l) (f1.cs qc) (W15.fr f1 (fun b k z1 z2 => by unfold wP; omega)) (W21.fr f1 (fun b k z1 z2 => by unfold wP; omega)) (W24.fr f1 (fun b k z1 z2 => by unfold wP; omega))
  have F : Fr cTp g g2 := (f1.sub (fun b k z => by unfold wP at z; omega)).trans (f2.sub (fun b k z => by omega))
  have f3 : Fr (fun b k => b = 30 ∧ k = 49) g' (jsi g' 30 49 0) := (Fr.refl g').si ⟨rfl, rfl⟩
  have F2 : Fr (fun b k => ¬ (2 ≤ b ∧ b ≤ 9)) g g2 := (f1.sub (fun b k z => by unfold wP at z; omega)).trans (f2.sub (fun b k z => by omega))
  exact ⟨g2, a1, F.cs qc, f3.ms qm, hR.fr F2 f3 (fun b k z1 z2 => by omega) (fun k z => by omega) (fun b k z1 z2 => by omega), a2, ⟨by simp, by rw [ji_si, if_pos ⟨rfl, rfl⟩]; rfl, fun i x hx => by simp at hx⟩, hW.fr f2 (fun b k z1 z2 => by omega), a3, a4, a5, a6, F, f3.sub (fun b k z => by omega)⟩
theorem tl_end {B B' l n : Nat} {g g' g1 g2 G G0' : jH} {L LW : List Int32} (hA : AT B g g') (hBB : B ≤ B') (hB : B' < 1610612736) (c1 : CS g1) (W21 : WI g2 21 []) (W24 : WI g2 24 []) (h8 : ji g2 10 8 = 0) (h9 : ji g2 10 9 = 0) (F : Fr cTp g g2) (F' : Fr mMp g' (jsi g' 30 49 0)) (hd : jV 12 0 [some (.ref 10), some (.int (nI l)), none] [] g1 = jV 12 33 [some (.ref 10), some (.int (nI l)), some (.int (nI n))] [] G) (hn : LW.length = n) (qc : CS G) (hR : RLi B' G G0') (W15 : WI G 15 L) (hL : ML G0' L) (W12 : WI G 12 LW) (f : Fr cMp g2 G) (f' : Fr mMp (jsi g' 30 49 0) G0') : CS g1 ∧ jV 12 0 [some (.ref 10), some (.int (nI l)), none] [] g1 = some (none, G) ∧ EX B' L G (jsi G0' 30 52 0) 0 [] [] ∧ ji G 10 9 = 0 ∧ Fr cTp g G ∧ Fr mMp g' G0' ∧ ∃ LW, WI G 12 LW := by
  have FG : Fr cTp g G := F.trans (f.sub (fun b k z => by omega))
  have FG' : Fr mMp g' G0' := F'.trans f'
  refine ⟨c1, ?_, tell_fin hA hBB hB FG FG' hR W15 hL (W21.fr f (fun b k z1 z2 => by omega)) (W24.fr f (fun b k z1 z2 => by omega)) (by rw [f.i (by omega)]; exact h8), by rw [f.i (by omega)]; exact h9, FG, FG', LW, W12⟩
  rw [hd, ← hn]
  exact sm_end qc W12
theorem q_tell {B i q l : Nat} {g g' : jH} (hA : AT B g g') (hK : TK g g' i q) (hl : l ≤ 1) (hB : B + 33 < 1610612736) : ∃ g1 G G0' L, jV 51 0 [some (.ref q), some (.ref 12), some (.ref 27), none, none] [] g = some (none, g1) ∧ jV 133 0 [some (.ref 30), some (.int (nI i)), some (.int (nI l)), none] [] g' = some (none, G0') ∧ CS g1 ∧ jV 12 0 [some (.ref 10), some (.int (nI l)), none] [] g1 = some (none, G) ∧ EX (B + 33) L G (jsi G0' 30 52 0) 0 [] [] ∧ ji G 10 9 = 0 ∧ Fr cTp g G ∧ Fr mMp g' G0' ∧ ∃ LW, WI G 12 LW := by
  obtain ⟨qc, qm, hR, hT, hb, ⟨L12, W12⟩, _⟩ := id hA
  obtain ⟨hi, hq74, kq, _, hk⟩ := hK
  have a4 : jin (nI i) 24 = true := jin_nI hi (by omega)
  have a5 : (nI i).toNatClampNeg = i := nI_clamp (by omega)
  have z0 : nI 0 = 0 := rfl
  have z1 : nI 1 = 1 := rfl
  have g0 : ∀ l, l ≠ 30 → ji (jsi g' 30 49 0) l i = ji g' l i := fun l hl => by rw [ji_si, if_neg (fun z => hl z.1)]
  have gb : ∀ k, ji (jsi g' 30 49 0) 57 k = ji g' 57 k := fun k => by rw [ji_si, if_neg (by omega)]
  rcases hk with ⟨to, tp, cnt, blk, ⟨r1, r2, r3, r4, r5, r6⟩, ⟨m1, m2, m3, m4, m5⟩, k0, k1, k2, k3, k4, k5⟩ | ⟨fr, fp, cnt, blk, ⟨r1, r2, r3, r4, r5, r6⟩, ⟨m1, m2, m3, m4, m5⟩, k0, k1, k2, k3, k4, k5⟩ | ⟨fr, fp, to, tp, cnt, ⟨r1, r2, r3, r4, r5, r6, r7, r8⟩, ⟨m1, m2, m3, m4, m5, m6⟩, k0, k1, k2, k3, k4⟩ | ⟨to, cod, blk, ⟨r1, r2, r3, _⟩, ⟨m1, m2, m3, m4⟩, k0, k1, k2, k3, k4, k5⟩
  · -- out
    have m1 : ji g' 58 i = 0 := m1
    have m2 : ji g' 61 i = nI to := m2
    have m3 : ji g' 62 i = nI tp := m3
    have m4 : ji g' 63 i = nI cnt := m4
    have m5 : ji g' 64 i = nI blk := m5
    have hc := CM_lt (a := to) (s := 0) (p := tp) (c := cnt) (by omega) (by omega) (by omega)
    obtain ⟨ga, e1, Wa, fa⟩ := c_pre (o1 := true) (o2 := false) (c1 := CM to 0 tp cnt) (c2 := 0) qc kq hq74 W12 k0 k1 hc (by omega)
    have e5 : ji g q 5 * 32 = nI (32 * blk) := by
      rw [k5]
      show nI blk * nI 32 = _
      rw [pk_mul, Nat.mul_comm]
    rw [e5] at e1
    obtain ⟨g1, LW, e2, W1, l1, s1, s2, fb⟩ := c_data r6 r5 hq74 cnt 0 ga _ (by omega) (fa.cs qc) (by rw [fa.k]; exact kq) (by rw [fa.i (by unfold wP; omega)]; exact k2) Wa rfl
    have f1 : Off (wP 12) g g1 := fa.trans fb
    obtain ⟨g2, h1, qc2, qm0, hR2, W15, L0, W12', W21, W24, i8, i9, F, F'⟩ := tl_head (l := l) hA W1 f1
    have x0 : LW[0]? = some (nI (65536 * 1 + CM to 0 tp cnt)) := by rw [s1 0 (by omega)]; rfl
    obtain ⟨G1, G1', v, t1, t2, t3, t4, t5, t6, t7, t8, t9, t10⟩ := sm_step (l := l) (i := 0) qc2 qm0 hR2 (by omega) W15 L0 rfl (by omega) W12' x0 hc (show 1 ≤ 1 by omega)
    have hmm : ji G1' 63 i = nI cnt ∧ ji G1' 64 i = nI blk := ⟨by rw [t10.i (by omega), g0 63 (by omega)]; exact m4, by rw [t10.i (by omega), g0 64 (by omega)]; exact m5⟩
    obtain ⟨G, G0', L, u1, u2, u3, u4, u5, u6, u7, u8, u9, u10⟩ := sm_data (l := l) (i0 := 0) (LW := LW) hi r5 r6 cnt 0 (B + 1) G1 G1' ([] ++ [v]) (by omega) t7 t8 t3 (by omega) t4 t5 (by simp) t6 hmm (fun j hj => by
      rw [t10.i (by omega), gb, s2 j (by omega) hj, fa.i (by unfold wP; omega)]
      have := hb (32 * blk + j) (by omega)
      exact ⟨this.2, by rw [this.1]⟩)
    have hBB : B + 1 + cnt ≤ B + 33 := by omega
    obtain ⟨w1, w2, w3, w4, w5, w6⟩ := tl_end (B' := B + 33) hA (by omega) hB (f1.cs qc) W21 W24 i8 i9 F F' (h1.trans (t1.trans u1)) l1 u7 (u3.mono hBB hB) u4 u5 u6 (t9.trans u9) (t10.trans u10)
    refine ⟨g1, G, G0', L, e1.trans e2, ?_, w1, w2, w3, w4, w5, w6⟩
    have cm := m_cm (a := to) (s := 0) (p := tp) (c := cnt) (by omega) (by omega) (by omega) (by omega) (jsi g' 30 49 0)
    rw [z0] at cm u2
    rw [z1] at t2
    simp only [s133_0, s133_1, s133_2, s133_5, s133_6, s133_9, s133_10, s133_11, s133_14, s133_15, s133_16, s133_17, s133_18, s133_21, s133_22, s133_23, s133_24, s133_25, s133_28, s133_29, s133_30, s133_31, s133_34, s133_35, s133_36, s133_39, s133_42, s133_43, k30 qm, k30 qm0, k58 qm0, k61 qm0, k62 qm0, k63 qm0, p30_31 qm0, p30_34 qm0, p30_35 qm0, p30_36 qm0, a4, a5, g0 58 (by omega), g0 61 (by omega), g0 62 (by omega), g0 63 (by omega), m1, m2, m3, m4, cm, t2, u2, ↓reduceIte, va_rf_s, va_rf_n, jb_some, jb_none, jtl_s, jtl_n, if_true, if_false, true_and, and_true, false_and, and_false, or_true, true_or, or_false, false_or, not_true_eq_false, not_false_eq_true, jk_si, jp_si, jj_si, jk_sj, jp_sj, ji_sj, jk_ci, jp_ci, jj_ci, jk_cj, jp_cj, ji_cj, jlng_n, jlng_i, jlng_r, jlng_0]
  · -- in
    have m1 : ji g' 58 i = 1 := m1
    have m2 : ji g' 59 i = nI fr := m2
    have m3 : ji g' 60 i = nI fp := m3
    have m4 : ji g' 63 i = nI cnt := m4
    have hc := CM_lt (a := fr) (s := 1) (p := fp) (c := cnt) (by omega) (by omega) (by omega)
    obtain ⟨ga, e1, Wa, fa⟩ := c_pre (o1 := false) (o2 := true) (c1 := 0) (c2 := CM fr 1 fp cnt) qc kq hq74 W12 k0 k1 (by omega) hc
    have e2 := c_nodata (g := ga) (q := q) (f := ji g q 5 * 32) (by rw [fa.k]; exact kq) (by rw [fa.i (by unfold wP; omega)]; exact k2)
    obtain ⟨g2, h1, qc2, qm0, hR2, W15, L0, W12', W21, W24, i8, i9, F, F'⟩ := tl_head (l := l) hA Wa fa
    obtain ⟨G1, G1', v, t1, t2, t3, t4, t5, t6, t7, t8, t9, t10⟩ := sm_step (l := l) (i := 0) qc2 qm0 hR2 (by omega) W15 L0 rfl (by omega) W12' rfl hc (show 1 ≤ 1 by omega)
    obtain ⟨w1, w2, w3, w4, w5, w6⟩ := tl_end (B' := B + 33) hA (by omega) hB (fa.cs qc) W21 W24 i8 i9 F F' (h1.trans t1) rfl t7 (t3.mono (by omega) hB) t4 t5 t6 t9 t10
    refine ⟨ga, G1, G1', _, e1.trans e2, ?_, w1, w2, w3, w4, w5, w6⟩
    have cm := m_cm (a := fr) (s := 1) (p := fp) (c := cnt) (by omega) (by omega) (by omega) (by omega) (jsi g' 30 49 0)
    rw [z1] at cm t2
    simp only [s133_0, s133_1, s133_2, s133_5, s133_6, s133_9, s133_10, s133_11, s133_85, s133_86, s133_89, s133_90, s133_91, s133_92, s133_95, s133_96, s133_97, s133_98, s133_99, s133_102, s133_103, s133_104, s133_105, s133_106, s133_109, s133_110, s133_111, s133_112, s133_115, s133_116, s133_117, s133_120, s133_123, s133_260, k30 qm, k30 qm0, k58 qm0, k59 qm0, k60 qm0, k63 qm0, p30_31 qm0, p30_32 qm0, p30_33 qm0, p30_36 qm0, a4, a5, g0 58 (by omega), g0 59 (by omega), g0 60 (by omega), g0 63 (by omega), m1, m2, m3, m4, cm, t2, n1, ↓reduceIte, va_rf_s, va_rf_n, jb_some, jb_none, jtl_s, jtl_n, if_true, if_false, true_and, and_true, false_and, and_false, or_true, true_or, or_false, false_or, not_true_eq_false, not_false_eq_true, jk_si, jp_si, jj_si, jk_sj, jp_sj, ji_sj, jk_ci, jp_ci, jj_ci, jk_cj, jp_cj, ji_cj, jlng_n, jlng_i, jlng_r, jlng_0]
  · -- relay
    have m1 : ji g' 58 i = 2 := m1
    have m2 : ji g' 59 i = nI fr := m2
    have m3 : ji g' 60 i = nI fp := m3
    have m4 : ji g' 61 i = nI to := m4
    have m5 : ji g' 62 i = nI tp := m5
    have m6 : ji g' 63 i = nI cnt := m6
    have hc := CM_lt (a := fr) (s := 1) (p := fp) (c := cnt) (by omega) (by omega) (by omega)
    have hc2 := CM_lt (a := to) (s := 0) (p := tp) (c := cnt) (by omega) (by omega) (by omega)
    obtain ⟨ga, e1, Wa, fa⟩ := c_pre (o1 := true) (o2 := true) (c1 := CM to 0 tp cnt) (c2 := CM fr 1 fp cnt) qc kq hq74 W12 k0 k1 hc2 hc
    have e2 := c_nodata (g := ga) (q := q) (f := ji g q 5 * 32) (by rw [fa.k]; exact kq) (by rw [fa.i (by unfold wP; omega)]; exact k2)
    obtain ⟨g2, h1, qc2, qm0, hR2, W15, L0, W12', W21, W24, i8, i9, F, F'⟩ := tl_head (l := l) hA Wa fa
    obtain ⟨G1, G1', v, t1, t2, t3, t4, t5, t6, t7, t8, t9, t10⟩ := sm_step (l := l) (i := 0) qc2 qm0 hR2 (by omega) W15 L0 rfl (by omega) W12' rfl hc2 (show 1 ≤ 1 by omega)
    obtain ⟨G2, G2', v2, u1, u2, u3, u4, u5, u6, u7, u8, u9, u10⟩ := sm_step (l := l) (i := 1) t7 t8 t3 (by omega) t4 t5 rfl (by simp) t6 rfl hc (show 1 ≤ 1 by omega)
    obtain ⟨w1, w2, w3, w4, w5, w6⟩ := tl_end (B' := B + 33) hA (by omega) hB (fa.cs qc) W21 W24 i8 i9 F F' (h1.trans (t1.trans u1)) rfl u7 (u3.mono (by omega) hB) u4 u5 u6 (t9.trans u9) (t10.trans u10)
    refine ⟨ga, G2, G2', _, e1.trans e2, ?_, w1, w2, w3, w4, w5, w6⟩
    have cm := m_cm (a := to) (s := 0) (p := tp) (c := cnt) (by omega) (by omega) (by omega) (by omega) (jsi g' 30 49 0)
    have cm2 := m_cm (a := fr) (s := 1) (p := fp) (c := cnt) (by omega) (by omega) (by omega) (by omega) G1'
    rw [z0] at cm
    rw [z1] at cm2 t2 u2
    have h0 : ∀ l, 58 ≤ l → l ≤ 65 → ji G1' l i = ji g' l i := fun l y1 y2 => by rw [t10.i (by omega), g0 l (by omega)]
    simp only [s133_0, s133_1, s133_2, s133_5, s133_6, s133_9, s133_10, s133_11, s133_85, s133_86, s133_89, s133_90, s133_91, s133_92, s133_126, s133_127, s133_130, s133_131, s133_132, s133_133, s133_136, s133_137, s133_138, s133_139, s133_140, s133_143, s133_144, s133_145, s133_146, s133_147, s133_150, s133_151, s133_152, s133_153, s133_156, s133_157, s133_158, s133_161, s133_164, s133_165, s133_166, s133_167, s133_168, s133_171, s133_172, s133_173, s133_174, s133_175, s133_178, s133_179, s133_180, s133_181, s133_184, s133_185, s133_186, s133_189, s133_192, s133_260, k30 qm, k30 qm0, k30 t8, k58 qm0, k61 qm0, k62 qm0, k63 qm0, k59 t8, k60 t8, k63 t8, p30_31 qm0, p30_34 qm0, p30_35 qm0, p30_36 qm0, p30_32 t8, p30_33 t8, p30_36 t8, a4, a5, g0 58 (by omega), g0 61 (by omega), g0 62 (by omega), g0 63 (by omega), h0 59 (by omega) (by omega), h0 60 (by omega) (by omega), h0 63 (by omega) (by omega), m1, m2, m3, m4, m5, m6, cm, cm2, t2, u2, eq_false (show ¬ (2 : Int32) = 0 by decide), eq_false (show ¬ (2 : Int32) = 1 by decide), ↓reduceIte, va_rf_s, va_rf_n, jb_some, jb_none, jtl_s, jtl_n, if_true, if_false, true_and, and_true, false_and, and_false, or_true, true_or, or_false, false_or, not_true_eq_false, not_false_eq_true, jk_si, jp_si, jj_si, jk_sj, jp_sj, ji_sj, jk_ci, jp_ci, jj_ci, jk_cj, jp_cj, ji_cj, jlng_n, jlng_i, jlng_r, jlng_0]
  · -- mode
    have m1 : ji g' 58 i = 3 := m1
    have m2 : ji g' 61 i = nI to := m2
    have m3 : ji g' 62 i = nI cod := m3
    have m4 : ji g' 64 i = nI blk := m4
    have E17 : nI cod = 17 ↔ cod = 17 := e_eq (b := 17) (by omega) (by omega)
    have E20 : nI cod = 20 ↔ cod = 20 := e_eq (b := 20) (by omega) (by omega)
    have E21 : nI cod = 21 ↔ cod = 21 := e_eq (b := 21) (by omega) (by omega)
    have hw := m_hasWord (nI cod) (jsi g' 30 49 0)
    rw [jB_cg (show (nI cod = 17 ∨ nI cod = 20 ∨ nI cod = 21) ↔ hWd cod by rw [E17, E20, E21])] at hw
    by_cases c : hWd cod
    · rw [if_pos c] at k0 k2
      rw [jB_t c] at hw
      have hc := CM_lt (a := to) (s := 0) (p := 0) (c := cod) (by omega) (by omega) (by omega)
      obtain ⟨ga, e1, Wa, fa⟩ := c_pre (o1 := true) (o2 := false) (c1 := CM to 0 0 cod) (c2 := 0) qc kq hq74 W12 k0 k1 hc (by omega)
      have e5 : ji g q 5 * 32 = nI (32 * blk) := by
        rw [k5]
        show nI blk * nI 32 = _
        rw [pk_mul, Nat.mul_comm]
      rw [e5] at e1
      obtain ⟨g1, LW, e2, W1, l1, s1, s2, fb⟩ := c_data (cnt := 1) r3 (by omega) hq74 1 0 ga _ (by omega) (fa.cs qc) (by rw [fa.k]; exact kq) (by rw [fa.i (by unfold wP; omega)]; exact k2) Wa rfl
      have f1 : Off (wP 12) g g1 := fa.trans fb
      obtain ⟨g2, h1, qc2, qm0, hR2, W15, L0, W12', W21, W24, i8, i9, F, F'⟩ := tl_head (l := l) hA W1 f1
      have x0 : LW[0]? = some (nI (65536 * 1 + CM to 0 0 cod)) := by rw [s1 0 (by omega)]; rfl
      obtain ⟨G1, G1', v, t1, t2, t3, t4, t5, t6, t7, t8, t9, t10⟩ := sm_step (l := l) (i := 0) qc2 qm0 hR2 (by omega) W15 L0 rfl (by omega) W12' x0 hc (show 1 ≤ 1 by omega)
      have hbk := hb (32 * blk) (by omega)
      obtain ⟨b, hbb, eb⟩ := isD_nI hbk.2
      have x1 : LW[1]? = some (nI (65536 * 0 + b)) := by
        have := s2 0 (by omega) (by omega)
        simp only [Nat.add_zero] at this
        rw [fa.i (by unfold wP; omega), hbk.1, eb] at this
        rw [Nat.mul_zero, Nat.zero_add]
        exact this
      obtain ⟨G2, G2', v2, u1, u2, u3, u4, u5, u6, u7, u8, u9, u10⟩ := sm_step (l := l) (i := 1) t7 t8 t3 (by omega) t4 t5 rfl (by simp) t6 x1 hbb (show 0 ≤ 1 by omega)
      obtain ⟨w1, w2, w3, w4, w5, w6⟩ := tl_end (B' := B + 33) hA (by omega) hB (f1.cs qc) W21 W24 i8 i9 F F' (h1.trans (t1.trans u1)) l1 u7 (u3.mono (by omega) hB) u4 u5 u6 (t9.trans u9) (t10.trans u10)
      refine ⟨g1, G2, G2', _, e1.trans e2, ?_, w1, w2, w3, w4, w5, w6⟩
      have cm := m_cm (a := to) (s := 0) (p := 0) (c := cod) (by omega) (by omega) (by omega) (by omega) (jsi g' 30 49 0)
      rw [z0] at cm u2
      rw [z1] at t2
      have h0 : ∀ l, 58 ≤ l → l ≤ 65 → ji G1' l i = ji g' l i := fun l y1 y2 => by rw [t10.i (by omega), g0 l (by omega)]
      have c4 : jin (nI (32 * blk)) 512 = true := jin_nI (by omega) (by omega)
      have c5 : (nI (32 * blk)).toNatClampNeg = 32 * blk := nI_clamp (by omega)
      have e6 : (32 : Int32) * nI blk = nI (32 * blk) := by
        show nI 32 * nI blk = _
        rw [pk_mul]
      have b57 : ji G1' 57 (32 * blk) = nI b := by rw [t10.i (by omega), gb]; exact eb
      simp only [s133_0, s133_1, s133_2, s133_5, s133_6, s133_9, s133_10, s133_11, s133_85, s133_86, s133_89, s133_90, s133_91, s133_92, s133_126, s133_127, s133_130, s133_131, s133_132, s133_133, s133_195, s133_196, s133_199, s133_200, s133_201, s133_204, s133_205, s133_206, s133_207, s133_208, s133_209, s133_212, s133_213, s133_214, s133_215, s133_218, s133_219, s133_222, s133_223, s133_224, s133_225, s133_228, s133_229, s133_230, s133_233, s133_236, s133_237, s133_240, s133_241, s133_242, s133_243, s133_244, s133_247, s133_249, s133_250, s133_253, s133_254, s133_255, s133_256, s133_257, s133_260, k30 qm, k30 qm0, k30 t8, k58 qm0, k61 qm0, k62 qm0, k57 t8, k64 t8, p30_31 qm0, p30_34 qm0, p30_35 qm0, p30_30 t8, p30_37 t8, a4, a5, c4, c5, e6, g0 58 (by omega), g0 61 (by omega), g0 62 (by omega), h0 64 (by omega) (by omega), b57, m1, m2, m3, m4, hw, cm, t2, u2, n1, eq_false (show ¬ (3 : Int32) = 0 by decide), eq_false (show ¬ (3 : Int32) = 1 by decide), eq_false (show ¬ (3 : Int32) = 2 by decide), ↓reduceIte, va_rf_s, va_rf_n, jb_some, jb_none, jtl_s, jtl_n, if_true, if_false, true_and, and_true, false_and, and_false, or_true, true_or, or_false, false_or, not_true_eq_false, not_false_eq_true, jk_si, jp_si, jj_si, jk_sj, jp_sj, ji_sj, jk_ci, jp_ci, jj_ci, jk_cj, jp_cj, ji_cj, jlng_n, jlng_i, jlng_r, jlng_0]
    · rw [if_neg c] at k0 k2
      rw [jB_f c] at hw
      have hc := CM_lt (a := to) (s := 1) (p := 0) (c := cod) (by omega) (by omega) (by omega)
      obtain ⟨ga, e1, Wa, fa⟩ := c_pre (o1 := true) (o2 := false) (c1 := CM to 1 0 cod) (c2 := 0) qc kq hq74 W12 k0 k1 hc (by omega)
      have e2 := c_nodata (g := ga) (q := q) (f := ji g q 5 * 32) (by rw [fa.k]; exact kq) (by rw [fa.i (by unfold wP; omega)]; exact k2)
      obtain ⟨g2, h1, qc2, qm0, hR2, W15, L0, W12', W21, W24, i8, i9, F, F'⟩ := tl_head (l := l) hA Wa fa
      obtain ⟨G1, G1', v, t1, t2, t3, t4, t5, t6, t7, t8, t9, t10⟩ := sm_step (l := l) (i := 0) qc2 qm0 hR2 (by omega) W15 L0 rfl (by omega) W12' rfl hc (show 1 ≤ 1 by omega)
      obtain ⟨w1, w2, w3, w4, w5, w6⟩ := tl_end (B' := B + 33) hA (by omega) hB (fa.cs qc) W21 W24 i8 i9 F F' (h1.trans t1) rfl t7 (t3.mono (by omega) hB) t4 t5 t6 t9 t10
      refine ⟨ga, G1, G1', _, e1.trans e2, ?_, w1, w2, w3, w4, w5, w6⟩
      have cm := m_cm (a := to) (s := 1) (p := 0) (c := cod) (by omega) (by omega) (by omega) (by omega) (jsi g' 30 49 0)
      rw [z0, z1] at cm
      rw [z1] at t2
      simp only [s133_0, s133_1, s133_2, s133_5, s133_6, s133_9, s133_10, s133_11, s133_85, s133_86, s133_89, s133_90, s133_91, s133_92, s133_126, s133_127, s133_130, s133_131, s133_132, s133_133, s133_195, s133_196, s133_199, s133_200, s133_201, s133_204, s133_205, s133_206, s133_207, s133_208, s133_209, s133_212, s133_213, s133_214, s133_215, s133_218, s133_219, s133_222, s133_223, s133_224, s133_225, s133_228, s133_229, s133_230, s133_233, s133_236, s133_237, s133_240, s133_241, s133_242, s133_243, s133_244, s133_247, s133_249, s133_250, s133_253, s133_254, s133_255, s133_256, s133_257, s133_260, k30 qm, k30 qm0, k58 qm0, k61 qm0, k62 qm0, p30_31 qm0, p30_34 qm0, p30_35 qm0, a4, a5, g0 58 (by omega), g0 61 (by omega), g0 62 (by omega), m1, m2, m3, hw, cm, t2, eq_false (show ¬ (3 : Int32) = 0 by decide), eq_false (show ¬ (3 : Int32) = 1 by decide), eq_false (show ¬ (3 : Int32) = 2 by decide), ↓reduceIte, va_rf_s, va_rf_n, jb_some, jb_none, jtl_s, jtl_n, if_true, if_false, true_and, and_true, false_and, and_false, or_true, true_or, or_false, false_or, not_true_eq_false, not_false_eq_true, jk_si, jp_si, jj_si, jk_sj, jp_sj, ji_sj, jk_ci, jp_ci, jj_ci, jk_cj, jp_cj, ji_cj, jlng_n, jlng_i, jlng_r, jlng_0]
