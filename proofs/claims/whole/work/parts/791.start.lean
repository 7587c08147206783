/-! THE START: both objects -/
theorem R_i30 (L : Nat) (xs : Nat → Int32) : ji (R43 L xs) 30 20 = 0 ∧ ji (R43 L xs) 30 21 = 0 ∧ ji (R43 L xs) 30 22 = 0 ∧ ji (R43 L xs) 30 29 = 0 ∧ ji (R43 L xs) 30 40 = 0 ∧ ji (R43 L xs) 30 42 = 0 ∧ ji (R43 L xs) 30 43 = 0 ∧ ji (R43 L xs) 30 44 = 0 ∧ ji (R43 L xs) 30 45 = 0 ∧ ji (R43 L xs) 30 46 = 1 ∧ ji (R43 L xs) 30 47 = 1000 := ⟨rfl, rfl, rfl, rfl, rfl, rfl, rfl, rfl, rfl, rfl, rfl⟩
theorem A_i (L : Nat) (xs : Nat → Int32) : (ji (A11 L xs) 1 5 = 0 ∧ ji (A11 L xs) 1 6 = 0 ∧ ji (A11 L xs) 1 7 = 0 ∧ ji (A11 L xs) 1 8 = 0 ∧ ji (A11 L xs) 1 9 = 0 ∧ ji (A11 L xs) 1 10 = 1 ∧ ji (A11 L xs) 1 11 = 1000 ∧ ji (A11 L xs) 10 7 = 0 ∧ ji (A11 L xs) 2 5 = 0 ∧ ji (A11 L xs) 2 6 = 0) ∧ (∀ i, ji (A11 L xs) 3 i = 0 ∧ ji (A11 L xs) 4 i = 0 ∧ ji (A11 L xs) 5 i = 0 ∧ ji (A11 L xs) 6 i = 0 ∧ ji (A11 L xs) 27 i = 0 ∧ jp (A11 L xs) 11 i = none ∧ jp (A11 L xs) 28 i = none) := ⟨⟨rfl, rfl, rfl, rfl, rfl, rfl, rfl, rfl, rfl, rfl⟩, fun i => ⟨rfl, rfl, rfl, rfl, rfl, rfl, rfl⟩⟩
theorem WI_nil {g : jH} {w : Nat} (h : (jk g w = (7, 0) ∧ jp g w 0 = some (w + 1) ∧ jp g w 1 = some (w + 2) ∧ jk g (w + 1) = (20, 33) ∧ jk g (w + 2) = (20, 33)) ∧ ji g w 2 = 0 ∧ ji g w 3 = 0 ∧ ji g w 4 = 0) : WI g w [] := ⟨h.1, by simp, ⟨by rw [h.2.1]; rfl, by rw [h.2.2.1]; rfl, by rw [h.2.2.2]; rfl⟩, fun i x hx => by simp at hx, fun j i hj => by simp [cmds] at hj⟩
theorem A_w (L : Nat) (xs : Nat → Int32) : WI (A11 L xs) 12 [] ∧ WI (A11 L xs) 15 [] ∧ WI (A11 L xs) 18 [] ∧ WI (A11 L xs) 21 [] ∧ WI (A11 L xs) 24 [] := ⟨WI_nil ⟨⟨rfl, rfl, rfl, rfl, rfl⟩, rfl, rfl, rfl⟩, WI_nil ⟨⟨rfl, rfl, rfl, rfl, rfl⟩, rfl, rfl, rfl⟩, WI_nil ⟨⟨rfl, rfl, rfl, rfl, rfl⟩, rfl, rfl, rfl⟩, WI_nil ⟨⟨rfl, rfl, rfl, rfl, rfl⟩, rfl, rfl, rfl⟩, WI_nil ⟨⟨rfl, rfl, rfl, rfl, rfl⟩, rfl, rfl, rfl⟩⟩
theorem A_t (L : Nat) (xs : Nat → Int32) : TI (A11 L xs) 7 40 [] := ⟨⟨rfl, rfl, rfl, rfl, rfl⟩, ⟨by omega, by simp⟩, rfl, fun i q hq => by simp at hq, List.Pairwise.nil⟩
theorem start (L : Nat) (xs : Nat → Int32) : ∃ H, jV 66 0 [some (.ref 1)] [] (jnew (gst L xs) 8 0 12) = some (none, A11 L xs) ∧ jV 104 0 [some (.ref 30), none] [] (jnew (A11 L xs) 9 0 57) = some (none, H) ∧ RR 0 H H ∧ H.1 0 = (gst L xs).1 0 ∧ H.2.1 = 74 ∧ H.2.2 ≤ 70000 := by
  have q0 := R_ms L xs
  obtain ⟨G1, r1, f1, v1⟩ := mi_1 31 0 (R43 L xs) (by omega) q0
  obtain ⟨H, r2, f2, v2⟩ := mi_2 24 0 G1 (by omega) (f1.ms q0)
  have f : Fr (fun b k => b = 41 ∨ b = 66) (R43 L xs) H := (f1.sub (fun b k z => Or.inl z.1)).trans (f2.sub (fun b k z => Or.inr z.1))
  have hx : H.2.1 = 74 := by rw [f.x]; exact R_x L xs
  have hx2 : H.2.2 ≤ 70000 := by rw [f.x]; exact R_sl L xs
  have old : ∀ b, b < 30 → H.1 b = (A11 L xs).1 b := fun b hb => (f.cell (fun k => by omega)).trans (R_old L xs hb)
  have z : ∀ b k, 31 ≤ b → b ≤ 73 → ¬ b = 41 → ¬ b = 66 → ji H b k = 0 := fun b k h1 h2 h3 h4 => by rw [f.i (by omega)]; exact R_zero L xs b k h1 h2
  have z41 : ∀ a, a < 31 → ji H 41 a = -1 := fun a ha => by rw [f2.i (by omega)]; exact v1 a (by omega) ha
  have z66 : ∀ i j, i < 24 → j < 6 → ji H 66 (6 * i + j) = if j = 4 then -1 else 0 := fun i j hi hj => by
    by_cases c : j = 4
    · subst c
      rw [if_pos rfl]
      exact v2 i (by omega) hi
    · rw [if_neg c, f2.i (by rintro ⟨_, k, y1, y2, y3⟩; omega), f1.i (by omega)]
      exact R_zero L xs 66 _ (by omega) (by omega)
  obtain ⟨i20, i21, i22, i29, i40, i42, i43, i44, i45, i46, i47⟩ := R_i30 L xs
  have m30 : ∀ k, ji H 30 k = ji (R43 L xs) 30 k := fun k => f.i (by omega)
  obtain ⟨⟨a5, a6, a7, a8, a9, a10, a11, a107, a25, a26⟩, ar⟩ := A_i L xs
  obtain ⟨w1, w2, w3, w4, w5⟩ := A_w L xs
  have c1 := old 1 (by omega)
  have c2 := old 2 (by omega)
  have c3 := old 3 (by omega)
  have c4 := old 4 (by omega)
  have c5 := old 5 (by omega)
  have c6 := old 6 (by omega)
  have c10 := old 10 (by omega)
  have c11 := old 11 (by omega)
  have c27 := old 27 (by omega)
  have c28 := old 28 (by omega)
  refine ⟨H, i_T L xs, ?_, ?_, ?_, hx, hx2⟩
  · have := i_M0 L xs
    exact this.trans (r1.trans r2)
  · refine ⟨⟨(A_cs L xs).lc (fun b h1 h2 => old b (by omega)) rCS_in, f.ms q0, ⟨by omega, 0, [], [], by omega, ⟨by rw [li c2, a25]; rfl, by rw [m30, i21]; rfl⟩, by rw [li c2, a26, m30, i22], fun i hi => ?_, (A_t L xs).lc (fun b h1 h2 => old b (by omega)), ⟨by simp, by rw [m30, i29]; rfl, fun i q hq => by simp at hq⟩, List.Perm.nil, fun q hq => by simp at hq⟩, fun a ha => Or.inl ⟨by rw [lp c11]; exact (ar a).2.2.2.2.2.1, z 31 a (by omega) (by omega) (by omega) (by omega), ?_⟩, fun k hk => ?_, ⟨[], w1.lc (fun b h1 h2 => old b (by omega))⟩, ⟨[], w2.lc (fun b h1 h2 => old b (by omega))⟩, ⟨[], w3.lc (fun b h1 h2 => old b (by omega))⟩, ⟨[], w4.lc (fun b h1 h2 => old b (by omega))⟩, ⟨[], w5.lc (fun b h1 h2 => old b (by omega))⟩⟩, ⟨by rw [li c1, a8, m30, i44], by rw [li c1, a9, m30, i45], by rw [li c1, a11, m30, i47], by rw [li c10, a107, m30, i20]⟩, ⟨by rw [hx]; exact Nat.le_refl _, fun a t ha hp => ?_, fun i q hi hp => ?_⟩, 0, 0, 0, 1, ⟨by omega, by omega, by omega, by omega⟩, ⟨by rw [li c1, a5]; rfl, by rw [m30, i40]; rfl⟩, ⟨by rw [li c1, a6]; rfl, by rw [m30, i42]; rfl⟩, ⟨by rw [li c1, a7]; rfl, by rw [m30, i43]; rfl⟩, ⟨by rw [li c1, a10]; rfl, by rw [m30, i46]; rfl⟩, fun k hk => absurd hk (by omega), fun i hi => absurd hi (by omega), fun i _ hi => ⟨by rw [lp c28]; exact (ar i).2.2.2.2.2.2, fun j hj => z66 i j hi hj⟩, fun a b q ha => absurd ha (by omega)⟩
    · obtain ⟨y1, y2, y3, y4, _⟩ := ar i
      rw [li c3, li c4, li c5, li c6, y1, y2, y3, y4, z 51 i (by omega) (by omega) (by omega) (by omega), z 52 i (by omega) (by omega) (by omega) (by omega), z 53 i (by omega) (by omega) (by omega) (by omega), z 54 i (by omega) (by omega) (by omega) (by omega)]
      exact ⟨rfl, rfl, rfl, rfl, Or.inr ⟨0, by omega, rfl⟩⟩
    · refine ⟨fun l hl => ?_, z 33 _ (by omega) (by omega) (by omega) (by omega), z 34 _ (by omega) (by omega) (by omega) (by omega), fun b k h1 _ _ => z b k (by omega) (by omega) (by omega) (by omega), fun k _ _ => z 37 k (by omega) (by omega) (by omega) (by omega), z 50 a (by omega) (by omega) (by omega) (by omega)⟩
      by_cases c : l = 41
      · subst c
        rw [if_pos rfl]
        exact z41 a ha
      · rw [if_neg c]
        exact z l a (by omega) (by omega) c (by omega)
    · rw [li c27, (ar k).2.2.2.2.1, z 57 k (by omega) (by omega) (by omega) (by omega)]
      exact ⟨rfl, by decide⟩
    · rw [lp c11, (ar a).2.2.2.2.2.1] at hp
      exact absurd hp (by simp)
    · rw [lp c28, (ar i).2.2.2.2.2.2] at hp
      exact absurd hp (by simp)
  · rw [old 0 (by omega)]
    rfl
