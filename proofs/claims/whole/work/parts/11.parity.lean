/-! CONTRACTS: Integer.bitCount, as far as its parity matters -/
def bcA (x : Nat) : Nat := x - ((x / 2) &&& 1431655765)
def bcB (x : Nat) : Nat := (x &&& 858993459) + ((x / 4) &&& 858993459)
def bcC (x : Nat) : Nat := (x + x / 16) &&& 252645135
def bcD (x : Nat) : Nat := x + x / 256
def bcE (x : Nat) : Nat := x + x / 65536
def bcN (x : Nat) : Nat := bcE (bcD (bcC (bcB (bcA x)))) &&& 63
/-- the number of bits 1 among the lowest k -/
def pc : Nat → Nat → Nat
  | 0, _ => 0
  | k + 1, x => pc k (x / 2) + x % 2
def ckp : Nat → Nat → Nat → Bool
  | 0, x, p => bcN x % 2 == p
  | n + 1, x, p => ckp n (2 * x) p && ckp n (2 * x + 1) (1 - p)
set_option maxRecDepth 100000 in
theorem ckp17 : ckp 17 0 0 = true := by decide +kernel
theorem ckp_spec : ∀ (n x p : Nat), n ≤ 17 → ckp n x p = true → p = pc (17 - n) x % 2 → ∀ w, w / 2 ^ n = x → bcN w % 2 = pc 17 w % 2
  | 0, x, p, hn, hc, hp, w, hw => by
    have e : w = x := by simpa using hw
    subst e
    have h1 : bcN w % 2 = p := eq_of_beq hc
    rw [h1, hp]
  | n + 1, x, p, hn, hc, hp, w, hw => by
    rw [ckp, Bool.and_eq_true] at hc
    have hx : w / 2 ^ n / 2 = x := by rw [Nat.div_div_eq_div_mul, ← Nat.pow_succ]; exact hw
    have hpc : pc (17 - n) (w / 2 ^ n) = pc (17 - (n + 1)) x + w / 2 ^ n % 2 := by
      rw [show 17 - n = (17 - (n + 1)) + 1 by omega, pc, hx]
    rcases Nat.mod_two_eq_zero_or_one (w / 2 ^ n) with z | z
    · exact ckp_spec n (2 * x) p (by omega) hc.1 (by rw [show 2 * x = w / 2 ^ n by omega, hpc, z, Nat.add_zero]; exact hp) w (by omega)
    · exact ckp_spec n (2 * x + 1) (1 - p) (by omega) hc.2 (by rw [show 2 * x + 1 = w / 2 ^ n by omega, hpc, z]; omega) w (by omega)
theorem bcN_par {w : Nat} (hw : w < 2 ^ 17) : bcN w % 2 = pc 17 w % 2 := ckp_spec 17 0 0 (by omega) ckp17 rfl w (Nat.div_eq_of_lt hw)
theorem bcN_lt (x : Nat) : bcN x < 64 := by
  unfold bcN
  exact Nat.lt_of_le_of_lt Nat.and_le_right (by omega)
