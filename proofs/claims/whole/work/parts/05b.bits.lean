/-! ones of a set, the one of a set -/
def bcN (n : Nat) : Nat → Nat
  | 0 => 0
  | k + 1 => bcN n k + n / 2 ^ k % 2
def bc (n : Nat) : Nat := bcN n 14
def bcx1 (a : Nat) : Nat := a - (a / 2 ^ 1 &&& 1431655765)
def bcx2 (a : Nat) : Nat := (bcx1 a &&& 858993459) + (bcx1 a / 2 ^ 2 &&& 858993459)
def bcx3 (a : Nat) : Nat := (bcx2 a + bcx2 a / 2 ^ 4) &&& 252645135
def bcx4 (a : Nat) : Nat := bcx3 a + bcx3 a / 2 ^ 8
def bcx5 (a : Nat) : Nat := bcx4 a + bcx4 a / 2 ^ 16
theorem bcx1_le (a : Nat) : bcx1 a ≤ a := Nat.sub_le _ _
theorem bcx2_le (a : Nat) : bcx2 a ≤ a + a := by
  have h1 := bcx1_le a
  have h2 : bcx1 a &&& 858993459 ≤ bcx1 a := Nat.and_le_left
  have h3 : bcx1 a / 2 ^ 2 &&& 858993459 ≤ bcx1 a / 2 ^ 2 := Nat.and_le_left
  unfold bcx2
  omega
theorem bcx3_le (a : Nat) : bcx3 a ≤ 4 * a := by
  have h1 := bcx2_le a
  have h2 : (bcx2 a + bcx2 a / 2 ^ 4) &&& 252645135 ≤ bcx2 a + bcx2 a / 2 ^ 4 := Nat.and_le_left
  unfold bcx3
  omega
theorem bcx4_le (a : Nat) : bcx4 a ≤ 8 * a := by
  have h1 := bcx3_le a
  unfold bcx4
  omega
theorem bcx5_le (a : Nat) : bcx5 a ≤ 16 * a := by
  have h1 := bcx4_le a
  unfold bcx5
  omega
theorem bcx_fin : ∀ i, i < 128 → ∀ j, j < 128 → bcx5 (128 * i + j) &&& 63 = bc (128 * i + j) := by decide +kernel
theorem bcx_e (a : Nat) (h : a < 16384) : bcx5 a &&& 63 = bc a := by
  have := bcx_fin (a / 128) (by omega) (a % 128) (by omega)
  rwa [Nat.div_add_mod] at this
theorem bc_fin : ∀ i, i < 128 → ∀ j, j < 128 → bc (128 * i + j) < 15 := by decide +kernel
theorem bc_lt (a : Nat) (h : a < 16384) : bc a < 15 := by
  have := bc_fin (a / 128) (by omega) (a % 128) (by omega)
  rwa [Nat.div_add_mod] at this
/-- the one of a set of one; NONE -/
def onl (a : Nat) : Int32 := if a = 1 then nI 0 else if a = 2 then nI 1 else if a = 4 then nI 2 else if a = 8 then nI 3 else if a = 16 then nI 4 else if a = 32 then nI 5 else -1000000
theorem onl_1 : ∀ a, a < 64 → bc a = 1 → a = 1 ∨ a = 2 ∨ a = 4 ∨ a = 8 ∨ a = 16 ∨ a = 32 := by decide +kernel
theorem onl_0 : ∀ a, a < 64 → ¬ bc a = 1 → onl a = -1000000 := by decide +kernel
