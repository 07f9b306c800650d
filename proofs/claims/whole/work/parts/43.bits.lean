/-- eight bits, read from the other end -/
def rv (s : Nat) : Nat := s % 2 * 128 + s / 2 % 2 * 64 + s / 4 % 2 * 32 + s / 8 % 2 * 16 + s / 16 % 2 * 8 + s / 32 % 2 * 4 + s / 64 % 2 * 2 + s / 128 % 2
theorem rv_tab : ∀ s, s < 256 → rv s < 256 ∧ rv (rv s) = s ∧ cn (rv s) = cn s ∧ ∀ p, p < 8 → (rv s).testBit (7 - p) = s.testBit p := by decide +kernel
theorem rv_msk : ∀ pc, pc < 9 → ∀ s, s < 256 → (decide (rv s &&& (255 / 2 ^ pc) = 0) = decide (s < 2 ^ pc)) := by decide +kernel
theorem neg_nat : ∀ d : Nat, d < 256 → iI (-(d : Int)) = iI ((4294967296 - d : Nat) : Int) := by decide +kernel
theorem fst_tab : ∀ a, a < 256 → ∀ b, b < 256 → ((a &&& (a ^^^ b)) &&& (4294967296 - (a ^^^ b)) < 256 ∧ (decide ((a &&& (a ^^^ b)) &&& (4294967296 - (a ^^^ b)) = 0) = !decide (rv b < rv a))) := by decide +kernel
