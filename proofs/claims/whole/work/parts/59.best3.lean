section BEST3
theorem sub_add : ∀ A, A < 256 → ∀ s, s < 256 → A ^^^ (A &&& s) = 0 → s = A + (s ^^^ (s &&& A)) := by decide +kernel
theorem or_add : ∀ A, A < 256 → ∀ f, f < 256 → f &&& A = 0 → A ||| f = A + f := by decide +kernel
end BEST3
