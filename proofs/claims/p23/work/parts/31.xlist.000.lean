/-! LISTS THAT GROW: the list, its elements' array, the element, and whatever else there is -/
theorem shr1 : ∀ c0 : Nat, c0 < 101 → nI c0 >>> ((1 : Int32) &&& 31) = nI (c0 / 2) := by decide +kernel
