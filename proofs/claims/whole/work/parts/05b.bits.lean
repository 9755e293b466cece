def pc1 (k : Nat) : Nat := [0, 1, 1, 2, 4, 5, 5, 6, 4, 5, 5, 6, 8, 9, 9, 10].getD k 0
def popN (k : Nat) : Nat := [0, 1, 1, 2, 1, 2, 2, 3, 1, 2, 2, 3, 2, 3, 3, 4].getD k 0
theorem bc1 : ∀ k, k < 16 → nI k - (((nI k).toUInt32 >>> ((1 : Int32).toUInt32 &&& Int32.toUInt32 31)).toInt32 &&& 1431655765) = nI (pc1 k) := by decide +kernel
theorem bc2 : ∀ k, k < 16 → (nI (pc1 k) &&& 858993459) + (((nI (pc1 k)).toUInt32 >>> ((2 : Int32).toUInt32 &&& Int32.toUInt32 31)).toInt32 &&& 858993459) = nI (popN k) := by decide +kernel
theorem bc3 : ∀ k, k < 16 → ((nI (popN k) + ((nI (popN k)).toUInt32 >>> ((4 : Int32).toUInt32 &&& Int32.toUInt32 31)).toInt32) &&& 252645135) = nI (popN k) := by decide +kernel
theorem bc4 : ∀ k, k < 16 → (nI (popN k) + ((nI (popN k)).toUInt32 >>> ((8 : Int32).toUInt32 &&& Int32.toUInt32 31)).toInt32) = nI (popN k) := by decide +kernel
theorem bc5 : ∀ k, k < 16 → (nI (popN k) + ((nI (popN k)).toUInt32 >>> ((16 : Int32).toUInt32 &&& Int32.toUInt32 31)).toInt32) = nI (popN k) := by decide +kernel
theorem bc6 : ∀ k, k < 16 → nI (popN k) &&& 63 = nI (popN k) := by decide +kernel
theorem bc_or : ∀ m, m < 4 → ∀ k, k < 2 ^ m → nI k ||| (1 <<< (nI m &&& 31)) = nI (k + 2 ^ m) := by decide +kernel
