/-! words of the specs -/
noncomputable def cif {α : Type} (P : Prop) (a b : α) : α := @ite _ P (Classical.propDecidable P) a b
theorem cif_t {α : Type} {P : Prop} {a b : α} (h : P) : cif P a b = a := if_pos h
theorem cif_f {α : Type} {P : Prop} {a b : α} (h : ¬ P) : cif P a b = b := if_neg h
theorem cif_c {α : Type} {P : Prop} {a a2 b b2 : α} (h : P → a = a2) (h2 : ¬ P → b = b2) : cif P a b = cif P a2 b2 := by
  by_cases q : P
  · rw [cif_t q, cif_t q, h q]
  · rw [cif_f q, cif_f q, h2 q]
theorem cif_p {α : Type} {P Q : Prop} {a a2 b b2 : α} (e : P ↔ Q) (h : P → a = a2) (h2 : ¬ P → b = b2) : cif P a b = cif Q a2 b2 := by
  rw [propext e.symm]; exact cif_c h h2
abbrev toN (v : Int32) : Nat := v.toNatClampNeg
theorem toN_nI {k : Nat} (h : k < 2 ^ 31) : toN (nI k) = k := nI_clamp h
theorem isB_toN {v : Int32} {b : Nat} (h : isB v (nI b)) (hb : b < 2 ^ 31) : toN v < b ∧ v = nI (toN v) := by
  obtain ⟨k, hk, rfl⟩ := isB_nat h hb
  rw [toN_nI (by omega)]
  exact ⟨hk, rfl⟩
/-- what the class's cells always hold: so many deeds, subjects, readings; numbers in their bounds -/
def IX (σ : vSg) (nd ns nr : Nat) : Prop := (σ 2 3 = nI nd ∧ nd ≤ 5) ∧ (σ 2 4 = nI ns ∧ ns ≤ 4) ∧ (∀ d, d < nd → ∀ j, j < 3 → isB (σ (20 + d) j) 10) ∧ (∀ a, a < ns → isB (σ 8 a) 3 ∧ isB (σ 9 a) 4) ∧ (σ 3 3 = nI nr ∧ nr ≤ 8) ∧ (∀ r, r < nr → isB (σ 10 r) (nI ns) ∧ isB (σ 11 r) (nI nd) ∧ (σ 34 r = 0 ∨ σ 34 r = 1)) ∧ (∀ k, k < 4 → (σ (12 + k) 1 = 0 ∨ σ (12 + k) 1 = 1) ∧ isB (σ (12 + k) 3) 61) ∧ (0 < ns → 0 < nd)
theorem IX_off {σ ρ : vSg} {nd ns nr : Nat} (h : IX σ nd ns nr) (e : ∀ q, q ≠ 0 → q ≠ 5 → q ≠ 37 → ρ q = σ q) : IX ρ nd ns nr := by
  obtain ⟨h1, h2, h3, h4, h5, h6, h7, h8⟩ := h
  refine ⟨?_, ?_, ?_, ?_, ?_, ?_, ?_, h8⟩
  · rw [e 2 (by omega) (by omega) (by omega)]; exact h1
  · rw [e 2 (by omega) (by omega) (by omega)]; exact h2
  · by_cases hd : nd ≤ 5
    · intro d hd j hj; rw [e (20 + d) (by omega) (by omega) (by omega)]; exact h3 d hd j hj
    · exact absurd h1.2 hd
  · rw [e 8 (by omega) (by omega) (by omega), e 9 (by omega) (by omega) (by omega)]; exact h4
  · rw [e 3 (by omega) (by omega) (by omega)]; exact h5
  · rw [e 10 (by omega) (by omega) (by omega), e 11 (by omega) (by omega) (by omega), e 34 (by omega) (by omega) (by omega)]; exact h6
  · intro k hk; rw [e (12 + k) (by omega) (by omega) (by omega)]; exact h7 k hk
theorem IX_f {σ : vSg} {nd ns nr j : Nat} {v : Int32} (h : IX σ nd ns nr) : IX (up2 σ 0 j v) nd ns nr := IX_off h (fun _ h0 _ _ => up2_row h0)
def spanS (len i n : Int32) : Prop := 0 ≤ i ∧ i ≤ len ∧ 0 ≤ n ∧ n ≤ len - i
noncomputable def fAsS (th la lane : Int32) : Int32 := cif (th = 0) 1 (cif (la = lane) 0 2)
noncomputable def ofDeedS (nd : Int32) (dd : Nat → Nat → Int32) (d what : Int32) : Int32 := cif (isB d nd) (cif (isB what 3) (dd (toN d) (toN what)) (-2)) (-1)
noncomputable def ofSubjS (ns : Int32) (kd pa dn : Nat → Int32) (a what : Int32) : Int32 := cif (isB a ns) (cif (what = 0) (kd (toN a)) (cif (what = 1) (pa (toN a)) (cif (what = 2) (dn (toN a)) (-2)))) (-1)
noncomputable def fearOS (ns nd : Int32) (f : Nat → Nat → Int32) (a d : Int32) : Int32 := cif (isB a ns) (cif (isB d nd) (f (toN a) (toN d)) (-1)) (-1)
noncomputable def alterS (nd : Int32) (dd : Nat → Nat → Int32) (d what v : Int32) : Int32 := cif (isB d nd) (cif (isB what 3) (cif (isB v 10) (dd (toN d) (toN what)) (-2)) (-2)) (-1)
noncomputable def grantS (ns : Int32) (pa : Nat → Int32) (a v : Int32) : Int32 := cif (isB a ns) (cif (isB v 4) (pa (toN a)) (-2)) (-1)
