theorem go_ldcw {p : Program} {l : Launch} {e : Env} {R : Room} {s : State} {m : MethodId} {args : Array Value} {below : List Frame} {meth : Method} {c : Code} {cells slots : Nat} {Q : State → Prop} {D : va_G} {cs : Nat → ClassId} {A : Nat → Prop} {ad : Nat → Nat} {N : Nat} {sh : Nat → vSh} {nL : Nat} {σ : vSg} {τ : vTa} {cc : ByteArray} {Ts : List Cond} {own : String} {pc : Nat} {lv : List (Nat × Value)} {rest : List Value} (X : Cx p m c cc nL s args Ts own D cs A ad N) {i : Nat} {v : Int32} (hc : Jvm.Cond.constant own i v ∈ Ts) (hdg : decode cc pc = .ok (.ldc_w i, 3)) (kk : Go p l e R s m args below meth c cells slots Q D cs A ad N sh nL σ τ (pc + 3) lv (.int v :: rest)) : Go p l e R s m args below meth c cells slots Q D cs A ad N sh nL σ τ (pc) lv (rest) := fun H locs ls hP hS hl => lv_ldcw X.1.1 X.1.2.1 X.1.2.2.2.1 (X.1.2.2.2.2 _ hc) hdg (kk H locs ls hP hS hl)
/-! Euclid's rows -/
theorem eu_prod {x y s B : Nat} (hy : 0 < y) (hxy : y < x) (hB : x * y * 2 ^ s ≤ B) : y * (x % y) * 2 ^ (s + 1) ≤ B := by
  have h1 := Nat.mod_lt x hy
  have h2 : x % y + y ≤ x := by
    have h3 := Nat.div_add_mod x y
    have h4 : 1 ≤ x / y := (Nat.one_le_div_iff hy).mpr (Nat.le_of_lt hxy)
    have h5 : y * 1 ≤ y * (x / y) := Nat.mul_le_mul_left y h4
    omega
  have h6 : y * (x % y) * 2 ≤ x * y := by
    rw [Nat.mul_comm x y, Nat.mul_assoc]
    exact Nat.mul_le_mul_left y (by omega)
  calc y * (x % y) * 2 ^ (s + 1) = y * (x % y) * 2 * 2 ^ s := by rw [Nat.pow_succ, Nat.mul_comm (2 ^ s) 2, ← Nat.mul_assoc]
    _ ≤ x * y * 2 ^ s := Nat.mul_le_mul_right _ h6
    _ ≤ B := hB
def euI (a b s x y : Nat) : Prop := Nat.gcd x y = Nat.gcd a b ∧ x < 2 ^ 62 ∧ y < 2 ^ 62 ∧ s ≤ 128 ∧ ((s = 0 ∧ x = a ∧ y = b) ∨ (1 ≤ s ∧ y < x ∧ x * y * 2 ^ (s - 1) ≤ a * b))
theorem euI_1 {a b s x y : Nat} (h : euI a b s x y) (hs : s < 128) (hy : 0 < y) : euI a b (s + 1) y (x % y) := by
  obtain ⟨h1, h2, h3, h4, h5⟩ := h
  refine ⟨?_, h3, Nat.lt_of_le_of_lt (Nat.mod_le _ _) h2, by omega, Or.inr ⟨by omega, Nat.mod_lt x hy, ?_⟩⟩
  · rw [← h1, Nat.gcd_comm x y, Nat.gcd_rec y x, Nat.gcd_comm]
  · rcases h5 with ⟨e1, e2, e3⟩ | ⟨h6, h7, h8⟩
    · subst e1; subst e2; subst e3
      show y * (x % y) * 2 ^ 0 ≤ x * y
      rw [Nat.pow_zero, Nat.mul_one, Nat.mul_comm x y]
      exact Nat.mul_le_mul_left y (Nat.mod_le _ _)
    · have := eu_prod hy h7 h8
      rw [show s + 1 - 1 = s - 1 + 1 by omega]
      exact this
theorem euI_end {a b s x y : Nat} (h : euI a b s x y) (hs : 128 ≤ s) (hB : a * b < 2 ^ 120) : y = 0 := by
  obtain ⟨h1, h2, h3, h4, h5⟩ := h
  rcases h5 with ⟨e1, -, -⟩ | ⟨h6, h7, h8⟩
  · omega
  · rcases Nat.eq_zero_or_pos y with q | q
    · exact q
    · have h9 : 1 * 2 ^ (s - 1) ≤ x * y * 2 ^ (s - 1) := Nat.mul_le_mul_right _ (Nat.mul_pos (by omega) q)
      have h10 : 2 ^ 120 ≤ 2 ^ (s - 1) := Nat.pow_le_pow_right (by omega) (by omega)
      omega
theorem lN_0 : lN 0 = 0 := rfl
theorem lN_eq0 {n : Nat} (h : n < 2 ^ 63) : lN n = 0 ↔ n = 0 := by rw [← lN_0]; exact pk_lEQ h (by decide)
theorem lN_ne0 {n : Nat} (h : n < 2 ^ 63) (h0 : ¬ lN n = 0) : 0 < n := Nat.pos_of_ne_zero (fun q => h0 (by rw [q]; rfl))
/-- a share in least terms: its upper or its lower number -/
def shN (a b : Nat) (which : Int32) : Nat := (if which = 0 then a else b) / Nat.gcd a b
theorem hdX6_commonDivisor : yX6_commonDivisor.cls ≠ "java/lang/invoke/MethodHandle" ∧ yX6_commonDivisor.cls ≠ "java/lang/invoke/VarHandle" ∧ (parseMethodDescriptor yX6_commonDivisor.desc).map (fun d => d.parameters.length) = some 2 := by decide +kernel
set_option maxHeartbeats 4000000 in
set_option maxRecDepth 100000 in
theorem kX6_commonDivisor (l : Launch) (D : va_G) (cs : Nat → ClassId) (ad : Nat → Nat) (N kt : Nat) (hN : 58 ≤ N) (σ : vSg) (τ : vTa) (a : Nat) (b : Nat)   (ha : a < 2 ^ 62) (hb : b < 2 ^ 62) (hB : a * b < 2 ^ 120) : CtL l yX6_commonDivisor wsX6_commonDivisor ({ frames := 0, cells := 0, slots := 0, locals := 0 }) D cs ad N (shP kt) [.long (lN a), .long (lN b)] σ τ 0 0 (fun r9 σ9 τ9 => lN (Nat.gcd a b) = r9 ∧ σ = σ9 ∧ τ = τ9) := by
  refine ct_L (cc := cX6_commonDivisor) (maxL := 11) (by decide) rfl (Nat.le_of_ble_eq_true rfl) rfl rfl ?_
  intro p e s m args below meth c A X hr hlk
  refine go_lload_n X dX6_commonDivisor_0 0 rfl rfl ?_
  refine go_lstore X (lv2 := [(4, .long (lN a)), (0, .long (lN a)), (2, .long (lN b))]) dX6_commonDivisor_1 (by decide) rfl ?_
  refine go_lload_n X dX6_commonDivisor_3 2 rfl rfl ?_
  refine go_lstore X (lv2 := [(6, .long (lN b)), (4, .long (lN a)), (0, .long (lN a)), (2, .long (lN b))]) dX6_commonDivisor_4 (by decide) rfl ?_
  refine go_iconst X (v := 0) dX6_commonDivisor_6 (by decide) ?_
  refine go_istore X (lv2 := [(8, .int 0), (6, .long (lN b)), (4, .long (lN a)), (0, .long (lN a)), (2, .long (lN b))]) dX6_commonDivisor_7 (by decide) rfl ?_
  refine go_loop (ι := Nat × Nat × Nat) (fun i9 => (euI a b i9.1 i9.2.1 i9.2.2)) (fun i9 => 128 - i9.1) (fun i9 => σ) (fun i9 => τ) (fun i9 => [(8, .int (nI i9.1)), (6, .long (lN i9.2.2)), (4, .long (lN i9.2.1)), (0, .long (lN a)), (2, .long (lN b))]) (fun i9 => []) (0, a, b) (by (try dsimp only); exact ⟨rfl, ha, hb, by omega, Or.inl ⟨rfl, rfl, rfl⟩⟩) ?_
  intro i9 hi9 ih9
  obtain ⟨q, x, y⟩ := i9
  (try dsimp only at hi9); (try dsimp only at ih9); (try dsimp only)
  have hE := hi9
  have hx62 := hE.2.1
  have hy62 := hE.2.2.1
  have hq := hE.2.2.2.1
  refine go_iload X dX6_commonDivisor_9 0 rfl ?_
  refine go_sipush X (v := 128) dX6_commonDivisor_11 (by decide) ?_
  refine go_icmpn_ge X (tgt := 45) dX6_commonDivisor_14 (by decide) (a := q) (b := 128) rfl rfl (by omega) (by omega) (fun c14 => ?_) (fun c14 => ?_)
  · skip
    refine go_lload X dX6_commonDivisor_45 2 rfl ?_
    exact go_lreturn X hr hlk dX6_commonDivisor_47 (⟨by have hg := hE.1; have h0 := euI_end hE c14 hB; rw [h0, Nat.gcd_zero_right] at hg; rw [hg], rfl, rfl⟩)
  · skip
    refine go_lload X dX6_commonDivisor_17 1 rfl ?_
    refine go_lconst X (v := 0) dX6_commonDivisor_19 (by decide) ?_
    refine go_lcmp X dX6_commonDivisor_20 ?_
    refine go_lcmp_eq X (tgt := 45) dX6_commonDivisor_21 (by decide) (fun c21 => ?_) (fun c21 => ?_)
    · skip
      refine go_lload X dX6_commonDivisor_45 2 rfl ?_
      exact go_lreturn X hr hlk dX6_commonDivisor_47 (⟨by have hg := hE.1; have h0 := (lN_eq0 (by omega)).mp c21; rw [h0, Nat.gcd_zero_right] at hg; rw [hg], rfl, rfl⟩)
    · skip
      refine go_lload X dX6_commonDivisor_24 2 rfl ?_
      refine go_lload X dX6_commonDivisor_26 1 rfl ?_
      refine go_lrem X dX6_commonDivisor_28 c21 ?_
      refine go_topl (v := lN (x % y)) (pk_lRem (by omega) (lN_ne0 (by omega) c21) (by omega)) ?_
      refine go_lstore X (lv2 := [(9, .long (lN (x % y))), (8, .int (nI q)), (6, .long (lN y)), (4, .long (lN x)), (0, .long (lN a)), (2, .long (lN b))]) dX6_commonDivisor_29 (by decide) rfl ?_
      refine go_lload X dX6_commonDivisor_31 2 rfl ?_
      refine go_lstore X (lv2 := [(4, .long (lN y)), (9, .long (lN (x % y))), (8, .int (nI q)), (6, .long (lN y)), (0, .long (lN a)), (2, .long (lN b))]) dX6_commonDivisor_33 (by decide) rfl ?_
      refine go_lload X dX6_commonDivisor_35 1 rfl ?_
      refine go_lstore X (lv2 := [(6, .long (lN (x % y))), (4, .long (lN y)), (9, .long (lN (x % y))), (8, .int (nI q)), (0, .long (lN a)), (2, .long (lN b))]) dX6_commonDivisor_37 (by decide) rfl ?_
      refine go_iinc X (v := nI (q + 1)) (lv2 := [(8, .int (nI (q + 1))), (6, .long (lN (x % y))), (4, .long (lN y)), (9, .long (lN (x % y))), (0, .long (lN a)), (2, .long (lN b))]) dX6_commonDivisor_39 (k := 3) rfl (nI_add q 1) (by decide) rfl ?_
      refine go_goto X (tgt := 9) dX6_commonDivisor_42 (by decide) ?_
      refine go_lvsub [0, 1, 2, 4, 5] rfl ?_
      exact ih9 (q + 1, y, x % y) (by (try dsimp only); exact (euI_1 hE c14 (lN_ne0 (by have := hE.2.2.1; omega) c21))) (by (try dsimp only); omega)

theorem shN_1 {a b : Nat} {which : Int32} (h : lN (Nat.gcd a b) ≤ 1) (hb : 0 < b) (hl : Nat.gcd a b < 2 ^ 63) : shN a b which = if which = 0 then a else b := by
  have h1 : Nat.gcd a b ≤ 1 := (pk_lLE hl (by decide : 1 < 2 ^ 63)).mp h
  have h2 : 0 < Nat.gcd a b := Nat.gcd_pos_of_pos_right a hb
  unfold shN
  rw [show Nat.gcd a b = 1 by omega, Nat.div_one]
theorem hdX6_inLeastTerms : yX6_inLeastTerms.cls ≠ "java/lang/invoke/MethodHandle" ∧ yX6_inLeastTerms.cls ≠ "java/lang/invoke/VarHandle" ∧ (parseMethodDescriptor yX6_inLeastTerms.desc).map (fun d => d.parameters.length) = some 3 := by decide +kernel
set_option maxHeartbeats 4000000 in
set_option maxRecDepth 100000 in
theorem kX6_inLeastTerms (l : Launch) (D : va_G) (cs : Nat → ClassId) (ad : Nat → Nat) (N kt : Nat) (hN : 58 ≤ N) (σ : vSg) (τ : vTa) (a : Nat) (b : Nat) (which : Int32)   (ha : a < 2 ^ 62) (hb : b < 2 ^ 62) (hB : a * b < 2 ^ 120) (hb0 : 0 < b) : CtL l yX6_inLeastTerms wsX6_inLeastTerms ({ frames := 1, cells := 0, slots := 0, locals := 30 }) D cs ad N (shP kt) [.long (lN a), .long (lN b), .int which] σ τ 0 0 (fun r9 σ9 τ9 => lN (shN a b which) = r9 ∧ σ = σ9 ∧ τ = τ9) := by
  refine ct_L (cc := cX6_inLeastTerms) (maxL := 9) (by decide) rfl (Nat.le_of_ble_eq_true rfl) rfl rfl ?_
  intro p e s m args below meth c A X hr hlk
  have hg0 : 0 < Nat.gcd a b := Nat.gcd_pos_of_pos_right a hb0
  have hgl : Nat.gcd a b ≤ b := Nat.gcd_le_right a hb0
  refine go_iload X dX6_inLeastTerms_0 2 rfl ?_
  refine go_if_ne X (tgt := 9) dX6_inLeastTerms_2 (by decide) (fun c2 => ?_) (fun c2 => ?_)
  · skip
    refine go_lload_n X dX6_inLeastTerms_9 1 rfl rfl ?_
    refine go_lstore X (lv2 := [(5, .long (lN b)), (0, .long (lN a)), (2, .long (lN b)), (4, .int which)]) dX6_inLeastTerms_10 (by decide) rfl ?_
    refine go_lload_n X dX6_inLeastTerms_12 1 rfl rfl ?_
    refine go_lload_n X dX6_inLeastTerms_13 2 rfl rfl ?_
    refine go_callSL X (As := [.long (lN a), .long (lN b)]) (rest := []) (kX6_commonDivisor l D cs ad N kt (by omega) σ τ a b (by omega) (by omega) (by omega)) gX6_inLeastTerms_X6_commonDivisor rfl hdX6_commonDivisor ⟨rfl, rfl, by decide, by decide, by decide, by decide⟩ rfl rfl (Nat.le_of_ble_eq_true rfl) dX6_inLeastTerms_14 (fun r9 σ9 τ9 h9 => ?_)
    obtain ⟨rfl, rfl, rfl⟩ := h9
    refine go_lstore X (lv2 := [(7, .long (lN (Nat.gcd a b))), (5, .long (lN b)), (0, .long (lN a)), (2, .long (lN b)), (4, .int which)]) dX6_inLeastTerms_17 (by decide) rfl ?_
    refine go_lload X dX6_inLeastTerms_19 0 rfl ?_
    refine go_lconst X (v := 1) dX6_inLeastTerms_21 (by decide) ?_
    refine go_lcmp X dX6_inLeastTerms_22 ?_
    refine go_lcmp_le X (tgt := 34) dX6_inLeastTerms_23 (by decide) (fun c23 => ?_) (fun c23 => ?_)
    · skip
      refine go_lload X dX6_inLeastTerms_34 1 rfl ?_
      exact go_lreturn X hr hlk dX6_inLeastTerms_36 (⟨by rw [shN_1 c23 hb0 (by omega), if_neg c2], rfl, rfl⟩)
    · skip
      refine go_lload X dX6_inLeastTerms_26 1 rfl ?_
      refine go_lload X dX6_inLeastTerms_28 0 rfl ?_
      refine go_ldiv X dX6_inLeastTerms_30 (fun q => by have := (lN_eq0 (by omega)).mp q; omega) ?_
      refine go_goto X (tgt := 36) dX6_inLeastTerms_31 (by decide) ?_
      exact go_lreturn X hr hlk dX6_inLeastTerms_36 (⟨by unfold shN; rw [if_neg c2]; exact (pk_lDiv (by omega) hg0 (by omega)).symm, rfl, rfl⟩)
  · skip
    refine go_lload_n X dX6_inLeastTerms_5 0 rfl rfl ?_
    refine go_goto X (tgt := 10) dX6_inLeastTerms_6 (by decide) ?_
    refine go_lstore X (lv2 := [(5, .long (lN a)), (0, .long (lN a)), (2, .long (lN b)), (4, .int which)]) dX6_inLeastTerms_10 (by decide) rfl ?_
    refine go_lload_n X dX6_inLeastTerms_12 1 rfl rfl ?_
    refine go_lload_n X dX6_inLeastTerms_13 2 rfl rfl ?_
    refine go_callSL X (As := [.long (lN a), .long (lN b)]) (rest := []) (kX6_commonDivisor l D cs ad N kt (by omega) σ τ a b (by omega) (by omega) (by omega)) gX6_inLeastTerms_X6_commonDivisor rfl hdX6_commonDivisor ⟨rfl, rfl, by decide, by decide, by decide, by decide⟩ rfl rfl (Nat.le_of_ble_eq_true rfl) dX6_inLeastTerms_14 (fun r9 σ9 τ9 h9 => ?_)
    obtain ⟨rfl, rfl, rfl⟩ := h9
    refine go_lstore X (lv2 := [(7, .long (lN (Nat.gcd a b))), (5, .long (lN a)), (0, .long (lN a)), (2, .long (lN b)), (4, .int which)]) dX6_inLeastTerms_17 (by decide) rfl ?_
    refine go_lload X dX6_inLeastTerms_19 0 rfl ?_
    refine go_lconst X (v := 1) dX6_inLeastTerms_21 (by decide) ?_
    refine go_lcmp X dX6_inLeastTerms_22 ?_
    refine go_lcmp_le X (tgt := 34) dX6_inLeastTerms_23 (by decide) (fun c23 => ?_) (fun c23 => ?_)
    · skip
      refine go_lload X dX6_inLeastTerms_34 1 rfl ?_
      exact go_lreturn X hr hlk dX6_inLeastTerms_36 (⟨by rw [shN_1 c23 hb0 (by omega), if_pos c2], rfl, rfl⟩)
    · skip
      refine go_lload X dX6_inLeastTerms_26 1 rfl ?_
      refine go_lload X dX6_inLeastTerms_28 0 rfl ?_
      refine go_ldiv X dX6_inLeastTerms_30 (fun q => by have := (lN_eq0 (by omega)).mp q; omega) ?_
      refine go_goto X (tgt := 36) dX6_inLeastTerms_31 (by decide) ?_
      exact go_lreturn X hr hlk dX6_inLeastTerms_36 (⟨by unfold shN; rw [if_pos c2]; exact (pk_lDiv (by omega) hg0 (by omega)).symm, rfl, rfl⟩)

