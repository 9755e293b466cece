theorem dg_iff {x : Int32} {hi hh : Int32} {z : Nat} (hz : z ≤ 9) (h1 : hi.toInt = z) (h2 : hh.toInt = z + 48) : (0 ≤ x - 48 ∧ x - 48 ≤ hi) ↔ dg x hh := by
  unfold dg
  have a1 := Int32.toInt_lt x
  have a2 := Int32.le_toInt x
  rw [Int32.le_iff_toInt_le, Int32.le_iff_toInt_le, Int32.le_iff_toInt_le, Int32.le_iff_toInt_le, Int32.toInt_sub, h1, h2, show (48 : Int32).toInt = 48 from rfl, show (0 : Int32).toInt = 0 from rfl]
  by_cases h : x.toInt < -2147483600
  · rw [show (x.toInt - 48).bmod (2 ^ 32) = x.toInt - 48 + 4294967296 from by
      have e : (x.toInt - 48).bmod (2 ^ 32) = (x.toInt - 48 + 4294967296).bmod (2 ^ 32) := by
        rw [show (4294967296 : Int) = ((2 ^ 32 : Nat) : Int) from rfl, Int.add_bmod_right]
      rw [e]
      exact Int.bmod_eq_of_le (by omega) (by omega)]
    omega
  · rw [Int.bmod_eq_of_le (by omega) (by omega)]
    omega
theorem dg_pos {x hh : Int32} {z : Nat} (hz : z ≤ 9) (h2 : hh.toInt = z + 48) (h : dg x hh) : 0 ≤ x - 48 := by
  have := (dg_iff (x := x) (hi := nI z) hz (nI_toInt (by omega)) h2).mpr h
  exact this.1
theorem dg_lt {ce : Nat → Int32} {fr n q : Nat} {hh : Int32} (h : dg (cdS ce fr n q) hh) : q < n := by
  by_cases hq : q < n
  · exact hq
  · unfold cdS at h
    rw [if_neg hq] at h
    exact absurd h.1 (by decide)
theorem cd_end {ce : Nat → Int32} {fr n q : Nat} (h : n ≤ q) : cdS ce fr n q = -9 := if_neg (by omega)
theorem hdX7_codeAt : yX7_codeAt.cls = RX7 ∧ yX7_codeAt.cls ≠ "java/lang/invoke/MethodHandle" ∧ yX7_codeAt.cls ≠ "java/lang/invoke/VarHandle" ∧ (parseMethodDescriptor yX7_codeAt.desc).map (fun d => d.parameters.length) = some 2 := by decide +kernel
set_option maxHeartbeats 4000000 in
set_option maxRecDepth 100000 in
theorem kX7_codeAt (l : Launch) (D : va_G) (cs : Nat → ClassId) (ad : Nat → Nat) (N kt : Nat) (hN : 58 ≤ N) (σ : vSg) (τ : vTa) (fr : Nat) (n : Nat) (ce : Nat → Int32) (q : Nat)   (hce : σ 56 = ce) (hq : q < 1000) (hat : σ 38 8 = nI q) (hle : fr + n ≤ 240) : CtI l yX7_codeAt wsX7_codeAt ({ frames := 0, cells := 0, slots := 0, locals := 0 }) D cs ad N (shP kt) [.ref (ad (38)), .int (nI fr), .int (nI n)] σ τ 0 0 (fun r9 σ9 τ9 => cdS ce fr n q = r9 ∧ σ = σ9 ∧ τ = τ9) := by
  refine ct_I (cc := cX7_codeAt) (maxL := 3) (by decide) rfl (Nat.le_of_ble_eq_true rfl) rfl rfl ?_
  intro p e s m args below meth c A X hr hlk
  refine go_aload_n X dX7_codeAt_0 0 rfl rfl ?_
  refine go_geti X (n := 38) (j := 8) (by omega) rfl rfl (fun _ h9 => List.mem_cons_of_mem _ (List.mem_append_right _ h9)) (by decide) (List.mem_cons_of_mem _ (List.mem_append_left _ (List.mem_of_getElem? (i := 0) rfl))) rfl dX7_codeAt_1 ?_
  refine go_topi (v := nI q) (hat) ?_
  refine go_iload_n X dX7_codeAt_4 2 rfl rfl ?_
  refine go_icmpn_ge X (tgt := 22) dX7_codeAt_5 (by decide) (a := q) (b := n) rfl rfl (by omega) (by omega) (fun c5 => ?_) (fun c5 => ?_)
  · skip
    refine go_bipush X (v := (-9)) dX7_codeAt_22 (by decide) ?_
    exact go_ireturn X hr hlk dX7_codeAt_24 (⟨if_neg (by omega), rfl, rfl⟩)
  · skip
    refine go_aload_n X dX7_codeAt_8 0 rfl rfl ?_
    refine go_getr X (n := 38) (j := 27) (by omega) rfl rfl (fun _ h9 => List.mem_cons_of_mem _ (List.mem_append_right _ h9)) (by decide) (List.mem_cons_of_mem _ (List.mem_append_left _ (List.mem_of_getElem? (i := 1) rfl))) rfl dX7_codeAt_9 ?_
    refine go_iload_n X dX7_codeAt_12 1 rfl rfl ?_
    refine go_aload_n X dX7_codeAt_13 0 rfl rfl ?_
    refine go_geti X (n := 38) (j := 8) (by omega) rfl rfl (fun _ h9 => List.mem_cons_of_mem _ (List.mem_append_right _ h9)) (by decide) (List.mem_cons_of_mem _ (List.mem_append_left _ (List.mem_of_getElem? (i := 0) rfl))) rfl dX7_codeAt_14 ?_
    refine go_topi (v := nI q) (hat) ?_
    refine go_iadd X dX7_codeAt_17 ?_
    refine go_topi (v := nI (fr + q)) (nI_add fr q) ?_
    refine go_iald X (n := 56) (k := fr + q) (by omega) rfl rfl (by omega) (by omega) dX7_codeAt_18 ?_
    refine go_topi (v := ce (fr + q)) (congrFun hce _) ?_
    refine go_goto X (tgt := 24) dX7_codeAt_19 (by decide) ?_
    exact go_ireturn X hr hlk dX7_codeAt_24 (⟨if_pos c5, rfl, rfl⟩)

theorem hdX7_figure : yX7_figure.cls = RX7 ∧ yX7_figure.cls ≠ "java/lang/invoke/MethodHandle" ∧ yX7_figure.cls ≠ "java/lang/invoke/VarHandle" ∧ (parseMethodDescriptor yX7_figure.desc).map (fun d => d.parameters.length) = some 4 := by decide +kernel
set_option maxHeartbeats 4000000 in
set_option maxRecDepth 100000 in
theorem kX7_figure (l : Launch) (D : va_G) (cs : Nat → ClassId) (ad : Nat → Nat) (N kt : Nat) (hN : 58 ≤ N) (σ : vSg) (τ : vTa) (fr : Nat) (n : Nat) (hi : Int32) (ce : Nat → Int32) (q : Nat) (hh : Int32) (z : Nat)   (hce : σ 56 = ce) (hq : q < 1000) (hat : σ 38 8 = nI q) (hle : fr + n ≤ 240) (hz : z ≤ 9) (h1 : hi.toInt = z) (h2 : hh.toInt = z + 48) : CtI l yX7_figure wsX7_figure ({ frames := 1, cells := 0, slots := 0, locals := 25 }) D cs ad N (shP kt) [.ref (ad (38)), .int (nI fr), .int (nI n), .int 0, .int hi] σ τ 0 0 (fun r9 σ9 τ9 => cif (dg (cdS ce fr n q) hh) (cdS ce fr n q - 48) (-9) = r9 ∧ (up2 σ 38 8 (cif (dg (cdS ce fr n q) hh) (nI (q + 1)) (nI q))) = σ9 ∧ τ = τ9) := by
  refine ct_I (cc := cX7_figure) (maxL := 7) (by decide) rfl (Nat.le_of_ble_eq_true rfl) rfl rfl ?_
  intro p e s m args below meth c A X hr hlk
  refine go_aload_n X dX7_figure_0 0 rfl rfl ?_
  refine go_iload_n X dX7_figure_1 1 rfl rfl ?_
  refine go_iload_n X dX7_figure_2 2 rfl rfl ?_
  refine go_callVI X (n := 38) (As := [.int (nI fr), .int (nI n)]) (rest := []) (kX7_codeAt l D cs ad N kt (by omega) σ τ fr n ce q hce (by omega) hat (by omega)) gX7_figure_X7_codeAt rfl hdX7_codeAt ⟨rfl, rfl, by decide, by decide, by decide, by decide⟩ (by omega) rfl rfl rfl rfl (Nat.le_of_ble_eq_true rfl) dX7_figure_3 (fun r9 σ9 τ9 h9 => ?_)
  obtain ⟨rfl, rfl, rfl⟩ := h9
  refine go_bipush X (v := 48) dX7_figure_6 (by decide) ?_
  refine go_isub X dX7_figure_8 ?_
  refine go_istore X (lv2 := [(5, .int ((cdS ce fr n q) - 48)), (0, .ref (ad (38))), (1, .int (nI fr)), (2, .int (nI n)), (3, .int 0), (4, .int hi)]) dX7_figure_9 (by decide) rfl ?_
  refine go_iload X dX7_figure_11 0 rfl ?_
  refine go_i2l X (v := ((cdS ce fr n q) - 48).toInt64) dX7_figure_13 rfl ?_
  refine go_iload_n X dX7_figure_14 4 rfl rfl ?_
  refine go_i2l X (v := 0) dX7_figure_15 (by decide) ?_
  refine go_iload X dX7_figure_16 5 rfl ?_
  refine go_i2l X (v := hi.toInt64) dX7_figure_18 rfl ?_
  refine go_callSI X (As := [.long (((cdS ce fr n q) - 48).toInt64), .long 0, .long hi.toInt64]) (rest := []) (kX7_in l D cs ad N kt (by omega) σ τ (((cdS ce fr n q) - 48).toInt64) 0 hi.toInt64) gX7_figure_X7_in rfl hdX7_in ⟨rfl, rfl, by decide, by decide, by decide, by decide⟩ rfl rfl (Nat.le_of_ble_eq_true rfl) dX7_figure_19 (fun r9 σ9 τ9 h9 => ?_)
  obtain ⟨rfl, rfl, rfl⟩ := h9
  refine go_topi (v := b2i (0 ≤ ((cdS ce fr n q) - 48) ∧ ((cdS ce fr n q) - 48) ≤ hi)) (b2i_c (in_gen rfl (Int32.toInt_toInt64 _))) ?_
  refine go_istore X (lv2 := [(6, .int (b2i (0 ≤ ((cdS ce fr n q) - 48) ∧ ((cdS ce fr n q) - 48) ≤ hi))), (5, .int ((cdS ce fr n q) - 48)), (0, .ref (ad (38))), (1, .int (nI fr)), (2, .int (nI n)), (3, .int 0), (4, .int hi)]) dX7_figure_22 (by decide) rfl ?_
  refine go_aload_n X dX7_figure_24 2 rfl rfl ?_
  refine go_dup X dX7_figure_25 rfl ?_
  refine go_geti X (n := 38) (j := 8) (by omega) rfl rfl (fun _ h9 => List.mem_cons_of_mem _ (List.mem_append_right _ h9)) (by decide) (List.mem_cons_of_mem _ (List.mem_append_left _ (List.mem_of_getElem? (i := 0) rfl))) rfl dX7_figure_26 ?_
  refine go_topi (v := nI q) (hat) ?_
  refine go_iload X dX7_figure_29 0 rfl ?_
  refine go_ifb_eq X (tgt := 38) dX7_figure_31 (by decide) (fun c31 => ?_) (fun c31 => ?_)
  · skip
    refine go_iconst X (v := 0) dX7_figure_38 (by decide) ?_
    refine go_iadd X dX7_figure_39 ?_
    refine go_topi (v := nI (q + 0)) (nI_add q 0) ?_
    refine go_puti X (n := 38) (j := 8) (ty := .int) (by omega) rfl rfl (fun _ h9 => List.mem_cons_of_mem _ (List.mem_append_right _ h9)) (by decide) (List.mem_cons_of_mem _ (List.mem_append_left _ (List.mem_of_getElem? (i := 0) rfl))) rfl tyX7 tyX7_ok nmX7 rfl (by decide +kernel) rfl rfl dX7_figure_40 ?_
    refine go_iload X dX7_figure_43 0 rfl ?_
    refine go_ifb_eq X (tgt := 53) dX7_figure_45 (by decide) (fun c45 => ?_) (fun h9 => absurd h9 c31)
    refine go_bipush X (v := (-9)) dX7_figure_53 (by decide) ?_
    exact go_ireturn X hr hlk dX7_figure_55 ((have hd9 := fun q => c31 ((dg_iff hz h1 h2).mpr q); ⟨cif_f hd9, by rw [cif_f hd9]; rfl, rfl⟩))
  · skip
    refine go_iconst X (v := 1) dX7_figure_34 (by decide) ?_
    refine go_goto X (tgt := 39) dX7_figure_35 (by decide) ?_
    refine go_iadd X dX7_figure_39 ?_
    refine go_topi (v := nI (q + 1)) (nI_add q 1) ?_
    refine go_puti X (n := 38) (j := 8) (ty := .int) (by omega) rfl rfl (fun _ h9 => List.mem_cons_of_mem _ (List.mem_append_right _ h9)) (by decide) (List.mem_cons_of_mem _ (List.mem_append_left _ (List.mem_of_getElem? (i := 0) rfl))) rfl tyX7 tyX7_ok nmX7 rfl (by decide +kernel) rfl rfl dX7_figure_40 ?_
    refine go_iload X dX7_figure_43 0 rfl ?_
    refine go_ifb_eq X (tgt := 53) dX7_figure_45 (by decide) (fun h9 => absurd c31 h9) (fun c45 => ?_)
    refine go_iload X dX7_figure_48 1 rfl ?_
    refine go_goto X (tgt := 55) dX7_figure_50 (by decide) ?_
    exact go_ireturn X hr hlk dX7_figure_55 ((have hd9 := (dg_iff hz h1 h2).mp c31; ⟨cif_t hd9, by rw [cif_t hd9], rfl⟩))

/-- what reading a deed at place q comes to -/
def rdP (c : Nat → Int32) (σ : vSg) (q d : Nat) (r : Int32) (ρ : vSg) : Prop :=
  ((d = 5 ∨ ¬ c q = 47) ∧ r = 0 ∧ ρ = σ) ∨
  ((¬ d = 5 ∧ c q = 47) ∧ ¬ dg (c (q + 1)) 57 ∧ r = 0 ∧ ρ = up2 σ 38 8 (nI (q + 1))) ∨
  ((¬ d = 5 ∧ c q = 47) ∧ dg (c (q + 1)) 57 ∧ ¬ dg (c (q + 1 + 1)) 57 ∧ r = 0 ∧ ρ = up2 σ 38 8 (nI (q + 1 + 1))) ∨
  ((¬ d = 5 ∧ c q = 47) ∧ dg (c (q + 1)) 57 ∧ dg (c (q + 1 + 1)) 57 ∧ ¬ dg (c (q + 1 + 1 + 1)) 57 ∧ r = 0 ∧ ρ = up2 σ 38 8 (nI (q + 1 + 1 + 1))) ∨
  ((¬ d = 5 ∧ c q = 47) ∧ dg (c (q + 1)) 57 ∧ dg (c (q + 1 + 1)) 57 ∧ dg (c (q + 1 + 1 + 1)) 57 ∧ r = 1 ∧ ρ = up2 (up2 (up2 (up2 (up2 σ 38 8 (nI (q + 1 + 1 + 1 + 1))) 44 d (c (q + 1) - 48)) 45 d (c (q + 1 + 1) - 48)) 46 d (c (q + 1 + 1 + 1) - 48)) 38 9 (nI (d + 1)))
def rsP (c : Nat → Int32) (σ : vSg) (q a : Nat) (r : Int32) (ρ : vSg) : Prop :=
  ((a = 4 ∨ ¬ c q = 59) ∧ r = 0 ∧ ρ = σ) ∨
  ((¬ a = 4 ∧ c q = 59) ∧ kndS (c (q + 1)) = -9 ∧ r = 0 ∧ ρ = up2 σ 38 8 (nI (q + 1))) ∨
  ((¬ a = 4 ∧ c q = 59) ∧ ¬ kndS (c (q + 1)) = -9 ∧ ¬ dg (c (q + 1 + 1)) 51 ∧ r = 0 ∧ ρ = up2 σ 38 8 (nI (q + 1 + 1))) ∨
  ((¬ a = 4 ∧ c q = 59) ∧ ¬ kndS (c (q + 1)) = -9 ∧ dg (c (q + 1 + 1)) 51 ∧ r = 1 ∧ ρ = up2 (up2 (up2 (up2 σ 38 8 (nI (q + 1 + 1 + 1))) 47 a (kndS (c (q + 1)))) 48 a (c (q + 1 + 1) - 48)) 38 10 (nI (a + 1)))
theorem hdX7_readsDeed : yX7_readsDeed.cls = RX7 ∧ yX7_readsDeed.cls ≠ "java/lang/invoke/MethodHandle" ∧ yX7_readsDeed.cls ≠ "java/lang/invoke/VarHandle" ∧ (parseMethodDescriptor yX7_readsDeed.desc).map (fun d => d.parameters.length) = some 2 := by decide +kernel
set_option maxHeartbeats 4000000 in
set_option maxRecDepth 100000 in
theorem kX7_readsDeed (l : Launch) (D : va_G) (cs : Nat → ClassId) (ad : Nat → Nat) (N kt : Nat) (hN : 58 ≤ N) (σ : vSg) (τ : vTa) (fr : Nat) (n : Nat) (ce : Nat → Int32) (q : Nat) (d : Nat)  (hce : σ 56 = ce) (hq : q < 900) (hat : σ 38 8 = nI q) (hle : fr + n ≤ 240) (hd : d ≤ 5) (hrd : σ 38 9 = nI d) : CtI l yX7_readsDeed wsX7_readsDeed ({ frames := 2, cells := 0, slots := 0, locals := 51 }) D cs ad N (shP kt) [.ref (ad (38)), .int (nI fr), .int (nI n)] σ τ 0 0 (fun r9 σ9 τ9 => rdP (cdS ce fr n) σ q d r9 σ9 ∧ τ = τ9) := by
  refine ct_I (cc := cX7_readsDeed) (maxL := 6) (by decide) rfl (Nat.le_of_ble_eq_true rfl) rfl rfl ?_
  intro p e s m args below meth c A X hr hlk
  refine go_aload_n X dX7_readsDeed_0 0 rfl rfl ?_
  refine go_geti X (n := 38) (j := 9) (by omega) rfl rfl (fun _ h9 => List.mem_cons_of_mem _ (List.mem_append_right _ h9)) (by decide) (List.mem_cons_of_mem _ (List.mem_append_left _ (List.mem_of_getElem? (i := 0) rfl))) rfl dX7_readsDeed_1 ?_
  refine go_topi (v := nI d) (hrd) ?_
  refine go_iconst X (v := 5) dX7_readsDeed_4 (by decide) ?_
  refine go_icmpn_eq X (tgt := 19) dX7_readsDeed_5 (by decide) (a := d) (b := 5) rfl rfl (by omega) (by omega) (fun c5 => ?_) (fun c5 => ?_)
  · skip
    refine go_iconst X (v := 0) dX7_readsDeed_19 (by decide) ?_
    exact go_zreturn X hr hlk dX7_readsDeed_20 (by first | exact Or.inl rfl | exact Or.inr rfl) (⟨Or.inl ⟨Or.inl c5, rfl, rfl⟩, rfl⟩)
  · skip
    refine go_aload_n X dX7_readsDeed_8 0 rfl rfl ?_
    refine go_iload_n X dX7_readsDeed_9 1 rfl rfl ?_
    refine go_iload_n X dX7_readsDeed_10 2 rfl rfl ?_
    refine go_callVI X (n := 38) (As := [.int (nI fr), .int (nI n)]) (rest := []) (kX7_codeAt l D cs ad N kt (by omega) σ τ fr n ce q hce (by omega) hat (by omega)) gX7_readsDeed_X7_codeAt rfl hdX7_codeAt ⟨rfl, rfl, by decide, by decide, by decide, by decide⟩ (by omega) rfl rfl rfl rfl (Nat.le_of_ble_eq_true rfl) dX7_readsDeed_11 (fun r9 σ9 τ9 h9 => ?_)
    obtain ⟨rfl, rfl, rfl⟩ := h9
    refine go_bipush X (v := 47) dX7_readsDeed_14 (by decide) ?_
    refine go_icmp_eq X (tgt := 21) dX7_readsDeed_16 (by decide) (fun c16 => ?_) (fun c16 => ?_)
    · skip
      refine go_aload_n X dX7_readsDeed_21 0 rfl rfl ?_
      refine go_dup X dX7_readsDeed_22 rfl ?_
      refine go_geti X (n := 38) (j := 8) (by omega) rfl rfl (fun _ h9 => List.mem_cons_of_mem _ (List.mem_append_right _ h9)) (by decide) (List.mem_cons_of_mem _ (List.mem_append_left _ (List.mem_of_getElem? (i := 1) rfl))) rfl dX7_readsDeed_23 ?_
      refine go_topi (v := nI q) (hat) ?_
      refine go_iconst X (v := 1) dX7_readsDeed_26 (by decide) ?_
      refine go_iadd X dX7_readsDeed_27 ?_
      refine go_topi (v := nI (q + 1)) (nI_add q 1) ?_
      refine go_puti X (n := 38) (j := 8) (ty := .int) (by omega) rfl rfl (fun _ h9 => List.mem_cons_of_mem _ (List.mem_append_right _ h9)) (by decide) (List.mem_cons_of_mem _ (List.mem_append_left _ (List.mem_of_getElem? (i := 1) rfl))) rfl tyX7 tyX7_ok nmX7 rfl (by decide +kernel) rfl rfl dX7_readsDeed_28 ?_
      refine go_aload_n X dX7_readsDeed_31 0 rfl rfl ?_
      refine go_iload_n X dX7_readsDeed_32 1 rfl rfl ?_
      refine go_iload_n X dX7_readsDeed_33 2 rfl rfl ?_
      refine go_iconst X (v := 0) dX7_readsDeed_34 (by decide) ?_
      refine go_bipush X (v := 9) dX7_readsDeed_35 (by decide) ?_
      refine go_callVI X (n := 38) (As := [.int (nI fr), .int (nI n), .int 0, .int 9]) (rest := []) (kX7_figure l D cs ad N kt (by omega) (up2 σ 38 8 (nI (q + 1))) τ fr n 9 ce (q + 1) 57 9 ((up2_row (by omega)).trans hce) (by omega) up2_self (by omega) (by omega) rfl rfl) gX7_readsDeed_X7_figure rfl hdX7_figure ⟨rfl, rfl, by decide, by decide, by decide, by decide⟩ (by omega) rfl rfl rfl rfl (Nat.le_of_ble_eq_true rfl) dX7_readsDeed_37 (fun r9 σ9 τ9 h9 => ?_)
      obtain ⟨rfl, rfl, rfl⟩ := h9
      rcases Classical.em (dg (cdS ce fr n (q + 1)) 57) with g40 | g40
      · skip
        refine go_topi (v := cdS ce fr n (q + 1) - 48) (cif_t g40) ?_
        refine go_sg (σ2 := (up2 (up2 σ 38 8 (nI (q + 1))) 38 8 (nI (q + 1 + 1)))) (by rw [cif_t g40]) ?_
        refine go_sg (σ2 := (up2 σ 38 8 (nI (q + 1 + 1)))) up2_up2 ?_
        refine go_istore_n X (lv2 := [(3, .int (cdS ce fr n (q + 1) - 48)), (0, .ref (ad (38))), (1, .int (nI fr)), (2, .int (nI n))]) dX7_readsDeed_40 rfl (by decide) rfl ?_
        refine go_iload_n X dX7_readsDeed_41 0 rfl rfl ?_
        refine go_if_ge X (tgt := 50) dX7_readsDeed_42 (by decide) (fun c42 => ?_) (fun h9 => absurd (dg_pos (z := 9) (by omega) rfl g40) h9)
        refine go_aload_n X dX7_readsDeed_50 1 rfl rfl ?_
        refine go_iload_n X dX7_readsDeed_51 2 rfl rfl ?_
        refine go_iload_n X dX7_readsDeed_52 3 rfl rfl ?_
        refine go_iconst X (v := 0) dX7_readsDeed_53 (by decide) ?_
        refine go_bipush X (v := 9) dX7_readsDeed_54 (by decide) ?_
        refine go_callVI X (n := 38) (As := [.int (nI fr), .int (nI n), .int 0, .int 9]) (rest := []) (kX7_figure l D cs ad N kt (by omega) (up2 σ 38 8 (nI (q + 1 + 1))) τ fr n 9 ce (q + 1 + 1) 57 9 ((up2_row (by omega)).trans hce) (by omega) up2_self (by omega) (by omega) rfl rfl) gX7_readsDeed_X7_figure rfl hdX7_figure ⟨rfl, rfl, by decide, by decide, by decide, by decide⟩ (by omega) rfl rfl rfl rfl (Nat.le_of_ble_eq_true rfl) dX7_readsDeed_56 (fun r9 σ9 τ9 h9 => ?_)
        obtain ⟨rfl, rfl, rfl⟩ := h9
        rcases Classical.em (dg (cdS ce fr n (q + 1 + 1)) 57) with g59 | g59
        · skip
          refine go_topi (v := cdS ce fr n (q + 1 + 1) - 48) (cif_t g59) ?_
          refine go_sg (σ2 := (up2 (up2 σ 38 8 (nI (q + 1 + 1))) 38 8 (nI (q + 1 + 1 + 1)))) (by rw [cif_t g59]) ?_
          refine go_sg (σ2 := (up2 σ 38 8 (nI (q + 1 + 1 + 1)))) up2_up2 ?_
          refine go_istore X (lv2 := [(4, .int (cdS ce fr n (q + 1 + 1) - 48)), (3, .int (cdS ce fr n (q + 1) - 48)), (0, .ref (ad (38))), (1, .int (nI fr)), (2, .int (nI n))]) dX7_readsDeed_59 (by decide) rfl ?_
          refine go_iload X dX7_readsDeed_61 0 rfl ?_
          refine go_if_ge X (tgt := 71) dX7_readsDeed_63 (by decide) (fun c63 => ?_) (fun h9 => absurd (dg_pos (z := 9) (by omega) rfl g59) h9)
          refine go_aload_n X dX7_readsDeed_71 2 rfl rfl ?_
          refine go_iload_n X dX7_readsDeed_72 3 rfl rfl ?_
          refine go_iload_n X dX7_readsDeed_73 4 rfl rfl ?_
          refine go_iconst X (v := 0) dX7_readsDeed_74 (by decide) ?_
          refine go_bipush X (v := 9) dX7_readsDeed_75 (by decide) ?_
          refine go_callVI X (n := 38) (As := [.int (nI fr), .int (nI n), .int 0, .int 9]) (rest := []) (kX7_figure l D cs ad N kt (by omega) (up2 σ 38 8 (nI (q + 1 + 1 + 1))) τ fr n 9 ce (q + 1 + 1 + 1) 57 9 ((up2_row (by omega)).trans hce) (by omega) up2_self (by omega) (by omega) rfl rfl) gX7_readsDeed_X7_figure rfl hdX7_figure ⟨rfl, rfl, by decide, by decide, by decide, by decide⟩ (by omega) rfl rfl rfl rfl (Nat.le_of_ble_eq_true rfl) dX7_readsDeed_77 (fun r9 σ9 τ9 h9 => ?_)
          obtain ⟨rfl, rfl, rfl⟩ := h9
          rcases Classical.em (dg (cdS ce fr n (q + 1 + 1 + 1)) 57) with g80 | g80
          · skip
            refine go_topi (v := cdS ce fr n (q + 1 + 1 + 1) - 48) (cif_t g80) ?_
            refine go_sg (σ2 := (up2 (up2 σ 38 8 (nI (q + 1 + 1 + 1))) 38 8 (nI (q + 1 + 1 + 1 + 1)))) (by rw [cif_t g80]) ?_
            refine go_sg (σ2 := (up2 σ 38 8 (nI (q + 1 + 1 + 1 + 1)))) up2_up2 ?_
            refine go_istore X (lv2 := [(5, .int (cdS ce fr n (q + 1 + 1 + 1) - 48)), (4, .int (cdS ce fr n (q + 1 + 1) - 48)), (3, .int (cdS ce fr n (q + 1) - 48)), (0, .ref (ad (38))), (1, .int (nI fr)), (2, .int (nI n))]) dX7_readsDeed_80 (by decide) rfl ?_
            refine go_iload X dX7_readsDeed_82 0 rfl ?_
            refine go_if_ge X (tgt := 89) dX7_readsDeed_84 (by decide) (fun c84 => ?_) (fun h9 => absurd (dg_pos (z := 9) (by omega) rfl g80) h9)
            refine go_aload_n X dX7_readsDeed_89 3 rfl rfl ?_
            refine go_getr X (n := 38) (j := 11) (by omega) rfl rfl (fun _ h9 => List.mem_cons_of_mem _ (List.mem_append_right _ h9)) (by decide) (List.mem_cons_of_mem _ (List.mem_append_left _ (List.mem_of_getElem? (i := 2) rfl))) rfl dX7_readsDeed_90 ?_
            refine go_aload_n X dX7_readsDeed_93 3 rfl rfl ?_
            refine go_geti X (n := 38) (j := 9) (by omega) rfl rfl (fun _ h9 => List.mem_cons_of_mem _ (List.mem_append_right _ h9)) (by decide) (List.mem_cons_of_mem _ (List.mem_append_left _ (List.mem_of_getElem? (i := 0) rfl))) rfl dX7_readsDeed_94 ?_
            refine go_topi (v := nI d) ((up2_ne (by omega)).trans hrd) ?_
            refine go_iload_n X dX7_readsDeed_97 2 rfl rfl ?_
            refine go_iast X (n := 44) (k := d) (by omega) rfl rfl (by omega) (by omega) dX7_readsDeed_98 ?_
            refine go_aload_n X dX7_readsDeed_99 3 rfl rfl ?_
            refine go_getr X (n := 38) (j := 12) (by omega) rfl rfl (fun _ h9 => List.mem_cons_of_mem _ (List.mem_append_right _ h9)) (by decide) (List.mem_cons_of_mem _ (List.mem_append_left _ (List.mem_of_getElem? (i := 3) rfl))) rfl dX7_readsDeed_100 ?_
            refine go_aload_n X dX7_readsDeed_103 3 rfl rfl ?_
            refine go_geti X (n := 38) (j := 9) (by omega) rfl rfl (fun _ h9 => List.mem_cons_of_mem _ (List.mem_append_right _ h9)) (by decide) (List.mem_cons_of_mem _ (List.mem_append_left _ (List.mem_of_getElem? (i := 0) rfl))) rfl dX7_readsDeed_104 ?_
            refine go_topi (v := nI d) ((up2_ne (by omega)).trans ((up2_ne (by omega)).trans hrd)) ?_
            refine go_iload X dX7_readsDeed_107 1 rfl ?_
            refine go_iast X (n := 45) (k := d) (by omega) rfl rfl (by omega) (by omega) dX7_readsDeed_109 ?_
            refine go_aload_n X dX7_readsDeed_110 3 rfl rfl ?_
            refine go_getr X (n := 38) (j := 13) (by omega) rfl rfl (fun _ h9 => List.mem_cons_of_mem _ (List.mem_append_right _ h9)) (by decide) (List.mem_cons_of_mem _ (List.mem_append_left _ (List.mem_of_getElem? (i := 4) rfl))) rfl dX7_readsDeed_111 ?_
            refine go_aload_n X dX7_readsDeed_114 3 rfl rfl ?_
            refine go_geti X (n := 38) (j := 9) (by omega) rfl rfl (fun _ h9 => List.mem_cons_of_mem _ (List.mem_append_right _ h9)) (by decide) (List.mem_cons_of_mem _ (List.mem_append_left _ (List.mem_of_getElem? (i := 0) rfl))) rfl dX7_readsDeed_115 ?_
            refine go_topi (v := nI d) ((up2_ne (by omega)).trans ((up2_ne (by omega)).trans ((up2_ne (by omega)).trans hrd))) ?_
            refine go_iload X dX7_readsDeed_118 0 rfl ?_
            refine go_iast X (n := 46) (k := d) (by omega) rfl rfl (by omega) (by omega) dX7_readsDeed_120 ?_
            refine go_aload_n X dX7_readsDeed_121 3 rfl rfl ?_
            refine go_dup X dX7_readsDeed_122 rfl ?_
            refine go_geti X (n := 38) (j := 9) (by omega) rfl rfl (fun _ h9 => List.mem_cons_of_mem _ (List.mem_append_right _ h9)) (by decide) (List.mem_cons_of_mem _ (List.mem_append_left _ (List.mem_of_getElem? (i := 0) rfl))) rfl dX7_readsDeed_123 ?_
            refine go_topi (v := nI d) ((up2_ne (by omega)).trans ((up2_ne (by omega)).trans ((up2_ne (by omega)).trans ((up2_ne (by omega)).trans hrd)))) ?_
            refine go_iconst X (v := 1) dX7_readsDeed_126 (by decide) ?_
            refine go_iadd X dX7_readsDeed_127 ?_
            refine go_topi (v := nI (d + 1)) (nI_add d 1) ?_
            refine go_puti X (n := 38) (j := 9) (ty := .int) (by omega) rfl rfl (fun _ h9 => List.mem_cons_of_mem _ (List.mem_append_right _ h9)) (by decide) (List.mem_cons_of_mem _ (List.mem_append_left _ (List.mem_of_getElem? (i := 0) rfl))) rfl tyX7 tyX7_ok nmX7 rfl (by decide +kernel) rfl rfl dX7_readsDeed_128 ?_
            refine go_iconst X (v := 1) dX7_readsDeed_131 (by decide) ?_
            exact go_zreturn X hr hlk dX7_readsDeed_132 (by first | exact Or.inl rfl | exact Or.inr rfl) (⟨Or.inr (Or.inr (Or.inr (Or.inr ⟨⟨c5, c16⟩, g40, g59, g80, rfl, rfl⟩))), rfl⟩)
          · skip
            refine go_topi (v := (-9)) (cif_f g80) ?_
            refine go_sg (σ2 := (up2 (up2 σ 38 8 (nI (q + 1 + 1 + 1))) 38 8 (nI (q + 1 + 1 + 1)))) (by rw [cif_f g80]) ?_
            refine go_sg (σ2 := (up2 σ 38 8 (nI (q + 1 + 1 + 1)))) up2_up2 ?_
            refine go_istore X (lv2 := [(5, .int (-9)), (4, .int (cdS ce fr n (q + 1 + 1) - 48)), (3, .int (cdS ce fr n (q + 1) - 48)), (0, .ref (ad (38))), (1, .int (nI fr)), (2, .int (nI n))]) dX7_readsDeed_80 (by decide) rfl ?_
            refine go_iload X dX7_readsDeed_82 0 rfl ?_
            refine go_if_ge X (tgt := 89) dX7_readsDeed_84 (by decide) (fun h9 => absurd h9 (by decide)) (fun _ => ?_)
            refine go_iconst X (v := 0) dX7_readsDeed_87 (by decide) ?_
            exact go_zreturn X hr hlk dX7_readsDeed_88 (by first | exact Or.inl rfl | exact Or.inr rfl) (⟨Or.inr (Or.inr (Or.inr (Or.inl ⟨⟨c5, c16⟩, g40, g59, g80, rfl, rfl⟩))), rfl⟩)
        · skip
          refine go_topi (v := (-9)) (cif_f g59) ?_
          refine go_sg (σ2 := (up2 (up2 σ 38 8 (nI (q + 1 + 1))) 38 8 (nI (q + 1 + 1)))) (by rw [cif_f g59]) ?_
          refine go_sg (σ2 := (up2 σ 38 8 (nI (q + 1 + 1)))) up2_up2 ?_
          refine go_istore X (lv2 := [(4, .int (-9)), (3, .int (cdS ce fr n (q + 1) - 48)), (0, .ref (ad (38))), (1, .int (nI fr)), (2, .int (nI n))]) dX7_readsDeed_59 (by decide) rfl ?_
          refine go_iload X dX7_readsDeed_61 0 rfl ?_
          refine go_if_ge X (tgt := 71) dX7_readsDeed_63 (by decide) (fun h9 => absurd h9 (by decide)) (fun _ => ?_)
          refine go_bipush X (v := (-9)) dX7_readsDeed_66 (by decide) ?_
          refine go_goto X (tgt := 80) dX7_readsDeed_68 (by decide) ?_
          refine go_istore X (lv2 := [(5, .int (-9)), (4, .int (-9)), (3, .int (cdS ce fr n (q + 1) - 48)), (0, .ref (ad (38))), (1, .int (nI fr)), (2, .int (nI n))]) dX7_readsDeed_80 (by decide) rfl ?_
          refine go_iload X dX7_readsDeed_82 0 rfl ?_
          refine go_if_ge X (tgt := 89) dX7_readsDeed_84 (by decide) (fun h9 => absurd h9 (by decide)) (fun _ => ?_)
          refine go_iconst X (v := 0) dX7_readsDeed_87 (by decide) ?_
          exact go_zreturn X hr hlk dX7_readsDeed_88 (by first | exact Or.inl rfl | exact Or.inr rfl) (⟨Or.inr (Or.inr (Or.inl ⟨⟨c5, c16⟩, g40, g59, rfl, rfl⟩)), rfl⟩)
      · skip
        refine go_topi (v := (-9)) (cif_f g40) ?_
        refine go_sg (σ2 := (up2 (up2 σ 38 8 (nI (q + 1))) 38 8 (nI (q + 1)))) (by rw [cif_f g40]) ?_
        refine go_sg (σ2 := (up2 σ 38 8 (nI (q + 1)))) up2_up2 ?_
        refine go_istore_n X (lv2 := [(3, .int (-9)), (0, .ref (ad (38))), (1, .int (nI fr)), (2, .int (nI n))]) dX7_readsDeed_40 rfl (by decide) rfl ?_
        refine go_iload_n X dX7_readsDeed_41 0 rfl rfl ?_
        refine go_if_ge X (tgt := 50) dX7_readsDeed_42 (by decide) (fun h9 => absurd h9 (by decide)) (fun _ => ?_)
        refine go_bipush X (v := (-9)) dX7_readsDeed_45 (by decide) ?_
        refine go_goto X (tgt := 59) dX7_readsDeed_47 (by decide) ?_
        refine go_istore X (lv2 := [(4, .int (-9)), (3, .int (-9)), (0, .ref (ad (38))), (1, .int (nI fr)), (2, .int (nI n))]) dX7_readsDeed_59 (by decide) rfl ?_
        refine go_iload X dX7_readsDeed_61 0 rfl ?_
        refine go_if_ge X (tgt := 71) dX7_readsDeed_63 (by decide) (fun h9 => absurd h9 (by decide)) (fun _ => ?_)
        refine go_bipush X (v := (-9)) dX7_readsDeed_66 (by decide) ?_
        refine go_goto X (tgt := 80) dX7_readsDeed_68 (by decide) ?_
        refine go_istore X (lv2 := [(5, .int (-9)), (4, .int (-9)), (3, .int (-9)), (0, .ref (ad (38))), (1, .int (nI fr)), (2, .int (nI n))]) dX7_readsDeed_80 (by decide) rfl ?_
        refine go_iload X dX7_readsDeed_82 0 rfl ?_
        refine go_if_ge X (tgt := 89) dX7_readsDeed_84 (by decide) (fun h9 => absurd h9 (by decide)) (fun _ => ?_)
        refine go_iconst X (v := 0) dX7_readsDeed_87 (by decide) ?_
        exact go_zreturn X hr hlk dX7_readsDeed_88 (by first | exact Or.inl rfl | exact Or.inr rfl) (⟨Or.inr (Or.inl ⟨⟨c5, c16⟩, g40, rfl, rfl⟩), rfl⟩)
    · skip
      refine go_iconst X (v := 0) dX7_readsDeed_19 (by decide) ?_
      exact go_zreturn X hr hlk dX7_readsDeed_20 (by first | exact Or.inl rfl | exact Or.inr rfl) (⟨Or.inl ⟨Or.inr c16, rfl, rfl⟩, rfl⟩)

theorem knd_0 {x : Int32} (h : x = 115) : kndS x = 0 := if_pos h
theorem knd_1 {x : Int32} (h0 : ¬ x = 115) (h : x = 109) : kndS x = 1 := (if_neg h0).trans (if_pos h)
theorem knd_2 {x : Int32} (h0 : ¬ x = 115) (h1 : ¬ x = 109) (h : x = 104) : kndS x = 2 := (if_neg h0).trans ((if_neg h1).trans (if_pos h))
theorem knd_n {x : Int32} (h0 : ¬ x = 115) (h1 : ¬ x = 109) (h2 : ¬ x = 104) : kndS x = -9 := (if_neg h0).trans ((if_neg h1).trans (if_neg h2))
theorem hdX7_readsSubject : yX7_readsSubject.cls = RX7 ∧ yX7_readsSubject.cls ≠ "java/lang/invoke/MethodHandle" ∧ yX7_readsSubject.cls ≠ "java/lang/invoke/VarHandle" ∧ (parseMethodDescriptor yX7_readsSubject.desc).map (fun d => d.parameters.length) = some 2 := by decide +kernel
set_option maxHeartbeats 4000000 in
set_option maxRecDepth 100000 in
theorem kX7_readsSubject (l : Launch) (D : va_G) (cs : Nat → ClassId) (ad : Nat → Nat) (N kt : Nat) (hN : 58 ≤ N) (σ : vSg) (τ : vTa) (fr : Nat) (n : Nat) (ce : Nat → Int32) (q : Nat) (a : Nat)  (hce : σ 56 = ce) (hq : q < 900) (hat : σ 38 8 = nI q) (hle : fr + n ≤ 240) (ha : a ≤ 4) (hra : σ 38 10 = nI a) : CtI l yX7_readsSubject wsX7_readsSubject ({ frames := 2, cells := 0, slots := 0, locals := 51 }) D cs ad N (shP kt) [.ref (ad (38)), .int (nI fr), .int (nI n)] σ τ 0 0 (fun r9 σ9 τ9 => rsP (cdS ce fr n) σ q a r9 σ9 ∧ τ = τ9) := by
  refine ct_I (cc := cX7_readsSubject) (maxL := 5) (by decide) rfl (Nat.le_of_ble_eq_true rfl) rfl rfl ?_
  intro p e s m args below meth c A X hr hlk
  refine go_aload_n X dX7_readsSubject_0 0 rfl rfl ?_
  refine go_geti X (n := 38) (j := 10) (by omega) rfl rfl (fun _ h9 => List.mem_cons_of_mem _ (List.mem_append_right _ h9)) (by decide) (List.mem_cons_of_mem _ (List.mem_append_left _ (List.mem_of_getElem? (i := 0) rfl))) rfl dX7_readsSubject_1 ?_
  refine go_topi (v := nI a) (hra) ?_
  refine go_iconst X (v := 4) dX7_readsSubject_4 (by decide) ?_
  refine go_icmpn_eq X (tgt := 19) dX7_readsSubject_5 (by decide) (a := a) (b := 4) rfl rfl (by omega) (by omega) (fun c5 => ?_) (fun c5 => ?_)
  · skip
    refine go_iconst X (v := 0) dX7_readsSubject_19 (by decide) ?_
    exact go_zreturn X hr hlk dX7_readsSubject_20 (by first | exact Or.inl rfl | exact Or.inr rfl) (⟨Or.inl ⟨Or.inl c5, rfl, rfl⟩, rfl⟩)
  · skip
    refine go_aload_n X dX7_readsSubject_8 0 rfl rfl ?_
    refine go_iload_n X dX7_readsSubject_9 1 rfl rfl ?_
    refine go_iload_n X dX7_readsSubject_10 2 rfl rfl ?_
    refine go_callVI X (n := 38) (As := [.int (nI fr), .int (nI n)]) (rest := []) (kX7_codeAt l D cs ad N kt (by omega) σ τ fr n ce q hce (by omega) hat (by omega)) gX7_readsSubject_X7_codeAt rfl hdX7_codeAt ⟨rfl, rfl, by decide, by decide, by decide, by decide⟩ (by omega) rfl rfl rfl rfl (Nat.le_of_ble_eq_true rfl) dX7_readsSubject_11 (fun r9 σ9 τ9 h9 => ?_)
    obtain ⟨rfl, rfl, rfl⟩ := h9
    refine go_bipush X (v := 59) dX7_readsSubject_14 (by decide) ?_
    refine go_icmp_eq X (tgt := 21) dX7_readsSubject_16 (by decide) (fun c16 => ?_) (fun c16 => ?_)
    · skip
      refine go_aload_n X dX7_readsSubject_21 0 rfl rfl ?_
      refine go_dup X dX7_readsSubject_22 rfl ?_
      refine go_geti X (n := 38) (j := 8) (by omega) rfl rfl (fun _ h9 => List.mem_cons_of_mem _ (List.mem_append_right _ h9)) (by decide) (List.mem_cons_of_mem _ (List.mem_append_left _ (List.mem_of_getElem? (i := 1) rfl))) rfl dX7_readsSubject_23 ?_
      refine go_topi (v := nI q) (hat) ?_
      refine go_iconst X (v := 1) dX7_readsSubject_26 (by decide) ?_
      refine go_iadd X dX7_readsSubject_27 ?_
      refine go_topi (v := nI (q + 1)) (nI_add q 1) ?_
      refine go_puti X (n := 38) (j := 8) (ty := .int) (by omega) rfl rfl (fun _ h9 => List.mem_cons_of_mem _ (List.mem_append_right _ h9)) (by decide) (List.mem_cons_of_mem _ (List.mem_append_left _ (List.mem_of_getElem? (i := 1) rfl))) rfl tyX7 tyX7_ok nmX7 rfl (by decide +kernel) rfl rfl dX7_readsSubject_28 ?_
      refine go_aload_n X dX7_readsSubject_31 0 rfl rfl ?_
      refine go_iload_n X dX7_readsSubject_32 1 rfl rfl ?_
      refine go_iload_n X dX7_readsSubject_33 2 rfl rfl ?_
      refine go_callVI X (n := 38) (As := [.int (nI fr), .int (nI n)]) (rest := []) (kX7_codeAt l D cs ad N kt (by omega) (up2 σ 38 8 (nI (q + 1))) τ fr n ce (q + 1) ((up2_row (by omega)).trans hce) (by omega) up2_self (by omega)) gX7_readsSubject_X7_codeAt rfl hdX7_codeAt ⟨rfl, rfl, by decide, by decide, by decide, by decide⟩ (by omega) rfl rfl rfl rfl (Nat.le_of_ble_eq_true rfl) dX7_readsSubject_34 (fun r9 σ9 τ9 h9 => ?_)
      obtain ⟨rfl, rfl, rfl⟩ := h9
      refine go_istore_n X (lv2 := [(3, .int (cdS ce fr n (q + 1))), (0, .ref (ad (38))), (1, .int (nI fr)), (2, .int (nI n))]) dX7_readsSubject_37 rfl (by decide) rfl ?_
      refine go_iload_n X dX7_readsSubject_38 0 rfl rfl ?_
      refine go_bipush X (v := 115) dX7_readsSubject_39 (by decide) ?_
      refine go_icmp_eq X (tgt := 58) dX7_readsSubject_41 (by decide) (fun c41 => ?_) (fun c41 => ?_)
      · skip
        refine go_aload_n X dX7_readsSubject_58 1 rfl rfl ?_
        refine go_dup X dX7_readsSubject_59 rfl ?_
        refine go_geti X (n := 38) (j := 8) (by omega) rfl rfl (fun _ h9 => List.mem_cons_of_mem _ (List.mem_append_right _ h9)) (by decide) (List.mem_cons_of_mem _ (List.mem_append_left _ (List.mem_of_getElem? (i := 1) rfl))) rfl dX7_readsSubject_60 ?_
        refine go_topi (v := nI (q + 1)) (up2_self) ?_
        refine go_iconst X (v := 1) dX7_readsSubject_63 (by decide) ?_
        refine go_iadd X dX7_readsSubject_64 ?_
        refine go_topi (v := nI ((q + 1) + 1)) (nI_add (q + 1) 1) ?_
        refine go_puti X (n := 38) (j := 8) (ty := .int) (by omega) rfl rfl (fun _ h9 => List.mem_cons_of_mem _ (List.mem_append_right _ h9)) (by decide) (List.mem_cons_of_mem _ (List.mem_append_left _ (List.mem_of_getElem? (i := 1) rfl))) rfl tyX7 tyX7_ok nmX7 rfl (by decide +kernel) rfl rfl dX7_readsSubject_65 ?_
        refine go_sg (σ2 := (up2 σ 38 8 (nI ((q + 1) + 1)))) up2_up2 ?_
        refine go_aload_n X dX7_readsSubject_68 1 rfl rfl ?_
        refine go_iload_n X dX7_readsSubject_69 2 rfl rfl ?_
        refine go_iload_n X dX7_readsSubject_70 3 rfl rfl ?_
        refine go_iconst X (v := 0) dX7_readsSubject_71 (by decide) ?_
        refine go_iconst X (v := 3) dX7_readsSubject_72 (by decide) ?_
        refine go_callVI X (n := 38) (As := [.int (nI fr), .int (nI n), .int 0, .int 3]) (rest := []) (kX7_figure l D cs ad N kt (by omega) (up2 σ 38 8 (nI ((q + 1) + 1))) τ fr n 3 ce (q + 1 + 1) 51 3 ((up2_row (by omega)).trans hce) (by omega) up2_self (by omega) (by omega) rfl rfl) gX7_readsSubject_X7_figure rfl hdX7_figure ⟨rfl, rfl, by decide, by decide, by decide, by decide⟩ (by omega) rfl rfl rfl rfl (Nat.le_of_ble_eq_true rfl) dX7_readsSubject_73 (fun r9 σ9 τ9 h9 => ?_)
        obtain ⟨rfl, rfl, rfl⟩ := h9
        rcases Classical.em (dg (cdS ce fr n (q + 1 + 1)) 51) with g76 | g76
        · skip
          refine go_topi (v := cdS ce fr n (q + 1 + 1) - 48) (cif_t g76) ?_
          refine go_sg (σ2 := (up2 (up2 σ 38 8 (nI ((q + 1) + 1))) 38 8 (nI (q + 1 + 1 + 1)))) (by rw [cif_t g76]) ?_
          refine go_sg (σ2 := (up2 σ 38 8 (nI (q + 1 + 1 + 1)))) up2_up2 ?_
          refine go_istore X (lv2 := [(4, .int (cdS ce fr n (q + 1 + 1) - 48)), (3, .int (cdS ce fr n (q + 1))), (0, .ref (ad (38))), (1, .int (nI fr)), (2, .int (nI n))]) dX7_readsSubject_76 (by decide) rfl ?_
          refine go_iload X dX7_readsSubject_78 0 rfl ?_
          refine go_if_ge X (tgt := 85) dX7_readsSubject_80 (by decide) (fun c80 => ?_) (fun h9 => absurd (dg_pos (z := 3) (by omega) rfl g76) h9)
          refine go_aload_n X dX7_readsSubject_85 2 rfl rfl ?_
          refine go_getr X (n := 38) (j := 14) (by omega) rfl rfl (fun _ h9 => List.mem_cons_of_mem _ (List.mem_append_right _ h9)) (by decide) (List.mem_cons_of_mem _ (List.mem_append_left _ (List.mem_of_getElem? (i := 2) rfl))) rfl dX7_readsSubject_86 ?_
          refine go_aload_n X dX7_readsSubject_89 2 rfl rfl ?_
          refine go_geti X (n := 38) (j := 10) (by omega) rfl rfl (fun _ h9 => List.mem_cons_of_mem _ (List.mem_append_right _ h9)) (by decide) (List.mem_cons_of_mem _ (List.mem_append_left _ (List.mem_of_getElem? (i := 0) rfl))) rfl dX7_readsSubject_90 ?_
          refine go_topi (v := nI a) ((up2_ne (by omega)).trans hra) ?_
          refine go_iload_n X dX7_readsSubject_93 1 rfl rfl ?_
          refine go_bipush X (v := 115) dX7_readsSubject_94 (by decide) ?_
          refine go_icmp_ne X (tgt := 103) dX7_readsSubject_96 (by decide) (fun h9 => absurd c41 h9) (fun c96 => ?_)
          refine go_iconst X (v := 0) dX7_readsSubject_99 (by decide) ?_
          refine go_goto X (tgt := 114) dX7_readsSubject_100 (by decide) ?_
          refine go_topi (v := kndS (cdS ce fr n (q + 1))) ((knd_0 c41).symm) ?_
          refine go_iast X (n := 47) (k := a) (by omega) rfl rfl (by omega) (by omega) dX7_readsSubject_114 ?_
          refine go_aload_n X dX7_readsSubject_115 2 rfl rfl ?_
          refine go_getr X (n := 38) (j := 15) (by omega) rfl rfl (fun _ h9 => List.mem_cons_of_mem _ (List.mem_append_right _ h9)) (by decide) (List.mem_cons_of_mem _ (List.mem_append_left _ (List.mem_of_getElem? (i := 3) rfl))) rfl dX7_readsSubject_116 ?_
          refine go_aload_n X dX7_readsSubject_119 2 rfl rfl ?_
          refine go_geti X (n := 38) (j := 10) (by omega) rfl rfl (fun _ h9 => List.mem_cons_of_mem _ (List.mem_append_right _ h9)) (by decide) (List.mem_cons_of_mem _ (List.mem_append_left _ (List.mem_of_getElem? (i := 0) rfl))) rfl dX7_readsSubject_120 ?_
          refine go_topi (v := nI a) ((up2_ne (by omega)).trans ((up2_ne (by omega)).trans hra)) ?_
          refine go_iload X dX7_readsSubject_123 0 rfl ?_
          refine go_iast X (n := 48) (k := a) (by omega) rfl rfl (by omega) (by omega) dX7_readsSubject_125 ?_
          refine go_aload_n X dX7_readsSubject_126 2 rfl rfl ?_
          refine go_dup X dX7_readsSubject_127 rfl ?_
          refine go_geti X (n := 38) (j := 10) (by omega) rfl rfl (fun _ h9 => List.mem_cons_of_mem _ (List.mem_append_right _ h9)) (by decide) (List.mem_cons_of_mem _ (List.mem_append_left _ (List.mem_of_getElem? (i := 0) rfl))) rfl dX7_readsSubject_128 ?_
          refine go_topi (v := nI a) ((up2_ne (by omega)).trans ((up2_ne (by omega)).trans ((up2_ne (by omega)).trans hra))) ?_
          refine go_iconst X (v := 1) dX7_readsSubject_131 (by decide) ?_
          refine go_iadd X dX7_readsSubject_132 ?_
          refine go_topi (v := nI (a + 1)) (nI_add a 1) ?_
          refine go_puti X (n := 38) (j := 10) (ty := .int) (by omega) rfl rfl (fun _ h9 => List.mem_cons_of_mem _ (List.mem_append_right _ h9)) (by decide) (List.mem_cons_of_mem _ (List.mem_append_left _ (List.mem_of_getElem? (i := 0) rfl))) rfl tyX7 tyX7_ok nmX7 rfl (by decide +kernel) rfl rfl dX7_readsSubject_133 ?_
          refine go_iconst X (v := 1) dX7_readsSubject_136 (by decide) ?_
          exact go_zreturn X hr hlk dX7_readsSubject_137 (by first | exact Or.inl rfl | exact Or.inr rfl) (⟨Or.inr (Or.inr (Or.inr ⟨⟨c5, c16⟩, (by rw [knd_0 c41]; decide), g76, rfl, rfl⟩)), rfl⟩)
        · skip
          refine go_topi (v := (-9)) (cif_f g76) ?_
          refine go_sg (σ2 := (up2 (up2 σ 38 8 (nI ((q + 1) + 1))) 38 8 (nI (q + 1 + 1)))) (by rw [cif_f g76]) ?_
          refine go_sg (σ2 := (up2 σ 38 8 (nI (q + 1 + 1)))) up2_up2 ?_
          refine go_istore X (lv2 := [(4, .int (-9)), (3, .int (cdS ce fr n (q + 1))), (0, .ref (ad (38))), (1, .int (nI fr)), (2, .int (nI n))]) dX7_readsSubject_76 (by decide) rfl ?_
          refine go_iload X dX7_readsSubject_78 0 rfl ?_
          refine go_if_ge X (tgt := 85) dX7_readsSubject_80 (by decide) (fun h9 => absurd h9 (by decide)) (fun _ => ?_)
          refine go_iconst X (v := 0) dX7_readsSubject_83 (by decide) ?_
          exact go_zreturn X hr hlk dX7_readsSubject_84 (by first | exact Or.inl rfl | exact Or.inr rfl) (⟨Or.inr (Or.inr (Or.inl ⟨⟨c5, c16⟩, (by rw [knd_0 c41]; decide), g76, rfl, rfl⟩)), rfl⟩)
      · skip
        refine go_iload_n X dX7_readsSubject_44 0 rfl rfl ?_
        refine go_bipush X (v := 109) dX7_readsSubject_45 (by decide) ?_
        refine go_icmp_eq X (tgt := 58) dX7_readsSubject_47 (by decide) (fun c47 => ?_) (fun c47 => ?_)
        · skip
          refine go_aload_n X dX7_readsSubject_58 1 rfl rfl ?_
          refine go_dup X dX7_readsSubject_59 rfl ?_
          refine go_geti X (n := 38) (j := 8) (by omega) rfl rfl (fun _ h9 => List.mem_cons_of_mem _ (List.mem_append_right _ h9)) (by decide) (List.mem_cons_of_mem _ (List.mem_append_left _ (List.mem_of_getElem? (i := 1) rfl))) rfl dX7_readsSubject_60 ?_
          refine go_topi (v := nI (q + 1)) (up2_self) ?_
          refine go_iconst X (v := 1) dX7_readsSubject_63 (by decide) ?_
          refine go_iadd X dX7_readsSubject_64 ?_
          refine go_topi (v := nI ((q + 1) + 1)) (nI_add (q + 1) 1) ?_
          refine go_puti X (n := 38) (j := 8) (ty := .int) (by omega) rfl rfl (fun _ h9 => List.mem_cons_of_mem _ (List.mem_append_right _ h9)) (by decide) (List.mem_cons_of_mem _ (List.mem_append_left _ (List.mem_of_getElem? (i := 1) rfl))) rfl tyX7 tyX7_ok nmX7 rfl (by decide +kernel) rfl rfl dX7_readsSubject_65 ?_
          refine go_sg (σ2 := (up2 σ 38 8 (nI ((q + 1) + 1)))) up2_up2 ?_
          refine go_aload_n X dX7_readsSubject_68 1 rfl rfl ?_
          refine go_iload_n X dX7_readsSubject_69 2 rfl rfl ?_
          refine go_iload_n X dX7_readsSubject_70 3 rfl rfl ?_
          refine go_iconst X (v := 0) dX7_readsSubject_71 (by decide) ?_
          refine go_iconst X (v := 3) dX7_readsSubject_72 (by decide) ?_
          refine go_callVI X (n := 38) (As := [.int (nI fr), .int (nI n), .int 0, .int 3]) (rest := []) (kX7_figure l D cs ad N kt (by omega) (up2 σ 38 8 (nI ((q + 1) + 1))) τ fr n 3 ce (q + 1 + 1) 51 3 ((up2_row (by omega)).trans hce) (by omega) up2_self (by omega) (by omega) rfl rfl) gX7_readsSubject_X7_figure rfl hdX7_figure ⟨rfl, rfl, by decide, by decide, by decide, by decide⟩ (by omega) rfl rfl rfl rfl (Nat.le_of_ble_eq_true rfl) dX7_readsSubject_73 (fun r9 σ9 τ9 h9 => ?_)
          obtain ⟨rfl, rfl, rfl⟩ := h9
          rcases Classical.em (dg (cdS ce fr n (q + 1 + 1)) 51) with g76 | g76
          · skip
            refine go_topi (v := cdS ce fr n (q + 1 + 1) - 48) (cif_t g76) ?_
            refine go_sg (σ2 := (up2 (up2 σ 38 8 (nI ((q + 1) + 1))) 38 8 (nI (q + 1 + 1 + 1)))) (by rw [cif_t g76]) ?_
            refine go_sg (σ2 := (up2 σ 38 8 (nI (q + 1 + 1 + 1)))) up2_up2 ?_
            refine go_istore X (lv2 := [(4, .int (cdS ce fr n (q + 1 + 1) - 48)), (3, .int (cdS ce fr n (q + 1))), (0, .ref (ad (38))), (1, .int (nI fr)), (2, .int (nI n))]) dX7_readsSubject_76 (by decide) rfl ?_
            refine go_iload X dX7_readsSubject_78 0 rfl ?_
            refine go_if_ge X (tgt := 85) dX7_readsSubject_80 (by decide) (fun c80 => ?_) (fun h9 => absurd (dg_pos (z := 3) (by omega) rfl g76) h9)
            refine go_aload_n X dX7_readsSubject_85 2 rfl rfl ?_
            refine go_getr X (n := 38) (j := 14) (by omega) rfl rfl (fun _ h9 => List.mem_cons_of_mem _ (List.mem_append_right _ h9)) (by decide) (List.mem_cons_of_mem _ (List.mem_append_left _ (List.mem_of_getElem? (i := 2) rfl))) rfl dX7_readsSubject_86 ?_
            refine go_aload_n X dX7_readsSubject_89 2 rfl rfl ?_
            refine go_geti X (n := 38) (j := 10) (by omega) rfl rfl (fun _ h9 => List.mem_cons_of_mem _ (List.mem_append_right _ h9)) (by decide) (List.mem_cons_of_mem _ (List.mem_append_left _ (List.mem_of_getElem? (i := 0) rfl))) rfl dX7_readsSubject_90 ?_
            refine go_topi (v := nI a) ((up2_ne (by omega)).trans hra) ?_
            refine go_iload_n X dX7_readsSubject_93 1 rfl rfl ?_
            refine go_bipush X (v := 115) dX7_readsSubject_94 (by decide) ?_
            refine go_icmp_ne X (tgt := 103) dX7_readsSubject_96 (by decide) (fun c96 => ?_) (fun h9 => absurd h9 c41)
            refine go_iload_n X dX7_readsSubject_103 1 rfl rfl ?_
            refine go_bipush X (v := 109) dX7_readsSubject_104 (by decide) ?_
            refine go_icmp_ne X (tgt := 113) dX7_readsSubject_106 (by decide) (fun h9 => absurd c47 h9) (fun c106 => ?_)
            refine go_iconst X (v := 1) dX7_readsSubject_109 (by decide) ?_
            refine go_goto X (tgt := 114) dX7_readsSubject_110 (by decide) ?_
            refine go_topi (v := kndS (cdS ce fr n (q + 1))) ((knd_1 c41 c47).symm) ?_
            refine go_iast X (n := 47) (k := a) (by omega) rfl rfl (by omega) (by omega) dX7_readsSubject_114 ?_
            refine go_aload_n X dX7_readsSubject_115 2 rfl rfl ?_
            refine go_getr X (n := 38) (j := 15) (by omega) rfl rfl (fun _ h9 => List.mem_cons_of_mem _ (List.mem_append_right _ h9)) (by decide) (List.mem_cons_of_mem _ (List.mem_append_left _ (List.mem_of_getElem? (i := 3) rfl))) rfl dX7_readsSubject_116 ?_
            refine go_aload_n X dX7_readsSubject_119 2 rfl rfl ?_
            refine go_geti X (n := 38) (j := 10) (by omega) rfl rfl (fun _ h9 => List.mem_cons_of_mem _ (List.mem_append_right _ h9)) (by decide) (List.mem_cons_of_mem _ (List.mem_append_left _ (List.mem_of_getElem? (i := 0) rfl))) rfl dX7_readsSubject_120 ?_
            refine go_topi (v := nI a) ((up2_ne (by omega)).trans ((up2_ne (by omega)).trans hra)) ?_
            refine go_iload X dX7_readsSubject_123 0 rfl ?_
            refine go_iast X (n := 48) (k := a) (by omega) rfl rfl (by omega) (by omega) dX7_readsSubject_125 ?_
            refine go_aload_n X dX7_readsSubject_126 2 rfl rfl ?_
            refine go_dup X dX7_readsSubject_127 rfl ?_
            refine go_geti X (n := 38) (j := 10) (by omega) rfl rfl (fun _ h9 => List.mem_cons_of_mem _ (List.mem_append_right _ h9)) (by decide) (List.mem_cons_of_mem _ (List.mem_append_left _ (List.mem_of_getElem? (i := 0) rfl))) rfl dX7_readsSubject_128 ?_
            refine go_topi (v := nI a) ((up2_ne (by omega)).trans ((up2_ne (by omega)).trans ((up2_ne (by omega)).trans hra))) ?_
            refine go_iconst X (v := 1) dX7_readsSubject_131 (by decide) ?_
            refine go_iadd X dX7_readsSubject_132 ?_
            refine go_topi (v := nI (a + 1)) (nI_add a 1) ?_
            refine go_puti X (n := 38) (j := 10) (ty := .int) (by omega) rfl rfl (fun _ h9 => List.mem_cons_of_mem _ (List.mem_append_right _ h9)) (by decide) (List.mem_cons_of_mem _ (List.mem_append_left _ (List.mem_of_getElem? (i := 0) rfl))) rfl tyX7 tyX7_ok nmX7 rfl (by decide +kernel) rfl rfl dX7_readsSubject_133 ?_
            refine go_iconst X (v := 1) dX7_readsSubject_136 (by decide) ?_
            exact go_zreturn X hr hlk dX7_readsSubject_137 (by first | exact Or.inl rfl | exact Or.inr rfl) (⟨Or.inr (Or.inr (Or.inr ⟨⟨c5, c16⟩, (by rw [knd_1 c41 c47]; decide), g76, rfl, rfl⟩)), rfl⟩)
          · skip
            refine go_topi (v := (-9)) (cif_f g76) ?_
            refine go_sg (σ2 := (up2 (up2 σ 38 8 (nI ((q + 1) + 1))) 38 8 (nI (q + 1 + 1)))) (by rw [cif_f g76]) ?_
            refine go_sg (σ2 := (up2 σ 38 8 (nI (q + 1 + 1)))) up2_up2 ?_
            refine go_istore X (lv2 := [(4, .int (-9)), (3, .int (cdS ce fr n (q + 1))), (0, .ref (ad (38))), (1, .int (nI fr)), (2, .int (nI n))]) dX7_readsSubject_76 (by decide) rfl ?_
            refine go_iload X dX7_readsSubject_78 0 rfl ?_
            refine go_if_ge X (tgt := 85) dX7_readsSubject_80 (by decide) (fun h9 => absurd h9 (by decide)) (fun _ => ?_)
            refine go_iconst X (v := 0) dX7_readsSubject_83 (by decide) ?_
            exact go_zreturn X hr hlk dX7_readsSubject_84 (by first | exact Or.inl rfl | exact Or.inr rfl) (⟨Or.inr (Or.inr (Or.inl ⟨⟨c5, c16⟩, (by rw [knd_1 c41 c47]; decide), g76, rfl, rfl⟩)), rfl⟩)
        · skip
          refine go_iload_n X dX7_readsSubject_50 0 rfl rfl ?_
          refine go_bipush X (v := 104) dX7_readsSubject_51 (by decide) ?_
          refine go_icmp_eq X (tgt := 58) dX7_readsSubject_53 (by decide) (fun c53 => ?_) (fun c53 => ?_)
          · skip
            refine go_aload_n X dX7_readsSubject_58 1 rfl rfl ?_
            refine go_dup X dX7_readsSubject_59 rfl ?_
            refine go_geti X (n := 38) (j := 8) (by omega) rfl rfl (fun _ h9 => List.mem_cons_of_mem _ (List.mem_append_right _ h9)) (by decide) (List.mem_cons_of_mem _ (List.mem_append_left _ (List.mem_of_getElem? (i := 1) rfl))) rfl dX7_readsSubject_60 ?_
            refine go_topi (v := nI (q + 1)) (up2_self) ?_
            refine go_iconst X (v := 1) dX7_readsSubject_63 (by decide) ?_
            refine go_iadd X dX7_readsSubject_64 ?_
            refine go_topi (v := nI ((q + 1) + 1)) (nI_add (q + 1) 1) ?_
            refine go_puti X (n := 38) (j := 8) (ty := .int) (by omega) rfl rfl (fun _ h9 => List.mem_cons_of_mem _ (List.mem_append_right _ h9)) (by decide) (List.mem_cons_of_mem _ (List.mem_append_left _ (List.mem_of_getElem? (i := 1) rfl))) rfl tyX7 tyX7_ok nmX7 rfl (by decide +kernel) rfl rfl dX7_readsSubject_65 ?_
            refine go_sg (σ2 := (up2 σ 38 8 (nI ((q + 1) + 1)))) up2_up2 ?_
            refine go_aload_n X dX7_readsSubject_68 1 rfl rfl ?_
            refine go_iload_n X dX7_readsSubject_69 2 rfl rfl ?_
            refine go_iload_n X dX7_readsSubject_70 3 rfl rfl ?_
            refine go_iconst X (v := 0) dX7_readsSubject_71 (by decide) ?_
            refine go_iconst X (v := 3) dX7_readsSubject_72 (by decide) ?_
            refine go_callVI X (n := 38) (As := [.int (nI fr), .int (nI n), .int 0, .int 3]) (rest := []) (kX7_figure l D cs ad N kt (by omega) (up2 σ 38 8 (nI ((q + 1) + 1))) τ fr n 3 ce (q + 1 + 1) 51 3 ((up2_row (by omega)).trans hce) (by omega) up2_self (by omega) (by omega) rfl rfl) gX7_readsSubject_X7_figure rfl hdX7_figure ⟨rfl, rfl, by decide, by decide, by decide, by decide⟩ (by omega) rfl rfl rfl rfl (Nat.le_of_ble_eq_true rfl) dX7_readsSubject_73 (fun r9 σ9 τ9 h9 => ?_)
            obtain ⟨rfl, rfl, rfl⟩ := h9
            rcases Classical.em (dg (cdS ce fr n (q + 1 + 1)) 51) with g76 | g76
            · skip
              refine go_topi (v := cdS ce fr n (q + 1 + 1) - 48) (cif_t g76) ?_
              refine go_sg (σ2 := (up2 (up2 σ 38 8 (nI ((q + 1) + 1))) 38 8 (nI (q + 1 + 1 + 1)))) (by rw [cif_t g76]) ?_
              refine go_sg (σ2 := (up2 σ 38 8 (nI (q + 1 + 1 + 1)))) up2_up2 ?_
              refine go_istore X (lv2 := [(4, .int (cdS ce fr n (q + 1 + 1) - 48)), (3, .int (cdS ce fr n (q + 1))), (0, .ref (ad (38))), (1, .int (nI fr)), (2, .int (nI n))]) dX7_readsSubject_76 (by decide) rfl ?_
              refine go_iload X dX7_readsSubject_78 0 rfl ?_
              refine go_if_ge X (tgt := 85) dX7_readsSubject_80 (by decide) (fun c80 => ?_) (fun h9 => absurd (dg_pos (z := 3) (by omega) rfl g76) h9)
              refine go_aload_n X dX7_readsSubject_85 2 rfl rfl ?_
              refine go_getr X (n := 38) (j := 14) (by omega) rfl rfl (fun _ h9 => List.mem_cons_of_mem _ (List.mem_append_right _ h9)) (by decide) (List.mem_cons_of_mem _ (List.mem_append_left _ (List.mem_of_getElem? (i := 2) rfl))) rfl dX7_readsSubject_86 ?_
              refine go_aload_n X dX7_readsSubject_89 2 rfl rfl ?_
              refine go_geti X (n := 38) (j := 10) (by omega) rfl rfl (fun _ h9 => List.mem_cons_of_mem _ (List.mem_append_right _ h9)) (by decide) (List.mem_cons_of_mem _ (List.mem_append_left _ (List.mem_of_getElem? (i := 0) rfl))) rfl dX7_readsSubject_90 ?_
              refine go_topi (v := nI a) ((up2_ne (by omega)).trans hra) ?_
              refine go_iload_n X dX7_readsSubject_93 1 rfl rfl ?_
              refine go_bipush X (v := 115) dX7_readsSubject_94 (by decide) ?_
              refine go_icmp_ne X (tgt := 103) dX7_readsSubject_96 (by decide) (fun c96 => ?_) (fun h9 => absurd h9 c41)
              refine go_iload_n X dX7_readsSubject_103 1 rfl rfl ?_
              refine go_bipush X (v := 109) dX7_readsSubject_104 (by decide) ?_
              refine go_icmp_ne X (tgt := 113) dX7_readsSubject_106 (by decide) (fun c106 => ?_) (fun h9 => absurd h9 c47)
              refine go_iconst X (v := 2) dX7_readsSubject_113 (by decide) ?_
              refine go_topi (v := kndS (cdS ce fr n (q + 1))) ((knd_2 c41 c47 c53).symm) ?_
              refine go_iast X (n := 47) (k := a) (by omega) rfl rfl (by omega) (by omega) dX7_readsSubject_114 ?_
              refine go_aload_n X dX7_readsSubject_115 2 rfl rfl ?_
              refine go_getr X (n := 38) (j := 15) (by omega) rfl rfl (fun _ h9 => List.mem_cons_of_mem _ (List.mem_append_right _ h9)) (by decide) (List.mem_cons_of_mem _ (List.mem_append_left _ (List.mem_of_getElem? (i := 3) rfl))) rfl dX7_readsSubject_116 ?_
              refine go_aload_n X dX7_readsSubject_119 2 rfl rfl ?_
              refine go_geti X (n := 38) (j := 10) (by omega) rfl rfl (fun _ h9 => List.mem_cons_of_mem _ (List.mem_append_right _ h9)) (by decide) (List.mem_cons_of_mem _ (List.mem_append_left _ (List.mem_of_getElem? (i := 0) rfl))) rfl dX7_readsSubject_120 ?_
              refine go_topi (v := nI a) ((up2_ne (by omega)).trans ((up2_ne (by omega)).trans hra)) ?_
              refine go_iload X dX7_readsSubject_123 0 rfl ?_
              refine go_iast X (n := 48) (k := a) (by omega) rfl rfl (by omega) (by omega) dX7_readsSubject_125 ?_
              refine go_aload_n X dX7_readsSubject_126 2 rfl rfl ?_
              refine go_dup X dX7_readsSubject_127 rfl ?_
              refine go_geti X (n := 38) (j := 10) (by omega) rfl rfl (fun _ h9 => List.mem_cons_of_mem _ (List.mem_append_right _ h9)) (by decide) (List.mem_cons_of_mem _ (List.mem_append_left _ (List.mem_of_getElem? (i := 0) rfl))) rfl dX7_readsSubject_128 ?_
              refine go_topi (v := nI a) ((up2_ne (by omega)).trans ((up2_ne (by omega)).trans ((up2_ne (by omega)).trans hra))) ?_
              refine go_iconst X (v := 1) dX7_readsSubject_131 (by decide) ?_
              refine go_iadd X dX7_readsSubject_132 ?_
              refine go_topi (v := nI (a + 1)) (nI_add a 1) ?_
              refine go_puti X (n := 38) (j := 10) (ty := .int) (by omega) rfl rfl (fun _ h9 => List.mem_cons_of_mem _ (List.mem_append_right _ h9)) (by decide) (List.mem_cons_of_mem _ (List.mem_append_left _ (List.mem_of_getElem? (i := 0) rfl))) rfl tyX7 tyX7_ok nmX7 rfl (by decide +kernel) rfl rfl dX7_readsSubject_133 ?_
              refine go_iconst X (v := 1) dX7_readsSubject_136 (by decide) ?_
              exact go_zreturn X hr hlk dX7_readsSubject_137 (by first | exact Or.inl rfl | exact Or.inr rfl) (⟨Or.inr (Or.inr (Or.inr ⟨⟨c5, c16⟩, (by rw [knd_2 c41 c47 c53]; decide), g76, rfl, rfl⟩)), rfl⟩)
            · skip
              refine go_topi (v := (-9)) (cif_f g76) ?_
              refine go_sg (σ2 := (up2 (up2 σ 38 8 (nI ((q + 1) + 1))) 38 8 (nI (q + 1 + 1)))) (by rw [cif_f g76]) ?_
              refine go_sg (σ2 := (up2 σ 38 8 (nI (q + 1 + 1)))) up2_up2 ?_
              refine go_istore X (lv2 := [(4, .int (-9)), (3, .int (cdS ce fr n (q + 1))), (0, .ref (ad (38))), (1, .int (nI fr)), (2, .int (nI n))]) dX7_readsSubject_76 (by decide) rfl ?_
              refine go_iload X dX7_readsSubject_78 0 rfl ?_
              refine go_if_ge X (tgt := 85) dX7_readsSubject_80 (by decide) (fun h9 => absurd h9 (by decide)) (fun _ => ?_)
              refine go_iconst X (v := 0) dX7_readsSubject_83 (by decide) ?_
              exact go_zreturn X hr hlk dX7_readsSubject_84 (by first | exact Or.inl rfl | exact Or.inr rfl) (⟨Or.inr (Or.inr (Or.inl ⟨⟨c5, c16⟩, (by rw [knd_2 c41 c47 c53]; decide), g76, rfl, rfl⟩)), rfl⟩)
          · skip
            refine go_iconst X (v := 0) dX7_readsSubject_56 (by decide) ?_
            exact go_zreturn X hr hlk dX7_readsSubject_57 (by first | exact Or.inl rfl | exact Or.inr rfl) (⟨Or.inr (Or.inl ⟨⟨c5, c16⟩, knd_n c41 c47 c53, rfl, rfl⟩), rfl⟩)
    · skip
      refine go_iconst X (v := 0) dX7_readsSubject_19 (by decide) ?_
      exact go_zreturn X hr hlk dX7_readsSubject_20 (by first | exact Or.inl rfl | exact Or.inr rfl) (⟨Or.inl ⟨Or.inr c16, rfl, rfl⟩, rfl⟩)

