/-! years -/
def askP (what : Int32) : Prop := isB what 3 ∨ (10 ≤ what ∧ what < 14)
def tripP (ce : Nat → Int32) (ns nd : Int32) (ii nn : Nat) : Prop := ∀ t, t < nn → isB (ce (ii + 3 * t)) ns ∧ isB (ce (ii + 3 * t + 1)) nd ∧ isB (ce (ii + 3 * t + 2)) 3
noncomputable def ofYS (what fw vs pd ns : Int32) (lf : Nat → Int32) : Int32 := cif (what = 1) fw (cif (fw = -9) (cif (what = 0) vs (cif (what = 2) pd (cif (isB (what - 10) ns) (lf (toN (what - 10))) (-9)))) (-100000 - fw))
theorem uvX_f {σ : vSg} {j : Nat} {v : Int32} : uvX (up2 σ 0 j v) = uvX σ := by
  funext a d
  unfold uvX
  rw [up2_row (show 8 ≠ 0 by omega), up2_row (show 20 + d ≠ 0 by omega)]
theorem pvX_f {σ : vSg} {j : Nat} {v : Int32} : pvX (up2 σ 0 j v) = pvX σ := by
  funext d
  unfold pvX
  rw [up2_row (show 20 + d ≠ 0 by omega)]
theorem ofYS_c {what fw vs pd vs2 pd2 : Int32} {ns : Nat} {lf lf2 : Nat → Int32} (hs : ns < 2 ^ 31) (h : fw = -9 → vs = vs2 ∧ pd = pd2 ∧ ∀ a, a < ns → lf a = lf2 a) : ofYS what fw vs pd (nI ns) lf = ofYS what fw vs2 pd2 (nI ns) lf2 := by
  unfold ofYS
  refine cif_c (fun _ => rfl) (fun _ => cif_c (fun h9 => ?_) (fun _ => rfl))
  obtain ⟨h1, h2, h3⟩ := h h9
  refine cif_c (fun _ => h1) (fun _ => cif_c (fun _ => h2) (fun _ => cif_c (fun hb => h3 _ (isB_toN hb hs).1) (fun _ => rfl)))
/-- the year that stands in these cells, told by the values of all deeds: its answer -/
noncomputable def yrS (ce pa : Nat → Int32) (uv : Nat → Nat → Int32) (pv : Nat → Int32) (ns : Nat) (ii nn : Nat) (what : Int32) : Int32 :=
  ofYS what (yFw (fun z => toN (pa z)) (fun t => toN (ce (ii + 3 * t))) (fun t => toN (ce (ii + 3 * t + 1))) (fun t => toN (ce (ii + 3 * t + 2))) uv nn)
    (ySum (fun t => toN (ce (ii + 3 * t))) (fun t => toN (ce (ii + 3 * t + 1))) (fun t => toN (ce (ii + 3 * t + 2))) uv pv nn)
    (nI (yPd (fun t => toN (ce (ii + 3 * t + 2))) nn)) (nI ns) (fun a => nI (yLf (fun z => toN (pa z)) (fun t => toN (ce (ii + 3 * t))) (fun t => toN (ce (ii + 3 * t + 2))) nn a))
noncomputable def yearS (th la le : Nat → Int32) (ce : Nat → Nat → Int32) (pa : Nat → Int32) (uv : Nat → Nat → Int32) (pv : Nat → Int32) (ns nd : Nat) (k lane i n what : Int32) : Int32 × Int32 := cif (isB k 4) (cif (isB lane 3) (cif (isB n 21) (cif (askP what) (cif (0 < nI ns) (cif (fAsS (th (toN k)) (la (toN k)) lane = 0) (cif (spanS (le (toN k)) i (nI (3 * toN n))) (cif (tripP (ce (toN k)) (nI ns) (nI nd) (toN i) (toN n)) (yrS (ce (toN k)) pa uv pv ns (toN i) (toN n) what, 0) (-1, 0)) (-13, 3)) (-10 - fAsS (th (toN k)) (la (toN k)) lane, fAsS (th (toN k)) (la (toN k)) lane)) (-3, 0)) (-2, 0)) (-2, 0)) (-2, 0)) (-1, 0)
theorem hdX6_isAskedOfYears : yX6_isAskedOfYears.cls ≠ "java/lang/invoke/MethodHandle" ∧ yX6_isAskedOfYears.cls ≠ "java/lang/invoke/VarHandle" ∧ (parseMethodDescriptor yX6_isAskedOfYears.desc).map (fun d => d.parameters.length) = some 1 := by decide +kernel
set_option maxHeartbeats 4000000 in
set_option maxRecDepth 100000 in
theorem kX6_isAskedOfYears (l : Launch) (D : va_G) (cs : Nat → ClassId) (ad : Nat → Nat) (N kt : Nat) (hN : 58 ≤ N) (σ : vSg) (τ : vTa) (what : Int32)    : CtI l yX6_isAskedOfYears wsX6_isAskedOfYears ({ frames := 1, cells := 0, slots := 0, locals := 21 }) D cs ad N (shP kt) [.int what] σ τ 0 0 (fun r9 σ9 τ9 => b2i (askP what) = r9 ∧ σ = σ9 ∧ τ = τ9) := by
  refine ct_I (cc := cX6_isAskedOfYears) (maxL := 1) (by decide) rfl (Nat.le_of_ble_eq_true rfl) rfl rfl ?_
  intro p e s m args below meth c A X hr hlk
  refine go_iload_n X dX6_isAskedOfYears_0 0 rfl rfl ?_
  refine go_iconst X (v := 3) dX6_isAskedOfYears_1 (by decide) ?_
  refine go_callSI X (As := [.int what, .int 3]) (rest := []) (kX6_isBelow l D cs ad N kt (by omega) σ τ what 3) gX6_isAskedOfYears_X6_isBelow rfl hdX6_isBelow ⟨rfl, rfl, by decide, by decide, by decide, by decide⟩ rfl rfl (Nat.le_of_ble_eq_true rfl) dX6_isAskedOfYears_2 (fun r9 σ9 τ9 h9 => ?_)
  obtain ⟨rfl, rfl, rfl⟩ := h9
  refine go_ifb_ne X (tgt := 20) dX6_isAskedOfYears_5 (by decide) (fun c5 => ?_) (fun c5 => ?_)
  · skip
    refine go_iconst X (v := 1) dX6_isAskedOfYears_20 (by decide) ?_
    refine go_goto X (tgt := 25) dX6_isAskedOfYears_21 (by decide) ?_
    exact go_zreturn X hr hlk dX6_isAskedOfYears_25 (by first | exact Or.inl rfl | exact Or.inr rfl) (⟨b2i_t (Or.inl c5), rfl, rfl⟩)
  · skip
    refine go_iload_n X dX6_isAskedOfYears_8 0 rfl rfl ?_
    refine go_bipush X (v := 10) dX6_isAskedOfYears_9 (by decide) ?_
    refine go_icmp_lt X (tgt := 24) dX6_isAskedOfYears_11 (by decide) (fun c11 => ?_) (fun c11 => ?_)
    · skip
      refine go_iconst X (v := 0) dX6_isAskedOfYears_24 (by decide) ?_
      exact go_zreturn X hr hlk dX6_isAskedOfYears_25 (by first | exact Or.inl rfl | exact Or.inr rfl) (⟨b2i_f (by rintro (q | q); exact c5 q; exact absurd q.1 (Int32.not_le.mpr c11)), rfl, rfl⟩)
    · skip
      refine go_iload_n X dX6_isAskedOfYears_14 0 rfl rfl ?_
      refine go_bipush X (v := 14) dX6_isAskedOfYears_15 (by decide) ?_
      refine go_icmp_ge X (tgt := 24) dX6_isAskedOfYears_17 (by decide) (fun c17 => ?_) (fun c17 => ?_)
      · skip
        refine go_iconst X (v := 0) dX6_isAskedOfYears_24 (by decide) ?_
        exact go_zreturn X hr hlk dX6_isAskedOfYears_25 (by first | exact Or.inl rfl | exact Or.inr rfl) (⟨b2i_f (by rintro (q | q); exact c5 q; exact absurd q.2 (Int32.not_lt.mpr c17)), rfl, rfl⟩)
      · skip
        refine go_iconst X (v := 1) dX6_isAskedOfYears_20 (by decide) ?_
        refine go_goto X (tgt := 25) dX6_isAskedOfYears_21 (by decide) ?_
        exact go_zreturn X hr hlk dX6_isAskedOfYears_25 (by first | exact Or.inl rfl | exact Or.inr rfl) (⟨b2i_t (Or.inr ⟨Int32.not_lt.mp c11, Int32.not_le.mp c17⟩), rfl, rfl⟩)

theorem hdX6_areTriples : yX6_areTriples.cls = RX6 ∧ yX6_areTriples.cls ≠ "java/lang/invoke/MethodHandle" ∧ yX6_areTriples.cls ≠ "java/lang/invoke/VarHandle" ∧ (parseMethodDescriptor yX6_areTriples.desc).map (fun d => d.parameters.length) = some 3 := by decide +kernel
set_option maxHeartbeats 4000000 in
set_option maxRecDepth 100000 in
theorem kX6_areTriples (l : Launch) (D : va_G) (cs : Nat → ClassId) (ad : Nat → Nat) (N kt : Nat) (hN : 58 ≤ N) (σ : vSg) (τ : vTa) (k : Nat) (ii : Nat) (nn : Nat) (nd : Nat) (ns : Nat)   (hnd : σ 2 3 = nI nd) (hns : σ 2 4 = nI ns) (hk : k < 4) (hi : ii + 3 * nn ≤ 60) : CtI l yX6_areTriples wsX6_areTriples ({ frames := 2, cells := 0, slots := 0, locals := 42 }) D cs ad N (shP kt) [.ref (ad (0)), .ref (ad (12 + k)), .int (nI ii), .int (nI nn)] σ τ 0 0 (fun r9 σ9 τ9 => b2i (tripP (σ (16 + k)) (nI ns) (nI nd) ii nn) = r9 ∧ σ = σ9 ∧ τ = τ9) := by
  refine ct_I (cc := cX6_areTriples) (maxL := 6) (by decide) rfl (Nat.le_of_ble_eq_true rfl) rfl rfl ?_
  intro p e s m args below meth c A X hr hlk
  refine go_iconst X (v := 0) dX6_areTriples_0 (by decide) ?_
  refine go_istore X (lv2 := [(4, .int 0), (0, .ref (ad (0))), (1, .ref (ad (12 + k))), (2, .int (nI ii)), (3, .int (nI nn))]) dX6_areTriples_1 (by decide) rfl ?_
  refine go_loop (ι := Nat) (fun i9 => (i9 ≤ nn) ∧ (tripP (σ (16 + k)) (nI ns) (nI nd) ii i9)) (fun i9 => nn - i9) (fun i9 => σ) (fun i9 => τ) (fun i9 => [(4, .int (nI i9)), (0, .ref (ad (0))), (1, .ref (ad (12 + k))), (2, .int (nI ii)), (3, .int (nI nn))]) (fun i9 => []) 0 (by (try dsimp only); exact ⟨Nat.zero_le _, fun _ h => absurd h (Nat.not_lt_zero _)⟩) ?_
  intro i9 hi9 ih3
  obtain ⟨t, hv9⟩ : ∃ z, z = i9 := ⟨_, rfl⟩; subst hv9
  (try dsimp only at hi9); (try dsimp only at ih3); (try dsimp only)
  obtain ⟨ht, hal⟩ := hi9
  refine go_iload X dX6_areTriples_3 0 rfl ?_
  refine go_iload_n X dX6_areTriples_5 4 rfl rfl ?_
  refine go_icmpn_ge X (tgt := 77) dX6_areTriples_6 (by decide) (a := t) (b := nn) rfl rfl (by omega) (by omega) (fun c6 => ?_) (fun c6 => ?_)
  · skip
    refine go_iconst X (v := 1) dX6_areTriples_77 (by decide) ?_
    exact go_zreturn X hr hlk dX6_areTriples_78 (by first | exact Or.inl rfl | exact Or.inr rfl) (⟨b2i_t (by rw [show nn = t by omega]; exact hal), rfl, rfl⟩)
  · skip
    refine go_iload_n X dX6_areTriples_9 3 rfl rfl ?_
    refine go_iconst X (v := 3) dX6_areTriples_10 (by decide) ?_
    refine go_iload X dX6_areTriples_11 0 rfl ?_
    refine go_imul X dX6_areTriples_13 ?_
    refine go_topi (v := nI (3 * t)) (pk_mul 3 t) ?_
    refine go_iadd X dX6_areTriples_14 ?_
    refine go_topi (v := nI (ii + (3 * t))) (nI_add ii (3 * t)) ?_
    refine go_istore X (lv2 := [(5, .int (nI (ii + (3 * t)))), (4, .int (nI t)), (0, .ref (ad (0))), (1, .ref (ad (12 + k))), (2, .int (nI ii)), (3, .int (nI nn))]) dX6_areTriples_15 (by decide) rfl ?_
    refine go_aload_n X dX6_areTriples_17 2 rfl rfl ?_
    refine go_getr X (n := 0) (j := 1) (by omega) rfl rfl (fun _ h9 => List.mem_cons_of_mem _ (List.mem_append_left _ (List.mem_append_left _ (List.mem_append_right _ h9)))) (by decide) (List.mem_cons_of_mem _ (List.mem_append_left _ (List.mem_append_left _ (List.mem_append_left _ (List.mem_of_getElem? (i := 0) rfl))))) rfl dX6_areTriples_18 ?_
    refine go_aload_n X dX6_areTriples_21 3 rfl rfl ?_
    refine go_getr X (n := 12 + k) (j := 0) (by omega) (sh_row (by omega)) rfl (fun _ h9 => List.mem_cons_of_mem _ (List.mem_append_left _ (List.mem_append_right _ h9))) (by decide) (List.mem_cons_of_mem _ (List.mem_append_left _ (List.mem_append_left _ (List.mem_append_left _ (List.mem_of_getElem? (i := 1) rfl))))) rfl dX6_areTriples_22 ?_
    refine go_iload X dX6_areTriples_25 0 rfl ?_
    refine go_iald X (n := 16 + k) (k := ii + (3 * t)) (by omega) (sh_cells (by omega)) rfl (by omega) (by omega) dX6_areTriples_27 ?_
    refine go_callVI X (n := 2) (As := [.int (σ (16 + k) (ii + (3 * t)))]) (rest := []) (kX2_hasSubject l D cs ad N kt (by omega) σ τ (σ (16 + k) (ii + (3 * t))) (nI ns) (hns)) gX6_areTriples_X2_hasSubject rfl hdX2_hasSubject ⟨rfl, rfl, by decide, by decide, by decide, by decide⟩ (by omega) rfl rfl rfl rfl (Nat.le_of_ble_eq_true rfl) dX6_areTriples_28 (fun r9 σ9 τ9 h9 => ?_)
    obtain ⟨rfl, rfl, rfl⟩ := h9
    refine go_ifb_eq X (tgt := 69) dX6_areTriples_31 (by decide) (fun c31 => ?_) (fun c31 => ?_)
    · skip
      refine go_iconst X (v := 0) dX6_areTriples_69 (by decide) ?_
      exact go_zreturn X hr hlk dX6_areTriples_70 (by first | exact Or.inl rfl | exact Or.inr rfl) (⟨b2i_f (fun q => c31 (q t (by omega)).1), rfl, rfl⟩)
    · skip
      refine go_aload_n X dX6_areTriples_34 2 rfl rfl ?_
      refine go_getr X (n := 0) (j := 1) (by omega) rfl rfl (fun _ h9 => List.mem_cons_of_mem _ (List.mem_append_left _ (List.mem_append_left _ (List.mem_append_right _ h9)))) (by decide) (List.mem_cons_of_mem _ (List.mem_append_left _ (List.mem_append_left _ (List.mem_append_left _ (List.mem_of_getElem? (i := 0) rfl))))) rfl dX6_areTriples_35 ?_
      refine go_aload_n X dX6_areTriples_38 3 rfl rfl ?_
      refine go_getr X (n := 12 + k) (j := 0) (by omega) (sh_row (by omega)) rfl (fun _ h9 => List.mem_cons_of_mem _ (List.mem_append_left _ (List.mem_append_right _ h9))) (by decide) (List.mem_cons_of_mem _ (List.mem_append_left _ (List.mem_append_left _ (List.mem_append_left _ (List.mem_of_getElem? (i := 1) rfl))))) rfl dX6_areTriples_39 ?_
      refine go_iload X dX6_areTriples_42 0 rfl ?_
      refine go_iconst X (v := 1) dX6_areTriples_44 (by decide) ?_
      refine go_iadd X dX6_areTriples_45 ?_
      refine go_topi (v := nI ((ii + (3 * t)) + 1)) (nI_add (ii + (3 * t)) 1) ?_
      refine go_iald X (n := 16 + k) (k := (ii + (3 * t)) + 1) (by omega) (sh_cells (by omega)) rfl (by omega) (by omega) dX6_areTriples_46 ?_
      refine go_callVI X (n := 2) (As := [.int (σ (16 + k) ((ii + (3 * t)) + 1))]) (rest := []) (kX2_hasDeed l D cs ad N kt (by omega) σ τ (σ (16 + k) ((ii + (3 * t)) + 1)) (nI nd) (hnd)) gX6_areTriples_X2_hasDeed rfl hdX2_hasDeed ⟨rfl, rfl, by decide, by decide, by decide, by decide⟩ (by omega) rfl rfl rfl rfl (Nat.le_of_ble_eq_true rfl) dX6_areTriples_47 (fun r9 σ9 τ9 h9 => ?_)
      obtain ⟨rfl, rfl, rfl⟩ := h9
      refine go_ifb_eq X (tgt := 69) dX6_areTriples_50 (by decide) (fun c50 => ?_) (fun c50 => ?_)
      · skip
        refine go_iconst X (v := 0) dX6_areTriples_69 (by decide) ?_
        exact go_zreturn X hr hlk dX6_areTriples_70 (by first | exact Or.inl rfl | exact Or.inr rfl) (⟨b2i_f (fun q => c50 (q t (by omega)).2.1), rfl, rfl⟩)
      · skip
        refine go_aload_n X dX6_areTriples_53 3 rfl rfl ?_
        refine go_getr X (n := 12 + k) (j := 0) (by omega) (sh_row (by omega)) rfl (fun _ h9 => List.mem_cons_of_mem _ (List.mem_append_left _ (List.mem_append_right _ h9))) (by decide) (List.mem_cons_of_mem _ (List.mem_append_left _ (List.mem_append_left _ (List.mem_append_left _ (List.mem_of_getElem? (i := 1) rfl))))) rfl dX6_areTriples_54 ?_
        refine go_iload X dX6_areTriples_57 0 rfl ?_
        refine go_iconst X (v := 2) dX6_areTriples_59 (by decide) ?_
        refine go_iadd X dX6_areTriples_60 ?_
        refine go_topi (v := nI ((ii + (3 * t)) + 2)) (nI_add (ii + (3 * t)) 2) ?_
        refine go_iald X (n := 16 + k) (k := (ii + (3 * t)) + 2) (by omega) (sh_cells (by omega)) rfl (by omega) (by omega) dX6_areTriples_61 ?_
        refine go_iconst X (v := 3) dX6_areTriples_62 (by decide) ?_
        refine go_callSI X (As := [.int (σ (16 + k) ((ii + (3 * t)) + 2)), .int 3]) (rest := []) (kX6_isBelow l D cs ad N kt (by omega) σ τ (σ (16 + k) ((ii + (3 * t)) + 2)) 3) gX6_areTriples_X6_isBelow rfl hdX6_isBelow ⟨rfl, rfl, by decide, by decide, by decide, by decide⟩ rfl rfl (Nat.le_of_ble_eq_true rfl) dX6_areTriples_63 (fun r9 σ9 τ9 h9 => ?_)
        obtain ⟨rfl, rfl, rfl⟩ := h9
        refine go_ifb_ne X (tgt := 71) dX6_areTriples_66 (by decide) (fun c66 => ?_) (fun c66 => ?_)
        · skip
          refine go_iinc X (v := nI (t + 1)) (lv2 := [(4, .int (nI (t + 1))), (5, .int (nI (ii + (3 * t)))), (0, .ref (ad (0))), (1, .ref (ad (12 + k))), (2, .int (nI ii)), (3, .int (nI nn))]) dX6_areTriples_71 (k := 1) rfl (nI_add t 1) (by decide) rfl ?_
          refine go_goto X (tgt := 3) dX6_areTriples_74 (by decide) ?_
          refine go_lvsub [0, 2, 3, 4, 5] rfl ?_
          exact ih3 (t + 1) (by (try dsimp only); exact ⟨by omega, fun q hq => by rcases Nat.lt_succ_iff_lt_or_eq.mp hq with h | h; exact hal q h; rw [h]; exact ⟨c31, c50, c66⟩⟩) (by (try dsimp only); omega)
        · skip
          refine go_iconst X (v := 0) dX6_areTriples_69 (by decide) ?_
          exact go_zreturn X hr hlk dX6_areTriples_70 (by first | exact Or.inl rfl | exact Or.inr rfl) (⟨b2i_f (fun q => c66 (q t (by omega)).2.2), rfl, rfl⟩)

theorem hdX6_ofYear : yX6_ofYear.cls = RX6 ∧ yX6_ofYear.cls ≠ "java/lang/invoke/MethodHandle" ∧ yX6_ofYear.cls ≠ "java/lang/invoke/VarHandle" ∧ (parseMethodDescriptor yX6_ofYear.desc).map (fun d => d.parameters.length) = some 1 := by decide +kernel
set_option maxHeartbeats 4000000 in
set_option maxRecDepth 100000 in
theorem kX6_ofYear (l : Launch) (D : va_G) (cs : Nat → ClassId) (ad : Nat → Nat) (N kt : Nat) (hN : 58 ≤ N) (σ : vSg) (τ : vTa) (what : Int32) (ns : Nat) (fw : Int32) (h_fw : σ 5 3 = fw) (vs : Int32) (h_vs : σ 5 1 = vs) (pd : Int32) (h_pd : σ 5 2 = pd)  (hns : σ 2 4 = nI ns) (hn4 : ns ≤ 4) : CtI l yX6_ofYear wsX6_ofYear ({ frames := 2, cells := 0, slots := 0, locals := 42 }) D cs ad N (shP kt) [.ref (ad (0)), .int what] σ τ 0 0 (fun r9 σ9 τ9 => ofYS what fw vs pd (nI ns) (σ 37) = r9 ∧ σ = σ9 ∧ τ = τ9) := by
  refine ct_I (cc := cX6_ofYear) (maxL := 3) (by decide) rfl (Nat.le_of_ble_eq_true rfl) rfl rfl ?_
  intro p e s m args below meth c A X hr hlk
  refine go_iload_n X dX6_ofYear_0 1 rfl rfl ?_
  refine go_iconst X (v := 1) dX6_ofYear_1 (by decide) ?_
  refine go_icmp_ne X (tgt := 13) dX6_ofYear_2 (by decide) (fun c2 => ?_) (fun c2 => ?_)
  · skip
    refine go_aload_n X dX6_ofYear_13 0 rfl rfl ?_
    refine go_getr X (n := 0) (j := 4) (by omega) rfl rfl (fun _ h9 => List.mem_cons_of_mem _ (List.mem_append_left _ (List.mem_append_left _ (List.mem_append_right _ h9)))) (by decide) (List.mem_cons_of_mem _ (List.mem_append_left _ (List.mem_append_left _ (List.mem_append_left _ (List.mem_of_getElem? (i := 0) rfl))))) rfl dX6_ofYear_14 ?_
    refine go_geti X (n := 5) (j := 3) (by omega) rfl rfl (fun _ h9 => List.mem_cons_of_mem _ (List.mem_append_left _ (List.mem_append_right _ h9))) (by decide) (List.mem_cons_of_mem _ (List.mem_append_left _ (List.mem_append_left _ (List.mem_append_left _ (List.mem_of_getElem? (i := 1) rfl))))) rfl dX6_ofYear_17 ?_
    refine go_topi (v := fw) (h_fw) ?_
    refine go_bipush X (v := (-9)) dX6_ofYear_20 (by decide) ?_
    refine go_icmp_eq X (tgt := 36) dX6_ofYear_22 (by decide) (fun c22 => ?_) (fun c22 => ?_)
    · skip
      refine go_iload_n X dX6_ofYear_36 1 rfl rfl ?_
      refine go_if_ne X (tgt := 48) dX6_ofYear_37 (by decide) (fun c37 => ?_) (fun c37 => ?_)
      · skip
        refine go_iload_n X dX6_ofYear_48 1 rfl rfl ?_
        refine go_iconst X (v := 2) dX6_ofYear_49 (by decide) ?_
        refine go_icmp_ne X (tgt := 61) dX6_ofYear_50 (by decide) (fun c50 => ?_) (fun c50 => ?_)
        · skip
          refine go_iload_n X dX6_ofYear_61 1 rfl rfl ?_
          refine go_bipush X (v := 10) dX6_ofYear_62 (by decide) ?_
          refine go_isub X dX6_ofYear_64 ?_
          refine go_istore_n X (lv2 := [(2, .int (what - 10)), (0, .ref (ad (0))), (1, .int what)]) dX6_ofYear_65 rfl (by decide) rfl ?_
          refine go_aload_n X dX6_ofYear_66 1 rfl rfl ?_
          refine go_getr X (n := 0) (j := 1) (by omega) rfl rfl (fun _ h9 => List.mem_cons_of_mem _ (List.mem_append_left _ (List.mem_append_left _ (List.mem_append_right _ h9)))) (by decide) (List.mem_cons_of_mem _ (List.mem_append_left _ (List.mem_append_left _ (List.mem_append_left _ (List.mem_of_getElem? (i := 5) rfl))))) rfl dX6_ofYear_67 ?_
          refine go_iload_n X dX6_ofYear_70 0 rfl rfl ?_
          refine go_callVI X (n := 2) (As := [.int (what - 10)]) (rest := []) (kX2_hasSubject l D cs ad N kt (by omega) σ τ (what - 10) (nI ns) (hns)) gX6_ofYear_X2_hasSubject rfl hdX2_hasSubject ⟨rfl, rfl, by decide, by decide, by decide, by decide⟩ (by omega) rfl rfl rfl rfl (Nat.le_of_ble_eq_true rfl) dX6_ofYear_71 (fun r9 σ9 τ9 h9 => ?_)
          obtain ⟨rfl, rfl, rfl⟩ := h9
          refine go_ifb_eq X (tgt := 89) dX6_ofYear_74 (by decide) (fun c74 => ?_) (fun c74 => ?_)
          · skip
            refine go_bipush X (v := (-9)) dX6_ofYear_89 (by decide) ?_
            exact go_ireturn X hr hlk dX6_ofYear_91 ((have hE : ofYS what fw vs pd (nI ns) (σ 37) = (-9) := (by unfold ofYS; (try dsimp only); exact (cif_f c2).trans ((cif_t c22).trans ((cif_f c37).trans ((cif_f c50).trans ((cif_f c74).trans (rfl)))))); ⟨hE, rfl, rfl⟩))
          · skip
            obtain ⟨j, hj, ej⟩ := isB_nat c74 (by omega)
            refine go_aload_n X dX6_ofYear_77 1 rfl rfl ?_
            refine go_getr X (n := 0) (j := 4) (by omega) rfl rfl (fun _ h9 => List.mem_cons_of_mem _ (List.mem_append_left _ (List.mem_append_left _ (List.mem_append_right _ h9)))) (by decide) (List.mem_cons_of_mem _ (List.mem_append_left _ (List.mem_append_left _ (List.mem_append_left _ (List.mem_of_getElem? (i := 0) rfl))))) rfl dX6_ofYear_78 ?_
            refine go_getr X (n := 5) (j := 0) (by omega) rfl rfl (fun _ h9 => List.mem_cons_of_mem _ (List.mem_append_left _ (List.mem_append_right _ h9))) (by decide) (List.mem_cons_of_mem _ (List.mem_append_left _ (List.mem_append_left _ (List.mem_append_left _ (List.mem_of_getElem? (i := 6) rfl))))) rfl dX6_ofYear_81 ?_
            refine go_iload_n X dX6_ofYear_84 0 rfl rfl ?_
            refine go_iald X (n := 37) (k := j) (by omega) rfl ej (by omega) (by omega) dX6_ofYear_85 ?_
            refine go_goto X (tgt := 91) dX6_ofYear_86 (by decide) ?_
            exact go_ireturn X hr hlk dX6_ofYear_91 ((have hE : ofYS what fw vs pd (nI ns) (σ 37) = σ 37 j := (by unfold ofYS; (try dsimp only); exact (cif_f c2).trans ((cif_t c22).trans ((cif_f c37).trans ((cif_f c50).trans ((cif_t c74).trans ((by rw [ej, toN_nI (by omega)]))))))); ⟨hE, rfl, rfl⟩))
        · skip
          refine go_aload_n X dX6_ofYear_53 0 rfl rfl ?_
          refine go_getr X (n := 0) (j := 4) (by omega) rfl rfl (fun _ h9 => List.mem_cons_of_mem _ (List.mem_append_left _ (List.mem_append_left _ (List.mem_append_right _ h9)))) (by decide) (List.mem_cons_of_mem _ (List.mem_append_left _ (List.mem_append_left _ (List.mem_append_left _ (List.mem_of_getElem? (i := 0) rfl))))) rfl dX6_ofYear_54 ?_
          refine go_geti X (n := 5) (j := 2) (by omega) rfl rfl (fun _ h9 => List.mem_cons_of_mem _ (List.mem_append_left _ (List.mem_append_right _ h9))) (by decide) (List.mem_cons_of_mem _ (List.mem_append_left _ (List.mem_append_left _ (List.mem_append_left _ (List.mem_of_getElem? (i := 4) rfl))))) rfl dX6_ofYear_57 ?_
          refine go_topi (v := pd) (h_pd) ?_
          exact go_ireturn X hr hlk dX6_ofYear_60 ((have hE : ofYS what fw vs pd (nI ns) (σ 37) = pd := (by unfold ofYS; (try dsimp only); exact (cif_f c2).trans ((cif_t c22).trans ((cif_f c37).trans ((cif_t c50).trans (rfl))))); ⟨hE, rfl, rfl⟩))
      · skip
        refine go_aload_n X dX6_ofYear_40 0 rfl rfl ?_
        refine go_getr X (n := 0) (j := 4) (by omega) rfl rfl (fun _ h9 => List.mem_cons_of_mem _ (List.mem_append_left _ (List.mem_append_left _ (List.mem_append_right _ h9)))) (by decide) (List.mem_cons_of_mem _ (List.mem_append_left _ (List.mem_append_left _ (List.mem_append_left _ (List.mem_of_getElem? (i := 0) rfl))))) rfl dX6_ofYear_41 ?_
        refine go_geti X (n := 5) (j := 1) (by omega) rfl rfl (fun _ h9 => List.mem_cons_of_mem _ (List.mem_append_left _ (List.mem_append_right _ h9))) (by decide) (List.mem_cons_of_mem _ (List.mem_append_left _ (List.mem_append_left _ (List.mem_append_left _ (List.mem_of_getElem? (i := 3) rfl))))) rfl dX6_ofYear_44 ?_
        refine go_topi (v := vs) (h_vs) ?_
        exact go_ireturn X hr hlk dX6_ofYear_47 ((have hE : ofYS what fw vs pd (nI ns) (σ 37) = vs := (by unfold ofYS; (try dsimp only); exact (cif_f c2).trans ((cif_t c22).trans ((cif_t c37).trans (rfl)))); ⟨hE, rfl, rfl⟩))
    · skip
      refine go_ldc X (v := (-100000)) (List.mem_cons_of_mem _ (List.mem_append_left _ (List.mem_append_left _ (List.mem_append_left _ (List.mem_of_getElem? (i := 2) rfl))))) dX6_ofYear_25 ?_
      refine go_aload_n X dX6_ofYear_27 0 rfl rfl ?_
      refine go_getr X (n := 0) (j := 4) (by omega) rfl rfl (fun _ h9 => List.mem_cons_of_mem _ (List.mem_append_left _ (List.mem_append_left _ (List.mem_append_right _ h9)))) (by decide) (List.mem_cons_of_mem _ (List.mem_append_left _ (List.mem_append_left _ (List.mem_append_left _ (List.mem_of_getElem? (i := 0) rfl))))) rfl dX6_ofYear_28 ?_
      refine go_geti X (n := 5) (j := 3) (by omega) rfl rfl (fun _ h9 => List.mem_cons_of_mem _ (List.mem_append_left _ (List.mem_append_right _ h9))) (by decide) (List.mem_cons_of_mem _ (List.mem_append_left _ (List.mem_append_left _ (List.mem_append_left _ (List.mem_of_getElem? (i := 1) rfl))))) rfl dX6_ofYear_31 ?_
      refine go_topi (v := fw) (h_fw) ?_
      refine go_isub X dX6_ofYear_34 ?_
      exact go_ireturn X hr hlk dX6_ofYear_35 ((have hE : ofYS what fw vs pd (nI ns) (σ 37) = (-100000) - fw := (by unfold ofYS; (try dsimp only); exact (cif_f c2).trans ((cif_f c22).trans (rfl))); ⟨hE, rfl, rfl⟩))
  · skip
    refine go_aload_n X dX6_ofYear_5 0 rfl rfl ?_
    refine go_getr X (n := 0) (j := 4) (by omega) rfl rfl (fun _ h9 => List.mem_cons_of_mem _ (List.mem_append_left _ (List.mem_append_left _ (List.mem_append_right _ h9)))) (by decide) (List.mem_cons_of_mem _ (List.mem_append_left _ (List.mem_append_left _ (List.mem_append_left _ (List.mem_of_getElem? (i := 0) rfl))))) rfl dX6_ofYear_6 ?_
    refine go_geti X (n := 5) (j := 3) (by omega) rfl rfl (fun _ h9 => List.mem_cons_of_mem _ (List.mem_append_left _ (List.mem_append_right _ h9))) (by decide) (List.mem_cons_of_mem _ (List.mem_append_left _ (List.mem_append_left _ (List.mem_append_left _ (List.mem_of_getElem? (i := 1) rfl))))) rfl dX6_ofYear_9 ?_
    refine go_topi (v := fw) (h_fw) ?_
    exact go_ireturn X hr hlk dX6_ofYear_12 ((have hE : ofYS what fw vs pd (nI ns) (σ 37) = fw := (by unfold ofYS; (try dsimp only); exact (cif_t c2).trans (rfl)); ⟨hE, rfl, rfl⟩))

theorem year_tie {σ ρ : vSg} {ns : Nat} {kk ii nn : Nat} {what : Int32} (h : liveP (up2 σ 0 7 0) ns (fun z => toN (σ 9 z)) (fun t => toN (σ (16 + kk) (ii + 3 * t))) (fun t => toN (σ (16 + kk) (ii + 3 * t + 1))) (fun t => toN (σ (16 + kk) (ii + 3 * t + 2))) nn ρ) (hn : ns ≤ 4) : yrS (σ (16 + kk)) (σ 9) (uvX σ) (pvX σ) ns ii nn what = ofYS what (ρ 5 3) (ρ 5 1) (ρ 5 2) (nI ns) (ρ 37) := by
  obtain ⟨-, h2, h3⟩ := h
  rw [uvX_f] at h2 h3
  rw [pvX_f] at h3
  unfold yrS
  rw [h2]
  exact ofYS_c (by omega) (fun h9 => ⟨(h3 h9).1.symm, (h3 h9).2.1.symm, fun a ha => ((h3 h9).2.2 a ha).symm⟩)
theorem hdX6_year : yX6_year.cls = RX6 ∧ yX6_year.cls ≠ "java/lang/invoke/MethodHandle" ∧ yX6_year.cls ≠ "java/lang/invoke/VarHandle" ∧ (parseMethodDescriptor yX6_year.desc).map (fun d => d.parameters.length) = some 5 := by decide +kernel
set_option maxHeartbeats 4000000 in
set_option maxRecDepth 100000 in
theorem kX6_year (l : Launch) (D : va_G) (cs : Nat → ClassId) (ad : Nat → Nat) (N kt : Nat) (hN : 58 ≤ N) (σ : vSg) (τ : vTa) (k : Int32) (lane : Int32) (i : Int32) (n : Int32) (what : Int32) (nd : Nat) (ns : Nat) (nr : Nat)  (hI : IX σ nd ns nr) : CtI l yX6_year wsX6_year ({ frames := 5, cells := 0, slots := 0, locals := 117 }) D cs ad N (shP kt) [.ref (ad (0)), .int k, .int lane, .int i, .int n, .int what] σ τ 0 0 (fun r9 σ9 τ9 => (yearS (fun z9 => σ (12 + z9) 1) (fun z9 => σ (12 + z9) 2) (fun z9 => σ (12 + z9) 3) (fun z9 => σ (16 + z9)) (σ 9) (uvX σ) (pvX σ) ns nd k lane i n what).1 = r9 ∧ (∀ q, q ≠ 5 → q ≠ 37 → σ9 q = up2 σ 0 7 (yearS (fun z9 => σ (12 + z9) 1) (fun z9 => σ (12 + z9) 2) (fun z9 => σ (12 + z9) 3) (fun z9 => σ (16 + z9)) (σ 9) (uvX σ) (pvX σ) ns nd k lane i n what).2 q) ∧ τ = τ9) := by
  refine ct_I (cc := cX6_year) (maxL := 8) (by decide) rfl (Nat.le_of_ble_eq_true rfl) rfl rfl ?_
  intro p e s m args below meth c A X hr hlk
  obtain ⟨⟨hnd, hnd5⟩, ⟨hns, hns4⟩, hdd, hkp, ⟨hnr, hnr8⟩, hrd, hrw, hpos⟩ := id hI
  refine go_aload_n X dX6_year_0 0 rfl rfl ?_
  refine go_iconst X (v := 0) dX6_year_1 (by decide) ?_
  refine go_puti X (n := 0) (j := 7) (ty := .int) (by omega) rfl rfl (fun _ h9 => List.mem_cons_of_mem _ (List.mem_append_left _ (List.mem_append_left _ (List.mem_append_left _ (List.mem_append_right _ h9))))) (by decide) (List.mem_cons_of_mem _ (List.mem_append_left _ (List.mem_append_left _ (List.mem_append_left _ (List.mem_append_left _ (List.mem_append_left _ (List.mem_of_getElem? (i := 0) rfl))))))) rfl tyX6 tyX6_ok nmX6 rfl (by decide +kernel) rfl rfl dX6_year_2 ?_
  refine go_iload_n X dX6_year_5 1 rfl rfl ?_
  refine go_callSI X (As := [.int k]) (rest := []) (kX6_isSheet l D cs ad N kt (by omega) (up2 σ 0 7 0) τ k) gX6_year_X6_isSheet rfl hdX6_isSheet ⟨rfl, rfl, by decide, by decide, by decide, by decide⟩ rfl rfl (Nat.le_of_ble_eq_true rfl) dX6_year_6 (fun r9 σ9 τ9 h9 => ?_)
  obtain ⟨rfl, rfl, rfl⟩ := h9
  refine go_ifb_ne X (tgt := 14) dX6_year_9 (by decide) (fun c9 => ?_) (fun c9 => ?_)
  · skip
    obtain ⟨kk, hkk, rfl⟩ := isB_nat (b := 4) c9 (by omega)
    refine go_iload_n X dX6_year_14 2 rfl rfl ?_
    refine go_iconst X (v := 3) dX6_year_15 (by decide) ?_
    refine go_callSI X (As := [.int lane, .int 3]) (rest := []) (kX6_isBelow l D cs ad N kt (by omega) (up2 σ 0 7 0) τ lane 3) gX6_year_X6_isBelow rfl hdX6_isBelow ⟨rfl, rfl, by decide, by decide, by decide, by decide⟩ rfl rfl (Nat.le_of_ble_eq_true rfl) dX6_year_16 (fun r9 σ9 τ9 h9 => ?_)
    obtain ⟨rfl, rfl, rfl⟩ := h9
    refine go_ifb_eq X (tgt := 40) dX6_year_19 (by decide) (fun c19 => ?_) (fun c19 => ?_)
    · skip
      refine go_bipush X (v := (-2)) dX6_year_40 (by decide) ?_
      exact go_ireturn X hr hlk dX6_year_42 ((have hE : yearS (fun z9 => σ (12 + z9) 1) (fun z9 => σ (12 + z9) 2) (fun z9 => σ (12 + z9) 3) (fun z9 => σ (16 + z9)) (σ 9) (uvX σ) (pvX σ) ns nd (nI kk) lane i n what = ((-2), 0) := (by unfold yearS; (try dsimp only); (try rw [toN_nI (k := kk) (by omega)]); exact (cif_t c9).trans ((cif_f c19).trans (rfl))); ⟨by rw [hE], fun q _ _ => by rw [hE], rfl⟩))
    · skip
      refine go_iload X dX6_year_22 4 rfl ?_
      refine go_bipush X (v := 21) dX6_year_24 (by decide) ?_
      refine go_callSI X (As := [.int n, .int 21]) (rest := []) (kX6_isBelow l D cs ad N kt (by omega) (up2 σ 0 7 0) τ n 21) gX6_year_X6_isBelow rfl hdX6_isBelow ⟨rfl, rfl, by decide, by decide, by decide, by decide⟩ rfl rfl (Nat.le_of_ble_eq_true rfl) dX6_year_26 (fun r9 σ9 τ9 h9 => ?_)
      obtain ⟨rfl, rfl, rfl⟩ := h9
      refine go_ifb_eq X (tgt := 40) dX6_year_29 (by decide) (fun c29 => ?_) (fun c29 => ?_)
      · skip
        refine go_bipush X (v := (-2)) dX6_year_40 (by decide) ?_
        exact go_ireturn X hr hlk dX6_year_42 ((have hE : yearS (fun z9 => σ (12 + z9) 1) (fun z9 => σ (12 + z9) 2) (fun z9 => σ (12 + z9) 3) (fun z9 => σ (16 + z9)) (σ 9) (uvX σ) (pvX σ) ns nd (nI kk) lane i n what = ((-2), 0) := (by unfold yearS; (try dsimp only); (try rw [toN_nI (k := kk) (by omega)]); exact (cif_t c9).trans ((cif_t c19).trans ((cif_f c29).trans (rfl)))); ⟨by rw [hE], fun q _ _ => by rw [hE], rfl⟩))
      · skip
        obtain ⟨nn, hnn, rfl⟩ := isB_nat (b := 21) c29 (by omega)
        refine go_iload X dX6_year_32 5 rfl ?_
        refine go_callSI X (As := [.int what]) (rest := []) (kX6_isAskedOfYears l D cs ad N kt (by omega) (up2 σ 0 7 0) τ what) gX6_year_X6_isAskedOfYears rfl hdX6_isAskedOfYears ⟨rfl, rfl, by decide, by decide, by decide, by decide⟩ rfl rfl (Nat.le_of_ble_eq_true rfl) dX6_year_34 (fun r9 σ9 τ9 h9 => ?_)
        obtain ⟨rfl, rfl, rfl⟩ := h9
        refine go_ifb_ne X (tgt := 43) dX6_year_37 (by decide) (fun c37 => ?_) (fun c37 => ?_)
        · skip
          refine go_aload_n X dX6_year_43 0 rfl rfl ?_
          refine go_getr X (n := 0) (j := 1) (by omega) rfl rfl (fun _ h9 => List.mem_cons_of_mem _ (List.mem_append_left _ (List.mem_append_left _ (List.mem_append_left _ (List.mem_append_right _ h9))))) (by decide) (List.mem_cons_of_mem _ (List.mem_append_left _ (List.mem_append_left _ (List.mem_append_left _ (List.mem_append_left _ (List.mem_append_left _ (List.mem_of_getElem? (i := 1) rfl))))))) rfl dX6_year_44 ?_
          refine go_callVI X (n := 2) (As := []) (rest := []) (kX2_isThere l D cs ad N kt (by omega) (up2 σ 0 7 0) τ (nI ns) ((up2_ne (by omega)).trans hns)) gX6_year_X2_isThere rfl hdX2_isThere ⟨rfl, rfl, by decide, by decide, by decide, by decide⟩ (by omega) rfl rfl rfl rfl (Nat.le_of_ble_eq_true rfl) dX6_year_47 (fun r9 σ9 τ9 h9 => ?_)
          obtain ⟨rfl, rfl, rfl⟩ := h9
          refine go_ifb_ne X (tgt := 56) dX6_year_50 (by decide) (fun c50 => ?_) (fun c50 => ?_)
          · skip
            refine go_aload_n X dX6_year_56 0 rfl rfl ?_
            refine go_getr X (n := 0) (j := 0) (by omega) rfl rfl (fun _ h9 => List.mem_cons_of_mem _ (List.mem_append_left _ (List.mem_append_left _ (List.mem_append_left _ (List.mem_append_right _ h9))))) (by decide) (List.mem_cons_of_mem _ (List.mem_append_left _ (List.mem_append_left _ (List.mem_append_left _ (List.mem_append_left _ (List.mem_append_left _ (List.mem_of_getElem? (i := 2) rfl))))))) rfl dX6_year_57 ?_
            refine go_iload_n X dX6_year_60 1 rfl rfl ?_
            refine go_aald3 X (n := 1) (k := kk) (by omega) rfl rfl (by omega) (by omega) dX6_year_61 ?_
            refine go_astore X (lv2 := [(6, .ref (ad (12 + kk))), (0, .ref (ad (0))), (1, .int (nI kk)), (2, .int lane), (3, .int i), (4, .int (nI nn)), (5, .int what)]) dX6_year_62 (by decide) rfl ?_
            refine go_aload X dX6_year_64 0 rfl ?_
            refine go_iload_n X dX6_year_66 3 rfl rfl ?_
            refine go_callSI X (As := [.ref (ad (12 + kk)), .int lane]) (rest := []) (kX6_faultAs l D cs ad N kt (by omega) (up2 σ 0 7 0) τ kk lane (σ (12 + kk) 1) ((up2_ne (by omega))) (σ (12 + kk) 2) ((up2_ne (by omega))) (by omega)) gX6_year_X6_faultAs rfl hdX6_faultAs ⟨rfl, rfl, by decide, by decide, by decide, by decide⟩ rfl rfl (Nat.le_of_ble_eq_true rfl) dX6_year_67 (fun r9 σ9 τ9 h9 => ?_)
            obtain ⟨rfl, rfl, rfl⟩ := h9
            refine go_istore X (lv2 := [(7, .int (fAsS (σ (12 + kk) 1) (σ (12 + kk) 2) lane)), (6, .ref (ad (12 + kk))), (0, .ref (ad (0))), (1, .int (nI kk)), (2, .int lane), (3, .int i), (4, .int (nI nn)), (5, .int what)]) dX6_year_70 (by decide) rfl ?_
            refine go_iload X dX6_year_72 0 rfl ?_
            refine go_if_eq X (tgt := 84) dX6_year_74 (by decide) (fun c74 => ?_) (fun c74 => ?_)
            · skip
              refine go_aload X dX6_year_84 1 rfl ?_
              refine go_iload_n X dX6_year_86 5 rfl rfl ?_
              refine go_iconst X (v := 3) dX6_year_87 (by decide) ?_
              refine go_iload X dX6_year_88 6 rfl ?_
              refine go_imul X dX6_year_90 ?_
              refine go_topi (v := nI (3 * nn)) (pk_mul 3 nn) ?_
              refine go_callVI X (n := 12 + kk) (As := [.int i, .int (nI (3 * nn))]) (rest := []) (kX3_spans l D cs ad N kt (by omega) (up2 σ 0 7 0) τ kk i (nI (3 * nn)) (σ (12 + kk) 3) ((up2_ne (by omega))) (by omega)) gX6_year_X3_spans rfl hdX3_spans ⟨rfl, rfl, by decide, by decide, by decide, by decide⟩ (by omega) (sh_row (by omega)) rfl rfl rfl (Nat.le_of_ble_eq_true rfl) dX6_year_91 (fun r9 σ9 τ9 h9 => ?_)
              obtain ⟨rfl, rfl, rfl⟩ := h9
              refine go_ifb_ne X (tgt := 103) dX6_year_94 (by decide) (fun c94 => ?_) (fun c94 => ?_)
              · skip
                obtain ⟨len, hlen, elen⟩ := isB_nat (b := 61) (hrw kk (by omega)).2 (by omega)
                obtain ⟨ii, n3, rfl, hn3, hsp⟩ := spanS_nat (len := len) (by rw [← elen]; exact c94) (by omega)
                have hn4 : 3 * nn = n3 := (nI_eq (by omega) (by omega)).mp hn3
                refine go_aload_n X dX6_year_103 2 rfl rfl ?_
                refine go_aload X dX6_year_104 1 rfl ?_
                refine go_iload_n X dX6_year_106 5 rfl rfl ?_
                refine go_iload X dX6_year_107 6 rfl ?_
                refine go_callVI X (n := 0) (As := [.ref (ad (12 + kk)), .int (nI ii), .int (nI nn)]) (rest := []) (kX6_areTriples l D cs ad N kt (by omega) (up2 σ 0 7 0) τ kk ii nn nd ns ((up2_ne (by omega)).trans hnd) ((up2_ne (by omega)).trans hns) (by omega) (by omega)) gX6_year_X6_areTriples rfl hdX6_areTriples ⟨rfl, rfl, by decide, by decide, by decide, by decide⟩ (by omega) rfl rfl rfl rfl (Nat.le_of_ble_eq_true rfl) dX6_year_109 (fun r9 σ9 τ9 h9 => ?_)
                obtain ⟨rfl, rfl, rfl⟩ := h9
                refine go_topi (v := b2i (tripP (σ (16 + kk)) (nI ns) (nI nd) ii nn)) (by rw [up2_row (show 16 + kk ≠ 0 by omega)]) ?_
                refine go_ifb_ne X (tgt := 117) dX6_year_112 (by decide) (fun c112 => ?_) (fun c112 => ?_)
                · skip
                  refine go_aload_n X dX6_year_117 2 rfl rfl ?_
                  refine go_getr X (n := 0) (j := 4) (by omega) rfl rfl (fun _ h9 => List.mem_cons_of_mem _ (List.mem_append_left _ (List.mem_append_left _ (List.mem_append_left _ (List.mem_append_right _ h9))))) (by decide) (List.mem_cons_of_mem _ (List.mem_append_left _ (List.mem_append_left _ (List.mem_append_left _ (List.mem_append_left _ (List.mem_append_left _ (List.mem_of_getElem? (i := 3) rfl))))))) rfl dX6_year_118 ?_
                  refine go_aload_n X dX6_year_121 2 rfl rfl ?_
                  refine go_getr X (n := 0) (j := 1) (by omega) rfl rfl (fun _ h9 => List.mem_cons_of_mem _ (List.mem_append_left _ (List.mem_append_left _ (List.mem_append_left _ (List.mem_append_right _ h9))))) (by decide) (List.mem_cons_of_mem _ (List.mem_append_left _ (List.mem_append_left _ (List.mem_append_left _ (List.mem_append_left _ (List.mem_append_left _ (List.mem_of_getElem? (i := 1) rfl))))))) rfl dX6_year_122 ?_
                  refine go_aload X dX6_year_125 1 rfl ?_
                  refine go_iload_n X dX6_year_127 5 rfl rfl ?_
                  refine go_iload X dX6_year_128 6 rfl ?_
                  refine go_callVV X (n := 5) (As := [.ref (ad (2)), .ref (ad (12 + kk)), .int (nI ii), .int (nI nn)]) (rest := []) (kX5_live l D cs ad N kt (by omega) (up2 σ 0 7 0) τ kk ii nn ns (fun z => toN (σ 9 z)) (fun t => toN (σ (16 + kk) (ii + 3 * t))) (fun t => toN (σ (16 + kk) (ii + 3 * t + 1))) (fun t => toN (σ (16 + kk) (ii + 3 * t + 2))) (by omega) (by omega) ((up2_ne (by omega)).trans hns) (by omega) (fun a ha => by rw [up2_ne (by omega)]; have h := isB_toN (b := 4) (hkp a ha).2 (by omega); exact ⟨h.2, by omega⟩) (fun t ht => by rw [up2_row (show 16 + kk ≠ 0 by omega)]; obtain ⟨t1, t2, t3⟩ := c112 t ht; have e1 := isB_toN t1 (by omega); have e2 := isB_toN t2 (by omega); have e3 := isB_toN (b := 3) t3 (by omega); exact ⟨e1.2, e1.1, e2.2, by omega, e3.2, by omega⟩)) gX6_year_X5_live rfl hdX5_live ⟨rfl, rfl, by decide, by decide, by decide, by decide⟩ (by omega) rfl rfl rfl rfl (Nat.le_of_ble_eq_true rfl) dX6_year_130 (fun σ1z τ1z h1z => ?_)
                  obtain ⟨rfl, hL⟩ := h1z
                  refine go_aload_n X dX6_year_133 2 rfl rfl ?_
                  refine go_iload X dX6_year_134 7 rfl ?_
                  refine go_callVI X (n := 0) (As := [.int what]) (rest := []) (kX6_ofYear l D cs ad N kt (by omega) σ1z τ what ns (σ1z 5 3) (rfl) (σ1z 5 1) (rfl) (σ1z 5 2) (rfl) ((congrFun (hL.1 2 (by omega) (by omega)) 4).trans ((up2_ne (by omega)).trans hns)) (by omega)) gX6_year_X6_ofYear rfl hdX6_ofYear ⟨rfl, rfl, by decide, by decide, by decide, by decide⟩ (by omega) rfl rfl rfl rfl (Nat.le_of_ble_eq_true rfl) dX6_year_136 (fun r9 σ9 τ9 h9 => ?_)
                  obtain ⟨rfl, rfl, rfl⟩ := h9
                  exact go_ireturn X hr hlk dX6_year_139 ((have hE : yearS (fun z9 => σ (12 + z9) 1) (fun z9 => σ (12 + z9) 2) (fun z9 => σ (12 + z9) 3) (fun z9 => σ (16 + z9)) (σ 9) (uvX σ) (pvX σ) ns nd (nI kk) lane (nI ii) (nI nn) what = (ofYS what (σ1z 5 3) (σ1z 5 1) (σ1z 5 2) (nI ns) (σ1z 37), 0) := (by unfold yearS; dsimp only; (try rw [toN_nI (k := kk) (by omega)]); (try rw [toN_nI (k := nn) (by omega)]); (try rw [toN_nI (k := ii) (by omega)]); exact (cif_t c9).trans ((cif_t c19).trans ((cif_t c29).trans ((cif_t c37).trans ((cif_t c50).trans ((cif_t c74).trans ((cif_t c94).trans ((cif_t c112).trans ((Prod.ext (year_tie hL hns4) rfl)))))))))); ⟨by rw [hE], fun q h5 h37 => by rw [hE]; exact hL.1 q h5 h37, rfl⟩))
                · skip
                  refine go_iconst X (v := (-1)) dX6_year_115 (by decide) ?_
                  exact go_ireturn X hr hlk dX6_year_116 ((have hE : yearS (fun z9 => σ (12 + z9) 1) (fun z9 => σ (12 + z9) 2) (fun z9 => σ (12 + z9) 3) (fun z9 => σ (16 + z9)) (σ 9) (uvX σ) (pvX σ) ns nd (nI kk) lane (nI ii) (nI nn) what = ((-1), 0) := (by unfold yearS; (try dsimp only); (try rw [toN_nI (k := kk) (by omega)]); (try rw [toN_nI (k := nn) (by omega)]); (try rw [toN_nI (k := ii) (by omega)]); exact (cif_t c9).trans ((cif_t c19).trans ((cif_t c29).trans ((cif_t c37).trans ((cif_t c50).trans ((cif_t c74).trans ((cif_t c94).trans ((cif_f c112).trans (rfl))))))))); ⟨by rw [hE], fun q _ _ => by rw [hE], rfl⟩))
              · skip
                refine go_aload_n X dX6_year_97 2 rfl rfl ?_
                refine go_iconst X (v := 3) dX6_year_98 (by decide) ?_
                refine go_callVI X (n := 0) (As := [.int 3]) (rest := []) (kX6_failed l D cs ad N kt (by omega) (up2 σ 0 7 0) τ 3) gX6_year_X6_failed rfl hdX6_failed ⟨rfl, rfl, by decide, by decide, by decide, by decide⟩ (by omega) rfl rfl rfl rfl (Nat.le_of_ble_eq_true rfl) dX6_year_99 (fun r9 σ9 τ9 h9 => ?_)
                obtain ⟨rfl, rfl, rfl⟩ := h9
                exact go_ireturn X hr hlk dX6_year_102 ((have hE : yearS (fun z9 => σ (12 + z9) 1) (fun z9 => σ (12 + z9) 2) (fun z9 => σ (12 + z9) 3) (fun z9 => σ (16 + z9)) (σ 9) (uvX σ) (pvX σ) ns nd (nI kk) lane i (nI nn) what = ((-10) - 3, 3) := (by unfold yearS; (try dsimp only); (try rw [toN_nI (k := kk) (by omega)]); (try rw [toN_nI (k := nn) (by omega)]); exact (cif_t c9).trans ((cif_t c19).trans ((cif_t c29).trans ((cif_t c37).trans ((cif_t c50).trans ((cif_t c74).trans ((cif_f c94).trans (rfl)))))))); ⟨by rw [hE], fun q _ _ => by rw [hE, up2_up2], rfl⟩))
            · skip
              refine go_aload_n X dX6_year_77 2 rfl rfl ?_
              refine go_iload X dX6_year_78 0 rfl ?_
              refine go_callVI X (n := 0) (As := [.int (fAsS (σ (12 + kk) 1) (σ (12 + kk) 2) lane)]) (rest := []) (kX6_failed l D cs ad N kt (by omega) (up2 σ 0 7 0) τ (fAsS (σ (12 + kk) 1) (σ (12 + kk) 2) lane)) gX6_year_X6_failed rfl hdX6_failed ⟨rfl, rfl, by decide, by decide, by decide, by decide⟩ (by omega) rfl rfl rfl rfl (Nat.le_of_ble_eq_true rfl) dX6_year_80 (fun r9 σ9 τ9 h9 => ?_)
              obtain ⟨rfl, rfl, rfl⟩ := h9
              exact go_ireturn X hr hlk dX6_year_83 ((have hE : yearS (fun z9 => σ (12 + z9) 1) (fun z9 => σ (12 + z9) 2) (fun z9 => σ (12 + z9) 3) (fun z9 => σ (16 + z9)) (σ 9) (uvX σ) (pvX σ) ns nd (nI kk) lane i (nI nn) what = ((-10) - (fAsS (σ (12 + kk) 1) (σ (12 + kk) 2) lane), (fAsS (σ (12 + kk) 1) (σ (12 + kk) 2) lane)) := (by unfold yearS; (try dsimp only); (try rw [toN_nI (k := kk) (by omega)]); (try rw [toN_nI (k := nn) (by omega)]); exact (cif_t c9).trans ((cif_t c19).trans ((cif_t c29).trans ((cif_t c37).trans ((cif_t c50).trans ((cif_f c74).trans (rfl))))))); ⟨by rw [hE], fun q _ _ => by rw [hE, up2_up2], rfl⟩))
          · skip
            refine go_bipush X (v := (-3)) dX6_year_53 (by decide) ?_
            exact go_ireturn X hr hlk dX6_year_55 ((have hE : yearS (fun z9 => σ (12 + z9) 1) (fun z9 => σ (12 + z9) 2) (fun z9 => σ (12 + z9) 3) (fun z9 => σ (16 + z9)) (σ 9) (uvX σ) (pvX σ) ns nd (nI kk) lane i (nI nn) what = ((-3), 0) := (by unfold yearS; (try dsimp only); (try rw [toN_nI (k := kk) (by omega)]); (try rw [toN_nI (k := nn) (by omega)]); exact (cif_t c9).trans ((cif_t c19).trans ((cif_t c29).trans ((cif_t c37).trans ((cif_f c50).trans (rfl)))))); ⟨by rw [hE], fun q _ _ => by rw [hE], rfl⟩))
        · skip
          refine go_bipush X (v := (-2)) dX6_year_40 (by decide) ?_
          exact go_ireturn X hr hlk dX6_year_42 ((have hE : yearS (fun z9 => σ (12 + z9) 1) (fun z9 => σ (12 + z9) 2) (fun z9 => σ (12 + z9) 3) (fun z9 => σ (16 + z9)) (σ 9) (uvX σ) (pvX σ) ns nd (nI kk) lane i (nI nn) what = ((-2), 0) := (by unfold yearS; (try dsimp only); (try rw [toN_nI (k := kk) (by omega)]); (try rw [toN_nI (k := nn) (by omega)]); exact (cif_t c9).trans ((cif_t c19).trans ((cif_t c29).trans ((cif_f c37).trans (rfl))))); ⟨by rw [hE], fun q _ _ => by rw [hE], rfl⟩))
  · skip
    refine go_iconst X (v := (-1)) dX6_year_12 (by decide) ?_
    exact go_ireturn X hr hlk dX6_year_13 ((have hE : yearS (fun z9 => σ (12 + z9) 1) (fun z9 => σ (12 + z9) 2) (fun z9 => σ (12 + z9) 3) (fun z9 => σ (16 + z9)) (σ 9) (uvX σ) (pvX σ) ns nd k lane i n what = ((-1), 0) := (by unfold yearS; (try dsimp only); exact (cif_f c9).trans (rfl)); ⟨by rw [hE], fun q _ _ => by rw [hE], rfl⟩))

