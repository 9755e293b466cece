/-- the deeds that are done, as a set: of the first n of those with these values -/
noncomputable def setS (P : Nat → Prop) : Nat → Int32
  | 0 => 0
  | n + 1 => @ite _ (P n) (Classical.propDecidable _) (setS P n ||| (1 <<< (nI n &&& 31))) (setS P n)
theorem setS_t {P : Nat → Prop} {n : Nat} (h : P n) : setS P (n + 1) = setS P n ||| (1 <<< (nI n &&& 31)) := if_pos h
theorem setS_f {P : Nat → Prop} {n : Nat} (h : ¬ P n) : setS P (n + 1) = setS P n := if_neg h
def sumS (f : Nat → Int32) : Nat → Int32
  | 0 => 0
  | n + 1 => sumS f n + f n
/-- is the value of deed d above 0 for subject a, by the class's cells -/
def doX (σ : vSg) (a d : Nat) : Prop := 0 < valS (σ 8 a) (σ (20 + d) 0) (σ (20 + d) 1) (σ (20 + d) 2)
def doM (σ : vSg) (a d : Nat) : Prop := 0 < valS (σ 42 a) (σ 39 d) (σ 40 d) (σ 41 d)
theorem hdX2_fearOf : yX2_fearOf.cls = RX2 ∧ yX2_fearOf.cls ≠ "java/lang/invoke/MethodHandle" ∧ yX2_fearOf.cls ≠ "java/lang/invoke/VarHandle" ∧ (parseMethodDescriptor yX2_fearOf.desc).map (fun d => d.parameters.length) = some 2 := by decide +kernel
set_option maxHeartbeats 4000000 in
set_option maxRecDepth 100000 in
theorem kX2_fearOf (l : Launch) (D : va_G) (cs : Nat → ClassId) (ad : Nat → Nat) (N kt : Nat) (hN : 58 ≤ N) (σ : vSg) (τ : vTa) (i : Nat) (j : Nat) (kd : Int32) (h_kd : σ 8 i = kd) (rk : Int32) (h_rk : σ (20 + j) 1 = rk) (hu : Int32) (h_hu : σ (20 + j) 2 = hu)  (hi : i < 4) (hj : j < 5) : CtI l yX2_fearOf wsX2_fearOf ({ frames := 0, cells := 0, slots := 0, locals := 0 }) D cs ad N (shP kt) [.ref (ad (2)), .int (nI i), .int (nI j)] σ τ 0 0 (fun r9 σ9 τ9 => fearS kd rk hu = r9 ∧ σ = σ9 ∧ τ = τ9) := by
  refine ct_I (cc := cX2_fearOf) (maxL := 4) (by decide) rfl (Nat.le_of_ble_eq_true rfl) rfl rfl ?_
  intro p e s m args below meth c A X hr hlk
  refine go_aload_n X dX2_fearOf_0 0 rfl rfl ?_
  refine go_getr X (n := 2) (j := 0) (by omega) rfl rfl (fun _ h9 => List.mem_cons_of_mem _ (List.mem_append_right _ h9)) (by decide) (List.mem_cons_of_mem _ (List.mem_append_left _ (List.mem_of_getElem? (i := 0) rfl))) rfl dX2_fearOf_1 ?_
  refine go_iload_n X dX2_fearOf_4 2 rfl rfl ?_
  refine go_aald4 X (n := 7) (k := j) (by omega) rfl rfl (by omega) (by omega) dX2_fearOf_5 ?_
  refine go_iconst X (v := 1) dX2_fearOf_6 (by decide) ?_
  refine go_iald X (n := 20 + j) (k := 1) (by omega) (sh_deed (by omega)) rfl (by omega) (by omega) dX2_fearOf_7 ?_
  refine go_topi (v := rk) (h_rk) ?_
  refine go_aload_n X dX2_fearOf_8 0 rfl rfl ?_
  refine go_getr X (n := 2) (j := 0) (by omega) rfl rfl (fun _ h9 => List.mem_cons_of_mem _ (List.mem_append_right _ h9)) (by decide) (List.mem_cons_of_mem _ (List.mem_append_left _ (List.mem_of_getElem? (i := 0) rfl))) rfl dX2_fearOf_9 ?_
  refine go_iload_n X dX2_fearOf_12 2 rfl rfl ?_
  refine go_aald4 X (n := 7) (k := j) (by omega) rfl rfl (by omega) (by omega) dX2_fearOf_13 ?_
  refine go_iconst X (v := 2) dX2_fearOf_14 (by decide) ?_
  refine go_iald X (n := 20 + j) (k := 2) (by omega) (sh_deed (by omega)) rfl (by omega) (by omega) dX2_fearOf_15 ?_
  refine go_topi (v := hu) (h_hu) ?_
  refine go_imul X dX2_fearOf_16 ?_
  refine go_istore_n X (lv2 := [(3, .int (rk * hu)), (0, .ref (ad (2))), (1, .int (nI i)), (2, .int (nI j))]) dX2_fearOf_17 rfl (by decide) rfl ?_
  refine go_aload_n X dX2_fearOf_18 1 rfl rfl ?_
  refine go_getr X (n := 2) (j := 1) (by omega) rfl rfl (fun _ h9 => List.mem_cons_of_mem _ (List.mem_append_right _ h9)) (by decide) (List.mem_cons_of_mem _ (List.mem_append_left _ (List.mem_of_getElem? (i := 1) rfl))) rfl dX2_fearOf_19 ?_
  refine go_iload_n X dX2_fearOf_22 2 rfl rfl ?_
  refine go_iald X (n := 8) (k := i) (by omega) rfl rfl (by omega) (by omega) dX2_fearOf_23 ?_
  refine go_topi (v := kd) (h_kd) ?_
  rcases Classical.em (kd = 1) with e24_1 | n24_1
  · skip
    refine go_lookup X (tgt := 59) (off := 35) dX2_fearOf_24 (by decide) (by rw [e24_1]; decide) (by decide) ?_
    refine go_iload_n X dX2_fearOf_59 0 rfl rfl ?_
    refine go_bipush X (v := 10) dX2_fearOf_60 (by decide) ?_
    refine go_iadd X dX2_fearOf_62 ?_
    exact go_ireturn X hr hlk dX2_fearOf_63 (⟨by rw [e24_1]; rfl, rfl, rfl⟩)
  · skip
    rcases Classical.em (kd = 2) with e24_2 | n24_2
    · skip
      refine go_lookup X (tgt := 52) (off := 28) dX2_fearOf_24 (by decide) (by rw [e24_2]; decide) (by decide) ?_
      refine go_iconst X (v := 2) dX2_fearOf_52 (by decide) ?_
      refine go_iload_n X dX2_fearOf_53 0 rfl rfl ?_
      refine go_bipush X (v := 10) dX2_fearOf_54 (by decide) ?_
      refine go_iadd X dX2_fearOf_56 ?_
      refine go_imul X dX2_fearOf_57 ?_
      exact go_ireturn X hr hlk dX2_fearOf_58 (⟨by rw [e24_2]; rfl, rfl, rfl⟩)
    · skip
      refine go_lookup X (tgt := 64) (off := 40) dX2_fearOf_24 (by decide) ((lv_osw n24_1 (by decide)).trans ((lv_osw n24_2 (by decide)).trans (rfl))) (by decide) ?_
      refine go_iload_n X dX2_fearOf_64 0 rfl rfl ?_
      exact go_ireturn X hr hlk dX2_fearOf_65 (⟨by unfold fearS; rw [if_neg n24_2, if_neg n24_1], rfl, rfl⟩)

theorem hdX2_pardonedValue : yX2_pardonedValue.cls = RX2 ∧ yX2_pardonedValue.cls ≠ "java/lang/invoke/MethodHandle" ∧ yX2_pardonedValue.cls ≠ "java/lang/invoke/VarHandle" ∧ (parseMethodDescriptor yX2_pardonedValue.desc).map (fun d => d.parameters.length) = some 1 := by decide +kernel
set_option maxHeartbeats 4000000 in
set_option maxRecDepth 100000 in
theorem kX2_pardonedValue (l : Launch) (D : va_G) (cs : Nat → ClassId) (ad : Nat → Nat) (N kt : Nat) (hN : 58 ≤ N) (σ : vSg) (τ : vTa) (j : Nat) (wo : Int32) (h_wo : σ (20 + j) 0 = wo)  (hj : j < 5) : CtI l yX2_pardonedValue wsX2_pardonedValue ({ frames := 0, cells := 0, slots := 0, locals := 0 }) D cs ad N (shP kt) [.ref (ad (2)), .int (nI j)] σ τ 0 0 (fun r9 σ9 τ9 => 10 * wo = r9 ∧ σ = σ9 ∧ τ = τ9) := by
  refine ct_I (cc := cX2_pardonedValue) (maxL := 2) (by decide) rfl (Nat.le_of_ble_eq_true rfl) rfl rfl ?_
  intro p e s m args below meth c A X hr hlk
  refine go_bipush X (v := 10) dX2_pardonedValue_0 (by decide) ?_
  refine go_aload_n X dX2_pardonedValue_2 0 rfl rfl ?_
  refine go_getr X (n := 2) (j := 0) (by omega) rfl rfl (fun _ h9 => List.mem_cons_of_mem _ (List.mem_append_right _ h9)) (by decide) (List.mem_cons_of_mem _ (List.mem_append_left _ (List.mem_of_getElem? (i := 0) rfl))) rfl dX2_pardonedValue_3 ?_
  refine go_iload_n X dX2_pardonedValue_6 1 rfl rfl ?_
  refine go_aald4 X (n := 7) (k := j) (by omega) rfl rfl (by omega) (by omega) dX2_pardonedValue_7 ?_
  refine go_iconst X (v := 0) dX2_pardonedValue_8 (by decide) ?_
  refine go_iald X (n := 20 + j) (k := 0) (by omega) (sh_deed (by omega)) rfl (by omega) (by omega) dX2_pardonedValue_9 ?_
  refine go_topi (v := wo) (h_wo) ?_
  refine go_imul X dX2_pardonedValue_10 ?_
  exact go_ireturn X hr hlk dX2_pardonedValue_11 (⟨rfl, rfl, rfl⟩)

theorem hdX2_unpardonedValue : yX2_unpardonedValue.cls = RX2 ∧ yX2_unpardonedValue.cls ≠ "java/lang/invoke/MethodHandle" ∧ yX2_unpardonedValue.cls ≠ "java/lang/invoke/VarHandle" ∧ (parseMethodDescriptor yX2_unpardonedValue.desc).map (fun d => d.parameters.length) = some 2 := by decide +kernel
set_option maxHeartbeats 4000000 in
set_option maxRecDepth 100000 in
theorem kX2_unpardonedValue (l : Launch) (D : va_G) (cs : Nat → ClassId) (ad : Nat → Nat) (N kt : Nat) (hN : 58 ≤ N) (σ : vSg) (τ : vTa) (i : Nat) (j : Nat) (kd : Int32) (h_kd : σ 8 i = kd) (wo : Int32) (h_wo : σ (20 + j) 0 = wo) (rk : Int32) (h_rk : σ (20 + j) 1 = rk) (hu : Int32) (h_hu : σ (20 + j) 2 = hu)  (hi : i < 4) (hj : j < 5) : CtI l yX2_unpardonedValue wsX2_unpardonedValue ({ frames := 1, cells := 0, slots := 0, locals := 23 }) D cs ad N (shP kt) [.ref (ad (2)), .int (nI i), .int (nI j)] σ τ 0 0 (fun r9 σ9 τ9 => valS kd wo rk hu = r9 ∧ σ = σ9 ∧ τ = τ9) := by
  refine ct_I (cc := cX2_unpardonedValue) (maxL := 3) (by decide) rfl (Nat.le_of_ble_eq_true rfl) rfl rfl ?_
  intro p e s m args below meth c A X hr hlk
  refine go_aload_n X dX2_unpardonedValue_0 0 rfl rfl ?_
  refine go_iload_n X dX2_unpardonedValue_1 2 rfl rfl ?_
  refine go_callVI X (n := 2) (As := [.int (nI j)]) (rest := []) (kX2_pardonedValue l D cs ad N kt (by omega) σ τ j wo (h_wo) (by omega)) gX2_unpardonedValue_X2_pardonedValue rfl hdX2_pardonedValue ⟨rfl, rfl, by decide, by decide, by decide, by decide⟩ (by omega) rfl rfl rfl rfl (Nat.le_of_ble_eq_true rfl) dX2_unpardonedValue_2 (fun r9 σ9 τ9 h9 => ?_)
  obtain ⟨rfl, rfl, rfl⟩ := h9
  refine go_aload_n X dX2_unpardonedValue_5 0 rfl rfl ?_
  refine go_iload_n X dX2_unpardonedValue_6 1 rfl rfl ?_
  refine go_iload_n X dX2_unpardonedValue_7 2 rfl rfl ?_
  refine go_callVI X (n := 2) (As := [.int (nI i), .int (nI j)]) (rest := [.int (10 * wo)]) (kX2_fearOf l D cs ad N kt (by omega) σ τ i j kd (h_kd) rk (h_rk) hu (h_hu) (by omega) (by omega)) gX2_unpardonedValue_X2_fearOf rfl hdX2_fearOf ⟨rfl, rfl, by decide, by decide, by decide, by decide⟩ (by omega) rfl rfl rfl rfl (Nat.le_of_ble_eq_true rfl) dX2_unpardonedValue_8 (fun r9 σ9 τ9 h9 => ?_)
  obtain ⟨rfl, rfl, rfl⟩ := h9
  refine go_isub X dX2_unpardonedValue_11 ?_
  exact go_ireturn X hr hlk dX2_unpardonedValue_12 (⟨rfl, rfl, rfl⟩)

theorem hdX2_wouldDo : yX2_wouldDo.cls = RX2 ∧ yX2_wouldDo.cls ≠ "java/lang/invoke/MethodHandle" ∧ yX2_wouldDo.cls ≠ "java/lang/invoke/VarHandle" ∧ (parseMethodDescriptor yX2_wouldDo.desc).map (fun d => d.parameters.length) = some 2 := by decide +kernel
set_option maxHeartbeats 4000000 in
set_option maxRecDepth 100000 in
theorem kX2_wouldDo (l : Launch) (D : va_G) (cs : Nat → ClassId) (ad : Nat → Nat) (N kt : Nat) (hN : 58 ≤ N) (σ : vSg) (τ : vTa) (i : Nat) (j : Nat) (kd : Int32) (h_kd : σ 8 i = kd) (wo : Int32) (h_wo : σ (20 + j) 0 = wo) (rk : Int32) (h_rk : σ (20 + j) 1 = rk) (hu : Int32) (h_hu : σ (20 + j) 2 = hu)  (hi : i < 4) (hj : j < 5) : CtI l yX2_wouldDo wsX2_wouldDo ({ frames := 2, cells := 0, slots := 0, locals := 45 }) D cs ad N (shP kt) [.ref (ad (2)), .int (nI i), .int (nI j)] σ τ 0 0 (fun r9 σ9 τ9 => b2i (0 < valS kd wo rk hu) = r9 ∧ σ = σ9 ∧ τ = τ9) := by
  refine ct_I (cc := cX2_wouldDo) (maxL := 3) (by decide) rfl (Nat.le_of_ble_eq_true rfl) rfl rfl ?_
  intro p e s m args below meth c A X hr hlk
  refine go_aload_n X dX2_wouldDo_0 0 rfl rfl ?_
  refine go_iload_n X dX2_wouldDo_1 1 rfl rfl ?_
  refine go_iload_n X dX2_wouldDo_2 2 rfl rfl ?_
  refine go_callVI X (n := 2) (As := [.int (nI i), .int (nI j)]) (rest := []) (kX2_unpardonedValue l D cs ad N kt (by omega) σ τ i j kd (h_kd) wo (h_wo) rk (h_rk) hu (h_hu) (by omega) (by omega)) gX2_wouldDo_X2_unpardonedValue rfl hdX2_unpardonedValue ⟨rfl, rfl, by decide, by decide, by decide, by decide⟩ (by omega) rfl rfl rfl rfl (Nat.le_of_ble_eq_true rfl) dX2_wouldDo_3 (fun r9 σ9 τ9 h9 => ?_)
  obtain ⟨rfl, rfl, rfl⟩ := h9
  refine go_if_le X (tgt := 13) dX2_wouldDo_6 (by decide) (fun c6 => ?_) (fun c6 => ?_)
  · skip
    refine go_iconst X (v := 0) dX2_wouldDo_13 (by decide) ?_
    exact go_zreturn X hr hlk dX2_wouldDo_14 (by first | exact Or.inl rfl | exact Or.inr rfl) (⟨(b2i_f (Int32.not_lt.mpr c6)), rfl, rfl⟩)
  · skip
    refine go_iconst X (v := 1) dX2_wouldDo_9 (by decide) ?_
    refine go_goto X (tgt := 14) dX2_wouldDo_10 (by decide) ?_
    exact go_zreturn X hr hlk dX2_wouldDo_14 (by first | exact Or.inl rfl | exact Or.inr rfl) (⟨(b2i_t (Int32.not_le.mp c6)), rfl, rfl⟩)

theorem hdX2_doneBy : yX2_doneBy.cls = RX2 ∧ yX2_doneBy.cls ≠ "java/lang/invoke/MethodHandle" ∧ yX2_doneBy.cls ≠ "java/lang/invoke/VarHandle" ∧ (parseMethodDescriptor yX2_doneBy.desc).map (fun d => d.parameters.length) = some 1 := by decide +kernel
set_option maxHeartbeats 4000000 in
set_option maxRecDepth 100000 in
theorem kX2_doneBy (l : Launch) (D : va_G) (cs : Nat → ClassId) (ad : Nat → Nat) (N kt : Nat) (hN : 58 ≤ N) (σ : vSg) (τ : vTa) (i : Nat) (nd : Nat)   (hnd : σ 2 3 = nI nd) (hle : nd ≤ 5) (hi : i < 4) : CtI l yX2_doneBy wsX2_doneBy ({ frames := 3, cells := 0, slots := 0, locals := 67 }) D cs ad N (shP kt) [.ref (ad (2)), .int (nI i)] σ τ 0 0 (fun r9 σ9 τ9 => setS (doX σ i) nd = r9 ∧ σ = σ9 ∧ τ = τ9) := by
  refine ct_I (cc := cX2_doneBy) (maxL := 4) (by decide) rfl (Nat.le_of_ble_eq_true rfl) rfl rfl ?_
  intro p e s m args below meth c A X hr hlk
  refine go_iconst X (v := 0) dX2_doneBy_0 (by decide) ?_
  refine go_istore_n X (lv2 := [(2, .int 0), (0, .ref (ad (2))), (1, .int (nI i))]) dX2_doneBy_1 rfl (by decide) rfl ?_
  refine go_iconst X (v := 0) dX2_doneBy_2 (by decide) ?_
  refine go_istore_n X (lv2 := [(3, .int 0), (2, .int 0), (0, .ref (ad (2))), (1, .int (nI i))]) dX2_doneBy_3 rfl (by decide) rfl ?_
  refine go_loop (ι := Nat) (fun i9 => (i9 ≤ nd)) (fun i9 => nd - i9) (fun i9 => σ) (fun i9 => τ) (fun i9 => [(3, .int (nI i9)), (2, .int (setS (doX σ i) i9)), (0, .ref (ad (2))), (1, .int (nI i))]) (fun i9 => []) 0 (by (try dsimp only); exact (Nat.zero_le _)) ?_
  intro i9 hi9 ih4
  obtain ⟨d, hv9⟩ : ∃ z, z = i9 := ⟨_, rfl⟩; subst hv9
  (try dsimp only at hi9); (try dsimp only at ih4); (try dsimp only)
  have hd := hi9
  refine go_iload_n X dX2_doneBy_4 0 rfl rfl ?_
  refine go_aload_n X dX2_doneBy_5 2 rfl rfl ?_
  refine go_geti X (n := 2) (j := 3) (by omega) rfl rfl (fun _ h9 => List.mem_cons_of_mem _ (List.mem_append_right _ h9)) (by decide) (List.mem_cons_of_mem _ (List.mem_append_left _ (List.mem_of_getElem? (i := 0) rfl))) rfl dX2_doneBy_6 ?_
  refine go_topi (v := nI nd) (hnd) ?_
  refine go_icmpn_ge X (tgt := 33) dX2_doneBy_9 (by decide) (a := d) (b := nd) rfl rfl (by omega) (by omega) (fun c9 => ?_) (fun c9 => ?_)
  · skip
    refine go_iload_n X dX2_doneBy_33 1 rfl rfl ?_
    exact go_ireturn X hr hlk dX2_doneBy_34 (⟨by rw [show d = nd by omega], rfl, rfl⟩)
  · skip
    refine go_aload_n X dX2_doneBy_12 2 rfl rfl ?_
    refine go_iload_n X dX2_doneBy_13 3 rfl rfl ?_
    refine go_iload_n X dX2_doneBy_14 0 rfl rfl ?_
    refine go_callVI X (n := 2) (As := [.int (nI i), .int (nI d)]) (rest := []) (kX2_wouldDo l D cs ad N kt (by omega) σ τ i d (σ 8 i) (rfl) (σ (20 + d) 0) (rfl) (σ (20 + d) 1) (rfl) (σ (20 + d) 2) (rfl) (by omega) (by omega)) gX2_doneBy_X2_wouldDo rfl hdX2_wouldDo ⟨rfl, rfl, by decide, by decide, by decide, by decide⟩ (by omega) rfl rfl rfl rfl (Nat.le_of_ble_eq_true rfl) dX2_doneBy_15 (fun r9 σ9 τ9 h9 => ?_)
    obtain ⟨rfl, rfl, rfl⟩ := h9
    refine go_ifb_eq X (tgt := 27) dX2_doneBy_18 (by decide) (fun c18 => ?_) (fun c18 => ?_)
    · skip
      refine go_lv (lv2 := [(3, .int (nI d)), (2, .int (setS (doX σ i) (d + 1))), (0, .ref (ad (2))), (1, .int (nI i))]) (by rw [setS_f c18]) ?_
      refine go_iinc X (v := nI (d + 1)) (lv2 := [(3, .int (nI (d + 1))), (2, .int (setS (doX σ i) (d + 1))), (0, .ref (ad (2))), (1, .int (nI i))]) dX2_doneBy_27 (k := 0) rfl (nI_add d 1) (by decide) rfl ?_
      refine go_goto X (tgt := 4) dX2_doneBy_30 (by decide) ?_
      exact ih4 (d + 1) (by (try dsimp only); exact (by omega)) (by (try dsimp only); omega)
    · skip
      refine go_iload_n X dX2_doneBy_21 1 rfl rfl ?_
      refine go_iconst X (v := 1) dX2_doneBy_22 (by decide) ?_
      refine go_iload_n X dX2_doneBy_23 0 rfl rfl ?_
      refine go_ishl X dX2_doneBy_24 ?_
      refine go_ior X dX2_doneBy_25 ?_
      refine go_istore_n X (lv2 := [(2, .int ((setS (doX σ i) d) ||| (1 <<< ((nI d) &&& 31)))), (3, .int (nI d)), (0, .ref (ad (2))), (1, .int (nI i))]) dX2_doneBy_26 rfl (by decide) rfl ?_
      refine go_lv (lv2 := [(2, .int (setS (doX σ i) (d + 1))), (3, .int (nI d)), (0, .ref (ad (2))), (1, .int (nI i))]) (by rw [setS_t c18]) ?_
      refine go_iinc X (v := nI (d + 1)) (lv2 := [(3, .int (nI (d + 1))), (2, .int (setS (doX σ i) (d + 1))), (0, .ref (ad (2))), (1, .int (nI i))]) dX2_doneBy_27 (k := 1) rfl (nI_add d 1) (by decide) rfl ?_
      refine go_goto X (tgt := 4) dX2_doneBy_30 (by decide) ?_
      exact ih4 (d + 1) (by (try dsimp only); exact (by omega)) (by (try dsimp only); omega)

