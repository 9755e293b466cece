theorem IM_R {σ : vSg} {nd ns nr : Nat} (h : IM σ nd ns nr) : ∀ r, r < nr → σ 51 r = nI (toN (σ 51 r)) ∧ toN (σ 51 r) < 4 ∧ σ 52 r = nI (toN (σ 52 r)) ∧ toN (σ 52 r) < 5 ∧ isB (σ 42 (toN (σ 51 r))) 3 := by
  obtain ⟨⟨-, hnd5⟩, ⟨-, hns4⟩, -, hkp, -, hrd, -, -⟩ := h
  intro r hr
  obtain ⟨h1, h2, -⟩ := hrd r hr
  have a1 := isB_toN h1 (by omega)
  have a2 := isB_toN h2 (by omega)
  exact ⟨a1.2, by omega, a2.2, by omega, (hkp _ a1.1).1⟩
def altM (σ : vSg) (i j : Nat) (v : Int32) : vSg := up2 (up2 (up2 σ 39 i (if j = 0 then v else σ 39 i)) 40 i (if j = 1 then v else σ 40 i)) 41 i (if j = 2 then v else σ 41 i)
theorem backS_n {nr k : Int32} (h : ¬ (0 ≤ k ∧ k ≤ nr)) : backS nr k = -2 := by
  unfold backS
  by_cases h1 : k < 0
  · exact cif_t h1
  · rw [cif_f h1]; exact cif_f (fun q => h ⟨Int32.not_lt.mp h1, q⟩)
theorem backS_y {nr k : Int32} (h : 0 ≤ k ∧ k ≤ nr) : backS nr k = nr - k := by
  unfold backS
  rw [cif_f (Int32.not_lt.mpr h.1), cif_t h.2]
theorem is3 {x : Int32} (h : isB x 3) : x = 0 ∨ x = 1 ∨ x = 2 := by
  obtain ⟨k, hk, rfl⟩ := isB_nat (b := 3) h (by omega)
  rcases (show k = 0 ∨ k = 1 ∨ k = 2 by omega) with rfl | rfl | rfl
  · exact Or.inl rfl
  · exact Or.inr (Or.inl rfl)
  · exact Or.inr (Or.inr rfl)
theorem isB_up {σ : vSg} {n i q : Nat} {v b : Int32} (h : isB (σ n q) b) (hv : isB v b) : isB (up2 σ n i v n q) b := by
  by_cases e : q = i
  · rw [e, up2_self]; exact hv
  · rw [up2_ne (by omega)]; exact h
theorem hdX7_ofDeed : yX7_ofDeed.cls = RX7 ∧ yX7_ofDeed.cls ≠ "java/lang/invoke/MethodHandle" ∧ yX7_ofDeed.cls ≠ "java/lang/invoke/VarHandle" ∧ (parseMethodDescriptor yX7_ofDeed.desc).map (fun d => d.parameters.length) = some 2 := by decide +kernel
set_option maxHeartbeats 4000000 in
set_option maxRecDepth 100000 in
theorem kX7_ofDeed (l : Launch) (D : va_G) (cs : Nat → ClassId) (ad : Nat → Nat) (N kt : Nat) (hN : 58 ≤ N) (σ : vSg) (τ : vTa) (d : Int32) (what : Int32) (nd : Nat) (ns : Nat) (nr : Nat)   (hI : IM σ nd ns nr) : CtI l yX7_ofDeed wsX7_ofDeed ({ frames := 2, cells := 0, slots := 0, locals := 46 }) D cs ad N (shP kt) [.ref (ad (38)), .int d, .int what] σ τ 0 0 (fun r9 σ9 τ9 => ofDeedS (nI nd) (ddM σ) d what = r9 ∧ σ = σ9 ∧ τ = τ9) := by
  refine ct_I (cc := cX7_ofDeed) (maxL := 3) (by decide) rfl (Nat.le_of_ble_eq_true rfl) rfl rfl ?_
  intro p e s m args below meth c A X hr hlk
  obtain ⟨⟨hnd, hnd5⟩, ⟨hns, hns4⟩, hdd, hkp, ⟨hnr, hnr8⟩, hrd, hsh, hpos⟩ := id hI
  refine go_aload_n X dX7_ofDeed_0 0 rfl rfl ?_
  refine go_iload_n X dX7_ofDeed_1 1 rfl rfl ?_
  refine go_callVI X (n := 38) (As := [.int d]) (rest := []) (kX7_noDeed l D cs ad N kt (by omega) σ τ d (nI nd) (hnd)) gX7_ofDeed_X7_noDeed rfl hdX7_noDeed ⟨rfl, rfl, by decide, by decide, by decide, by decide⟩ (by omega) rfl rfl rfl rfl (Nat.le_of_ble_eq_true rfl) dX7_ofDeed_2 (fun r9 σ9 τ9 h9 => ?_)
  obtain ⟨rfl, rfl, rfl⟩ := h9
  refine go_ifb_eq X (tgt := 10) dX7_ofDeed_5 (by decide) (fun c5 => ?_) (fun c5 => ?_)
  · skip
    obtain ⟨i, hi, rfl⟩ := isB_nat (Classical.not_not.mp c5) (by omega)
    refine go_iload_n X dX7_ofDeed_10 2 rfl rfl ?_
    refine go_i2l X (v := what.toInt64) dX7_ofDeed_11 rfl ?_
    refine go_lconst X (v := 0) dX7_ofDeed_12 (by decide) ?_
    refine go_ldc2 X (v := 2) (List.mem_cons_of_mem _ (List.mem_append_left _ (List.mem_of_getElem? (i := 0) rfl))) dX7_ofDeed_13 ?_
    refine go_callSI X (As := [.long what.toInt64, .long 0, .long 2]) (rest := []) (kX7_in l D cs ad N kt (by omega) σ τ what.toInt64 0 2) gX7_ofDeed_X7_in rfl hdX7_in ⟨rfl, rfl, by decide, by decide, by decide, by decide⟩ rfl rfl (Nat.le_of_ble_eq_true rfl) dX7_ofDeed_16 (fun r9 σ9 τ9 h9 => ?_)
    obtain ⟨rfl, rfl, rfl⟩ := h9
    refine go_topi (v := b2i (isB what 3)) (b2i_c (in_iff rfl rfl)) ?_
    refine go_ifb_eq X (tgt := 31) dX7_ofDeed_19 (by decide) (fun c19 => ?_) (fun c19 => ?_)
    · skip
      refine go_bipush X (v := (-2)) dX7_ofDeed_31 (by decide) ?_
      exact go_ireturn X hr hlk dX7_ofDeed_33 ((have hE : ofDeedS (nI nd) (ddM σ) (nI i) what = (-2) := (by unfold ofDeedS; (try dsimp only); (try rw [toN_nI (k := i) (by omega)]); exact (cif_t (Classical.not_not.mp c5)).trans ((cif_f c19).trans (rfl))); ⟨hE, rfl, rfl⟩))
    · skip
      obtain ⟨j, hj, rfl⟩ := isB_nat (b := 3) c19 (by omega)
      refine go_aload_n X dX7_ofDeed_22 0 rfl rfl ?_
      refine go_iload_n X dX7_ofDeed_23 1 rfl rfl ?_
      refine go_iload_n X dX7_ofDeed_24 2 rfl rfl ?_
      refine go_callVI X (n := 38) (As := [.int (nI i), .int (nI j)]) (rest := []) (kX7_ofDeedBy l D cs ad N kt (by omega) σ τ i j (by omega) (by omega)) gX7_ofDeed_X7_ofDeedBy rfl hdX7_ofDeedBy ⟨rfl, rfl, by decide, by decide, by decide, by decide⟩ (by omega) rfl rfl rfl rfl (Nat.le_of_ble_eq_true rfl) dX7_ofDeed_25 (fun r9 σ9 τ9 h9 => ?_)
      obtain ⟨rfl, rfl, rfl⟩ := h9
      refine go_goto X (tgt := 33) dX7_ofDeed_28 (by decide) ?_
      exact go_ireturn X hr hlk dX7_ofDeed_33 ((have hE : ofDeedS (nI nd) (ddM σ) (nI i) (nI j) = ddM σ i j := (by unfold ofDeedS; (try dsimp only); (try rw [toN_nI (k := i) (by omega)]); (try rw [toN_nI (k := j) (by omega)]); exact (cif_t (Classical.not_not.mp c5)).trans ((cif_t c19).trans (rfl))); ⟨hE, rfl, rfl⟩))
  · skip
    refine go_iconst X (v := (-1)) dX7_ofDeed_8 (by decide) ?_
    exact go_ireturn X hr hlk dX7_ofDeed_9 ((have hE : ofDeedS (nI nd) (ddM σ) d what = (-1) := (by unfold ofDeedS; (try dsimp only); exact (cif_f c5).trans (rfl)); ⟨hE, rfl, rfl⟩))

theorem hdX7_ofSubject : yX7_ofSubject.cls = RX7 ∧ yX7_ofSubject.cls ≠ "java/lang/invoke/MethodHandle" ∧ yX7_ofSubject.cls ≠ "java/lang/invoke/VarHandle" ∧ (parseMethodDescriptor yX7_ofSubject.desc).map (fun d => d.parameters.length) = some 2 := by decide +kernel
set_option maxHeartbeats 4000000 in
set_option maxRecDepth 100000 in
theorem kX7_ofSubject (l : Launch) (D : va_G) (cs : Nat → ClassId) (ad : Nat → Nat) (N kt : Nat) (hN : 58 ≤ N) (σ : vSg) (τ : vTa) (a : Int32) (what : Int32) (nd : Nat) (ns : Nat) (nr : Nat)   (hI : IM σ nd ns nr) : CtI l yX7_ofSubject wsX7_ofSubject ({ frames := 3, cells := 0, slots := 0, locals := 68 }) D cs ad N (shP kt) [.ref (ad (38)), .int a, .int what] σ τ 0 0 (fun r9 σ9 τ9 => ofSubjS (nI ns) (σ 42) (σ 43) (fun z9 => setS (doM σ z9) nd) a what = r9 ∧ σ = σ9 ∧ τ = τ9) := by
  refine ct_I (cc := cX7_ofSubject) (maxL := 3) (by decide) rfl (Nat.le_of_ble_eq_true rfl) rfl rfl ?_
  intro p e s m args below meth c A X hr hlk
  obtain ⟨⟨hnd, hnd5⟩, ⟨hns, hns4⟩, hdd, hkp, ⟨hnr, hnr8⟩, hrd, hsh, hpos⟩ := id hI
  refine go_aload_n X dX7_ofSubject_0 0 rfl rfl ?_
  refine go_iload_n X dX7_ofSubject_1 1 rfl rfl ?_
  refine go_callVI X (n := 38) (As := [.int a]) (rest := []) (kX7_noSubject l D cs ad N kt (by omega) σ τ a (nI ns) (hns)) gX7_ofSubject_X7_noSubject rfl hdX7_noSubject ⟨rfl, rfl, by decide, by decide, by decide, by decide⟩ (by omega) rfl rfl rfl rfl (Nat.le_of_ble_eq_true rfl) dX7_ofSubject_2 (fun r9 σ9 τ9 h9 => ?_)
  obtain ⟨rfl, rfl, rfl⟩ := h9
  refine go_ifb_eq X (tgt := 10) dX7_ofSubject_5 (by decide) (fun c5 => ?_) (fun c5 => ?_)
  · skip
    obtain ⟨i, hi, rfl⟩ := isB_nat (Classical.not_not.mp c5) (by omega)
    refine go_iload_n X dX7_ofSubject_10 2 rfl rfl ?_
    refine go_if_ne X (tgt := 23) dX7_ofSubject_11 (by decide) (fun c11 => ?_) (fun c11 => ?_)
    · skip
      refine go_iload_n X dX7_ofSubject_23 2 rfl rfl ?_
      refine go_iconst X (v := 1) dX7_ofSubject_24 (by decide) ?_
      refine go_icmp_ne X (tgt := 37) dX7_ofSubject_25 (by decide) (fun c25 => ?_) (fun c25 => ?_)
      · skip
        refine go_iload_n X dX7_ofSubject_37 2 rfl rfl ?_
        refine go_iconst X (v := 2) dX7_ofSubject_38 (by decide) ?_
        refine go_icmp_ne X (tgt := 50) dX7_ofSubject_39 (by decide) (fun c39 => ?_) (fun c39 => ?_)
        · skip
          refine go_bipush X (v := (-2)) dX7_ofSubject_50 (by decide) ?_
          exact go_ireturn X hr hlk dX7_ofSubject_52 ((have hE : ofSubjS (nI ns) (σ 42) (σ 43) (fun z9 => setS (doM σ z9) nd) (nI i) what = (-2) := (by unfold ofSubjS; (try dsimp only); (try rw [toN_nI (k := i) (by omega)]); exact (cif_t (Classical.not_not.mp c5)).trans ((cif_f c11).trans ((cif_f c25).trans ((cif_f c39).trans (rfl))))); ⟨hE, rfl, rfl⟩))
        · skip
          refine go_aload_n X dX7_ofSubject_42 0 rfl rfl ?_
          refine go_iload_n X dX7_ofSubject_43 1 rfl rfl ?_
          refine go_callVI X (n := 38) (As := [.int (nI i)]) (rest := []) (kX7_doneBy l D cs ad N kt (by omega) σ τ i nd (by omega) (by omega) (by omega) ((hkp i (by omega)).1)) gX7_ofSubject_X7_doneBy rfl hdX7_doneBy ⟨rfl, rfl, by decide, by decide, by decide, by decide⟩ (by omega) rfl rfl rfl rfl (Nat.le_of_ble_eq_true rfl) dX7_ofSubject_44 (fun r9 σ9 τ9 h9 => ?_)
          obtain ⟨rfl, rfl, rfl⟩ := h9
          refine go_goto X (tgt := 52) dX7_ofSubject_47 (by decide) ?_
          exact go_ireturn X hr hlk dX7_ofSubject_52 ((have hE : ofSubjS (nI ns) (σ 42) (σ 43) (fun z9 => setS (doM σ z9) nd) (nI i) what = setS (doM σ i) nd := (by unfold ofSubjS; (try dsimp only); (try rw [toN_nI (k := i) (by omega)]); exact (cif_t (Classical.not_not.mp c5)).trans ((cif_f c11).trans ((cif_f c25).trans ((cif_t c39).trans (rfl))))); ⟨hE, rfl, rfl⟩))
      · skip
        refine go_aload_n X dX7_ofSubject_28 0 rfl rfl ?_
        refine go_getr X (n := 38) (j := 7) (by omega) rfl rfl (fun _ h9 => List.mem_cons_of_mem _ (List.mem_append_right _ h9)) (by decide) (List.mem_cons_of_mem _ (List.mem_append_left _ (List.mem_append_left _ (List.mem_of_getElem? (i := 1) rfl)))) rfl dX7_ofSubject_29 ?_
        refine go_iload_n X dX7_ofSubject_32 1 rfl rfl ?_
        refine go_iald X (n := 43) (k := i) (by omega) rfl rfl (by omega) (by omega) dX7_ofSubject_33 ?_
        refine go_goto X (tgt := 52) dX7_ofSubject_34 (by decide) ?_
        exact go_ireturn X hr hlk dX7_ofSubject_52 ((have hE : ofSubjS (nI ns) (σ 42) (σ 43) (fun z9 => setS (doM σ z9) nd) (nI i) what = σ 43 i := (by unfold ofSubjS; (try dsimp only); (try rw [toN_nI (k := i) (by omega)]); exact (cif_t (Classical.not_not.mp c5)).trans ((cif_f c11).trans ((cif_t c25).trans (rfl)))); ⟨hE, rfl, rfl⟩))
    · skip
      refine go_aload_n X dX7_ofSubject_14 0 rfl rfl ?_
      refine go_getr X (n := 38) (j := 6) (by omega) rfl rfl (fun _ h9 => List.mem_cons_of_mem _ (List.mem_append_right _ h9)) (by decide) (List.mem_cons_of_mem _ (List.mem_append_left _ (List.mem_append_left _ (List.mem_of_getElem? (i := 0) rfl)))) rfl dX7_ofSubject_15 ?_
      refine go_iload_n X dX7_ofSubject_18 1 rfl rfl ?_
      refine go_iald X (n := 42) (k := i) (by omega) rfl rfl (by omega) (by omega) dX7_ofSubject_19 ?_
      refine go_goto X (tgt := 52) dX7_ofSubject_20 (by decide) ?_
      exact go_ireturn X hr hlk dX7_ofSubject_52 ((have hE : ofSubjS (nI ns) (σ 42) (σ 43) (fun z9 => setS (doM σ z9) nd) (nI i) what = σ 42 i := (by unfold ofSubjS; (try dsimp only); (try rw [toN_nI (k := i) (by omega)]); exact (cif_t (Classical.not_not.mp c5)).trans ((cif_t c11).trans (rfl))); ⟨hE, rfl, rfl⟩))
  · skip
    refine go_iconst X (v := (-1)) dX7_ofSubject_8 (by decide) ?_
    exact go_ireturn X hr hlk dX7_ofSubject_9 ((have hE : ofSubjS (nI ns) (σ 42) (σ 43) (fun z9 => setS (doM σ z9) nd) a what = (-1) := (by unfold ofSubjS; (try dsimp only); exact (cif_f c5).trans (rfl)); ⟨hE, rfl, rfl⟩))

theorem hdX7_fear : yX7_fear.cls = RX7 ∧ yX7_fear.cls ≠ "java/lang/invoke/MethodHandle" ∧ yX7_fear.cls ≠ "java/lang/invoke/VarHandle" ∧ (parseMethodDescriptor yX7_fear.desc).map (fun d => d.parameters.length) = some 2 := by decide +kernel
set_option maxHeartbeats 4000000 in
set_option maxRecDepth 100000 in
theorem kX7_fear (l : Launch) (D : va_G) (cs : Nat → ClassId) (ad : Nat → Nat) (N kt : Nat) (hN : 58 ≤ N) (σ : vSg) (τ : vTa) (a : Int32) (d : Int32) (nd : Nat) (ns : Nat) (nr : Nat)   (hI : IM σ nd ns nr) : CtI l yX7_fear wsX7_fear ({ frames := 2, cells := 0, slots := 0, locals := 46 }) D cs ad N (shP kt) [.ref (ad (38)), .int a, .int d] σ τ 0 0 (fun r9 σ9 τ9 => fearOS (nI ns) (nI nd) (fun z9 y9 => fearS (σ 42 z9) (σ 40 y9) (σ 41 y9)) a d = r9 ∧ σ = σ9 ∧ τ = τ9) := by
  refine ct_I (cc := cX7_fear) (maxL := 3) (by decide) rfl (Nat.le_of_ble_eq_true rfl) rfl rfl ?_
  intro p e s m args below meth c A X hr hlk
  obtain ⟨⟨hnd, hnd5⟩, ⟨hns, hns4⟩, hdd, hkp, ⟨hnr, hnr8⟩, hrd, hsh, hpos⟩ := id hI
  refine go_aload_n X dX7_fear_0 0 rfl rfl ?_
  refine go_iload_n X dX7_fear_1 1 rfl rfl ?_
  refine go_callVI X (n := 38) (As := [.int a]) (rest := []) (kX7_noSubject l D cs ad N kt (by omega) σ τ a (nI ns) (hns)) gX7_fear_X7_noSubject rfl hdX7_noSubject ⟨rfl, rfl, by decide, by decide, by decide, by decide⟩ (by omega) rfl rfl rfl rfl (Nat.le_of_ble_eq_true rfl) dX7_fear_2 (fun r9 σ9 τ9 h9 => ?_)
  obtain ⟨rfl, rfl, rfl⟩ := h9
  refine go_ifb_ne X (tgt := 16) dX7_fear_5 (by decide) (fun c5 => ?_) (fun c5 => ?_)
  · skip
    refine go_iconst X (v := (-1)) dX7_fear_16 (by decide) ?_
    refine go_goto X (tgt := 26) dX7_fear_17 (by decide) ?_
    exact go_ireturn X hr hlk dX7_fear_26 ((have hE : fearOS (nI ns) (nI nd) (fun z9 y9 => fearS (σ 42 z9) (σ 40 y9) (σ 41 y9)) a d = (-1) := (by unfold fearOS; (try dsimp only); exact (cif_f c5).trans (rfl)); ⟨hE, rfl, rfl⟩))
  · skip
    obtain ⟨i, hi, rfl⟩ := isB_nat (Classical.not_not.mp c5) (by omega)
    refine go_aload_n X dX7_fear_8 0 rfl rfl ?_
    refine go_iload_n X dX7_fear_9 2 rfl rfl ?_
    refine go_callVI X (n := 38) (As := [.int d]) (rest := []) (kX7_noDeed l D cs ad N kt (by omega) σ τ d (nI nd) (hnd)) gX7_fear_X7_noDeed rfl hdX7_noDeed ⟨rfl, rfl, by decide, by decide, by decide, by decide⟩ (by omega) rfl rfl rfl rfl (Nat.le_of_ble_eq_true rfl) dX7_fear_10 (fun r9 σ9 τ9 h9 => ?_)
    obtain ⟨rfl, rfl, rfl⟩ := h9
    refine go_ifb_eq X (tgt := 20) dX7_fear_13 (by decide) (fun c13 => ?_) (fun c13 => ?_)
    · skip
      obtain ⟨j, hj, rfl⟩ := isB_nat (Classical.not_not.mp c13) (by omega)
      refine go_aload_n X dX7_fear_20 0 rfl rfl ?_
      refine go_iload_n X dX7_fear_21 1 rfl rfl ?_
      refine go_iload_n X dX7_fear_22 2 rfl rfl ?_
      refine go_callVI X (n := 38) (As := [.int (nI i), .int (nI j)]) (rest := []) (kX7_fearOf l D cs ad N kt (by omega) σ τ i j (σ 42 i) (rfl) (σ 40 j) (rfl) (σ 41 j) (rfl) (by omega) (by omega) ((hkp i (by omega)).1)) gX7_fear_X7_fearOf rfl hdX7_fearOf ⟨rfl, rfl, by decide, by decide, by decide, by decide⟩ (by omega) rfl rfl rfl rfl (Nat.le_of_ble_eq_true rfl) dX7_fear_23 (fun r9 σ9 τ9 h9 => ?_)
      obtain ⟨rfl, rfl, rfl⟩ := h9
      exact go_ireturn X hr hlk dX7_fear_26 ((have hE : fearOS (nI ns) (nI nd) (fun z9 y9 => fearS (σ 42 z9) (σ 40 y9) (σ 41 y9)) (nI i) (nI j) = fearS (σ 42 i) (σ 40 j) (σ 41 j) := (by unfold fearOS; (try dsimp only); (try rw [toN_nI (k := i) (by omega)]); (try rw [toN_nI (k := j) (by omega)]); exact (cif_t (Classical.not_not.mp c5)).trans ((cif_t (Classical.not_not.mp c13)).trans (rfl))); ⟨hE, rfl, rfl⟩))
    · skip
      refine go_iconst X (v := (-1)) dX7_fear_16 (by decide) ?_
      refine go_goto X (tgt := 26) dX7_fear_17 (by decide) ?_
      exact go_ireturn X hr hlk dX7_fear_26 ((have hE : fearOS (nI ns) (nI nd) (fun z9 y9 => fearS (σ 42 z9) (σ 40 y9) (σ 41 y9)) (nI i) d = (-1) := (by unfold fearOS; (try dsimp only); (try rw [toN_nI (k := i) (by omega)]); exact (cif_t (Classical.not_not.mp c5)).trans ((cif_f c13).trans (rfl))); ⟨hE, rfl, rfl⟩))

theorem hdX7_alter : yX7_alter.cls = RX7 ∧ yX7_alter.cls ≠ "java/lang/invoke/MethodHandle" ∧ yX7_alter.cls ≠ "java/lang/invoke/VarHandle" ∧ (parseMethodDescriptor yX7_alter.desc).map (fun d => d.parameters.length) = some 3 := by decide +kernel
set_option maxHeartbeats 4000000 in
set_option maxRecDepth 100000 in
theorem kX7_alter (l : Launch) (D : va_G) (cs : Nat → ClassId) (ad : Nat → Nat) (N kt : Nat) (hN : 58 ≤ N) (σ : vSg) (τ : vTa) (d : Int32) (what : Int32) (v : Int32) (nd : Nat) (ns : Nat) (nr : Nat)   (hI : IM σ nd ns nr) : CtI l yX7_alter wsX7_alter ({ frames := 2, cells := 0, slots := 0, locals := 46 }) D cs ad N (shP kt) [.ref (ad (38)), .int d, .int what, .int v] σ τ 0 0 (fun r9 σ9 τ9 => alterS (nI nd) (ddM σ) d what v = r9 ∧ cif (isB d (nI nd) ∧ isB what 3 ∧ isB v 10) (altM σ (toN d) (toN what) v) σ = σ9 ∧ τ = τ9) := by
  refine ct_I (cc := cX7_alter) (maxL := 5) (by decide) rfl (Nat.le_of_ble_eq_true rfl) rfl rfl ?_
  intro p e s m args below meth c A X hr hlk
  obtain ⟨⟨hnd, hnd5⟩, ⟨hns, hns4⟩, hdd, hkp, ⟨hnr, hnr8⟩, hrd, hsh, hpos⟩ := id hI
  refine go_aload_n X dX7_alter_0 0 rfl rfl ?_
  refine go_iload_n X dX7_alter_1 1 rfl rfl ?_
  refine go_callVI X (n := 38) (As := [.int d]) (rest := []) (kX7_noDeed l D cs ad N kt (by omega) σ τ d (nI nd) (hnd)) gX7_alter_X7_noDeed rfl hdX7_noDeed ⟨rfl, rfl, by decide, by decide, by decide, by decide⟩ (by omega) rfl rfl rfl rfl (Nat.le_of_ble_eq_true rfl) dX7_alter_2 (fun r9 σ9 τ9 h9 => ?_)
  obtain ⟨rfl, rfl, rfl⟩ := h9
  refine go_ifb_eq X (tgt := 10) dX7_alter_5 (by decide) (fun c5 => ?_) (fun c5 => ?_)
  · skip
    obtain ⟨i, hi, rfl⟩ := isB_nat (Classical.not_not.mp c5) (by omega)
    refine go_iload_n X dX7_alter_10 2 rfl rfl ?_
    refine go_i2l X (v := what.toInt64) dX7_alter_11 rfl ?_
    refine go_lconst X (v := 0) dX7_alter_12 (by decide) ?_
    refine go_ldc2 X (v := 2) (List.mem_cons_of_mem _ (List.mem_append_left _ (List.mem_of_getElem? (i := 0) rfl))) dX7_alter_13 ?_
    refine go_callSI X (As := [.long what.toInt64, .long 0, .long 2]) (rest := []) (kX7_in l D cs ad N kt (by omega) σ τ what.toInt64 0 2) gX7_alter_X7_in rfl hdX7_in ⟨rfl, rfl, by decide, by decide, by decide, by decide⟩ rfl rfl (Nat.le_of_ble_eq_true rfl) dX7_alter_16 (fun r9 σ9 τ9 h9 => ?_)
    obtain ⟨rfl, rfl, rfl⟩ := h9
    refine go_topi (v := b2i (isB what 3)) (b2i_c (in_iff rfl rfl)) ?_
    refine go_ifb_eq X (tgt := 34) dX7_alter_19 (by decide) (fun c19 => ?_) (fun c19 => ?_)
    · skip
      refine go_bipush X (v := (-2)) dX7_alter_34 (by decide) ?_
      exact go_ireturn X hr hlk dX7_alter_36 ((have hE : alterS (nI nd) (ddM σ) (nI i) what v = (-2) := (by unfold alterS; (try dsimp only); (try rw [toN_nI (k := i) (by omega)]); exact (cif_t (Classical.not_not.mp c5)).trans ((cif_f c19).trans (rfl))); ⟨hE, cif_f (fun q => c19 q.2.1), rfl⟩))
    · skip
      obtain ⟨j, hj, rfl⟩ := isB_nat (b := 3) c19 (by omega)
      refine go_iload_n X dX7_alter_22 3 rfl rfl ?_
      refine go_i2l X (v := v.toInt64) dX7_alter_23 rfl ?_
      refine go_lconst X (v := 0) dX7_alter_24 (by decide) ?_
      refine go_ldc2 X (v := 9) (List.mem_cons_of_mem _ (List.mem_append_left _ (List.mem_of_getElem? (i := 1) rfl))) dX7_alter_25 ?_
      refine go_callSI X (As := [.long v.toInt64, .long 0, .long 9]) (rest := []) (kX7_in l D cs ad N kt (by omega) σ τ v.toInt64 0 9) gX7_alter_X7_in rfl hdX7_in ⟨rfl, rfl, by decide, by decide, by decide, by decide⟩ rfl rfl (Nat.le_of_ble_eq_true rfl) dX7_alter_28 (fun r9 σ9 τ9 h9 => ?_)
      obtain ⟨rfl, rfl, rfl⟩ := h9
      refine go_topi (v := b2i (isB v 10)) (b2i_c (in_iff rfl rfl)) ?_
      refine go_ifb_ne X (tgt := 37) dX7_alter_31 (by decide) (fun c31 => ?_) (fun c31 => ?_)
      · skip
        refine go_aload_n X dX7_alter_37 0 rfl rfl ?_
        refine go_iload_n X dX7_alter_38 1 rfl rfl ?_
        refine go_iload_n X dX7_alter_39 2 rfl rfl ?_
        refine go_callVI X (n := 38) (As := [.int (nI i), .int (nI j)]) (rest := []) (kX7_ofDeedBy l D cs ad N kt (by omega) σ τ i j (by omega) (by omega)) gX7_alter_X7_ofDeedBy rfl hdX7_ofDeedBy ⟨rfl, rfl, by decide, by decide, by decide, by decide⟩ (by omega) rfl rfl rfl rfl (Nat.le_of_ble_eq_true rfl) dX7_alter_40 (fun r9 σ9 τ9 h9 => ?_)
        obtain ⟨rfl, rfl, rfl⟩ := h9
        refine go_istore X (lv2 := [(4, .int (ddM σ i j)), (0, .ref (ad (38))), (1, .int (nI i)), (2, .int (nI j)), (3, .int v)]) dX7_alter_43 (by decide) rfl ?_
        refine go_aload_n X dX7_alter_45 1 rfl rfl ?_
        refine go_getr X (n := 38) (j := 2) (by omega) rfl rfl (fun _ h9 => List.mem_cons_of_mem _ (List.mem_append_right _ h9)) (by decide) (List.mem_cons_of_mem _ (List.mem_append_left _ (List.mem_of_getElem? (i := 2) rfl))) rfl dX7_alter_46 ?_
        refine go_iload_n X dX7_alter_49 2 rfl rfl ?_
        refine go_iload_n X dX7_alter_50 3 rfl rfl ?_
        refine go_ifn_ne X (tgt := 58) dX7_alter_51 (by decide) (a := j) rfl (by omega) (fun c51 => ?_) (fun c51 => ?_)
        · skip
          refine go_aload_n X dX7_alter_58 1 rfl rfl ?_
          refine go_getr X (n := 38) (j := 2) (by omega) rfl rfl (fun _ h9 => List.mem_cons_of_mem _ (List.mem_append_right _ h9)) (by decide) (List.mem_cons_of_mem _ (List.mem_append_left _ (List.mem_of_getElem? (i := 2) rfl))) rfl dX7_alter_59 ?_
          refine go_iload_n X dX7_alter_62 2 rfl rfl ?_
          refine go_iald X (n := 39) (k := i) (by omega) rfl rfl (by omega) (by omega) dX7_alter_63 ?_
          refine go_iast X (n := 39) (k := i) (by omega) rfl rfl (by omega) (by omega) dX7_alter_64 ?_
          refine go_aload_n X dX7_alter_65 1 rfl rfl ?_
          refine go_getr X (n := 38) (j := 3) (by omega) rfl rfl (fun _ h9 => List.mem_cons_of_mem _ (List.mem_append_right _ h9)) (by decide) (List.mem_cons_of_mem _ (List.mem_append_left _ (List.mem_of_getElem? (i := 3) rfl))) rfl dX7_alter_66 ?_
          refine go_iload_n X dX7_alter_69 2 rfl rfl ?_
          refine go_iload_n X dX7_alter_70 3 rfl rfl ?_
          refine go_iconst X (v := 1) dX7_alter_71 (by decide) ?_
          refine go_icmpn_ne X (tgt := 79) dX7_alter_72 (by decide) (a := j) (b := 1) rfl rfl (by omega) (by omega) (fun c72 => ?_) (fun c72 => ?_)
          · skip
            refine go_aload_n X dX7_alter_79 1 rfl rfl ?_
            refine go_getr X (n := 38) (j := 3) (by omega) rfl rfl (fun _ h9 => List.mem_cons_of_mem _ (List.mem_append_right _ h9)) (by decide) (List.mem_cons_of_mem _ (List.mem_append_left _ (List.mem_of_getElem? (i := 3) rfl))) rfl dX7_alter_80 ?_
            refine go_iload_n X dX7_alter_83 2 rfl rfl ?_
            refine go_iald X (n := 40) (k := i) (by omega) rfl rfl (by omega) (by omega) dX7_alter_84 ?_
            refine go_topi (v := σ 40 i) ((up2_ne (by omega))) ?_
            refine go_iast X (n := 40) (k := i) (by omega) rfl rfl (by omega) (by omega) dX7_alter_85 ?_
            refine go_aload_n X dX7_alter_86 1 rfl rfl ?_
            refine go_getr X (n := 38) (j := 4) (by omega) rfl rfl (fun _ h9 => List.mem_cons_of_mem _ (List.mem_append_right _ h9)) (by decide) (List.mem_cons_of_mem _ (List.mem_append_left _ (List.mem_of_getElem? (i := 4) rfl))) rfl dX7_alter_87 ?_
            refine go_iload_n X dX7_alter_90 2 rfl rfl ?_
            refine go_iload_n X dX7_alter_91 3 rfl rfl ?_
            refine go_iconst X (v := 2) dX7_alter_92 (by decide) ?_
            refine go_icmpn_ne X (tgt := 100) dX7_alter_93 (by decide) (a := j) (b := 2) rfl rfl (by omega) (by omega) (fun c93 => ?_) (fun c93 => ?_)
            · skip
              refine go_aload_n X dX7_alter_100 1 rfl rfl ?_
              refine go_getr X (n := 38) (j := 4) (by omega) rfl rfl (fun _ h9 => List.mem_cons_of_mem _ (List.mem_append_right _ h9)) (by decide) (List.mem_cons_of_mem _ (List.mem_append_left _ (List.mem_of_getElem? (i := 4) rfl))) rfl dX7_alter_101 ?_
              refine go_iload_n X dX7_alter_104 2 rfl rfl ?_
              refine go_iald X (n := 41) (k := i) (by omega) rfl rfl (by omega) (by omega) dX7_alter_105 ?_
              refine go_topi (v := σ 41 i) ((up2_ne (by omega)).trans (up2_ne (by omega))) ?_
              refine go_iast X (n := 41) (k := i) (by omega) rfl rfl (by omega) (by omega) dX7_alter_106 ?_
              refine go_iload X dX7_alter_107 0 rfl ?_
              exact go_ireturn X hr hlk dX7_alter_109 ((have hE : alterS (nI nd) (ddM σ) (nI i) (nI j) v = ddM σ i j := (by unfold alterS; (try dsimp only); (try rw [toN_nI (k := i) (by omega)]); (try rw [toN_nI (k := j) (by omega)]); exact (cif_t (Classical.not_not.mp c5)).trans ((cif_t c19).trans ((cif_t c31).trans (rfl)))); ⟨hE, (cif_t ⟨(Classical.not_not.mp c5), c19, c31⟩).trans (by rw [toN_nI (k := i) (by omega), toN_nI (k := j) (by omega)]; unfold altM; rw [if_neg c51, if_neg c72, if_neg c93]), rfl⟩))
            · skip
              refine go_iload_n X dX7_alter_96 4 rfl rfl ?_
              refine go_goto X (tgt := 106) dX7_alter_97 (by decide) ?_
              refine go_iast X (n := 41) (k := i) (by omega) rfl rfl (by omega) (by omega) dX7_alter_106 ?_
              refine go_iload X dX7_alter_107 0 rfl ?_
              exact go_ireturn X hr hlk dX7_alter_109 ((have hE : alterS (nI nd) (ddM σ) (nI i) (nI j) v = ddM σ i j := (by unfold alterS; (try dsimp only); (try rw [toN_nI (k := i) (by omega)]); (try rw [toN_nI (k := j) (by omega)]); exact (cif_t (Classical.not_not.mp c5)).trans ((cif_t c19).trans ((cif_t c31).trans (rfl)))); ⟨hE, (cif_t ⟨(Classical.not_not.mp c5), c19, c31⟩).trans (by rw [toN_nI (k := i) (by omega), toN_nI (k := j) (by omega)]; unfold altM; rw [if_neg c51, if_neg c72, if_pos c93]), rfl⟩))
          · skip
            refine go_iload_n X dX7_alter_75 4 rfl rfl ?_
            refine go_goto X (tgt := 85) dX7_alter_76 (by decide) ?_
            refine go_iast X (n := 40) (k := i) (by omega) rfl rfl (by omega) (by omega) dX7_alter_85 ?_
            refine go_aload_n X dX7_alter_86 1 rfl rfl ?_
            refine go_getr X (n := 38) (j := 4) (by omega) rfl rfl (fun _ h9 => List.mem_cons_of_mem _ (List.mem_append_right _ h9)) (by decide) (List.mem_cons_of_mem _ (List.mem_append_left _ (List.mem_of_getElem? (i := 4) rfl))) rfl dX7_alter_87 ?_
            refine go_iload_n X dX7_alter_90 2 rfl rfl ?_
            refine go_iload_n X dX7_alter_91 3 rfl rfl ?_
            refine go_iconst X (v := 2) dX7_alter_92 (by decide) ?_
            refine go_icmpn_ne X (tgt := 100) dX7_alter_93 (by decide) (a := j) (b := 2) rfl rfl (by omega) (by omega) (fun c93 => ?_) (fun c93 => ?_)
            · skip
              refine go_aload_n X dX7_alter_100 1 rfl rfl ?_
              refine go_getr X (n := 38) (j := 4) (by omega) rfl rfl (fun _ h9 => List.mem_cons_of_mem _ (List.mem_append_right _ h9)) (by decide) (List.mem_cons_of_mem _ (List.mem_append_left _ (List.mem_of_getElem? (i := 4) rfl))) rfl dX7_alter_101 ?_
              refine go_iload_n X dX7_alter_104 2 rfl rfl ?_
              refine go_iald X (n := 41) (k := i) (by omega) rfl rfl (by omega) (by omega) dX7_alter_105 ?_
              refine go_topi (v := σ 41 i) ((up2_ne (by omega)).trans (up2_ne (by omega))) ?_
              refine go_iast X (n := 41) (k := i) (by omega) rfl rfl (by omega) (by omega) dX7_alter_106 ?_
              refine go_iload X dX7_alter_107 0 rfl ?_
              exact go_ireturn X hr hlk dX7_alter_109 ((have hE : alterS (nI nd) (ddM σ) (nI i) (nI j) v = ddM σ i j := (by unfold alterS; (try dsimp only); (try rw [toN_nI (k := i) (by omega)]); (try rw [toN_nI (k := j) (by omega)]); exact (cif_t (Classical.not_not.mp c5)).trans ((cif_t c19).trans ((cif_t c31).trans (rfl)))); ⟨hE, (cif_t ⟨(Classical.not_not.mp c5), c19, c31⟩).trans (by rw [toN_nI (k := i) (by omega), toN_nI (k := j) (by omega)]; unfold altM; rw [if_neg c51, if_pos c72, if_neg c93]), rfl⟩))
            · skip
              refine go_iload_n X dX7_alter_96 4 rfl rfl ?_
              refine go_goto X (tgt := 106) dX7_alter_97 (by decide) ?_
              refine go_iast X (n := 41) (k := i) (by omega) rfl rfl (by omega) (by omega) dX7_alter_106 ?_
              refine go_iload X dX7_alter_107 0 rfl ?_
              exact go_ireturn X hr hlk dX7_alter_109 ((have hE : alterS (nI nd) (ddM σ) (nI i) (nI j) v = ddM σ i j := (by unfold alterS; (try dsimp only); (try rw [toN_nI (k := i) (by omega)]); (try rw [toN_nI (k := j) (by omega)]); exact (cif_t (Classical.not_not.mp c5)).trans ((cif_t c19).trans ((cif_t c31).trans (rfl)))); ⟨hE, (cif_t ⟨(Classical.not_not.mp c5), c19, c31⟩).trans (by rw [toN_nI (k := i) (by omega), toN_nI (k := j) (by omega)]; unfold altM; rw [if_neg c51, if_pos c72, if_pos c93]), rfl⟩))
        · skip
          refine go_iload_n X dX7_alter_54 4 rfl rfl ?_
          refine go_goto X (tgt := 64) dX7_alter_55 (by decide) ?_
          refine go_iast X (n := 39) (k := i) (by omega) rfl rfl (by omega) (by omega) dX7_alter_64 ?_
          refine go_aload_n X dX7_alter_65 1 rfl rfl ?_
          refine go_getr X (n := 38) (j := 3) (by omega) rfl rfl (fun _ h9 => List.mem_cons_of_mem _ (List.mem_append_right _ h9)) (by decide) (List.mem_cons_of_mem _ (List.mem_append_left _ (List.mem_of_getElem? (i := 3) rfl))) rfl dX7_alter_66 ?_
          refine go_iload_n X dX7_alter_69 2 rfl rfl ?_
          refine go_iload_n X dX7_alter_70 3 rfl rfl ?_
          refine go_iconst X (v := 1) dX7_alter_71 (by decide) ?_
          refine go_icmpn_ne X (tgt := 79) dX7_alter_72 (by decide) (a := j) (b := 1) rfl rfl (by omega) (by omega) (fun c72 => ?_) (fun c72 => ?_)
          · skip
            refine go_aload_n X dX7_alter_79 1 rfl rfl ?_
            refine go_getr X (n := 38) (j := 3) (by omega) rfl rfl (fun _ h9 => List.mem_cons_of_mem _ (List.mem_append_right _ h9)) (by decide) (List.mem_cons_of_mem _ (List.mem_append_left _ (List.mem_of_getElem? (i := 3) rfl))) rfl dX7_alter_80 ?_
            refine go_iload_n X dX7_alter_83 2 rfl rfl ?_
            refine go_iald X (n := 40) (k := i) (by omega) rfl rfl (by omega) (by omega) dX7_alter_84 ?_
            refine go_topi (v := σ 40 i) ((up2_ne (by omega))) ?_
            refine go_iast X (n := 40) (k := i) (by omega) rfl rfl (by omega) (by omega) dX7_alter_85 ?_
            refine go_aload_n X dX7_alter_86 1 rfl rfl ?_
            refine go_getr X (n := 38) (j := 4) (by omega) rfl rfl (fun _ h9 => List.mem_cons_of_mem _ (List.mem_append_right _ h9)) (by decide) (List.mem_cons_of_mem _ (List.mem_append_left _ (List.mem_of_getElem? (i := 4) rfl))) rfl dX7_alter_87 ?_
            refine go_iload_n X dX7_alter_90 2 rfl rfl ?_
            refine go_iload_n X dX7_alter_91 3 rfl rfl ?_
            refine go_iconst X (v := 2) dX7_alter_92 (by decide) ?_
            refine go_icmpn_ne X (tgt := 100) dX7_alter_93 (by decide) (a := j) (b := 2) rfl rfl (by omega) (by omega) (fun c93 => ?_) (fun c93 => ?_)
            · skip
              refine go_aload_n X dX7_alter_100 1 rfl rfl ?_
              refine go_getr X (n := 38) (j := 4) (by omega) rfl rfl (fun _ h9 => List.mem_cons_of_mem _ (List.mem_append_right _ h9)) (by decide) (List.mem_cons_of_mem _ (List.mem_append_left _ (List.mem_of_getElem? (i := 4) rfl))) rfl dX7_alter_101 ?_
              refine go_iload_n X dX7_alter_104 2 rfl rfl ?_
              refine go_iald X (n := 41) (k := i) (by omega) rfl rfl (by omega) (by omega) dX7_alter_105 ?_
              refine go_topi (v := σ 41 i) ((up2_ne (by omega)).trans (up2_ne (by omega))) ?_
              refine go_iast X (n := 41) (k := i) (by omega) rfl rfl (by omega) (by omega) dX7_alter_106 ?_
              refine go_iload X dX7_alter_107 0 rfl ?_
              exact go_ireturn X hr hlk dX7_alter_109 ((have hE : alterS (nI nd) (ddM σ) (nI i) (nI j) v = ddM σ i j := (by unfold alterS; (try dsimp only); (try rw [toN_nI (k := i) (by omega)]); (try rw [toN_nI (k := j) (by omega)]); exact (cif_t (Classical.not_not.mp c5)).trans ((cif_t c19).trans ((cif_t c31).trans (rfl)))); ⟨hE, (cif_t ⟨(Classical.not_not.mp c5), c19, c31⟩).trans (by rw [toN_nI (k := i) (by omega), toN_nI (k := j) (by omega)]; unfold altM; rw [if_pos c51, if_neg c72, if_neg c93]), rfl⟩))
            · skip
              refine go_iload_n X dX7_alter_96 4 rfl rfl ?_
              refine go_goto X (tgt := 106) dX7_alter_97 (by decide) ?_
              refine go_iast X (n := 41) (k := i) (by omega) rfl rfl (by omega) (by omega) dX7_alter_106 ?_
              refine go_iload X dX7_alter_107 0 rfl ?_
              exact go_ireturn X hr hlk dX7_alter_109 ((have hE : alterS (nI nd) (ddM σ) (nI i) (nI j) v = ddM σ i j := (by unfold alterS; (try dsimp only); (try rw [toN_nI (k := i) (by omega)]); (try rw [toN_nI (k := j) (by omega)]); exact (cif_t (Classical.not_not.mp c5)).trans ((cif_t c19).trans ((cif_t c31).trans (rfl)))); ⟨hE, (cif_t ⟨(Classical.not_not.mp c5), c19, c31⟩).trans (by rw [toN_nI (k := i) (by omega), toN_nI (k := j) (by omega)]; unfold altM; rw [if_pos c51, if_neg c72, if_pos c93]), rfl⟩))
          · skip
            refine go_iload_n X dX7_alter_75 4 rfl rfl ?_
            refine go_goto X (tgt := 85) dX7_alter_76 (by decide) ?_
            refine go_iast X (n := 40) (k := i) (by omega) rfl rfl (by omega) (by omega) dX7_alter_85 ?_
            refine go_aload_n X dX7_alter_86 1 rfl rfl ?_
            refine go_getr X (n := 38) (j := 4) (by omega) rfl rfl (fun _ h9 => List.mem_cons_of_mem _ (List.mem_append_right _ h9)) (by decide) (List.mem_cons_of_mem _ (List.mem_append_left _ (List.mem_of_getElem? (i := 4) rfl))) rfl dX7_alter_87 ?_
            refine go_iload_n X dX7_alter_90 2 rfl rfl ?_
            refine go_iload_n X dX7_alter_91 3 rfl rfl ?_
            refine go_iconst X (v := 2) dX7_alter_92 (by decide) ?_
            refine go_icmpn_ne X (tgt := 100) dX7_alter_93 (by decide) (a := j) (b := 2) rfl rfl (by omega) (by omega) (fun c93 => ?_) (fun c93 => ?_)
            · skip
              refine go_aload_n X dX7_alter_100 1 rfl rfl ?_
              refine go_getr X (n := 38) (j := 4) (by omega) rfl rfl (fun _ h9 => List.mem_cons_of_mem _ (List.mem_append_right _ h9)) (by decide) (List.mem_cons_of_mem _ (List.mem_append_left _ (List.mem_of_getElem? (i := 4) rfl))) rfl dX7_alter_101 ?_
              refine go_iload_n X dX7_alter_104 2 rfl rfl ?_
              refine go_iald X (n := 41) (k := i) (by omega) rfl rfl (by omega) (by omega) dX7_alter_105 ?_
              refine go_topi (v := σ 41 i) ((up2_ne (by omega)).trans (up2_ne (by omega))) ?_
              refine go_iast X (n := 41) (k := i) (by omega) rfl rfl (by omega) (by omega) dX7_alter_106 ?_
              refine go_iload X dX7_alter_107 0 rfl ?_
              exact go_ireturn X hr hlk dX7_alter_109 ((have hE : alterS (nI nd) (ddM σ) (nI i) (nI j) v = ddM σ i j := (by unfold alterS; (try dsimp only); (try rw [toN_nI (k := i) (by omega)]); (try rw [toN_nI (k := j) (by omega)]); exact (cif_t (Classical.not_not.mp c5)).trans ((cif_t c19).trans ((cif_t c31).trans (rfl)))); ⟨hE, (cif_t ⟨(Classical.not_not.mp c5), c19, c31⟩).trans (by rw [toN_nI (k := i) (by omega), toN_nI (k := j) (by omega)]; unfold altM; rw [if_pos c51, if_pos c72, if_neg c93]), rfl⟩))
            · skip
              refine go_iload_n X dX7_alter_96 4 rfl rfl ?_
              refine go_goto X (tgt := 106) dX7_alter_97 (by decide) ?_
              refine go_iast X (n := 41) (k := i) (by omega) rfl rfl (by omega) (by omega) dX7_alter_106 ?_
              refine go_iload X dX7_alter_107 0 rfl ?_
              exact go_ireturn X hr hlk dX7_alter_109 ((have hE : alterS (nI nd) (ddM σ) (nI i) (nI j) v = ddM σ i j := (by unfold alterS; (try dsimp only); (try rw [toN_nI (k := i) (by omega)]); (try rw [toN_nI (k := j) (by omega)]); exact (cif_t (Classical.not_not.mp c5)).trans ((cif_t c19).trans ((cif_t c31).trans (rfl)))); ⟨hE, (cif_t ⟨(Classical.not_not.mp c5), c19, c31⟩).trans (by rw [toN_nI (k := i) (by omega), toN_nI (k := j) (by omega)]; unfold altM; rw [if_pos c51, if_pos c72, if_pos c93]), rfl⟩))
      · skip
        refine go_bipush X (v := (-2)) dX7_alter_34 (by decide) ?_
        exact go_ireturn X hr hlk dX7_alter_36 ((have hE : alterS (nI nd) (ddM σ) (nI i) (nI j) v = (-2) := (by unfold alterS; (try dsimp only); (try rw [toN_nI (k := i) (by omega)]); (try rw [toN_nI (k := j) (by omega)]); exact (cif_t (Classical.not_not.mp c5)).trans ((cif_t c19).trans ((cif_f c31).trans (rfl)))); ⟨hE, cif_f (fun q => c31 q.2.2), rfl⟩))
  · skip
    refine go_iconst X (v := (-1)) dX7_alter_8 (by decide) ?_
    exact go_ireturn X hr hlk dX7_alter_9 ((have hE : alterS (nI nd) (ddM σ) d what v = (-1) := (by unfold alterS; (try dsimp only); exact (cif_f c5).trans (rfl)); ⟨hE, cif_f (fun q => c5 q.1), rfl⟩))

theorem hdX7_grant : yX7_grant.cls = RX7 ∧ yX7_grant.cls ≠ "java/lang/invoke/MethodHandle" ∧ yX7_grant.cls ≠ "java/lang/invoke/VarHandle" ∧ (parseMethodDescriptor yX7_grant.desc).map (fun d => d.parameters.length) = some 2 := by decide +kernel
set_option maxHeartbeats 4000000 in
set_option maxRecDepth 100000 in
theorem kX7_grant (l : Launch) (D : va_G) (cs : Nat → ClassId) (ad : Nat → Nat) (N kt : Nat) (hN : 58 ≤ N) (σ : vSg) (τ : vTa) (a : Int32) (v : Int32) (nd : Nat) (ns : Nat) (nr : Nat)   (hI : IM σ nd ns nr) : CtI l yX7_grant wsX7_grant ({ frames := 2, cells := 0, slots := 0, locals := 46 }) D cs ad N (shP kt) [.ref (ad (38)), .int a, .int v] σ τ 0 0 (fun r9 σ9 τ9 => grantS (nI ns) (σ 43) a v = r9 ∧ cif (isB a (nI ns) ∧ isB v 4) (up2 σ 43 (toN a) v) σ = σ9 ∧ τ = τ9) := by
  refine ct_I (cc := cX7_grant) (maxL := 4) (by decide) rfl (Nat.le_of_ble_eq_true rfl) rfl rfl ?_
  intro p e s m args below meth c A X hr hlk
  obtain ⟨⟨hnd, hnd5⟩, ⟨hns, hns4⟩, hdd, hkp, ⟨hnr, hnr8⟩, hrd, hsh, hpos⟩ := id hI
  refine go_aload_n X dX7_grant_0 0 rfl rfl ?_
  refine go_iload_n X dX7_grant_1 1 rfl rfl ?_
  refine go_callVI X (n := 38) (As := [.int a]) (rest := []) (kX7_noSubject l D cs ad N kt (by omega) σ τ a (nI ns) (hns)) gX7_grant_X7_noSubject rfl hdX7_noSubject ⟨rfl, rfl, by decide, by decide, by decide, by decide⟩ (by omega) rfl rfl rfl rfl (Nat.le_of_ble_eq_true rfl) dX7_grant_2 (fun r9 σ9 τ9 h9 => ?_)
  obtain ⟨rfl, rfl, rfl⟩ := h9
  refine go_ifb_eq X (tgt := 10) dX7_grant_5 (by decide) (fun c5 => ?_) (fun c5 => ?_)
  · skip
    obtain ⟨i, hi, rfl⟩ := isB_nat (Classical.not_not.mp c5) (by omega)
    refine go_iload_n X dX7_grant_10 2 rfl rfl ?_
    refine go_i2l X (v := v.toInt64) dX7_grant_11 rfl ?_
    refine go_lconst X (v := 0) dX7_grant_12 (by decide) ?_
    refine go_ldc2 X (v := 3) (List.mem_cons_of_mem _ (List.mem_append_left _ (List.mem_of_getElem? (i := 0) rfl))) dX7_grant_13 ?_
    refine go_callSI X (As := [.long v.toInt64, .long 0, .long 3]) (rest := []) (kX7_in l D cs ad N kt (by omega) σ τ v.toInt64 0 3) gX7_grant_X7_in rfl hdX7_in ⟨rfl, rfl, by decide, by decide, by decide, by decide⟩ rfl rfl (Nat.le_of_ble_eq_true rfl) dX7_grant_16 (fun r9 σ9 τ9 h9 => ?_)
    obtain ⟨rfl, rfl, rfl⟩ := h9
    refine go_topi (v := b2i (isB v 4)) (b2i_c (in_iff rfl rfl)) ?_
    refine go_ifb_ne X (tgt := 25) dX7_grant_19 (by decide) (fun c19 => ?_) (fun c19 => ?_)
    · skip
      refine go_aload_n X dX7_grant_25 0 rfl rfl ?_
      refine go_getr X (n := 38) (j := 7) (by omega) rfl rfl (fun _ h9 => List.mem_cons_of_mem _ (List.mem_append_right _ h9)) (by decide) (List.mem_cons_of_mem _ (List.mem_append_left _ (List.mem_of_getElem? (i := 1) rfl))) rfl dX7_grant_26 ?_
      refine go_iload_n X dX7_grant_29 1 rfl rfl ?_
      refine go_iald X (n := 43) (k := i) (by omega) rfl rfl (by omega) (by omega) dX7_grant_30 ?_
      refine go_istore_n X (lv2 := [(3, .int (σ 43 i)), (0, .ref (ad (38))), (1, .int (nI i)), (2, .int v)]) dX7_grant_31 rfl (by decide) rfl ?_
      refine go_aload_n X dX7_grant_32 1 rfl rfl ?_
      refine go_getr X (n := 38) (j := 7) (by omega) rfl rfl (fun _ h9 => List.mem_cons_of_mem _ (List.mem_append_right _ h9)) (by decide) (List.mem_cons_of_mem _ (List.mem_append_left _ (List.mem_of_getElem? (i := 1) rfl))) rfl dX7_grant_33 ?_
      refine go_iload_n X dX7_grant_36 2 rfl rfl ?_
      refine go_iload_n X dX7_grant_37 3 rfl rfl ?_
      refine go_iast X (n := 43) (k := i) (by omega) rfl rfl (by omega) (by omega) dX7_grant_38 ?_
      refine go_iload_n X dX7_grant_39 0 rfl rfl ?_
      exact go_ireturn X hr hlk dX7_grant_40 ((have hE : grantS (nI ns) (σ 43) (nI i) v = σ 43 i := (by unfold grantS; (try dsimp only); (try rw [toN_nI (k := i) (by omega)]); exact (cif_t (Classical.not_not.mp c5)).trans ((cif_t c19).trans (rfl))); ⟨hE, (cif_t ⟨(Classical.not_not.mp c5), c19⟩).trans (by rw [toN_nI (k := i) (by omega)]), rfl⟩))
    · skip
      refine go_bipush X (v := (-2)) dX7_grant_22 (by decide) ?_
      exact go_ireturn X hr hlk dX7_grant_24 ((have hE : grantS (nI ns) (σ 43) (nI i) v = (-2) := (by unfold grantS; (try dsimp only); (try rw [toN_nI (k := i) (by omega)]); exact (cif_t (Classical.not_not.mp c5)).trans ((cif_f c19).trans (rfl))); ⟨hE, cif_f (fun q => c19 q.2), rfl⟩))
  · skip
    refine go_iconst X (v := (-1)) dX7_grant_8 (by decide) ?_
    exact go_ireturn X hr hlk dX7_grant_9 ((have hE : grantS (nI ns) (σ 43) a v = (-1) := (by unfold grantS; (try dsimp only); exact (cif_f c5).trans (rfl)); ⟨hE, cif_f (fun q => c5 q.1), rfl⟩))

theorem hdX7_risks : yX7_risks.cls = RX7 ∧ yX7_risks.cls ≠ "java/lang/invoke/MethodHandle" ∧ yX7_risks.cls ≠ "java/lang/invoke/VarHandle" ∧ (parseMethodDescriptor yX7_risks.desc).map (fun d => d.parameters.length) = some 1 := by decide +kernel
set_option maxHeartbeats 4000000 in
set_option maxRecDepth 100000 in
theorem kX7_risks (l : Launch) (D : va_G) (cs : Nat → ClassId) (ad : Nat → Nat) (N kt : Nat) (hN : 58 ≤ N) (σ : vSg) (τ : vTa) (d : Int32) (nd : Nat) (ns : Nat) (nr : Nat)   (hI : IM σ nd ns nr) : CtI l yX7_risks wsX7_risks ({ frames := 3, cells := 0, slots := 0, locals := 67 }) D cs ad N (shP kt) [.ref (ad (38)), .int d] σ τ 0 0 (fun r9 σ9 τ9 => fitS (nI nd) (fun y9 => setS (fun z9 => allM (up2 σ 40 y9 (nI z9)) (fun z8 => toN (σ 51 z8)) (fun z8 => toN (σ 52 z8)) nr) 10) d = r9 ∧ σ = σ9 ∧ τ = τ9) := by
  refine ct_I (cc := cX7_risks) (maxL := 5) (by decide) rfl (Nat.le_of_ble_eq_true rfl) rfl rfl ?_
  intro p e s m args below meth c A X hr hlk
  obtain ⟨⟨hnd, hnd5⟩, ⟨hns, hns4⟩, hdd, hkp, ⟨hnr, hnr8⟩, hrd, hsh, hpos⟩ := id hI
  refine go_aload_n X dX7_risks_0 0 rfl rfl ?_
  refine go_iload_n X dX7_risks_1 1 rfl rfl ?_
  refine go_callVI X (n := 38) (As := [.int d]) (rest := []) (kX7_noDeed l D cs ad N kt (by omega) σ τ d (nI nd) (hnd)) gX7_risks_X7_noDeed rfl hdX7_noDeed ⟨rfl, rfl, by decide, by decide, by decide, by decide⟩ (by omega) rfl rfl rfl rfl (Nat.le_of_ble_eq_true rfl) dX7_risks_2 (fun r9 σ9 τ9 h9 => ?_)
  obtain ⟨rfl, rfl, rfl⟩ := h9
  refine go_ifb_eq X (tgt := 10) dX7_risks_5 (by decide) (fun c5 => ?_) (fun c5 => ?_)
  · skip
    obtain ⟨i, hi, rfl⟩ := isB_nat (Classical.not_not.mp c5) (by omega)
    refine go_aload_n X dX7_risks_10 0 rfl rfl ?_
    refine go_getr X (n := 38) (j := 3) (by omega) rfl rfl (fun _ h9 => List.mem_cons_of_mem _ (List.mem_append_right _ h9)) (by decide) (List.mem_cons_of_mem _ (List.mem_append_left _ (List.mem_append_left _ (List.mem_of_getElem? (i := 0) rfl)))) rfl dX7_risks_11 ?_
    refine go_iload_n X dX7_risks_14 1 rfl rfl ?_
    refine go_iald X (n := 40) (k := i) (by omega) rfl rfl (by omega) (by omega) dX7_risks_15 ?_
    refine go_istore_n X (lv2 := [(2, .int (σ 40 i)), (0, .ref (ad (38))), (1, .int (nI i))]) dX7_risks_16 rfl (by decide) rfl ?_
    refine go_iconst X (v := 0) dX7_risks_17 (by decide) ?_
    refine go_istore_n X (lv2 := [(3, .int 0), (2, .int (σ 40 i)), (0, .ref (ad (38))), (1, .int (nI i))]) dX7_risks_18 rfl (by decide) rfl ?_
    refine go_iconst X (v := 0) dX7_risks_19 (by decide) ?_
    refine go_sg (σ2 := (up2 σ 40 i (σ 40 i))) up2_id.symm ?_
    refine go_istore X (lv2 := [(4, .int 0), (3, .int 0), (2, .int (σ 40 i)), (0, .ref (ad (38))), (1, .int (nI i))]) dX7_risks_20 (by decide) rfl ?_
    refine go_loop (ι := Nat × Int32) (fun i9 => (i9.1 ≤ 10)) (fun i9 => 10 - i9.1) (fun i9 => (up2 σ 40 i i9.2)) (fun i9 => τ) (fun i9 => [(4, .int (nI i9.1)), (3, .int (setS (fun z9 => allM (up2 σ 40 i (nI z9)) (fun z8 => toN (σ 51 z8)) (fun z8 => toN (σ 52 z8)) nr) i9.1)), (2, .int (σ 40 i)), (0, .ref (ad (38))), (1, .int (nI i))]) (fun i9 => []) (0, σ 40 i) (by (try dsimp only); exact (Nat.zero_le _)) ?_
    intro i9 hi9 ih22
    obtain ⟨v, x⟩ := i9
    (try dsimp only at hi9); (try dsimp only at ih22); (try dsimp only)
    have hv := hi9
    refine go_iload X dX7_risks_22 0 rfl ?_
    refine go_bipush X (v := 10) dX7_risks_24 (by decide) ?_
    refine go_icmpn_ge X (tgt := 61) dX7_risks_26 (by decide) (a := v) (b := 10) rfl rfl (by omega) (by omega) (fun c26 => ?_) (fun c26 => ?_)
    · skip
      refine go_aload_n X dX7_risks_61 3 rfl rfl ?_
      refine go_getr X (n := 38) (j := 3) (by omega) rfl rfl (fun _ h9 => List.mem_cons_of_mem _ (List.mem_append_right _ h9)) (by decide) (List.mem_cons_of_mem _ (List.mem_append_left _ (List.mem_append_left _ (List.mem_of_getElem? (i := 0) rfl)))) rfl dX7_risks_62 ?_
      refine go_iload_n X dX7_risks_65 4 rfl rfl ?_
      refine go_iload_n X dX7_risks_66 2 rfl rfl ?_
      refine go_iast X (n := 40) (k := i) (by omega) rfl rfl (by omega) (by omega) dX7_risks_67 ?_
      refine go_sg (σ2 := σ) (by rw [up2_up2]; exact up2_id) ?_
      refine go_iload_n X dX7_risks_68 1 rfl rfl ?_
      exact go_ireturn X hr hlk dX7_risks_69 ((have hE : fitS (nI nd) (fun y9 => setS (fun z9 => allM (up2 σ 40 y9 (nI z9)) (fun z8 => toN (σ 51 z8)) (fun z8 => toN (σ 52 z8)) nr) 10) (nI i) = setS (fun z9 => allM (up2 σ 40 i (nI z9)) (fun z8 => toN (σ 51 z8)) (fun z8 => toN (σ 52 z8)) nr) v := (by unfold fitS; (try dsimp only); (try rw [toN_nI (k := i) (by omega)]); exact (cif_t (Classical.not_not.mp c5)).trans ((by rw [show v = 10 by omega]))); ⟨hE, rfl, rfl⟩))
    · skip
      refine go_aload_n X dX7_risks_29 3 rfl rfl ?_
      refine go_getr X (n := 38) (j := 3) (by omega) rfl rfl (fun _ h9 => List.mem_cons_of_mem _ (List.mem_append_right _ h9)) (by decide) (List.mem_cons_of_mem _ (List.mem_append_left _ (List.mem_append_left _ (List.mem_of_getElem? (i := 0) rfl)))) rfl dX7_risks_30 ?_
      refine go_iload_n X dX7_risks_33 4 rfl rfl ?_
      refine go_iload X dX7_risks_34 0 rfl ?_
      refine go_iast X (n := 40) (k := i) (by omega) rfl rfl (by omega) (by omega) dX7_risks_36 ?_
      refine go_sg (σ2 := (up2 σ 40 i (nI v))) up2_up2 ?_
      refine go_iload_n X dX7_risks_37 1 rfl rfl ?_
      refine go_aload_n X dX7_risks_38 3 rfl rfl ?_
      refine go_callVI X (n := 38) (As := []) (rest := [.int (setS (fun z9 => allM (up2 σ 40 i (nI z9)) (fun z8 => toN (σ 51 z8)) (fun z8 => toN (σ 52 z8)) nr) v)]) (kX7_areSo l D cs ad N kt (by omega) (up2 σ 40 i (nI v)) τ nr (fun z8 => toN (σ 51 z8)) (fun z8 => toN (σ 52 z8)) ((up2_ne (by omega)).trans hnr) (by omega) (fun r h => by obtain ⟨ha1, ha2, hd1, hd2, hk3⟩ := IM_R hI r h; rw [up2_ne (by omega), up2_ne (by omega)]; exact ⟨ha1, ha2, hd1, hd2, (by rw [up2_ne (by omega)]; exact hk3)⟩)) gX7_risks_X7_areSo rfl hdX7_areSo ⟨rfl, rfl, by decide, by decide, by decide, by decide⟩ (by omega) rfl rfl rfl rfl (Nat.le_of_ble_eq_true rfl) dX7_risks_39 (fun r9 σ9 τ9 h9 => ?_)
      obtain ⟨rfl, rfl, rfl⟩ := h9
      refine go_ifb_eq X (tgt := 52) dX7_risks_42 (by decide) (fun c42 => ?_) (fun c42 => ?_)
      · skip
        refine go_iconst X (v := 0) dX7_risks_52 (by decide) ?_
        refine go_ior X dX7_risks_53 ?_
        refine go_topi (v := setS (fun z9 => allM (up2 σ 40 i (nI z9)) (fun z8 => toN (σ 51 z8)) (fun z8 => toN (σ 52 z8)) nr) (v + 1)) (by rw [setS_f (P := fun z9 => allM (up2 σ 40 i (nI z9)) (fun z8 => toN (σ 51 z8)) (fun z8 => toN (σ 52 z8)) nr) (n := v) c42, or_0]) ?_
        refine go_istore_n X (lv2 := [(3, .int (setS (fun z9 => allM (up2 σ 40 i (nI z9)) (fun z8 => toN (σ 51 z8)) (fun z8 => toN (σ 52 z8)) nr) (v + 1))), (4, .int (nI v)), (2, .int (σ 40 i)), (0, .ref (ad (38))), (1, .int (nI i))]) dX7_risks_54 rfl (by decide) rfl ?_
        refine go_iinc X (v := nI (v + 1)) (lv2 := [(4, .int (nI (v + 1))), (3, .int (setS (fun z9 => allM (up2 σ 40 i (nI z9)) (fun z8 => toN (σ 51 z8)) (fun z8 => toN (σ 52 z8)) nr) (v + 1))), (2, .int (σ 40 i)), (0, .ref (ad (38))), (1, .int (nI i))]) dX7_risks_55 (k := 1) rfl (nI_add v 1) (by decide) rfl ?_
        refine go_goto X (tgt := 22) dX7_risks_58 (by decide) ?_
        exact ih22 (v + 1, nI v) (by (try dsimp only); exact (by omega)) (by (try dsimp only); omega)
      · skip
        refine go_iconst X (v := 1) dX7_risks_45 (by decide) ?_
        refine go_iload X dX7_risks_46 0 rfl ?_
        refine go_ishl X dX7_risks_48 ?_
        refine go_goto X (tgt := 53) dX7_risks_49 (by decide) ?_
        refine go_ior X dX7_risks_53 ?_
        refine go_topi (v := setS (fun z9 => allM (up2 σ 40 i (nI z9)) (fun z8 => toN (σ 51 z8)) (fun z8 => toN (σ 52 z8)) nr) (v + 1)) (by rw [setS_t (P := fun z9 => allM (up2 σ 40 i (nI z9)) (fun z8 => toN (σ 51 z8)) (fun z8 => toN (σ 52 z8)) nr) (n := v) c42]) ?_
        refine go_istore_n X (lv2 := [(3, .int (setS (fun z9 => allM (up2 σ 40 i (nI z9)) (fun z8 => toN (σ 51 z8)) (fun z8 => toN (σ 52 z8)) nr) (v + 1))), (4, .int (nI v)), (2, .int (σ 40 i)), (0, .ref (ad (38))), (1, .int (nI i))]) dX7_risks_54 rfl (by decide) rfl ?_
        refine go_iinc X (v := nI (v + 1)) (lv2 := [(4, .int (nI (v + 1))), (3, .int (setS (fun z9 => allM (up2 σ 40 i (nI z9)) (fun z8 => toN (σ 51 z8)) (fun z8 => toN (σ 52 z8)) nr) (v + 1))), (2, .int (σ 40 i)), (0, .ref (ad (38))), (1, .int (nI i))]) dX7_risks_55 (k := 1) rfl (nI_add v 1) (by decide) rfl ?_
        refine go_goto X (tgt := 22) dX7_risks_58 (by decide) ?_
        exact ih22 (v + 1, nI v) (by (try dsimp only); exact (by omega)) (by (try dsimp only); omega)
  · skip
    refine go_iconst X (v := (-1)) dX7_risks_8 (by decide) ?_
    exact go_ireturn X hr hlk dX7_risks_9 ((have hE : fitS (nI nd) (fun y9 => setS (fun z9 => allM (up2 σ 40 y9 (nI z9)) (fun z8 => toN (σ 51 z8)) (fun z8 => toN (σ 52 z8)) nr) 10) d = (-1) := (by unfold fitS; (try dsimp only); exact (cif_f c5).trans (rfl)); ⟨hE, rfl, rfl⟩))

theorem hdX7_hurts : yX7_hurts.cls = RX7 ∧ yX7_hurts.cls ≠ "java/lang/invoke/MethodHandle" ∧ yX7_hurts.cls ≠ "java/lang/invoke/VarHandle" ∧ (parseMethodDescriptor yX7_hurts.desc).map (fun d => d.parameters.length) = some 1 := by decide +kernel
set_option maxHeartbeats 4000000 in
set_option maxRecDepth 100000 in
theorem kX7_hurts (l : Launch) (D : va_G) (cs : Nat → ClassId) (ad : Nat → Nat) (N kt : Nat) (hN : 58 ≤ N) (σ : vSg) (τ : vTa) (d : Int32) (nd : Nat) (ns : Nat) (nr : Nat)   (hI : IM σ nd ns nr) : CtI l yX7_hurts wsX7_hurts ({ frames := 3, cells := 0, slots := 0, locals := 67 }) D cs ad N (shP kt) [.ref (ad (38)), .int d] σ τ 0 0 (fun r9 σ9 τ9 => fitS (nI nd) (fun y9 => setS (fun z9 => allM (up2 σ 41 y9 (nI z9)) (fun z8 => toN (σ 51 z8)) (fun z8 => toN (σ 52 z8)) nr) 10) d = r9 ∧ σ = σ9 ∧ τ = τ9) := by
  refine ct_I (cc := cX7_hurts) (maxL := 5) (by decide) rfl (Nat.le_of_ble_eq_true rfl) rfl rfl ?_
  intro p e s m args below meth c A X hr hlk
  obtain ⟨⟨hnd, hnd5⟩, ⟨hns, hns4⟩, hdd, hkp, ⟨hnr, hnr8⟩, hrd, hsh, hpos⟩ := id hI
  refine go_aload_n X dX7_hurts_0 0 rfl rfl ?_
  refine go_iload_n X dX7_hurts_1 1 rfl rfl ?_
  refine go_callVI X (n := 38) (As := [.int d]) (rest := []) (kX7_noDeed l D cs ad N kt (by omega) σ τ d (nI nd) (hnd)) gX7_hurts_X7_noDeed rfl hdX7_noDeed ⟨rfl, rfl, by decide, by decide, by decide, by decide⟩ (by omega) rfl rfl rfl rfl (Nat.le_of_ble_eq_true rfl) dX7_hurts_2 (fun r9 σ9 τ9 h9 => ?_)
  obtain ⟨rfl, rfl, rfl⟩ := h9
  refine go_ifb_eq X (tgt := 10) dX7_hurts_5 (by decide) (fun c5 => ?_) (fun c5 => ?_)
  · skip
    obtain ⟨i, hi, rfl⟩ := isB_nat (Classical.not_not.mp c5) (by omega)
    refine go_aload_n X dX7_hurts_10 0 rfl rfl ?_
    refine go_getr X (n := 38) (j := 4) (by omega) rfl rfl (fun _ h9 => List.mem_cons_of_mem _ (List.mem_append_right _ h9)) (by decide) (List.mem_cons_of_mem _ (List.mem_append_left _ (List.mem_append_left _ (List.mem_of_getElem? (i := 0) rfl)))) rfl dX7_hurts_11 ?_
    refine go_iload_n X dX7_hurts_14 1 rfl rfl ?_
    refine go_iald X (n := 41) (k := i) (by omega) rfl rfl (by omega) (by omega) dX7_hurts_15 ?_
    refine go_istore_n X (lv2 := [(2, .int (σ 41 i)), (0, .ref (ad (38))), (1, .int (nI i))]) dX7_hurts_16 rfl (by decide) rfl ?_
    refine go_iconst X (v := 0) dX7_hurts_17 (by decide) ?_
    refine go_istore_n X (lv2 := [(3, .int 0), (2, .int (σ 41 i)), (0, .ref (ad (38))), (1, .int (nI i))]) dX7_hurts_18 rfl (by decide) rfl ?_
    refine go_iconst X (v := 0) dX7_hurts_19 (by decide) ?_
    refine go_sg (σ2 := (up2 σ 41 i (σ 41 i))) up2_id.symm ?_
    refine go_istore X (lv2 := [(4, .int 0), (3, .int 0), (2, .int (σ 41 i)), (0, .ref (ad (38))), (1, .int (nI i))]) dX7_hurts_20 (by decide) rfl ?_
    refine go_loop (ι := Nat × Int32) (fun i9 => (i9.1 ≤ 10)) (fun i9 => 10 - i9.1) (fun i9 => (up2 σ 41 i i9.2)) (fun i9 => τ) (fun i9 => [(4, .int (nI i9.1)), (3, .int (setS (fun z9 => allM (up2 σ 41 i (nI z9)) (fun z8 => toN (σ 51 z8)) (fun z8 => toN (σ 52 z8)) nr) i9.1)), (2, .int (σ 41 i)), (0, .ref (ad (38))), (1, .int (nI i))]) (fun i9 => []) (0, σ 41 i) (by (try dsimp only); exact (Nat.zero_le _)) ?_
    intro i9 hi9 ih22
    obtain ⟨v, x⟩ := i9
    (try dsimp only at hi9); (try dsimp only at ih22); (try dsimp only)
    have hv := hi9
    refine go_iload X dX7_hurts_22 0 rfl ?_
    refine go_bipush X (v := 10) dX7_hurts_24 (by decide) ?_
    refine go_icmpn_ge X (tgt := 61) dX7_hurts_26 (by decide) (a := v) (b := 10) rfl rfl (by omega) (by omega) (fun c26 => ?_) (fun c26 => ?_)
    · skip
      refine go_aload_n X dX7_hurts_61 3 rfl rfl ?_
      refine go_getr X (n := 38) (j := 4) (by omega) rfl rfl (fun _ h9 => List.mem_cons_of_mem _ (List.mem_append_right _ h9)) (by decide) (List.mem_cons_of_mem _ (List.mem_append_left _ (List.mem_append_left _ (List.mem_of_getElem? (i := 0) rfl)))) rfl dX7_hurts_62 ?_
      refine go_iload_n X dX7_hurts_65 4 rfl rfl ?_
      refine go_iload_n X dX7_hurts_66 2 rfl rfl ?_
      refine go_iast X (n := 41) (k := i) (by omega) rfl rfl (by omega) (by omega) dX7_hurts_67 ?_
      refine go_sg (σ2 := σ) (by rw [up2_up2]; exact up2_id) ?_
      refine go_iload_n X dX7_hurts_68 1 rfl rfl ?_
      exact go_ireturn X hr hlk dX7_hurts_69 ((have hE : fitS (nI nd) (fun y9 => setS (fun z9 => allM (up2 σ 41 y9 (nI z9)) (fun z8 => toN (σ 51 z8)) (fun z8 => toN (σ 52 z8)) nr) 10) (nI i) = setS (fun z9 => allM (up2 σ 41 i (nI z9)) (fun z8 => toN (σ 51 z8)) (fun z8 => toN (σ 52 z8)) nr) v := (by unfold fitS; (try dsimp only); (try rw [toN_nI (k := i) (by omega)]); exact (cif_t (Classical.not_not.mp c5)).trans ((by rw [show v = 10 by omega]))); ⟨hE, rfl, rfl⟩))
    · skip
      refine go_aload_n X dX7_hurts_29 3 rfl rfl ?_
      refine go_getr X (n := 38) (j := 4) (by omega) rfl rfl (fun _ h9 => List.mem_cons_of_mem _ (List.mem_append_right _ h9)) (by decide) (List.mem_cons_of_mem _ (List.mem_append_left _ (List.mem_append_left _ (List.mem_of_getElem? (i := 0) rfl)))) rfl dX7_hurts_30 ?_
      refine go_iload_n X dX7_hurts_33 4 rfl rfl ?_
      refine go_iload X dX7_hurts_34 0 rfl ?_
      refine go_iast X (n := 41) (k := i) (by omega) rfl rfl (by omega) (by omega) dX7_hurts_36 ?_
      refine go_sg (σ2 := (up2 σ 41 i (nI v))) up2_up2 ?_
      refine go_iload_n X dX7_hurts_37 1 rfl rfl ?_
      refine go_aload_n X dX7_hurts_38 3 rfl rfl ?_
      refine go_callVI X (n := 38) (As := []) (rest := [.int (setS (fun z9 => allM (up2 σ 41 i (nI z9)) (fun z8 => toN (σ 51 z8)) (fun z8 => toN (σ 52 z8)) nr) v)]) (kX7_areSo l D cs ad N kt (by omega) (up2 σ 41 i (nI v)) τ nr (fun z8 => toN (σ 51 z8)) (fun z8 => toN (σ 52 z8)) ((up2_ne (by omega)).trans hnr) (by omega) (fun r h => by obtain ⟨ha1, ha2, hd1, hd2, hk3⟩ := IM_R hI r h; rw [up2_ne (by omega), up2_ne (by omega)]; exact ⟨ha1, ha2, hd1, hd2, (by rw [up2_ne (by omega)]; exact hk3)⟩)) gX7_hurts_X7_areSo rfl hdX7_areSo ⟨rfl, rfl, by decide, by decide, by decide, by decide⟩ (by omega) rfl rfl rfl rfl (Nat.le_of_ble_eq_true rfl) dX7_hurts_39 (fun r9 σ9 τ9 h9 => ?_)
      obtain ⟨rfl, rfl, rfl⟩ := h9
      refine go_ifb_eq X (tgt := 52) dX7_hurts_42 (by decide) (fun c42 => ?_) (fun c42 => ?_)
      · skip
        refine go_iconst X (v := 0) dX7_hurts_52 (by decide) ?_
        refine go_ior X dX7_hurts_53 ?_
        refine go_topi (v := setS (fun z9 => allM (up2 σ 41 i (nI z9)) (fun z8 => toN (σ 51 z8)) (fun z8 => toN (σ 52 z8)) nr) (v + 1)) (by rw [setS_f (P := fun z9 => allM (up2 σ 41 i (nI z9)) (fun z8 => toN (σ 51 z8)) (fun z8 => toN (σ 52 z8)) nr) (n := v) c42, or_0]) ?_
        refine go_istore_n X (lv2 := [(3, .int (setS (fun z9 => allM (up2 σ 41 i (nI z9)) (fun z8 => toN (σ 51 z8)) (fun z8 => toN (σ 52 z8)) nr) (v + 1))), (4, .int (nI v)), (2, .int (σ 41 i)), (0, .ref (ad (38))), (1, .int (nI i))]) dX7_hurts_54 rfl (by decide) rfl ?_
        refine go_iinc X (v := nI (v + 1)) (lv2 := [(4, .int (nI (v + 1))), (3, .int (setS (fun z9 => allM (up2 σ 41 i (nI z9)) (fun z8 => toN (σ 51 z8)) (fun z8 => toN (σ 52 z8)) nr) (v + 1))), (2, .int (σ 41 i)), (0, .ref (ad (38))), (1, .int (nI i))]) dX7_hurts_55 (k := 1) rfl (nI_add v 1) (by decide) rfl ?_
        refine go_goto X (tgt := 22) dX7_hurts_58 (by decide) ?_
        exact ih22 (v + 1, nI v) (by (try dsimp only); exact (by omega)) (by (try dsimp only); omega)
      · skip
        refine go_iconst X (v := 1) dX7_hurts_45 (by decide) ?_
        refine go_iload X dX7_hurts_46 0 rfl ?_
        refine go_ishl X dX7_hurts_48 ?_
        refine go_goto X (tgt := 53) dX7_hurts_49 (by decide) ?_
        refine go_ior X dX7_hurts_53 ?_
        refine go_topi (v := setS (fun z9 => allM (up2 σ 41 i (nI z9)) (fun z8 => toN (σ 51 z8)) (fun z8 => toN (σ 52 z8)) nr) (v + 1)) (by rw [setS_t (P := fun z9 => allM (up2 σ 41 i (nI z9)) (fun z8 => toN (σ 51 z8)) (fun z8 => toN (σ 52 z8)) nr) (n := v) c42]) ?_
        refine go_istore_n X (lv2 := [(3, .int (setS (fun z9 => allM (up2 σ 41 i (nI z9)) (fun z8 => toN (σ 51 z8)) (fun z8 => toN (σ 52 z8)) nr) (v + 1))), (4, .int (nI v)), (2, .int (σ 41 i)), (0, .ref (ad (38))), (1, .int (nI i))]) dX7_hurts_54 rfl (by decide) rfl ?_
        refine go_iinc X (v := nI (v + 1)) (lv2 := [(4, .int (nI (v + 1))), (3, .int (setS (fun z9 => allM (up2 σ 41 i (nI z9)) (fun z8 => toN (σ 51 z8)) (fun z8 => toN (σ 52 z8)) nr) (v + 1))), (2, .int (σ 41 i)), (0, .ref (ad (38))), (1, .int (nI i))]) dX7_hurts_55 (k := 1) rfl (nI_add v 1) (by decide) rfl ?_
        refine go_goto X (tgt := 22) dX7_hurts_58 (by decide) ?_
        exact ih22 (v + 1, nI v) (by (try dsimp only); exact (by omega)) (by (try dsimp only); omega)
  · skip
    refine go_iconst X (v := (-1)) dX7_hurts_8 (by decide) ?_
    exact go_ireturn X hr hlk dX7_hurts_9 ((have hE : fitS (nI nd) (fun y9 => setS (fun z9 => allM (up2 σ 41 y9 (nI z9)) (fun z8 => toN (σ 51 z8)) (fun z8 => toN (σ 52 z8)) nr) 10) d = (-1) := (by unfold fitS; (try dsimp only); exact (cif_f c5).trans (rfl)); ⟨hE, rfl, rfl⟩))

theorem hdX7_kinds : yX7_kinds.cls = RX7 ∧ yX7_kinds.cls ≠ "java/lang/invoke/MethodHandle" ∧ yX7_kinds.cls ≠ "java/lang/invoke/VarHandle" ∧ (parseMethodDescriptor yX7_kinds.desc).map (fun d => d.parameters.length) = some 1 := by decide +kernel
set_option maxHeartbeats 4000000 in
set_option maxRecDepth 100000 in
theorem kX7_kinds (l : Launch) (D : va_G) (cs : Nat → ClassId) (ad : Nat → Nat) (N kt : Nat) (hN : 58 ≤ N) (σ : vSg) (τ : vTa) (a : Int32) (nd : Nat) (ns : Nat) (nr : Nat)   (hI : IM σ nd ns nr) : CtI l yX7_kinds wsX7_kinds ({ frames := 3, cells := 0, slots := 0, locals := 67 }) D cs ad N (shP kt) [.ref (ad (38)), .int a] σ τ 0 0 (fun r9 σ9 τ9 => fitS (nI ns) (fun y9 => setS (fun z9 => allM (up2 σ 42 y9 (nI z9)) (fun z8 => toN (σ 51 z8)) (fun z8 => toN (σ 52 z8)) nr) 3) a = r9 ∧ σ = σ9 ∧ τ = τ9) := by
  refine ct_I (cc := cX7_kinds) (maxL := 5) (by decide) rfl (Nat.le_of_ble_eq_true rfl) rfl rfl ?_
  intro p e s m args below meth c A X hr hlk
  obtain ⟨⟨hnd, hnd5⟩, ⟨hns, hns4⟩, hdd, hkp, ⟨hnr, hnr8⟩, hrd, hsh, hpos⟩ := id hI
  refine go_aload_n X dX7_kinds_0 0 rfl rfl ?_
  refine go_iload_n X dX7_kinds_1 1 rfl rfl ?_
  refine go_callVI X (n := 38) (As := [.int a]) (rest := []) (kX7_noSubject l D cs ad N kt (by omega) σ τ a (nI ns) (hns)) gX7_kinds_X7_noSubject rfl hdX7_noSubject ⟨rfl, rfl, by decide, by decide, by decide, by decide⟩ (by omega) rfl rfl rfl rfl (Nat.le_of_ble_eq_true rfl) dX7_kinds_2 (fun r9 σ9 τ9 h9 => ?_)
  obtain ⟨rfl, rfl, rfl⟩ := h9
  refine go_ifb_eq X (tgt := 10) dX7_kinds_5 (by decide) (fun c5 => ?_) (fun c5 => ?_)
  · skip
    obtain ⟨i, hi, rfl⟩ := isB_nat (Classical.not_not.mp c5) (by omega)
    refine go_aload_n X dX7_kinds_10 0 rfl rfl ?_
    refine go_getr X (n := 38) (j := 6) (by omega) rfl rfl (fun _ h9 => List.mem_cons_of_mem _ (List.mem_append_right _ h9)) (by decide) (List.mem_cons_of_mem _ (List.mem_append_left _ (List.mem_append_left _ (List.mem_of_getElem? (i := 0) rfl)))) rfl dX7_kinds_11 ?_
    refine go_iload_n X dX7_kinds_14 1 rfl rfl ?_
    refine go_iald X (n := 42) (k := i) (by omega) rfl rfl (by omega) (by omega) dX7_kinds_15 ?_
    refine go_istore_n X (lv2 := [(2, .int (σ 42 i)), (0, .ref (ad (38))), (1, .int (nI i))]) dX7_kinds_16 rfl (by decide) rfl ?_
    refine go_iconst X (v := 0) dX7_kinds_17 (by decide) ?_
    refine go_istore_n X (lv2 := [(3, .int 0), (2, .int (σ 42 i)), (0, .ref (ad (38))), (1, .int (nI i))]) dX7_kinds_18 rfl (by decide) rfl ?_
    refine go_iconst X (v := 0) dX7_kinds_19 (by decide) ?_
    refine go_sg (σ2 := (up2 σ 42 i (σ 42 i))) up2_id.symm ?_
    refine go_istore X (lv2 := [(4, .int 0), (3, .int 0), (2, .int (σ 42 i)), (0, .ref (ad (38))), (1, .int (nI i))]) dX7_kinds_20 (by decide) rfl ?_
    refine go_loop (ι := Nat × Int32) (fun i9 => (i9.1 ≤ 3)) (fun i9 => 3 - i9.1) (fun i9 => (up2 σ 42 i i9.2)) (fun i9 => τ) (fun i9 => [(4, .int (nI i9.1)), (3, .int (setS (fun z9 => allM (up2 σ 42 i (nI z9)) (fun z8 => toN (σ 51 z8)) (fun z8 => toN (σ 52 z8)) nr) i9.1)), (2, .int (σ 42 i)), (0, .ref (ad (38))), (1, .int (nI i))]) (fun i9 => []) (0, σ 42 i) (by (try dsimp only); exact (Nat.zero_le _)) ?_
    intro i9 hi9 ih22
    obtain ⟨v, x⟩ := i9
    (try dsimp only at hi9); (try dsimp only at ih22); (try dsimp only)
    have hv := hi9
    refine go_iload X dX7_kinds_22 0 rfl ?_
    refine go_iconst X (v := 3) dX7_kinds_24 (by decide) ?_
    refine go_icmpn_ge X (tgt := 60) dX7_kinds_25 (by decide) (a := v) (b := 3) rfl rfl (by omega) (by omega) (fun c25 => ?_) (fun c25 => ?_)
    · skip
      refine go_aload_n X dX7_kinds_60 3 rfl rfl ?_
      refine go_getr X (n := 38) (j := 6) (by omega) rfl rfl (fun _ h9 => List.mem_cons_of_mem _ (List.mem_append_right _ h9)) (by decide) (List.mem_cons_of_mem _ (List.mem_append_left _ (List.mem_append_left _ (List.mem_of_getElem? (i := 0) rfl)))) rfl dX7_kinds_61 ?_
      refine go_iload_n X dX7_kinds_64 4 rfl rfl ?_
      refine go_iload_n X dX7_kinds_65 2 rfl rfl ?_
      refine go_iast X (n := 42) (k := i) (by omega) rfl rfl (by omega) (by omega) dX7_kinds_66 ?_
      refine go_sg (σ2 := σ) (by rw [up2_up2]; exact up2_id) ?_
      refine go_iload_n X dX7_kinds_67 1 rfl rfl ?_
      exact go_ireturn X hr hlk dX7_kinds_68 ((have hE : fitS (nI ns) (fun y9 => setS (fun z9 => allM (up2 σ 42 y9 (nI z9)) (fun z8 => toN (σ 51 z8)) (fun z8 => toN (σ 52 z8)) nr) 3) (nI i) = setS (fun z9 => allM (up2 σ 42 i (nI z9)) (fun z8 => toN (σ 51 z8)) (fun z8 => toN (σ 52 z8)) nr) v := (by unfold fitS; (try dsimp only); (try rw [toN_nI (k := i) (by omega)]); exact (cif_t (Classical.not_not.mp c5)).trans ((by rw [show v = 3 by omega]))); ⟨hE, rfl, rfl⟩))
    · skip
      refine go_aload_n X dX7_kinds_28 3 rfl rfl ?_
      refine go_getr X (n := 38) (j := 6) (by omega) rfl rfl (fun _ h9 => List.mem_cons_of_mem _ (List.mem_append_right _ h9)) (by decide) (List.mem_cons_of_mem _ (List.mem_append_left _ (List.mem_append_left _ (List.mem_of_getElem? (i := 0) rfl)))) rfl dX7_kinds_29 ?_
      refine go_iload_n X dX7_kinds_32 4 rfl rfl ?_
      refine go_iload X dX7_kinds_33 0 rfl ?_
      refine go_iast X (n := 42) (k := i) (by omega) rfl rfl (by omega) (by omega) dX7_kinds_35 ?_
      refine go_sg (σ2 := (up2 σ 42 i (nI v))) up2_up2 ?_
      refine go_iload_n X dX7_kinds_36 1 rfl rfl ?_
      refine go_aload_n X dX7_kinds_37 3 rfl rfl ?_
      refine go_callVI X (n := 38) (As := []) (rest := [.int (setS (fun z9 => allM (up2 σ 42 i (nI z9)) (fun z8 => toN (σ 51 z8)) (fun z8 => toN (σ 52 z8)) nr) v)]) (kX7_areSo l D cs ad N kt (by omega) (up2 σ 42 i (nI v)) τ nr (fun z8 => toN (σ 51 z8)) (fun z8 => toN (σ 52 z8)) ((up2_ne (by omega)).trans hnr) (by omega) (fun r h => by obtain ⟨ha1, ha2, hd1, hd2, hk3⟩ := IM_R hI r h; rw [up2_ne (by omega), up2_ne (by omega)]; exact ⟨ha1, ha2, hd1, hd2, (isB_up hk3 (isB_nI (b := 3) (by omega) (by omega)))⟩)) gX7_kinds_X7_areSo rfl hdX7_areSo ⟨rfl, rfl, by decide, by decide, by decide, by decide⟩ (by omega) rfl rfl rfl rfl (Nat.le_of_ble_eq_true rfl) dX7_kinds_38 (fun r9 σ9 τ9 h9 => ?_)
      obtain ⟨rfl, rfl, rfl⟩ := h9
      refine go_ifb_eq X (tgt := 51) dX7_kinds_41 (by decide) (fun c41 => ?_) (fun c41 => ?_)
      · skip
        refine go_iconst X (v := 0) dX7_kinds_51 (by decide) ?_
        refine go_ior X dX7_kinds_52 ?_
        refine go_topi (v := setS (fun z9 => allM (up2 σ 42 i (nI z9)) (fun z8 => toN (σ 51 z8)) (fun z8 => toN (σ 52 z8)) nr) (v + 1)) (by rw [setS_f (P := fun z9 => allM (up2 σ 42 i (nI z9)) (fun z8 => toN (σ 51 z8)) (fun z8 => toN (σ 52 z8)) nr) (n := v) c41, or_0]) ?_
        refine go_istore_n X (lv2 := [(3, .int (setS (fun z9 => allM (up2 σ 42 i (nI z9)) (fun z8 => toN (σ 51 z8)) (fun z8 => toN (σ 52 z8)) nr) (v + 1))), (4, .int (nI v)), (2, .int (σ 42 i)), (0, .ref (ad (38))), (1, .int (nI i))]) dX7_kinds_53 rfl (by decide) rfl ?_
        refine go_iinc X (v := nI (v + 1)) (lv2 := [(4, .int (nI (v + 1))), (3, .int (setS (fun z9 => allM (up2 σ 42 i (nI z9)) (fun z8 => toN (σ 51 z8)) (fun z8 => toN (σ 52 z8)) nr) (v + 1))), (2, .int (σ 42 i)), (0, .ref (ad (38))), (1, .int (nI i))]) dX7_kinds_54 (k := 1) rfl (nI_add v 1) (by decide) rfl ?_
        refine go_goto X (tgt := 22) dX7_kinds_57 (by decide) ?_
        exact ih22 (v + 1, nI v) (by (try dsimp only); exact (by omega)) (by (try dsimp only); omega)
      · skip
        refine go_iconst X (v := 1) dX7_kinds_44 (by decide) ?_
        refine go_iload X dX7_kinds_45 0 rfl ?_
        refine go_ishl X dX7_kinds_47 ?_
        refine go_goto X (tgt := 52) dX7_kinds_48 (by decide) ?_
        refine go_ior X dX7_kinds_52 ?_
        refine go_topi (v := setS (fun z9 => allM (up2 σ 42 i (nI z9)) (fun z8 => toN (σ 51 z8)) (fun z8 => toN (σ 52 z8)) nr) (v + 1)) (by rw [setS_t (P := fun z9 => allM (up2 σ 42 i (nI z9)) (fun z8 => toN (σ 51 z8)) (fun z8 => toN (σ 52 z8)) nr) (n := v) c41]) ?_
        refine go_istore_n X (lv2 := [(3, .int (setS (fun z9 => allM (up2 σ 42 i (nI z9)) (fun z8 => toN (σ 51 z8)) (fun z8 => toN (σ 52 z8)) nr) (v + 1))), (4, .int (nI v)), (2, .int (σ 42 i)), (0, .ref (ad (38))), (1, .int (nI i))]) dX7_kinds_53 rfl (by decide) rfl ?_
        refine go_iinc X (v := nI (v + 1)) (lv2 := [(4, .int (nI (v + 1))), (3, .int (setS (fun z9 => allM (up2 σ 42 i (nI z9)) (fun z8 => toN (σ 51 z8)) (fun z8 => toN (σ 52 z8)) nr) (v + 1))), (2, .int (σ 42 i)), (0, .ref (ad (38))), (1, .int (nI i))]) dX7_kinds_54 (k := 1) rfl (nI_add v 1) (by decide) rfl ?_
        refine go_goto X (tgt := 22) dX7_kinds_57 (by decide) ?_
        exact ih22 (v + 1, nI v) (by (try dsimp only); exact (by omega)) (by (try dsimp only); omega)
  · skip
    refine go_iconst X (v := (-1)) dX7_kinds_8 (by decide) ?_
    exact go_ireturn X hr hlk dX7_kinds_9 ((have hE : fitS (nI ns) (fun y9 => setS (fun z9 => allM (up2 σ 42 y9 (nI z9)) (fun z8 => toN (σ 51 z8)) (fun z8 => toN (σ 52 z8)) nr) 3) a = (-1) := (by unfold fitS; (try dsimp only); exact (cif_f c5).trans (rfl)); ⟨hE, rfl, rfl⟩))

theorem hdX7_reading : yX7_reading.cls = RX7 ∧ yX7_reading.cls ≠ "java/lang/invoke/MethodHandle" ∧ yX7_reading.cls ≠ "java/lang/invoke/VarHandle" ∧ (parseMethodDescriptor yX7_reading.desc).map (fun d => d.parameters.length) = some 3 := by decide +kernel
set_option maxHeartbeats 4000000 in
set_option maxRecDepth 100000 in
theorem kX7_reading (l : Launch) (D : va_G) (cs : Nat → ClassId) (ad : Nat → Nat) (N kt : Nat) (hN : 58 ≤ N) (σ : vSg) (τ : vTa) (a : Int32) (d : Int32) (bo : Int32) (nd : Nat) (ns : Nat) (nr : Nat)   (hI : IM σ nd ns nr) (hz : bo = 0 ∨ bo = 1) : CtI l yX7_reading wsX7_reading ({ frames := 2, cells := 0, slots := 0, locals := 46 }) D cs ad N (shP kt) [.ref (ad (38)), .int a, .int d, .int bo] σ τ 0 0 (fun r9 σ9 τ9 => readS (nI ns) (nI nd) nr a d = r9 ∧ cif (isB a (nI ns) ∧ isB d (nI nd) ∧ nr < 8) (up2 (up2 (up2 (up2 σ 51 nr a) 52 nr d) 53 nr bo) 38 21 (nI (nr + 1))) σ = σ9 ∧ τ = τ9) := by
  refine ct_I (cc := cX7_reading) (maxL := 4) (by decide) rfl (Nat.le_of_ble_eq_true rfl) rfl rfl ?_
  intro p e s m args below meth c A X hr hlk
  obtain ⟨⟨hnd, hnd5⟩, ⟨hns, hns4⟩, hdd, hkp, ⟨hnr, hnr8⟩, hrd, hsh, hpos⟩ := id hI
  refine go_aload_n X dX7_reading_0 0 rfl rfl ?_
  refine go_iload_n X dX7_reading_1 1 rfl rfl ?_
  refine go_callVI X (n := 38) (As := [.int a]) (rest := []) (kX7_noSubject l D cs ad N kt (by omega) σ τ a (nI ns) (hns)) gX7_reading_X7_noSubject rfl hdX7_noSubject ⟨rfl, rfl, by decide, by decide, by decide, by decide⟩ (by omega) rfl rfl rfl rfl (Nat.le_of_ble_eq_true rfl) dX7_reading_2 (fun r9 σ9 τ9 h9 => ?_)
  obtain ⟨rfl, rfl, rfl⟩ := h9
  refine go_ifb_ne X (tgt := 16) dX7_reading_5 (by decide) (fun c5 => ?_) (fun c5 => ?_)
  · skip
    refine go_iconst X (v := (-1)) dX7_reading_16 (by decide) ?_
    exact go_ireturn X hr hlk dX7_reading_17 ((have hE : readS (nI ns) (nI nd) nr a d = (-1) := (by unfold readS; (try dsimp only); exact (cif_f c5).trans (rfl)); ⟨hE, cif_f (fun q => c5 q.1), rfl⟩))
  · skip
    refine go_aload_n X dX7_reading_8 0 rfl rfl ?_
    refine go_iload_n X dX7_reading_9 2 rfl rfl ?_
    refine go_callVI X (n := 38) (As := [.int d]) (rest := []) (kX7_noDeed l D cs ad N kt (by omega) σ τ d (nI nd) (hnd)) gX7_reading_X7_noDeed rfl hdX7_noDeed ⟨rfl, rfl, by decide, by decide, by decide, by decide⟩ (by omega) rfl rfl rfl rfl (Nat.le_of_ble_eq_true rfl) dX7_reading_10 (fun r9 σ9 τ9 h9 => ?_)
    obtain ⟨rfl, rfl, rfl⟩ := h9
    refine go_ifb_eq X (tgt := 18) dX7_reading_13 (by decide) (fun c13 => ?_) (fun c13 => ?_)
    · skip
      refine go_aload_n X dX7_reading_18 0 rfl rfl ?_
      refine go_geti X (n := 38) (j := 21) (by omega) rfl rfl (fun _ h9 => List.mem_cons_of_mem _ (List.mem_append_right _ h9)) (by decide) (List.mem_cons_of_mem _ (List.mem_append_left _ (List.mem_of_getElem? (i := 0) rfl))) rfl dX7_reading_19 ?_
      refine go_topi (v := nI nr) (hnr) ?_
      refine go_bipush X (v := 8) dX7_reading_22 (by decide) ?_
      refine go_icmpn_ne X (tgt := 30) dX7_reading_24 (by decide) (a := nr) (b := 8) rfl rfl (by omega) (by omega) (fun c24 => ?_) (fun c24 => ?_)
      · skip
        refine go_aload_n X dX7_reading_30 0 rfl rfl ?_
        refine go_getr X (n := 38) (j := 22) (by omega) rfl rfl (fun _ h9 => List.mem_cons_of_mem _ (List.mem_append_right _ h9)) (by decide) (List.mem_cons_of_mem _ (List.mem_append_left _ (List.mem_of_getElem? (i := 1) rfl))) rfl dX7_reading_31 ?_
        refine go_aload_n X dX7_reading_34 0 rfl rfl ?_
        refine go_geti X (n := 38) (j := 21) (by omega) rfl rfl (fun _ h9 => List.mem_cons_of_mem _ (List.mem_append_right _ h9)) (by decide) (List.mem_cons_of_mem _ (List.mem_append_left _ (List.mem_of_getElem? (i := 0) rfl))) rfl dX7_reading_35 ?_
        refine go_topi (v := nI nr) (hnr) ?_
        refine go_iload_n X dX7_reading_38 1 rfl rfl ?_
        refine go_iast X (n := 51) (k := nr) (by omega) rfl rfl (by omega) (by omega) dX7_reading_39 ?_
        refine go_aload_n X dX7_reading_40 0 rfl rfl ?_
        refine go_getr X (n := 38) (j := 23) (by omega) rfl rfl (fun _ h9 => List.mem_cons_of_mem _ (List.mem_append_right _ h9)) (by decide) (List.mem_cons_of_mem _ (List.mem_append_left _ (List.mem_of_getElem? (i := 2) rfl))) rfl dX7_reading_41 ?_
        refine go_aload_n X dX7_reading_44 0 rfl rfl ?_
        refine go_geti X (n := 38) (j := 21) (by omega) rfl rfl (fun _ h9 => List.mem_cons_of_mem _ (List.mem_append_right _ h9)) (by decide) (List.mem_cons_of_mem _ (List.mem_append_left _ (List.mem_of_getElem? (i := 0) rfl))) rfl dX7_reading_45 ?_
        refine go_topi (v := nI nr) ((up2_ne (by omega)).trans hnr) ?_
        refine go_iload_n X dX7_reading_48 2 rfl rfl ?_
        refine go_iast X (n := 52) (k := nr) (by omega) rfl rfl (by omega) (by omega) dX7_reading_49 ?_
        refine go_aload_n X dX7_reading_50 0 rfl rfl ?_
        refine go_getr X (n := 38) (j := 24) (by omega) rfl rfl (fun _ h9 => List.mem_cons_of_mem _ (List.mem_append_right _ h9)) (by decide) (List.mem_cons_of_mem _ (List.mem_append_left _ (List.mem_of_getElem? (i := 3) rfl))) rfl dX7_reading_51 ?_
        refine go_aload_n X dX7_reading_54 0 rfl rfl ?_
        refine go_geti X (n := 38) (j := 21) (by omega) rfl rfl (fun _ h9 => List.mem_cons_of_mem _ (List.mem_append_right _ h9)) (by decide) (List.mem_cons_of_mem _ (List.mem_append_left _ (List.mem_of_getElem? (i := 0) rfl))) rfl dX7_reading_55 ?_
        refine go_topi (v := nI nr) ((up2_ne (by omega)).trans ((up2_ne (by omega)).trans hnr)) ?_
        refine go_iload_n X dX7_reading_58 3 rfl rfl ?_
        refine go_zast X (n := 53) (k := nr) (by omega) rfl rfl (by omega) (by omega) dX7_reading_59 ?_
        refine go_sg (σ2 := (up2 (up2 (up2 σ 51 nr a) 52 nr d) 53 nr bo)) (by rw [vz_n hz]) ?_
        refine go_aload_n X dX7_reading_60 0 rfl rfl ?_
        refine go_dup X dX7_reading_61 rfl ?_
        refine go_geti X (n := 38) (j := 21) (by omega) rfl rfl (fun _ h9 => List.mem_cons_of_mem _ (List.mem_append_right _ h9)) (by decide) (List.mem_cons_of_mem _ (List.mem_append_left _ (List.mem_of_getElem? (i := 0) rfl))) rfl dX7_reading_62 ?_
        refine go_topi (v := nI nr) ((up2_ne (by omega)).trans ((up2_ne (by omega)).trans ((up2_ne (by omega)).trans hnr))) ?_
        refine go_iconst X (v := 1) dX7_reading_65 (by decide) ?_
        refine go_iadd X dX7_reading_66 ?_
        refine go_topi (v := nI (nr + 1)) (nI_add nr 1) ?_
        refine go_puti X (n := 38) (j := 21) (ty := .int) (by omega) rfl rfl (fun _ h9 => List.mem_cons_of_mem _ (List.mem_append_right _ h9)) (by decide) (List.mem_cons_of_mem _ (List.mem_append_left _ (List.mem_of_getElem? (i := 0) rfl))) rfl tyX7 tyX7_ok nmX7 rfl (by decide +kernel) rfl rfl dX7_reading_67 ?_
        refine go_aload_n X dX7_reading_70 0 rfl rfl ?_
        refine go_geti X (n := 38) (j := 21) (by omega) rfl rfl (fun _ h9 => List.mem_cons_of_mem _ (List.mem_append_right _ h9)) (by decide) (List.mem_cons_of_mem _ (List.mem_append_left _ (List.mem_of_getElem? (i := 0) rfl))) rfl dX7_reading_71 ?_
        refine go_topi (v := nI (nr + 1)) (up2_self) ?_
        refine go_iconst X (v := 1) dX7_reading_74 (by decide) ?_
        refine go_isub X dX7_reading_75 ?_
        refine go_topi (v := nI nr) (nI_pred nr) ?_
        exact go_ireturn X hr hlk dX7_reading_76 ((have hE : readS (nI ns) (nI nd) nr a d = nI nr := (by unfold readS; (try dsimp only); exact (cif_t (Classical.not_not.mp c5)).trans ((cif_t (Classical.not_not.mp c13)).trans ((cif_t (by omega)).trans (rfl)))); ⟨hE, cif_t ⟨(Classical.not_not.mp c5), (Classical.not_not.mp c13), by omega⟩, rfl⟩))
      · skip
        refine go_bipush X (v := (-4)) dX7_reading_27 (by decide) ?_
        exact go_ireturn X hr hlk dX7_reading_29 ((have hE : readS (nI ns) (nI nd) nr a d = (-4) := (by unfold readS; (try dsimp only); exact (cif_t (Classical.not_not.mp c5)).trans ((cif_t (Classical.not_not.mp c13)).trans ((cif_f (by omega)).trans (rfl)))); ⟨hE, cif_f (fun q => by omega), rfl⟩))
    · skip
      refine go_iconst X (v := (-1)) dX7_reading_16 (by decide) ?_
      exact go_ireturn X hr hlk dX7_reading_17 ((have hE : readS (nI ns) (nI nd) nr a d = (-1) := (by unfold readS; (try dsimp only); exact (cif_t (Classical.not_not.mp c5)).trans ((cif_f c13).trans (rfl))); ⟨hE, cif_f (fun q => c13 q.2.1), rfl⟩))

theorem hdX7_back : yX7_back.cls = RX7 ∧ yX7_back.cls ≠ "java/lang/invoke/MethodHandle" ∧ yX7_back.cls ≠ "java/lang/invoke/VarHandle" ∧ (parseMethodDescriptor yX7_back.desc).map (fun d => d.parameters.length) = some 1 := by decide +kernel
set_option maxHeartbeats 4000000 in
set_option maxRecDepth 100000 in
theorem kX7_back (l : Launch) (D : va_G) (cs : Nat → ClassId) (ad : Nat → Nat) (N kt : Nat) (hN : 58 ≤ N) (σ : vSg) (τ : vTa) (k : Int32) (nd : Nat) (ns : Nat) (nr : Nat)   (hI : IM σ nd ns nr) : CtI l yX7_back wsX7_back ({ frames := 1, cells := 0, slots := 0, locals := 25 }) D cs ad N (shP kt) [.ref (ad (38)), .int k] σ τ 0 0 (fun r9 σ9 τ9 => backS (nI nr) k = r9 ∧ cif (¬ k < 0 ∧ k ≤ nI nr) (up2 σ 38 21 (nI nr - k)) σ = σ9 ∧ τ = τ9) := by
  refine ct_I (cc := cX7_back) (maxL := 2) (by decide) rfl (Nat.le_of_ble_eq_true rfl) rfl rfl ?_
  intro p e s m args below meth c A X hr hlk
  obtain ⟨⟨hnd, hnd5⟩, ⟨hns, hns4⟩, hdd, hkp, ⟨hnr, hnr8⟩, hrd, hsh, hpos⟩ := id hI
  refine go_iload_n X dX7_back_0 1 rfl rfl ?_
  refine go_i2l X (v := k.toInt64) dX7_back_1 rfl ?_
  refine go_lconst X (v := 0) dX7_back_2 (by decide) ?_
  refine go_aload_n X dX7_back_3 0 rfl rfl ?_
  refine go_geti X (n := 38) (j := 21) (by omega) rfl rfl (fun _ h9 => List.mem_cons_of_mem _ (List.mem_append_right _ h9)) (by decide) (List.mem_cons_of_mem _ (List.mem_append_left _ (List.mem_of_getElem? (i := 0) rfl))) rfl dX7_back_4 ?_
  refine go_topi (v := nI nr) (hnr) ?_
  refine go_i2l X (v := lN nr) dX7_back_7 (nI_l (by omega)) ?_
  refine go_callSI X (As := [.long k.toInt64, .long 0, .long (lN nr)]) (rest := []) (kX7_in l D cs ad N kt (by omega) σ τ k.toInt64 0 (lN nr)) gX7_back_X7_in rfl hdX7_in ⟨rfl, rfl, by decide, by decide, by decide, by decide⟩ rfl rfl (Nat.le_of_ble_eq_true rfl) dX7_back_8 (fun r9 σ9 τ9 h9 => ?_)
  obtain ⟨rfl, rfl, rfl⟩ := h9
  refine go_topi (v := b2i (0 ≤ k ∧ k ≤ nI nr)) (b2i_c (in_gen rfl (by rw [← nI_l (by omega)]; exact Int32.toInt_toInt64 _))) ?_
  refine go_ifb_ne X (tgt := 17) dX7_back_11 (by decide) (fun c11 => ?_) (fun c11 => ?_)
  · skip
    refine go_aload_n X dX7_back_17 0 rfl rfl ?_
    refine go_dup X dX7_back_18 rfl ?_
    refine go_geti X (n := 38) (j := 21) (by omega) rfl rfl (fun _ h9 => List.mem_cons_of_mem _ (List.mem_append_right _ h9)) (by decide) (List.mem_cons_of_mem _ (List.mem_append_left _ (List.mem_of_getElem? (i := 0) rfl))) rfl dX7_back_19 ?_
    refine go_topi (v := nI nr) (hnr) ?_
    refine go_iload_n X dX7_back_22 1 rfl rfl ?_
    refine go_isub X dX7_back_23 ?_
    refine go_puti X (n := 38) (j := 21) (ty := .int) (by omega) rfl rfl (fun _ h9 => List.mem_cons_of_mem _ (List.mem_append_right _ h9)) (by decide) (List.mem_cons_of_mem _ (List.mem_append_left _ (List.mem_of_getElem? (i := 0) rfl))) rfl tyX7 tyX7_ok nmX7 rfl (by decide +kernel) rfl rfl dX7_back_24 ?_
    refine go_aload_n X dX7_back_27 0 rfl rfl ?_
    refine go_geti X (n := 38) (j := 21) (by omega) rfl rfl (fun _ h9 => List.mem_cons_of_mem _ (List.mem_append_right _ h9)) (by decide) (List.mem_cons_of_mem _ (List.mem_append_left _ (List.mem_of_getElem? (i := 0) rfl))) rfl dX7_back_28 ?_
    refine go_topi (v := (nI nr) - k) (up2_self) ?_
    exact go_ireturn X hr hlk dX7_back_31 (⟨backS_y c11, cif_t ⟨Int32.not_lt.mpr c11.1, c11.2⟩, rfl⟩)
  · skip
    refine go_bipush X (v := (-2)) dX7_back_14 (by decide) ?_
    exact go_ireturn X hr hlk dX7_back_16 (⟨backS_n c11, cif_f (fun q => c11 ⟨Int32.not_lt.mp q.1, q.2⟩), rfl⟩)

theorem hdX7_trace : yX7_trace.cls = RX7 ∧ yX7_trace.cls ≠ "java/lang/invoke/MethodHandle" ∧ yX7_trace.cls ≠ "java/lang/invoke/VarHandle" ∧ (parseMethodDescriptor yX7_trace.desc).map (fun d => d.parameters.length) = some 0 := by decide +kernel
set_option maxHeartbeats 4000000 in
set_option maxRecDepth 100000 in
theorem kX7_trace (l : Launch) (D : va_G) (cs : Nat → ClassId) (ad : Nat → Nat) (N kt : Nat) (hN : 58 ≤ N) (σ : vSg) (τ : vTa)  (tr : Int32) (h_tr : σ 38 29 = tr)   : CtI l yX7_trace wsX7_trace ({ frames := 0, cells := 0, slots := 0, locals := 0 }) D cs ad N (shP kt) [.ref (ad (38))] σ τ 0 0 (fun r9 σ9 τ9 => tr = r9 ∧ σ = σ9 ∧ τ = τ9) := by
  refine ct_I (cc := cX7_trace) (maxL := 1) (by decide) rfl (Nat.le_of_ble_eq_true rfl) rfl rfl ?_
  intro p e s m args below meth c A X hr hlk
  refine go_aload_n X dX7_trace_0 0 rfl rfl ?_
  refine go_geti X (n := 38) (j := 29) (by omega) rfl rfl (fun _ h9 => List.mem_cons_of_mem _ (List.mem_append_right _ h9)) (by decide) (List.mem_cons_of_mem _ (List.mem_append_left _ (List.mem_of_getElem? (i := 0) rfl))) rfl dX7_trace_1 ?_
  refine go_topi (v := tr) (h_tr) ?_
  exact go_ireturn X hr hlk dX7_trace_4 (⟨rfl, rfl, rfl⟩)

theorem hdX7_fault : yX7_fault.cls = RX7 ∧ yX7_fault.cls ≠ "java/lang/invoke/MethodHandle" ∧ yX7_fault.cls ≠ "java/lang/invoke/VarHandle" ∧ (parseMethodDescriptor yX7_fault.desc).map (fun d => d.parameters.length) = some 0 := by decide +kernel
set_option maxHeartbeats 4000000 in
set_option maxRecDepth 100000 in
theorem kX7_fault (l : Launch) (D : va_G) (cs : Nat → ClassId) (ad : Nat → Nat) (N kt : Nat) (hN : 58 ≤ N) (σ : vSg) (τ : vTa)  (fa : Int32) (h_fa : σ 38 0 = fa)   : CtI l yX7_fault wsX7_fault ({ frames := 0, cells := 0, slots := 0, locals := 0 }) D cs ad N (shP kt) [.ref (ad (38))] σ τ 0 0 (fun r9 σ9 τ9 => fa = r9 ∧ σ = σ9 ∧ τ = τ9) := by
  refine ct_I (cc := cX7_fault) (maxL := 1) (by decide) rfl (Nat.le_of_ble_eq_true rfl) rfl rfl ?_
  intro p e s m args below meth c A X hr hlk
  refine go_aload_n X dX7_fault_0 0 rfl rfl ?_
  refine go_geti X (n := 38) (j := 0) (by omega) rfl rfl (fun _ h9 => List.mem_cons_of_mem _ (List.mem_append_right _ h9)) (by decide) (List.mem_cons_of_mem _ (List.mem_append_left _ (List.mem_of_getElem? (i := 0) rfl))) rfl dX7_fault_1 ?_
  refine go_topi (v := fa) (h_fa) ?_
  exact go_ireturn X hr hlk dX7_fault_4 (⟨rfl, rfl, rfl⟩)

theorem hdX7_as : yX7_as.cls = RX7 ∧ yX7_as.cls ≠ "java/lang/invoke/MethodHandle" ∧ yX7_as.cls ≠ "java/lang/invoke/VarHandle" ∧ (parseMethodDescriptor yX7_as.desc).map (fun d => d.parameters.length) = some 2 := by decide +kernel
set_option maxHeartbeats 4000000 in
set_option maxRecDepth 100000 in
theorem kX7_as (l : Launch) (D : va_G) (cs : Nat → ClassId) (ad : Nat → Nat) (N kt : Nat) (hN : 58 ≤ N) (σ : vSg) (τ : vTa) (a : Int32) (kind : Int32) (nd : Nat) (ns : Nat) (nr : Nat)   (hI : IM σ nd ns nr) : CtI l yX7_as wsX7_as ({ frames := 2, cells := 0, slots := 0, locals := 46 }) D cs ad N (shP kt) [.ref (ad (38)), .int a, .int kind] σ τ 0 0 (fun r9 σ9 τ9 => (asS (nI ns) (σ 42) a kind).1 = r9 ∧ (up2 σ 38 0 ((asS (nI ns) (σ 42) a kind).2)) = σ9 ∧ τ = τ9) := by
  refine ct_I (cc := cX7_as) (maxL := 3) (by decide) rfl (Nat.le_of_ble_eq_true rfl) rfl rfl ?_
  intro p e s m args below meth c A X hr hlk
  obtain ⟨⟨hnd, hnd5⟩, ⟨hns, hns4⟩, hdd, hkp, ⟨hnr, hnr8⟩, hrd, hsh, hpos⟩ := id hI
  refine go_aload_n X dX7_as_0 0 rfl rfl ?_
  refine go_iload_n X dX7_as_1 1 rfl rfl ?_
  refine go_callVI X (n := 38) (As := [.int a]) (rest := []) (kX7_noSubject l D cs ad N kt (by omega) σ τ a (nI ns) (hns)) gX7_as_X7_noSubject rfl hdX7_noSubject ⟨rfl, rfl, by decide, by decide, by decide, by decide⟩ (by omega) rfl rfl rfl rfl (Nat.le_of_ble_eq_true rfl) dX7_as_2 (fun r9 σ9 τ9 h9 => ?_)
  obtain ⟨rfl, rfl, rfl⟩ := h9
  refine go_ifb_eq X (tgt := 14) dX7_as_5 (by decide) (fun c5 => ?_) (fun c5 => ?_)
  · skip
    obtain ⟨i, hi, rfl⟩ := isB_nat (Classical.not_not.mp c5) (by omega)
    refine go_iload_n X dX7_as_14 2 rfl rfl ?_
    refine go_i2l X (v := kind.toInt64) dX7_as_15 rfl ?_
    refine go_lconst X (v := 0) dX7_as_16 (by decide) ?_
    refine go_ldc2 X (v := 2) (List.mem_cons_of_mem _ (List.mem_append_left _ (List.mem_of_getElem? (i := 0) rfl))) dX7_as_17 ?_
    refine go_callSI X (As := [.long kind.toInt64, .long 0, .long 2]) (rest := []) (kX7_in l D cs ad N kt (by omega) σ τ kind.toInt64 0 2) gX7_as_X7_in rfl hdX7_in ⟨rfl, rfl, by decide, by decide, by decide, by decide⟩ rfl rfl (Nat.le_of_ble_eq_true rfl) dX7_as_20 (fun r9 σ9 τ9 h9 => ?_)
    obtain ⟨rfl, rfl, rfl⟩ := h9
    refine go_topi (v := b2i (isB kind 3)) (b2i_c (in_iff rfl rfl)) ?_
    refine go_ifb_ne X (tgt := 33) dX7_as_23 (by decide) (fun c23 => ?_) (fun c23 => ?_)
    · skip
      refine go_aload_n X dX7_as_33 0 rfl rfl ?_
      refine go_getr X (n := 38) (j := 6) (by omega) rfl rfl (fun _ h9 => List.mem_cons_of_mem _ (List.mem_append_right _ h9)) (by decide) (List.mem_cons_of_mem _ (List.mem_append_left _ (List.mem_of_getElem? (i := 1) rfl))) rfl dX7_as_34 ?_
      refine go_iload_n X dX7_as_37 1 rfl rfl ?_
      refine go_iald X (n := 42) (k := i) (by omega) rfl rfl (by omega) (by omega) dX7_as_38 ?_
      refine go_iload_n X dX7_as_39 2 rfl rfl ?_
      refine go_icmp_lt X (tgt := 51) dX7_as_40 (by decide) (fun c40 => ?_) (fun c40 => ?_)
      · skip
        refine go_aload_n X dX7_as_51 0 rfl rfl ?_
        refine go_iconst X (v := 2) dX7_as_52 (by decide) ?_
        refine go_callVI X (n := 38) (As := [.int 2]) (rest := []) (kX7_failed l D cs ad N kt (by omega) σ τ 2) gX7_as_X7_failed rfl hdX7_failed ⟨rfl, rfl, by decide, by decide, by decide, by decide⟩ (by omega) rfl rfl rfl rfl (Nat.le_of_ble_eq_true rfl) dX7_as_53 (fun r9 σ9 τ9 h9 => ?_)
        obtain ⟨rfl, rfl, rfl⟩ := h9
        exact go_ireturn X hr hlk dX7_as_56 ((have hE : asS (nI ns) (σ 42) (nI i) kind = ((-10) - 2, 2) := (by unfold asS; (try dsimp only); (try rw [toN_nI (k := i) (by omega)]); exact (cif_t (Classical.not_not.mp c5)).trans ((cif_t c23).trans ((cif_t c40).trans (rfl)))); ⟨by rw [hE], by rw [hE], rfl⟩))
      · skip
        refine go_aload_n X dX7_as_43 0 rfl rfl ?_
        refine go_iconst X (v := 1) dX7_as_44 (by decide) ?_
        refine go_callVI X (n := 38) (As := [.int 1]) (rest := []) (kX7_refused l D cs ad N kt (by omega) σ τ 1) gX7_as_X7_refused rfl hdX7_refused ⟨rfl, rfl, by decide, by decide, by decide, by decide⟩ (by omega) rfl rfl rfl rfl (Nat.le_of_ble_eq_true rfl) dX7_as_45 (fun r9 σ9 τ9 h9 => ?_)
        obtain ⟨rfl, rfl, rfl⟩ := h9
        refine go_goto X (tgt := 56) dX7_as_48 (by decide) ?_
        exact go_ireturn X hr hlk dX7_as_56 ((have hE : asS (nI ns) (σ 42) (nI i) kind = (1, 0) := (by unfold asS; (try dsimp only); (try rw [toN_nI (k := i) (by omega)]); exact (cif_t (Classical.not_not.mp c5)).trans ((cif_t c23).trans ((cif_f c40).trans (rfl)))); ⟨by rw [hE], by rw [hE], rfl⟩))
    · skip
      refine go_aload_n X dX7_as_26 0 rfl rfl ?_
      refine go_bipush X (v := (-2)) dX7_as_27 (by decide) ?_
      refine go_callVI X (n := 38) (As := [.int (-2)]) (rest := []) (kX7_refused l D cs ad N kt (by omega) σ τ (-2)) gX7_as_X7_refused rfl hdX7_refused ⟨rfl, rfl, by decide, by decide, by decide, by decide⟩ (by omega) rfl rfl rfl rfl (Nat.le_of_ble_eq_true rfl) dX7_as_29 (fun r9 σ9 τ9 h9 => ?_)
      obtain ⟨rfl, rfl, rfl⟩ := h9
      exact go_ireturn X hr hlk dX7_as_32 ((have hE : asS (nI ns) (σ 42) (nI i) kind = ((-2), 0) := (by unfold asS; (try dsimp only); (try rw [toN_nI (k := i) (by omega)]); exact (cif_t (Classical.not_not.mp c5)).trans ((cif_f c23).trans (rfl))); ⟨by rw [hE], by rw [hE], rfl⟩))
  · skip
    refine go_aload_n X dX7_as_8 0 rfl rfl ?_
    refine go_iconst X (v := (-1)) dX7_as_9 (by decide) ?_
    refine go_callVI X (n := 38) (As := [.int (-1)]) (rest := []) (kX7_refused l D cs ad N kt (by omega) σ τ (-1)) gX7_as_X7_refused rfl hdX7_refused ⟨rfl, rfl, by decide, by decide, by decide, by decide⟩ (by omega) rfl rfl rfl rfl (Nat.le_of_ble_eq_true rfl) dX7_as_10 (fun r9 σ9 τ9 h9 => ?_)
    obtain ⟨rfl, rfl, rfl⟩ := h9
    exact go_ireturn X hr hlk dX7_as_13 ((have hE : asS (nI ns) (σ 42) a kind = ((-1), 0) := (by unfold asS; (try dsimp only); exact (cif_f c5).trans (rfl)); ⟨by rw [hE], by rw [hE], rfl⟩))

theorem hdX7_name : yX7_name.cls = RX7 ∧ yX7_name.cls ≠ "java/lang/invoke/MethodHandle" ∧ yX7_name.cls ≠ "java/lang/invoke/VarHandle" ∧ (parseMethodDescriptor yX7_name.desc).map (fun d => d.parameters.length) = some 1 := by decide +kernel
set_option maxHeartbeats 4000000 in
set_option maxRecDepth 100000 in
theorem kX7_name (l : Launch) (D : va_G) (cs : Nat → ClassId) (ad : Nat → Nat) (N kt : Nat) (hN : 58 ≤ N) (σ : vSg) (τ : vTa) (a : Int32) (nd : Nat) (ns : Nat) (nr : Nat)   (hI : IM σ nd ns nr) : CtI l yX7_name wsX7_name ({ frames := 2, cells := 0, slots := 0, locals := 46 }) D cs ad N (shP kt) [.ref (ad (38)), .int a] σ τ 0 0 (fun r9 σ9 τ9 => (nameS (nI ns) (σ 42) (σ 38 29) a).1 = r9 ∧ (up2 σ 38 29 ((nameS (nI ns) (σ 42) (σ 38 29) a).2)) = σ9 ∧ τ = τ9) := by
  refine ct_I (cc := cX7_name) (maxL := 2) (by decide) rfl (Nat.le_of_ble_eq_true rfl) rfl rfl ?_
  intro p e s m args below meth c A X hr hlk
  obtain ⟨⟨hnd, hnd5⟩, ⟨hns, hns4⟩, hdd, hkp, ⟨hnr, hnr8⟩, hrd, hsh, hpos⟩ := id hI
  refine go_aload_n X dX7_name_0 0 rfl rfl ?_
  refine go_iload_n X dX7_name_1 1 rfl rfl ?_
  refine go_callVI X (n := 38) (As := [.int a]) (rest := []) (kX7_noSubject l D cs ad N kt (by omega) σ τ a (nI ns) (hns)) gX7_name_X7_noSubject rfl hdX7_noSubject ⟨rfl, rfl, by decide, by decide, by decide, by decide⟩ (by omega) rfl rfl rfl rfl (Nat.le_of_ble_eq_true rfl) dX7_name_2 (fun r9 σ9 τ9 h9 => ?_)
  obtain ⟨rfl, rfl, rfl⟩ := h9
  refine go_ifb_eq X (tgt := 10) dX7_name_5 (by decide) (fun c5 => ?_) (fun c5 => ?_)
  · skip
    obtain ⟨i, hi, rfl⟩ := isB_nat (Classical.not_not.mp c5) (by omega)
    refine go_aload_n X dX7_name_10 0 rfl rfl ?_
    refine go_aload_n X dX7_name_11 0 rfl rfl ?_
    refine go_getr X (n := 38) (j := 6) (by omega) rfl rfl (fun _ h9 => List.mem_cons_of_mem _ (List.mem_append_right _ h9)) (by decide) (List.mem_cons_of_mem _ (List.mem_append_left _ (List.mem_of_getElem? (i := 0) rfl))) rfl dX7_name_12 ?_
    refine go_iload_n X dX7_name_15 1 rfl rfl ?_
    refine go_iald X (n := 42) (k := i) (by omega) rfl rfl (by omega) (by omega) dX7_name_16 ?_
    refine go_iconst X (v := 2) dX7_name_17 (by decide) ?_
    refine go_icmp_ne X (tgt := 25) dX7_name_18 (by decide) (fun c18 => ?_) (fun c18 => ?_)
    · skip
      refine go_iconst X (v := 4) dX7_name_25 (by decide) ?_
      refine go_callVV X (n := 38) (As := [.int 4]) (rest := []) (kX7_traced l D cs ad N kt (by omega) σ τ 4 (σ 38 29) (rfl)) gX7_name_X7_traced rfl hdX7_traced ⟨rfl, rfl, by decide, by decide, by decide, by decide⟩ (by omega) rfl rfl rfl rfl (Nat.le_of_ble_eq_true rfl) dX7_name_26 (fun σ9 τ9 h9 => ?_)
      obtain ⟨rfl, rfl⟩ := h9
      refine go_aload_n X dX7_name_29 0 rfl rfl ?_
      refine go_getr X (n := 38) (j := 6) (by omega) rfl rfl (fun _ h9 => List.mem_cons_of_mem _ (List.mem_append_right _ h9)) (by decide) (List.mem_cons_of_mem _ (List.mem_append_left _ (List.mem_of_getElem? (i := 0) rfl))) rfl dX7_name_30 ?_
      refine go_iload_n X dX7_name_33 1 rfl rfl ?_
      refine go_iald X (n := 42) (k := i) (by omega) rfl rfl (by omega) (by omega) dX7_name_34 ?_
      refine go_topi (v := σ 42 i) ((up2_ne (by omega))) ?_
      refine go_iconst X (v := 2) dX7_name_35 (by decide) ?_
      refine go_icmp_ne X (tgt := 44) dX7_name_36 (by decide) (fun c36 => ?_) (fun h9 => absurd h9 c18)
      refine go_iload_n X dX7_name_44 1 rfl rfl ?_
      exact go_ireturn X hr hlk dX7_name_45 ((have hE : nameS (nI ns) (σ 42) (σ 38 29) (nI i) = (nI i, 31 * (σ 38 29) + 4) := (by unfold nameS; (try dsimp only); (try rw [toN_nI (k := i) (by omega)]); exact (cif_t (Classical.not_not.mp c5)).trans ((cif_f c18).trans (rfl))); ⟨by rw [hE], by rw [hE], rfl⟩))
    · skip
      refine go_iconst X (v := 5) dX7_name_21 (by decide) ?_
      refine go_goto X (tgt := 26) dX7_name_22 (by decide) ?_
      refine go_callVV X (n := 38) (As := [.int 5]) (rest := []) (kX7_traced l D cs ad N kt (by omega) σ τ 5 (σ 38 29) (rfl)) gX7_name_X7_traced rfl hdX7_traced ⟨rfl, rfl, by decide, by decide, by decide, by decide⟩ (by omega) rfl rfl rfl rfl (Nat.le_of_ble_eq_true rfl) dX7_name_26 (fun σ9 τ9 h9 => ?_)
      obtain ⟨rfl, rfl⟩ := h9
      refine go_aload_n X dX7_name_29 0 rfl rfl ?_
      refine go_getr X (n := 38) (j := 6) (by omega) rfl rfl (fun _ h9 => List.mem_cons_of_mem _ (List.mem_append_right _ h9)) (by decide) (List.mem_cons_of_mem _ (List.mem_append_left _ (List.mem_of_getElem? (i := 0) rfl))) rfl dX7_name_30 ?_
      refine go_iload_n X dX7_name_33 1 rfl rfl ?_
      refine go_iald X (n := 42) (k := i) (by omega) rfl rfl (by omega) (by omega) dX7_name_34 ?_
      refine go_topi (v := σ 42 i) ((up2_ne (by omega))) ?_
      refine go_iconst X (v := 2) dX7_name_35 (by decide) ?_
      refine go_icmp_ne X (tgt := 44) dX7_name_36 (by decide) (fun h9 => absurd c18 h9) (fun c36 => ?_)
      refine go_bipush X (v := 70) dX7_name_39 (by decide) ?_
      refine go_goto X (tgt := 45) dX7_name_41 (by decide) ?_
      exact go_ireturn X hr hlk dX7_name_45 ((have hE : nameS (nI ns) (σ 42) (σ 38 29) (nI i) = (70, 31 * (σ 38 29) + 5) := (by unfold nameS; (try dsimp only); (try rw [toN_nI (k := i) (by omega)]); exact (cif_t (Classical.not_not.mp c5)).trans ((cif_t c18).trans (rfl))); ⟨by rw [hE], by rw [hE], rfl⟩))
  · skip
    refine go_iconst X (v := (-1)) dX7_name_8 (by decide) ?_
    exact go_ireturn X hr hlk dX7_name_9 ((have hE : nameS (nI ns) (σ 42) (σ 38 29) a = ((-1), σ 38 29) := (by unfold nameS; (try dsimp only); exact (cif_f c5).trans (rfl)); ⟨by rw [hE], by rw [hE]; exact up2_id2 rfl, rfl⟩))

theorem two_mul32 (x : Int32) : x + 100 + x = 2 * x + 100 := by
  rw [Int32.add_assoc, Int32.add_comm 100 x, ← Int32.add_assoc]
  congr 1
  rw [show (2 : Int32) = 1 + 1 from rfl, Int32.add_mul, Int32.one_mul]
theorem hdX7_tell : yX7_tell.cls = RX7 ∧ yX7_tell.cls ≠ "java/lang/invoke/MethodHandle" ∧ yX7_tell.cls ≠ "java/lang/invoke/VarHandle" ∧ (parseMethodDescriptor yX7_tell.desc).map (fun d => d.parameters.length) = some 1 := by decide +kernel
set_option maxHeartbeats 4000000 in
set_option maxRecDepth 100000 in
theorem kX7_tell (l : Launch) (D : va_G) (cs : Nat → ClassId) (ad : Nat → Nat) (N kt : Nat) (hN : 58 ≤ N) (σ : vSg) (τ : vTa) (a : Int32) (nd : Nat) (ns : Nat) (nr : Nat)   (hI : IM σ nd ns nr) : CtI l yX7_tell wsX7_tell ({ frames := 2, cells := 0, slots := 0, locals := 46 }) D cs ad N (shP kt) [.ref (ad (38)), .int a] σ τ 0 0 (fun r9 σ9 τ9 => (tellS (nI ns) (σ 42) (σ 43) (σ 38 29) a).1 = r9 ∧ (up2 σ 38 29 ((tellS (nI ns) (σ 42) (σ 43) (σ 38 29) a).2)) = σ9 ∧ τ = τ9) := by
  refine ct_I (cc := cX7_tell) (maxL := 4) (by decide) rfl (Nat.le_of_ble_eq_true rfl) rfl rfl ?_
  intro p e s m args below meth c A X hr hlk
  obtain ⟨⟨hnd, hnd5⟩, ⟨hns, hns4⟩, hdd, hkp, ⟨hnr, hnr8⟩, hrd, hsh, hpos⟩ := id hI
  refine go_aload_n X dX7_tell_0 0 rfl rfl ?_
  refine go_iload_n X dX7_tell_1 1 rfl rfl ?_
  refine go_callVI X (n := 38) (As := [.int a]) (rest := []) (kX7_noSubject l D cs ad N kt (by omega) σ τ a (nI ns) (hns)) gX7_tell_X7_noSubject rfl hdX7_noSubject ⟨rfl, rfl, by decide, by decide, by decide, by decide⟩ (by omega) rfl rfl rfl rfl (Nat.le_of_ble_eq_true rfl) dX7_tell_2 (fun r9 σ9 τ9 h9 => ?_)
  obtain ⟨rfl, rfl, rfl⟩ := h9
  refine go_ifb_eq X (tgt := 10) dX7_tell_5 (by decide) (fun c5 => ?_) (fun c5 => ?_)
  · skip
    obtain ⟨i, hi, rfl⟩ := isB_nat (Classical.not_not.mp c5) (by omega)
    refine go_aload_n X dX7_tell_10 0 rfl rfl ?_
    refine go_getr X (n := 38) (j := 6) (by omega) rfl rfl (fun _ h9 => List.mem_cons_of_mem _ (List.mem_append_right _ h9)) (by decide) (List.mem_cons_of_mem _ (List.mem_append_left _ (List.mem_of_getElem? (i := 0) rfl))) rfl dX7_tell_11 ?_
    refine go_iload_n X dX7_tell_14 1 rfl rfl ?_
    refine go_iald X (n := 42) (k := i) (by omega) rfl rfl (by omega) (by omega) dX7_tell_15 ?_
    rcases is3 (hkp i (by omega)).1 with e9 | e9 | e9
    · skip
      refine go_topi (v := 0) e9 ?_
      refine go_istore_n X (lv2 := [(2, .int 0), (0, .ref (ad (38))), (1, .int (nI i))]) dX7_tell_16 rfl (by decide) rfl ?_
      refine go_iload_n X dX7_tell_17 0 rfl rfl ?_
      refine go_iconst X (v := 2) dX7_tell_18 (by decide) ?_
      refine go_icmp_ne X (tgt := 27) dX7_tell_19 (by decide) (fun _ => ?_) (fun h9 => absurd h9 (by decide))
      refine go_iload_n X dX7_tell_27 0 rfl rfl ?_
      refine go_if_le X (tgt := 36) dX7_tell_28 (by decide) (fun _ => ?_) (fun h9 => absurd h9 (by decide))
      refine go_aload_n X dX7_tell_36 1 rfl rfl ?_
      refine go_iconst X (v := 1) dX7_tell_37 (by decide) ?_
      refine go_callVV X (n := 38) (As := [.int 1]) (rest := []) (kX7_traced l D cs ad N kt (by omega) σ τ 1 (σ 38 29) (rfl)) gX7_tell_X7_traced rfl hdX7_traced ⟨rfl, rfl, by decide, by decide, by decide, by decide⟩ (by omega) rfl rfl rfl rfl (Nat.le_of_ble_eq_true rfl) dX7_tell_38 (fun σ9 τ9 h9 => ?_)
      obtain ⟨rfl, rfl⟩ := h9
      refine go_iload_n X dX7_tell_41 0 rfl rfl ?_
      refine go_iconst X (v := 2) dX7_tell_42 (by decide) ?_
      refine go_icmp_ne X (tgt := 51) dX7_tell_43 (by decide) (fun _ => ?_) (fun h9 => absurd h9 (by decide))
      refine go_aload_n X dX7_tell_51 1 rfl rfl ?_
      refine go_getr X (n := 38) (j := 7) (by omega) rfl rfl (fun _ h9 => List.mem_cons_of_mem _ (List.mem_append_right _ h9)) (by decide) (List.mem_cons_of_mem _ (List.mem_append_left _ (List.mem_of_getElem? (i := 1) rfl))) rfl dX7_tell_52 ?_
      refine go_iload_n X dX7_tell_55 2 rfl rfl ?_
      refine go_iald X (n := 43) (k := i) (by omega) rfl rfl (by omega) (by omega) dX7_tell_56 ?_
      refine go_topi (v := σ 43 i) ((up2_ne (by omega))) ?_
      refine go_istore_n X (lv2 := [(3, .int (σ 43 i)), (2, .int 0), (0, .ref (ad (38))), (1, .int (nI i))]) dX7_tell_57 rfl (by decide) rfl ?_
      refine go_iload_n X dX7_tell_58 1 rfl rfl ?_
      refine go_if_ne X (tgt := 66) dX7_tell_59 (by decide) (fun h9 => absurd h9 (by decide)) (fun _ => ?_)
      refine go_iload_n X dX7_tell_62 0 rfl rfl ?_
      refine go_goto X (tgt := 84) dX7_tell_63 (by decide) ?_
      exact go_ireturn X hr hlk dX7_tell_84 ((have hE : tellS (nI ns) (σ 42) (σ 43) (σ 38 29) (nI i) = (σ 43 i, 31 * (σ 38 29) + 1) := (by unfold tellS; (try dsimp only); (try rw [toN_nI (k := i) (by omega)]); exact (cif_t (Classical.not_not.mp c5)).trans ((cif_f (by rw [e9]; decide)).trans ((cif_f (by rw [e9]; decide)).trans (rfl)))); ⟨by rw [hE], by rw [hE], rfl⟩))
    · skip
      refine go_topi (v := 1) e9 ?_
      refine go_istore_n X (lv2 := [(2, .int 1), (0, .ref (ad (38))), (1, .int (nI i))]) dX7_tell_16 rfl (by decide) rfl ?_
      refine go_iload_n X dX7_tell_17 0 rfl rfl ?_
      refine go_iconst X (v := 2) dX7_tell_18 (by decide) ?_
      refine go_icmp_ne X (tgt := 27) dX7_tell_19 (by decide) (fun _ => ?_) (fun h9 => absurd h9 (by decide))
      refine go_iload_n X dX7_tell_27 0 rfl rfl ?_
      refine go_if_le X (tgt := 36) dX7_tell_28 (by decide) (fun h9 => absurd h9 (by decide)) (fun _ => ?_)
      refine go_aload_n X dX7_tell_31 1 rfl rfl ?_
      refine go_iconst X (v := 2) dX7_tell_32 (by decide) ?_
      refine go_callVV X (n := 38) (As := [.int 2]) (rest := []) (kX7_traced l D cs ad N kt (by omega) σ τ 2 (σ 38 29) (rfl)) gX7_tell_X7_traced rfl hdX7_traced ⟨rfl, rfl, by decide, by decide, by decide, by decide⟩ (by omega) rfl rfl rfl rfl (Nat.le_of_ble_eq_true rfl) dX7_tell_33 (fun σ9 τ9 h9 => ?_)
      obtain ⟨rfl, rfl⟩ := h9
      refine go_aload_n X dX7_tell_36 1 rfl rfl ?_
      refine go_iconst X (v := 1) dX7_tell_37 (by decide) ?_
      refine go_callVV X (n := 38) (As := [.int 1]) (rest := []) (kX7_traced l D cs ad N kt (by omega) (up2 σ 38 29 (31 * (σ 38 29) + 2)) τ 1 (31 * (σ 38 29) + 2) (up2_self)) gX7_tell_X7_traced rfl hdX7_traced ⟨rfl, rfl, by decide, by decide, by decide, by decide⟩ (by omega) rfl rfl rfl rfl (Nat.le_of_ble_eq_true rfl) dX7_tell_38 (fun σ9 τ9 h9 => ?_)
      obtain ⟨rfl, rfl⟩ := h9
      refine go_iload_n X dX7_tell_41 0 rfl rfl ?_
      refine go_iconst X (v := 2) dX7_tell_42 (by decide) ?_
      refine go_icmp_ne X (tgt := 51) dX7_tell_43 (by decide) (fun _ => ?_) (fun h9 => absurd h9 (by decide))
      refine go_aload_n X dX7_tell_51 1 rfl rfl ?_
      refine go_getr X (n := 38) (j := 7) (by omega) rfl rfl (fun _ h9 => List.mem_cons_of_mem _ (List.mem_append_right _ h9)) (by decide) (List.mem_cons_of_mem _ (List.mem_append_left _ (List.mem_of_getElem? (i := 1) rfl))) rfl dX7_tell_52 ?_
      refine go_iload_n X dX7_tell_55 2 rfl rfl ?_
      refine go_iald X (n := 43) (k := i) (by omega) rfl rfl (by omega) (by omega) dX7_tell_56 ?_
      refine go_topi (v := σ 43 i) ((up2_ne (by omega)).trans (up2_ne (by omega))) ?_
      refine go_istore_n X (lv2 := [(3, .int (σ 43 i)), (2, .int 1), (0, .ref (ad (38))), (1, .int (nI i))]) dX7_tell_57 rfl (by decide) rfl ?_
      refine go_iload_n X dX7_tell_58 1 rfl rfl ?_
      refine go_if_ne X (tgt := 66) dX7_tell_59 (by decide) (fun _ => ?_) (fun h9 => absurd h9 (by decide))
      refine go_iload_n X dX7_tell_66 1 rfl rfl ?_
      refine go_iconst X (v := 1) dX7_tell_67 (by decide) ?_
      refine go_icmp_ne X (tgt := 78) dX7_tell_68 (by decide) (fun h9 => absurd h9 (by decide)) (fun _ => ?_)
      refine go_iload_n X dX7_tell_71 0 rfl rfl ?_
      refine go_bipush X (v := 100) dX7_tell_72 (by decide) ?_
      refine go_iadd X dX7_tell_74 ?_
      refine go_goto X (tgt := 84) dX7_tell_75 (by decide) ?_
      exact go_ireturn X hr hlk dX7_tell_84 ((have hE : tellS (nI ns) (σ 42) (σ 43) (σ 38 29) (nI i) = ((σ 43 i) + 100, 31 * (31 * (σ 38 29) + 2) + 1) := (by unfold tellS; (try dsimp only); (try rw [toN_nI (k := i) (by omega)]); exact (cif_t (Classical.not_not.mp c5)).trans ((cif_t e9).trans (rfl))); ⟨by rw [hE], by rw [hE, up2_up2], rfl⟩))
    · skip
      refine go_topi (v := 2) e9 ?_
      refine go_istore_n X (lv2 := [(2, .int 2), (0, .ref (ad (38))), (1, .int (nI i))]) dX7_tell_16 rfl (by decide) rfl ?_
      refine go_iload_n X dX7_tell_17 0 rfl rfl ?_
      refine go_iconst X (v := 2) dX7_tell_18 (by decide) ?_
      refine go_icmp_ne X (tgt := 27) dX7_tell_19 (by decide) (fun h9 => absurd h9 (by decide)) (fun _ => ?_)
      refine go_aload_n X dX7_tell_22 1 rfl rfl ?_
      refine go_iconst X (v := 3) dX7_tell_23 (by decide) ?_
      refine go_callVV X (n := 38) (As := [.int 3]) (rest := []) (kX7_traced l D cs ad N kt (by omega) σ τ 3 (σ 38 29) (rfl)) gX7_tell_X7_traced rfl hdX7_traced ⟨rfl, rfl, by decide, by decide, by decide, by decide⟩ (by omega) rfl rfl rfl rfl (Nat.le_of_ble_eq_true rfl) dX7_tell_24 (fun σ9 τ9 h9 => ?_)
      obtain ⟨rfl, rfl⟩ := h9
      refine go_iload_n X dX7_tell_27 0 rfl rfl ?_
      refine go_if_le X (tgt := 36) dX7_tell_28 (by decide) (fun h9 => absurd h9 (by decide)) (fun _ => ?_)
      refine go_aload_n X dX7_tell_31 1 rfl rfl ?_
      refine go_iconst X (v := 2) dX7_tell_32 (by decide) ?_
      refine go_callVV X (n := 38) (As := [.int 2]) (rest := []) (kX7_traced l D cs ad N kt (by omega) (up2 σ 38 29 (31 * (σ 38 29) + 3)) τ 2 (31 * (σ 38 29) + 3) (up2_self)) gX7_tell_X7_traced rfl hdX7_traced ⟨rfl, rfl, by decide, by decide, by decide, by decide⟩ (by omega) rfl rfl rfl rfl (Nat.le_of_ble_eq_true rfl) dX7_tell_33 (fun σ9 τ9 h9 => ?_)
      obtain ⟨rfl, rfl⟩ := h9
      refine go_aload_n X dX7_tell_36 1 rfl rfl ?_
      refine go_iconst X (v := 1) dX7_tell_37 (by decide) ?_
      refine go_callVV X (n := 38) (As := [.int 1]) (rest := []) (kX7_traced l D cs ad N kt (by omega) (up2 (up2 σ 38 29 (31 * (σ 38 29) + 3)) 38 29 (31 * (31 * (σ 38 29) + 3) + 2)) τ 1 (31 * (31 * (σ 38 29) + 3) + 2) (up2_self)) gX7_tell_X7_traced rfl hdX7_traced ⟨rfl, rfl, by decide, by decide, by decide, by decide⟩ (by omega) rfl rfl rfl rfl (Nat.le_of_ble_eq_true rfl) dX7_tell_38 (fun σ9 τ9 h9 => ?_)
      obtain ⟨rfl, rfl⟩ := h9
      refine go_iload_n X dX7_tell_41 0 rfl rfl ?_
      refine go_iconst X (v := 2) dX7_tell_42 (by decide) ?_
      refine go_icmp_ne X (tgt := 51) dX7_tell_43 (by decide) (fun h9 => absurd h9 (by decide)) (fun _ => ?_)
      refine go_aload_n X dX7_tell_46 1 rfl rfl ?_
      refine go_iconst X (v := 1) dX7_tell_47 (by decide) ?_
      refine go_callVV X (n := 38) (As := [.int 1]) (rest := []) (kX7_traced l D cs ad N kt (by omega) (up2 (up2 (up2 σ 38 29 (31 * (σ 38 29) + 3)) 38 29 (31 * (31 * (σ 38 29) + 3) + 2)) 38 29 (31 * (31 * (31 * (σ 38 29) + 3) + 2) + 1)) τ 1 (31 * (31 * (31 * (σ 38 29) + 3) + 2) + 1) (up2_self)) gX7_tell_X7_traced rfl hdX7_traced ⟨rfl, rfl, by decide, by decide, by decide, by decide⟩ (by omega) rfl rfl rfl rfl (Nat.le_of_ble_eq_true rfl) dX7_tell_48 (fun σ9 τ9 h9 => ?_)
      obtain ⟨rfl, rfl⟩ := h9
      refine go_aload_n X dX7_tell_51 1 rfl rfl ?_
      refine go_getr X (n := 38) (j := 7) (by omega) rfl rfl (fun _ h9 => List.mem_cons_of_mem _ (List.mem_append_right _ h9)) (by decide) (List.mem_cons_of_mem _ (List.mem_append_left _ (List.mem_of_getElem? (i := 1) rfl))) rfl dX7_tell_52 ?_
      refine go_iload_n X dX7_tell_55 2 rfl rfl ?_
      refine go_iald X (n := 43) (k := i) (by omega) rfl rfl (by omega) (by omega) dX7_tell_56 ?_
      refine go_topi (v := σ 43 i) ((up2_ne (by omega)).trans ((up2_ne (by omega)).trans ((up2_ne (by omega)).trans (up2_ne (by omega))))) ?_
      refine go_istore_n X (lv2 := [(3, .int (σ 43 i)), (2, .int 2), (0, .ref (ad (38))), (1, .int (nI i))]) dX7_tell_57 rfl (by decide) rfl ?_
      refine go_iload_n X dX7_tell_58 1 rfl rfl ?_
      refine go_if_ne X (tgt := 66) dX7_tell_59 (by decide) (fun _ => ?_) (fun h9 => absurd h9 (by decide))
      refine go_iload_n X dX7_tell_66 1 rfl rfl ?_
      refine go_iconst X (v := 1) dX7_tell_67 (by decide) ?_
      refine go_icmp_ne X (tgt := 78) dX7_tell_68 (by decide) (fun _ => ?_) (fun h9 => absurd h9 (by decide))
      refine go_iconst X (v := 2) dX7_tell_78 (by decide) ?_
      refine go_iload_n X dX7_tell_79 0 rfl rfl ?_
      refine go_imul X dX7_tell_80 ?_
      refine go_bipush X (v := 100) dX7_tell_81 (by decide) ?_
      refine go_iadd X dX7_tell_83 ?_
      exact go_ireturn X hr hlk dX7_tell_84 ((have hE : tellS (nI ns) (σ 42) (σ 43) (σ 38 29) (nI i) = ((2 * (σ 43 i)) + 100, 31 * (31 * (31 * (31 * (σ 38 29) + 3) + 2) + 1) + 1) := (by unfold tellS; (try dsimp only); (try rw [toN_nI (k := i) (by omega)]); rw [two_mul32]; exact (cif_t (Classical.not_not.mp c5)).trans ((cif_f (by rw [e9]; decide)).trans ((cif_t e9).trans (rfl)))); ⟨by rw [hE], by rw [hE, up2_up2, up2_up2, up2_up2], rfl⟩))
  · skip
    refine go_iconst X (v := (-1)) dX7_tell_8 (by decide) ?_
    exact go_ireturn X hr hlk dX7_tell_9 ((have hE : tellS (nI ns) (σ 42) (σ 43) (σ 38 29) a = ((-1), σ 38 29) := (by unfold tellS; (try dsimp only); exact (cif_f c5).trans (rfl)); ⟨by rw [hE], by rw [hE]; exact up2_id2 rfl, rfl⟩))

theorem hdX7_many : yX7_many.cls = RX7 ∧ yX7_many.cls ≠ "java/lang/invoke/MethodHandle" ∧ yX7_many.cls ≠ "java/lang/invoke/VarHandle" ∧ (parseMethodDescriptor yX7_many.desc).map (fun d => d.parameters.length) = some 1 := by decide +kernel
set_option maxHeartbeats 4000000 in
set_option maxRecDepth 100000 in
theorem kX7_many (l : Launch) (D : va_G) (cs : Nat → ClassId) (ad : Nat → Nat) (N kt : Nat) (hN : 58 ≤ N) (σ : vSg) (τ : vTa) (what : Int32) (nd : Nat) (ns : Nat) (nr : Nat)   (hI : IM σ nd ns nr) : CtI l yX7_many wsX7_many ({ frames := 1, cells := 0, slots := 0, locals := 22 }) D cs ad N (shP kt) [.ref (ad (38)), .int what] σ τ 0 0 (fun r9 σ9 τ9 => manyS (nI ns) (nI nd) (sumS (σ 43) ns) (nI nr) what = r9 ∧ σ = σ9 ∧ τ = τ9) := by
  refine ct_I (cc := cX7_many) (maxL := 2) (by decide) rfl (Nat.le_of_ble_eq_true rfl) rfl rfl ?_
  intro p e s m args below meth c A X hr hlk
  obtain ⟨⟨hnd, hnd5⟩, ⟨hns, hns4⟩, hdd, hkp, ⟨hnr, hnr8⟩, hrd, hsh, hpos⟩ := id hI
  refine go_iload_n X dX7_many_0 1 rfl rfl ?_
  rcases Classical.em (what = 0) with e1_0 | n1_0
  · skip
    refine go_tableIn X (tgt := 32) (off := 31) dX7_many_1 (by rw [e1_0]; decide) (by rw [e1_0]; decide) (by rw [e1_0]; decide) (by decide) ?_
    refine go_aload_n X dX7_many_32 0 rfl rfl ?_
    refine go_geti X (n := 38) (j := 5) (by omega) rfl rfl (fun _ h9 => List.mem_cons_of_mem _ (List.mem_append_right _ h9)) (by decide) (List.mem_cons_of_mem _ (List.mem_append_left _ (List.mem_of_getElem? (i := 0) rfl))) rfl dX7_many_33 ?_
    refine go_topi (v := nI ns) (hns) ?_
    exact go_ireturn X hr hlk dX7_many_36 ((have hE : manyS (nI ns) (nI nd) (sumS (σ 43) ns) (nI nr) what = nI ns := (by unfold manyS; (try dsimp only); exact (cif_t e1_0).trans (rfl)); ⟨hE, rfl, rfl⟩))
  · skip
    rcases Classical.em (what = 1) with e1_1 | n1_1
    · skip
      refine go_tableIn X (tgt := 37) (off := 36) dX7_many_1 (by rw [e1_1]; decide) (by rw [e1_1]; decide) (by rw [e1_1]; decide) (by decide) ?_
      refine go_aload_n X dX7_many_37 0 rfl rfl ?_
      refine go_geti X (n := 38) (j := 1) (by omega) rfl rfl (fun _ h9 => List.mem_cons_of_mem _ (List.mem_append_right _ h9)) (by decide) (List.mem_cons_of_mem _ (List.mem_append_left _ (List.mem_of_getElem? (i := 1) rfl))) rfl dX7_many_38 ?_
      refine go_topi (v := nI nd) (hnd) ?_
      exact go_ireturn X hr hlk dX7_many_41 ((have hE : manyS (nI ns) (nI nd) (sumS (σ 43) ns) (nI nr) what = nI nd := (by unfold manyS; (try dsimp only); exact (cif_f n1_0).trans ((cif_t e1_1).trans (rfl))); ⟨hE, rfl, rfl⟩))
    · skip
      rcases Classical.em (what = 2) with e1_2 | n1_2
      · skip
        refine go_tableIn X (tgt := 42) (off := 41) dX7_many_1 (by rw [e1_2]; decide) (by rw [e1_2]; decide) (by rw [e1_2]; decide) (by decide) ?_
        refine go_aload_n X dX7_many_42 0 rfl rfl ?_
        refine go_callVI X (n := 38) (As := []) (rest := []) (kX7_papersNow l D cs ad N kt (by omega) σ τ ns (by omega) (by omega)) gX7_many_X7_papersNow rfl hdX7_papersNow ⟨rfl, rfl, by decide, by decide, by decide, by decide⟩ (by omega) rfl rfl rfl rfl (Nat.le_of_ble_eq_true rfl) dX7_many_43 (fun r9 σ9 τ9 h9 => ?_)
        obtain ⟨rfl, rfl, rfl⟩ := h9
        exact go_ireturn X hr hlk dX7_many_46 ((have hE : manyS (nI ns) (nI nd) (sumS (σ 43) ns) (nI nr) what = sumS (σ 43) ns := (by unfold manyS; (try dsimp only); exact (cif_f n1_0).trans ((cif_f n1_1).trans ((cif_t e1_2).trans (rfl)))); ⟨hE, rfl, rfl⟩))
      · skip
        rcases Classical.em (what = 3) with e1_3 | n1_3
        · skip
          refine go_tableIn X (tgt := 47) (off := 46) dX7_many_1 (by rw [e1_3]; decide) (by rw [e1_3]; decide) (by rw [e1_3]; decide) (by decide) ?_
          refine go_aload_n X dX7_many_47 0 rfl rfl ?_
          refine go_geti X (n := 38) (j := 21) (by omega) rfl rfl (fun _ h9 => List.mem_cons_of_mem _ (List.mem_append_right _ h9)) (by decide) (List.mem_cons_of_mem _ (List.mem_append_left _ (List.mem_of_getElem? (i := 2) rfl))) rfl dX7_many_48 ?_
          refine go_topi (v := nI nr) (hnr) ?_
          exact go_ireturn X hr hlk dX7_many_51 ((have hE : manyS (nI ns) (nI nd) (sumS (σ 43) ns) (nI nr) what = nI nr := (by unfold manyS; (try dsimp only); exact (cif_f n1_0).trans ((cif_f n1_1).trans ((cif_f n1_2).trans ((cif_t e1_3).trans (rfl))))); ⟨hE, rfl, rfl⟩))
        · skip
          refine go_tableOut X (tgt := 52) dX7_many_1 (by have k0 := lv_neT (a := 0) n1_0 (by decide); have k1 := lv_neT (a := 1) n1_1 (by decide); have k2 := lv_neT (a := 2) n1_2 (by decide); have k3 := lv_neT (a := 3) n1_3 (by decide); omega) (by decide) ?_
          refine go_bipush X (v := (-2)) dX7_many_52 (by decide) ?_
          exact go_ireturn X hr hlk dX7_many_54 ((have hE : manyS (nI ns) (nI nd) (sumS (σ 43) ns) (nI nr) what = (-2) := (by unfold manyS; (try dsimp only); exact (cif_f n1_0).trans ((cif_f n1_1).trans ((cif_f n1_2).trans ((cif_f n1_3).trans (rfl))))); ⟨hE, rfl, rfl⟩))

