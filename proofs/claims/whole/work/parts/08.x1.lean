theorem up2_id {α : Type} {σ : Nat → Nat → α} {n j : Nat} : up2 σ n j (σ n j) = σ := by
  funext a b
  by_cases h : a = n ∧ b = j
  · rw [h.1, h.2, up2_self]
  · rw [up2_ne h]
theorem up2_id2 {α : Type} {σ : Nat → Nat → α} {n j : Nat} {v : α} (h : σ n j = v) : up2 σ n j v = σ := by rw [← h]; exact up2_id
theorem up2_up2 {α : Type} {σ : Nat → Nat → α} {n j : Nat} {v w : α} : up2 (up2 σ n j v) n j w = up2 σ n j w := by
  funext a b
  by_cases h : a = n ∧ b = j
  · rw [h.1, h.2, up2_self, up2_self]
  · rw [up2_ne h, up2_ne h, up2_ne h]
theorem vz_n {v : Int32} (h : v = 0 ∨ v = 1) : vp_nar .boolean v = v := by rcases h with rfl | rfl <;> rfl
/-- all the first n readings are so, by the class's cells: who (ra), which deed (rd) -/
def allX (σ : vSg) (ra rd : Nat → Nat) (n : Nat) : Prop := ∀ r, r < n → b2i (doX σ (ra r) (rd r)) = σ 34 r
def allM (σ : vSg) (ra rd : Nat → Nat) (n : Nat) : Prop := ∀ r, r < n → b2i (doM σ (ra r) (rd r)) = σ 53 r
theorem hdX1_note : yX1_note.cls = RX1 ∧ yX1_note.cls ≠ "java/lang/invoke/MethodHandle" ∧ yX1_note.cls ≠ "java/lang/invoke/VarHandle" ∧ (parseMethodDescriptor yX1_note.desc).map (fun d => d.parameters.length) = some 3 := by decide +kernel
set_option maxHeartbeats 4000000 in
set_option maxRecDepth 100000 in
theorem kX1_note (l : Launch) (D : va_G) (cs : Nat → ClassId) (ad : Nat → Nat) (N kt : Nat) (hN : 58 ≤ N) (σ : vSg) (τ : vTa) (a : Int32) (d : Int32) (bo : Int32) (nr : Nat)   (hnr : σ 3 3 = nI nr) (hle : nr < 8) (hz : bo = 0 ∨ bo = 1) : CtI l yX1_note wsX1_note ({ frames := 0, cells := 0, slots := 0, locals := 0 }) D cs ad N (shP kt) [.ref (ad (3)), .int a, .int d, .int bo] σ τ 0 0 (fun r9 σ9 τ9 => nI nr = r9 ∧ (up2 (up2 (up2 (up2 σ 10 nr a) 11 nr d) 34 nr bo) 3 3 (nI (nr + 1))) = σ9 ∧ τ = τ9) := by
  refine ct_I (cc := cX1_note) (maxL := 4) (by decide) rfl (Nat.le_of_ble_eq_true rfl) rfl rfl ?_
  intro p e s m args below meth c A X hr hlk
  refine go_aload_n X dX1_note_0 0 rfl rfl ?_
  refine go_getr X (n := 3) (j := 0) (by omega) rfl rfl (fun _ h9 => List.mem_cons_of_mem _ (List.mem_append_right _ h9)) (by decide) (List.mem_cons_of_mem _ (List.mem_append_left _ (List.mem_of_getElem? (i := 0) rfl))) rfl dX1_note_1 ?_
  refine go_aload_n X dX1_note_4 0 rfl rfl ?_
  refine go_geti X (n := 3) (j := 3) (by omega) rfl rfl (fun _ h9 => List.mem_cons_of_mem _ (List.mem_append_right _ h9)) (by decide) (List.mem_cons_of_mem _ (List.mem_append_left _ (List.mem_of_getElem? (i := 1) rfl))) rfl dX1_note_5 ?_
  refine go_topi (v := nI nr) (hnr) ?_
  refine go_iload_n X dX1_note_8 1 rfl rfl ?_
  refine go_iast X (n := 10) (k := nr) (by omega) rfl rfl (by omega) (by omega) dX1_note_9 ?_
  refine go_aload_n X dX1_note_10 0 rfl rfl ?_
  refine go_getr X (n := 3) (j := 1) (by omega) rfl rfl (fun _ h9 => List.mem_cons_of_mem _ (List.mem_append_right _ h9)) (by decide) (List.mem_cons_of_mem _ (List.mem_append_left _ (List.mem_of_getElem? (i := 2) rfl))) rfl dX1_note_11 ?_
  refine go_aload_n X dX1_note_14 0 rfl rfl ?_
  refine go_geti X (n := 3) (j := 3) (by omega) rfl rfl (fun _ h9 => List.mem_cons_of_mem _ (List.mem_append_right _ h9)) (by decide) (List.mem_cons_of_mem _ (List.mem_append_left _ (List.mem_of_getElem? (i := 1) rfl))) rfl dX1_note_15 ?_
  refine go_topi (v := nI nr) ((up2_ne (by omega)).trans hnr) ?_
  refine go_iload_n X dX1_note_18 2 rfl rfl ?_
  refine go_iast X (n := 11) (k := nr) (by omega) rfl rfl (by omega) (by omega) dX1_note_19 ?_
  refine go_aload_n X dX1_note_20 0 rfl rfl ?_
  refine go_getr X (n := 3) (j := 2) (by omega) rfl rfl (fun _ h9 => List.mem_cons_of_mem _ (List.mem_append_right _ h9)) (by decide) (List.mem_cons_of_mem _ (List.mem_append_left _ (List.mem_of_getElem? (i := 3) rfl))) rfl dX1_note_21 ?_
  refine go_aload_n X dX1_note_24 0 rfl rfl ?_
  refine go_geti X (n := 3) (j := 3) (by omega) rfl rfl (fun _ h9 => List.mem_cons_of_mem _ (List.mem_append_right _ h9)) (by decide) (List.mem_cons_of_mem _ (List.mem_append_left _ (List.mem_of_getElem? (i := 1) rfl))) rfl dX1_note_25 ?_
  refine go_topi (v := nI nr) ((up2_ne (by omega)).trans ((up2_ne (by omega)).trans hnr)) ?_
  refine go_iload_n X dX1_note_28 3 rfl rfl ?_
  refine go_zast X (n := 34) (k := nr) (by omega) rfl rfl (by omega) (by omega) dX1_note_29 ?_
  refine go_sg (σ2 := (up2 (up2 (up2 σ 10 nr a) 11 nr d) 34 nr bo)) (by rw [vz_n hz]) ?_
  refine go_aload_n X dX1_note_30 0 rfl rfl ?_
  refine go_dup X dX1_note_31 rfl ?_
  refine go_geti X (n := 3) (j := 3) (by omega) rfl rfl (fun _ h9 => List.mem_cons_of_mem _ (List.mem_append_right _ h9)) (by decide) (List.mem_cons_of_mem _ (List.mem_append_left _ (List.mem_of_getElem? (i := 1) rfl))) rfl dX1_note_32 ?_
  refine go_topi (v := nI nr) ((up2_ne (by omega)).trans ((up2_ne (by omega)).trans ((up2_ne (by omega)).trans hnr))) ?_
  refine go_iconst X (v := 1) dX1_note_35 (by decide) ?_
  refine go_iadd X dX1_note_36 ?_
  refine go_topi (v := nI (nr + 1)) (nI_add nr 1) ?_
  refine go_puti X (n := 3) (j := 3) (ty := .int) (by omega) rfl rfl (fun _ h9 => List.mem_cons_of_mem _ (List.mem_append_right _ h9)) (by decide) (List.mem_cons_of_mem _ (List.mem_append_left _ (List.mem_of_getElem? (i := 1) rfl))) rfl tyX1 tyX1_ok nmX1 rfl (by decide +kernel) rfl rfl dX1_note_37 ?_
  refine go_aload_n X dX1_note_40 0 rfl rfl ?_
  refine go_geti X (n := 3) (j := 3) (by omega) rfl rfl (fun _ h9 => List.mem_cons_of_mem _ (List.mem_append_right _ h9)) (by decide) (List.mem_cons_of_mem _ (List.mem_append_left _ (List.mem_of_getElem? (i := 1) rfl))) rfl dX1_note_41 ?_
  refine go_topi (v := nI (nr + 1)) (up2_self) ?_
  refine go_iconst X (v := 1) dX1_note_44 (by decide) ?_
  refine go_isub X dX1_note_45 ?_
  refine go_topi (v := nI nr) (nI_pred nr) ?_
  exact go_ireturn X hr hlk dX1_note_46 (⟨rfl, rfl, rfl⟩)

theorem hdX1_allAreSo : yX1_allAreSo.cls = RX1 ∧ yX1_allAreSo.cls ≠ "java/lang/invoke/MethodHandle" ∧ yX1_allAreSo.cls ≠ "java/lang/invoke/VarHandle" ∧ (parseMethodDescriptor yX1_allAreSo.desc).map (fun d => d.parameters.length) = some 1 := by decide +kernel
set_option maxHeartbeats 4000000 in
set_option maxRecDepth 100000 in
theorem kX1_allAreSo (l : Launch) (D : va_G) (cs : Nat → ClassId) (ad : Nat → Nat) (N kt : Nat) (hN : 58 ≤ N) (σ : vSg) (τ : vTa) (nr : Nat) (ra : Nat → Nat) (rd : Nat → Nat)   (hnr : σ 3 3 = nI nr) (hle : nr ≤ 8) (hR : ∀ r, r < nr → σ 10 r = nI (ra r) ∧ ra r < 4 ∧ σ 11 r = nI (rd r) ∧ rd r < 5) : CtI l yX1_allAreSo wsX1_allAreSo ({ frames := 3, cells := 0, slots := 0, locals := 67 }) D cs ad N (shP kt) [.ref (ad (3)), .ref (ad (2))] σ τ 0 0 (fun r9 σ9 τ9 => b2i (allX σ ra rd nr) = r9 ∧ σ = σ9 ∧ τ = τ9) := by
  refine ct_I (cc := cX1_allAreSo) (maxL := 3) (by decide) rfl (Nat.le_of_ble_eq_true rfl) rfl rfl ?_
  intro p e s m args below meth c A X hr hlk
  refine go_iconst X (v := 0) dX1_allAreSo_0 (by decide) ?_
  refine go_istore_n X (lv2 := [(2, .int 0), (0, .ref (ad (3))), (1, .ref (ad (2)))]) dX1_allAreSo_1 rfl (by decide) rfl ?_
  refine go_loop (ι := Nat) (fun i9 => (i9 ≤ nr) ∧ (allX σ ra rd i9)) (fun i9 => nr - i9) (fun i9 => σ) (fun i9 => τ) (fun i9 => [(2, .int (nI i9)), (0, .ref (ad (3))), (1, .ref (ad (2)))]) (fun i9 => []) 0 (by (try dsimp only); exact ⟨Nat.zero_le _, fun _ h => absurd h (Nat.not_lt_zero _)⟩) ?_
  intro i9 hi9 ih2
  obtain ⟨r, hv9⟩ : ∃ z, z = i9 := ⟨_, rfl⟩; subst hv9
  (try dsimp only at hi9); (try dsimp only at ih2); (try dsimp only)
  obtain ⟨hr0, hal⟩ := hi9
  refine go_iload_n X dX1_allAreSo_2 0 rfl rfl ?_
  refine go_aload_n X dX1_allAreSo_3 1 rfl rfl ?_
  refine go_geti X (n := 3) (j := 3) (by omega) rfl rfl (fun _ h9 => List.mem_cons_of_mem _ (List.mem_append_left _ (List.mem_append_right _ h9))) (by decide) (List.mem_cons_of_mem _ (List.mem_append_left _ (List.mem_append_left _ (List.mem_of_getElem? (i := 0) rfl)))) rfl dX1_allAreSo_4 ?_
  refine go_topi (v := nI nr) (hnr) ?_
  refine go_icmpn_ge X (tgt := 43) dX1_allAreSo_7 (by decide) (a := r) (b := nr) rfl rfl (by omega) (by omega) (fun c7 => ?_) (fun c7 => ?_)
  · skip
    refine go_iconst X (v := 1) dX1_allAreSo_43 (by decide) ?_
    exact go_zreturn X hr hlk dX1_allAreSo_44 (by first | exact Or.inl rfl | exact Or.inr rfl) (⟨b2i_t (by rw [show nr = r by omega]; exact hal), rfl, rfl⟩)
  · skip
    refine go_aload_n X dX1_allAreSo_10 2 rfl rfl ?_
    refine go_aload_n X dX1_allAreSo_11 1 rfl rfl ?_
    refine go_getr X (n := 3) (j := 0) (by omega) rfl rfl (fun _ h9 => List.mem_cons_of_mem _ (List.mem_append_left _ (List.mem_append_right _ h9))) (by decide) (List.mem_cons_of_mem _ (List.mem_append_left _ (List.mem_append_left _ (List.mem_of_getElem? (i := 1) rfl)))) rfl dX1_allAreSo_12 ?_
    refine go_iload_n X dX1_allAreSo_15 0 rfl rfl ?_
    refine go_iald X (n := 10) (k := r) (by omega) rfl rfl (by omega) (by omega) dX1_allAreSo_16 ?_
    obtain ⟨ha1, ha2, hd1, hd2⟩ := hR r (by omega)
    refine go_topi (v := nI (ra r)) ha1 ?_
    refine go_aload_n X dX1_allAreSo_17 1 rfl rfl ?_
    refine go_getr X (n := 3) (j := 1) (by omega) rfl rfl (fun _ h9 => List.mem_cons_of_mem _ (List.mem_append_left _ (List.mem_append_right _ h9))) (by decide) (List.mem_cons_of_mem _ (List.mem_append_left _ (List.mem_append_left _ (List.mem_of_getElem? (i := 2) rfl)))) rfl dX1_allAreSo_18 ?_
    refine go_iload_n X dX1_allAreSo_21 0 rfl rfl ?_
    refine go_iald X (n := 11) (k := r) (by omega) rfl rfl (by omega) (by omega) dX1_allAreSo_22 ?_
    refine go_topi (v := nI (rd r)) hd1 ?_
    refine go_callVI X (n := 2) (As := [.int (nI (ra r)), .int (nI (rd r))]) (rest := []) (kX2_wouldDo l D cs ad N kt (by omega) σ τ (ra r) (rd r) (σ 8 (ra r)) (rfl) (σ (20 + (rd r)) 0) (rfl) (σ (20 + (rd r)) 1) (rfl) (σ (20 + (rd r)) 2) (rfl) (by omega) (by omega)) gX1_allAreSo_X2_wouldDo rfl hdX2_wouldDo ⟨rfl, rfl, by decide, by decide, by decide, by decide⟩ (by omega) rfl rfl rfl rfl (Nat.le_of_ble_eq_true rfl) dX1_allAreSo_23 (fun r9 σ9 τ9 h9 => ?_)
    obtain ⟨rfl, rfl, rfl⟩ := h9
    refine go_aload_n X dX1_allAreSo_26 1 rfl rfl ?_
    refine go_getr X (n := 3) (j := 2) (by omega) rfl rfl (fun _ h9 => List.mem_cons_of_mem _ (List.mem_append_left _ (List.mem_append_right _ h9))) (by decide) (List.mem_cons_of_mem _ (List.mem_append_left _ (List.mem_append_left _ (List.mem_of_getElem? (i := 3) rfl)))) rfl dX1_allAreSo_27 ?_
    refine go_iload_n X dX1_allAreSo_30 0 rfl rfl ?_
    refine go_zald X (n := 34) (k := r) (by omega) rfl rfl (by omega) (by omega) dX1_allAreSo_31 ?_
    refine go_icmp_eq X (tgt := 37) dX1_allAreSo_32 (by decide) (fun c32 => ?_) (fun c32 => ?_)
    · skip
      refine go_iinc X (v := nI (r + 1)) (lv2 := [(2, .int (nI (r + 1))), (0, .ref (ad (3))), (1, .ref (ad (2)))]) dX1_allAreSo_37 (k := 0) rfl (nI_add r 1) (by decide) rfl ?_
      refine go_goto X (tgt := 2) dX1_allAreSo_40 (by decide) ?_
      exact ih2 (r + 1) (by (try dsimp only); exact ⟨by omega, fun q hq => by rcases Nat.lt_succ_iff_lt_or_eq.mp hq with h | h; exact hal q h; rw [h]; exact c32⟩) (by (try dsimp only); omega)
    · skip
      refine go_iconst X (v := 0) dX1_allAreSo_35 (by decide) ?_
      exact go_zreturn X hr hlk dX1_allAreSo_36 (by first | exact Or.inl rfl | exact Or.inr rfl) (⟨b2i_f (fun q => c32 (q r (by omega))), rfl, rfl⟩)

theorem hdX1_fitting : yX1_fitting.cls = RX1 ∧ yX1_fitting.cls ≠ "java/lang/invoke/MethodHandle" ∧ yX1_fitting.cls ≠ "java/lang/invoke/VarHandle" ∧ (parseMethodDescriptor yX1_fitting.desc).map (fun d => d.parameters.length) = some 4 := by decide +kernel
set_option maxHeartbeats 4000000 in
set_option maxRecDepth 100000 in
theorem kX1_fitting (l : Launch) (D : va_G) (cs : Nat → ClassId) (ad : Nat → Nat) (N kt : Nat) (hN : 58 ≤ N) (σ : vSg) (τ : vTa) (rc : Nat) (ix : Nat) (bd : Nat) (len : Nat) (g : Nat → Nat) (nr : Nat) (ra : Nat → Nat) (rd : Nat → Nat)   (hrs : shP kt rc = .inr (0, len, g)) (hix : ix < len) (hlen : len < 2 ^ 31) (hrc : rc = 8 ∨ (20 ≤ rc ∧ rc < 25)) (hbd : bd ≤ 10) (hnr : σ 3 3 = nI nr) (hle : nr ≤ 8) (hR : ∀ r, r < nr → σ 10 r = nI (ra r) ∧ ra r < 4 ∧ σ 11 r = nI (rd r) ∧ rd r < 5) : CtI l yX1_fitting wsX1_fitting ({ frames := 4, cells := 0, slots := 0, locals := 89 }) D cs ad N (shP kt) [.ref (ad (3)), .ref (ad (2)), .ref (ad (rc)), .int (nI ix), .int (nI bd)] σ τ 0 0 (fun r9 σ9 τ9 => setS (fun z9 => allX (up2 σ rc ix (nI z9)) ra rd nr) bd = r9 ∧ σ = σ9 ∧ τ = τ9) := by
  refine ct_I (cc := cX1_fitting) (maxL := 8) (by decide) rfl (Nat.le_of_ble_eq_true rfl) rfl rfl ?_
  intro p e s m args below meth c A X hr hlk
  refine go_aload_n X dX1_fitting_0 2 rfl rfl ?_
  refine go_iload_n X dX1_fitting_1 3 rfl rfl ?_
  refine go_iald X (n := rc) (k := ix) (by omega) hrs rfl (by omega) (by omega) dX1_fitting_2 ?_
  refine go_istore X (lv2 := [(5, .int (σ rc ix)), (0, .ref (ad (3))), (1, .ref (ad (2))), (2, .ref (ad (rc))), (3, .int (nI ix)), (4, .int (nI bd))]) dX1_fitting_3 (by decide) rfl ?_
  refine go_iconst X (v := 0) dX1_fitting_5 (by decide) ?_
  refine go_istore X (lv2 := [(6, .int 0), (5, .int (σ rc ix)), (0, .ref (ad (3))), (1, .ref (ad (2))), (2, .ref (ad (rc))), (3, .int (nI ix)), (4, .int (nI bd))]) dX1_fitting_6 (by decide) rfl ?_
  refine go_iconst X (v := 0) dX1_fitting_8 (by decide) ?_
  refine go_sg (σ2 := (up2 σ rc ix (σ rc ix))) up2_id.symm ?_
  refine go_istore X (lv2 := [(7, .int 0), (6, .int 0), (5, .int (σ rc ix)), (0, .ref (ad (3))), (1, .ref (ad (2))), (2, .ref (ad (rc))), (3, .int (nI ix)), (4, .int (nI bd))]) dX1_fitting_9 (by decide) rfl ?_
  refine go_loop (ι := Nat × Int32) (fun i9 => (i9.1 ≤ bd)) (fun i9 => bd - i9.1) (fun i9 => (up2 σ rc ix i9.2)) (fun i9 => τ) (fun i9 => [(7, .int (nI i9.1)), (6, .int (setS (fun z9 => allX (up2 σ rc ix (nI z9)) ra rd nr) i9.1)), (5, .int (σ rc ix)), (0, .ref (ad (3))), (1, .ref (ad (2))), (2, .ref (ad (rc))), (3, .int (nI ix)), (4, .int (nI bd))]) (fun i9 => []) (0, σ rc ix) (by (try dsimp only); exact (Nat.zero_le _)) ?_
  intro i9 hi9 ih11
  obtain ⟨v, x⟩ := i9
  (try dsimp only at hi9); (try dsimp only at ih11); (try dsimp only)
  have hv := hi9
  refine go_iload X dX1_fitting_11 0 rfl ?_
  refine go_iload X dX1_fitting_13 7 rfl ?_
  refine go_icmpn_ge X (tgt := 46) dX1_fitting_15 (by decide) (a := v) (b := bd) rfl rfl (by omega) (by omega) (fun c15 => ?_) (fun c15 => ?_)
  · skip
    refine go_aload_n X dX1_fitting_46 5 rfl rfl ?_
    refine go_iload_n X dX1_fitting_47 6 rfl rfl ?_
    refine go_iload X dX1_fitting_48 2 rfl ?_
    refine go_iast X (n := rc) (k := ix) (by omega) hrs rfl (by omega) (by omega) dX1_fitting_50 ?_
    refine go_sg (σ2 := σ) (by rw [up2_up2]; exact up2_id) ?_
    refine go_iload X dX1_fitting_51 1 rfl ?_
    exact go_ireturn X hr hlk dX1_fitting_53 (⟨by rw [show v = bd by omega], rfl, rfl⟩)
  · skip
    refine go_aload_n X dX1_fitting_18 5 rfl rfl ?_
    refine go_iload_n X dX1_fitting_19 6 rfl rfl ?_
    refine go_iload X dX1_fitting_20 0 rfl ?_
    refine go_iast X (n := rc) (k := ix) (by omega) hrs rfl (by omega) (by omega) dX1_fitting_22 ?_
    refine go_sg (σ2 := (up2 σ rc ix (nI v))) up2_up2 ?_
    refine go_aload_n X dX1_fitting_23 3 rfl rfl ?_
    refine go_aload_n X dX1_fitting_24 4 rfl rfl ?_
    refine go_callVI X (n := 3) (As := [.ref (ad (2))]) (rest := []) (kX1_allAreSo l D cs ad N kt (by omega) (up2 σ rc ix (nI v)) τ nr ra rd ((up2_ne (by omega)).trans hnr) (by omega) (fun r h => by rw [up2_ne (by omega), up2_ne (by omega)]; exact hR r h)) gX1_fitting_X1_allAreSo rfl hdX1_allAreSo ⟨rfl, rfl, by decide, by decide, by decide, by decide⟩ (by omega) rfl rfl rfl rfl (Nat.le_of_ble_eq_true rfl) dX1_fitting_25 (fun r9 σ9 τ9 h9 => ?_)
    obtain ⟨rfl, rfl, rfl⟩ := h9
    refine go_ifb_eq X (tgt := 40) dX1_fitting_28 (by decide) (fun c28 => ?_) (fun c28 => ?_)
    · skip
      refine go_lv (lv2 := [(7, .int (nI v)), (6, .int (setS (fun z9 => allX (up2 σ rc ix (nI z9)) ra rd nr) (v + 1))), (5, .int (σ rc ix)), (0, .ref (ad (3))), (1, .ref (ad (2))), (2, .ref (ad (rc))), (3, .int (nI ix)), (4, .int (nI bd))]) (by rw [setS_f (P := fun z9 => allX (up2 σ rc ix (nI z9)) ra rd nr) (n := v) c28]) ?_
      refine go_iinc X (v := nI (v + 1)) (lv2 := [(7, .int (nI (v + 1))), (6, .int (setS (fun z9 => allX (up2 σ rc ix (nI z9)) ra rd nr) (v + 1))), (5, .int (σ rc ix)), (0, .ref (ad (3))), (1, .ref (ad (2))), (2, .ref (ad (rc))), (3, .int (nI ix)), (4, .int (nI bd))]) dX1_fitting_40 (k := 0) rfl (nI_add v 1) (by decide) rfl ?_
      refine go_goto X (tgt := 11) dX1_fitting_43 (by decide) ?_
      exact ih11 (v + 1, nI v) (by (try dsimp only); exact (by omega)) (by (try dsimp only); omega)
    · skip
      refine go_iload X dX1_fitting_31 1 rfl ?_
      refine go_iconst X (v := 1) dX1_fitting_33 (by decide) ?_
      refine go_iload X dX1_fitting_34 0 rfl ?_
      refine go_ishl X dX1_fitting_36 ?_
      refine go_ior X dX1_fitting_37 ?_
      refine go_istore X (lv2 := [(6, .int ((setS (fun z9 => allX (up2 σ rc ix (nI z9)) ra rd nr) v) ||| (1 <<< ((nI v) &&& 31)))), (7, .int (nI v)), (5, .int (σ rc ix)), (0, .ref (ad (3))), (1, .ref (ad (2))), (2, .ref (ad (rc))), (3, .int (nI ix)), (4, .int (nI bd))]) dX1_fitting_38 (by decide) rfl ?_
      refine go_lv (lv2 := [(6, .int (setS (fun z9 => allX (up2 σ rc ix (nI z9)) ra rd nr) (v + 1))), (7, .int (nI v)), (5, .int (σ rc ix)), (0, .ref (ad (3))), (1, .ref (ad (2))), (2, .ref (ad (rc))), (3, .int (nI ix)), (4, .int (nI bd))]) (by rw [setS_t (P := fun z9 => allX (up2 σ rc ix (nI z9)) ra rd nr) (n := v) c28]) ?_
      refine go_iinc X (v := nI (v + 1)) (lv2 := [(7, .int (nI (v + 1))), (6, .int (setS (fun z9 => allX (up2 σ rc ix (nI z9)) ra rd nr) (v + 1))), (5, .int (σ rc ix)), (0, .ref (ad (3))), (1, .ref (ad (2))), (2, .ref (ad (rc))), (3, .int (nI ix)), (4, .int (nI bd))]) dX1_fitting_40 (k := 1) rfl (nI_add v 1) (by decide) rfl ?_
      refine go_goto X (tgt := 11) dX1_fitting_43 (by decide) ?_
      exact ih11 (v + 1, nI v) (by (try dsimp only); exact (by omega)) (by (try dsimp only); omega)

