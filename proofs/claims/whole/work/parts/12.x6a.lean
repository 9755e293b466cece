theorem hdX3_spans : yX3_spans.cls = RX3 ∧ yX3_spans.cls ≠ "java/lang/invoke/MethodHandle" ∧ yX3_spans.cls ≠ "java/lang/invoke/VarHandle" ∧ (parseMethodDescriptor yX3_spans.desc).map (fun d => d.parameters.length) = some 2 := by decide +kernel
set_option maxHeartbeats 4000000 in
set_option maxRecDepth 100000 in
theorem kX3_spans (l : Launch) (D : va_G) (cs : Nat → ClassId) (ad : Nat → Nat) (N kt : Nat) (hN : 58 ≤ N) (σ : vSg) (τ : vTa) (k : Nat) (i : Int32) (n : Int32) (len : Int32) (h_len : σ (12 + k) 3 = len)  (hk : k < 4) : CtI l yX3_spans wsX3_spans ({ frames := 0, cells := 0, slots := 0, locals := 0 }) D cs ad N (shP kt) [.ref (ad (12 + k)), .int i, .int n] σ τ 0 0 (fun r9 σ9 τ9 => b2i (spanS len i n) = r9 ∧ σ = σ9 ∧ τ = τ9) := by
  refine ct_I (cc := cX3_spans) (maxL := 3) (by decide) rfl (Nat.le_of_ble_eq_true rfl) rfl rfl ?_
  intro p e s m args below meth c A X hr hlk
  refine go_iload_n X dX3_spans_0 1 rfl rfl ?_
  refine go_if_lt X (tgt := 30) dX3_spans_1 (by decide) (fun c1 => ?_) (fun c1 => ?_)
  · skip
    refine go_iconst X (v := 0) dX3_spans_30 (by decide) ?_
    exact go_zreturn X hr hlk dX3_spans_31 (by first | exact Or.inl rfl | exact Or.inr rfl) (⟨b2i_f (fun q => absurd q.1 (Int32.not_le.mpr c1)), rfl, rfl⟩)
  · skip
    refine go_iload_n X dX3_spans_4 1 rfl rfl ?_
    refine go_aload_n X dX3_spans_5 0 rfl rfl ?_
    refine go_geti X (n := 12 + k) (j := 3) (by omega) (sh_row (by omega)) rfl (fun _ h9 => List.mem_cons_of_mem _ (List.mem_append_right _ h9)) (by decide) (List.mem_cons_of_mem _ (List.mem_append_left _ (List.mem_of_getElem? (i := 0) rfl))) rfl dX3_spans_6 ?_
    refine go_topi (v := len) (h_len) ?_
    refine go_icmp_gt X (tgt := 30) dX3_spans_9 (by decide) (fun c9 => ?_) (fun c9 => ?_)
    · skip
      refine go_iconst X (v := 0) dX3_spans_30 (by decide) ?_
      exact go_zreturn X hr hlk dX3_spans_31 (by first | exact Or.inl rfl | exact Or.inr rfl) (⟨b2i_f (fun q => absurd q.2.1 (Int32.not_le.mpr c9)), rfl, rfl⟩)
    · skip
      refine go_iload_n X dX3_spans_12 2 rfl rfl ?_
      refine go_if_lt X (tgt := 30) dX3_spans_13 (by decide) (fun c13 => ?_) (fun c13 => ?_)
      · skip
        refine go_iconst X (v := 0) dX3_spans_30 (by decide) ?_
        exact go_zreturn X hr hlk dX3_spans_31 (by first | exact Or.inl rfl | exact Or.inr rfl) (⟨b2i_f (fun q => absurd q.2.2.1 (Int32.not_le.mpr c13)), rfl, rfl⟩)
      · skip
        refine go_iload_n X dX3_spans_16 2 rfl rfl ?_
        refine go_aload_n X dX3_spans_17 0 rfl rfl ?_
        refine go_geti X (n := 12 + k) (j := 3) (by omega) (sh_row (by omega)) rfl (fun _ h9 => List.mem_cons_of_mem _ (List.mem_append_right _ h9)) (by decide) (List.mem_cons_of_mem _ (List.mem_append_left _ (List.mem_of_getElem? (i := 0) rfl))) rfl dX3_spans_18 ?_
        refine go_topi (v := len) (h_len) ?_
        refine go_iload_n X dX3_spans_21 1 rfl rfl ?_
        refine go_isub X dX3_spans_22 ?_
        refine go_icmp_gt X (tgt := 30) dX3_spans_23 (by decide) (fun c23 => ?_) (fun c23 => ?_)
        · skip
          refine go_iconst X (v := 0) dX3_spans_30 (by decide) ?_
          exact go_zreturn X hr hlk dX3_spans_31 (by first | exact Or.inl rfl | exact Or.inr rfl) (⟨b2i_f (fun q => absurd q.2.2.2 (Int32.not_le.mpr c23)), rfl, rfl⟩)
        · skip
          refine go_iconst X (v := 1) dX3_spans_26 (by decide) ?_
          refine go_goto X (tgt := 31) dX3_spans_27 (by decide) ?_
          exact go_zreturn X hr hlk dX3_spans_31 (by first | exact Or.inl rfl | exact Or.inr rfl) (⟨b2i_t ⟨Int32.not_lt.mp c1, Int32.not_lt.mp c9, Int32.not_lt.mp c13, Int32.not_lt.mp c23⟩, rfl, rfl⟩)

theorem hdX3_cut : yX3_cut.cls = RX3 ∧ yX3_cut.cls ≠ "java/lang/invoke/MethodHandle" ∧ yX3_cut.cls ≠ "java/lang/invoke/VarHandle" ∧ (parseMethodDescriptor yX3_cut.desc).map (fun d => d.parameters.length) = some 1 := by decide +kernel
set_option maxHeartbeats 4000000 in
set_option maxRecDepth 100000 in
theorem kX3_cut (l : Launch) (D : va_G) (cs : Nat → ClassId) (ad : Nat → Nat) (N kt : Nat) (hN : 58 ≤ N) (σ : vSg) (τ : vTa) (k : Nat) (v : Int32) (lane : Int32) (h_lane : σ (12 + k) 2 = lane)  (hk : k < 4) : CtI l yX3_cut wsX3_cut ({ frames := 0, cells := 0, slots := 0, locals := 0 }) D cs ad N (shP kt) [.ref (ad (12 + k)), .int v] σ τ 0 0 (fun r9 σ9 τ9 => cutS lane v = r9 ∧ σ = σ9 ∧ τ = τ9) := by
  refine ct_I (cc := cX3_cut) (maxL := 2) (by decide) rfl (Nat.le_of_ble_eq_true rfl) rfl rfl ?_
  intro p e s m args below meth c A X hr hlk
  refine go_aload_n X dX3_cut_0 0 rfl rfl ?_
  refine go_geti X (n := 12 + k) (j := 2) (by omega) (sh_row (by omega)) rfl (fun _ h9 => List.mem_cons_of_mem _ (List.mem_append_right _ h9)) (by decide) (List.mem_cons_of_mem _ (List.mem_append_left _ (List.mem_of_getElem? (i := 0) rfl))) rfl dX3_cut_1 ?_
  refine go_topi (v := lane) (h_lane) ?_
  rcases Classical.em (lane = 0) with e4_0 | n4_0
  · skip
    refine go_lookup X (tgt := 32) (off := 28) dX3_cut_4 (by decide) (by rw [e4_0]; decide) (by decide) ?_
    refine go_iload_n X dX3_cut_32 1 rfl rfl ?_
    refine go_i2b X dX3_cut_33 rfl ?_
    exact go_ireturn X hr hlk dX3_cut_34 (⟨by rw [e4_0]; rfl, rfl, rfl⟩)
  · skip
    rcases Classical.em (lane = 1) with e4_1 | n4_1
    · skip
      refine go_lookup X (tgt := 35) (off := 31) dX3_cut_4 (by decide) (by rw [e4_1]; decide) (by decide) ?_
      refine go_iload_n X dX3_cut_35 1 rfl rfl ?_
      refine go_i2s X dX3_cut_36 rfl ?_
      exact go_ireturn X hr hlk dX3_cut_37 (⟨by rw [e4_1]; rfl, rfl, rfl⟩)
    · skip
      refine go_lookup X (tgt := 38) (off := 34) dX3_cut_4 (by decide) ((lv_osw n4_0 (by decide)).trans ((lv_osw n4_1 (by decide)).trans (rfl))) (by decide) ?_
      refine go_iload_n X dX3_cut_38 1 rfl rfl ?_
      exact go_ireturn X hr hlk dX3_cut_39 (⟨by unfold cutS; rw [if_neg n4_0, if_neg n4_1], rfl, rfl⟩)

def zeroR (σ : vSg) (n c : Nat) : vSg := fun a b => if a = n ∧ b < c then 0 else σ a b
theorem zeroR_0 {σ : vSg} {n : Nat} : zeroR σ n 0 = σ := by funext a b; simp [zeroR]
theorem zeroR_1 {σ : vSg} {n c : Nat} : up2 (zeroR σ n c) n c 0 = zeroR σ n (c + 1) := by
  funext a b
  simp only [up2, zeroR]
  by_cases ha : a = n
  · by_cases hb : b = c
    · subst hb; simp [ha]
    · by_cases hl : b < c
      · simp [ha, hb, hl, Nat.lt_succ_of_lt hl]
      · simp [ha, hb, hl, show ¬ b < c + 1 by omega]
  · simp [ha]
theorem hdX3_renew : yX3_renew.cls = RX3 ∧ yX3_renew.cls ≠ "java/lang/invoke/MethodHandle" ∧ yX3_renew.cls ≠ "java/lang/invoke/VarHandle" ∧ (parseMethodDescriptor yX3_renew.desc).map (fun d => d.parameters.length) = some 2 := by decide +kernel
set_option maxHeartbeats 4000000 in
set_option maxRecDepth 100000 in
theorem kX3_renew (l : Launch) (D : va_G) (cs : Nat → ClassId) (ad : Nat → Nat) (N kt : Nat) (hN : 58 ≤ N) (σ : vSg) (τ : vTa) (k : Nat) (ln : Int32) (n : Int32)   (hk : k < 4) : CtV l yX3_renew wsX3_renew ({ frames := 0, cells := 0, slots := 0, locals := 0 }) D cs ad N (shP kt) [.ref (ad (12 + k)), .int ln, .int n] σ τ 0 0 (fun σ9 τ9 => zeroR (up2 (up2 (up2 σ (12 + k) 1 1) (12 + k) 2 ln) (12 + k) 3 n) (16 + k) 60 = σ9 ∧ τ = τ9) := by
  refine ct_V (cc := cX3_renew) (maxL := 4) (by decide) rfl (Nat.le_of_ble_eq_true rfl) rfl rfl ?_
  intro p e s m args below meth c A X hr hlk
  refine go_aload_n X dX3_renew_0 0 rfl rfl ?_
  refine go_iconst X (v := 1) dX3_renew_1 (by decide) ?_
  refine go_puti X (n := 12 + k) (j := 1) (ty := .boolean) (by omega) (sh_row (by omega)) rfl (fun _ h9 => List.mem_cons_of_mem _ (List.mem_append_right _ h9)) (by decide) (List.mem_cons_of_mem _ (List.mem_append_left _ (List.mem_of_getElem? (i := 0) rfl))) rfl tyX3 tyX3_ok nmX3 rfl (by decide +kernel) rfl rfl dX3_renew_2 ?_
  refine go_aload_n X dX3_renew_5 0 rfl rfl ?_
  refine go_iload_n X dX3_renew_6 1 rfl rfl ?_
  refine go_puti X (n := 12 + k) (j := 2) (ty := .int) (by omega) (sh_row (by omega)) rfl (fun _ h9 => List.mem_cons_of_mem _ (List.mem_append_right _ h9)) (by decide) (List.mem_cons_of_mem _ (List.mem_append_left _ (List.mem_of_getElem? (i := 1) rfl))) rfl tyX3 tyX3_ok nmX3 rfl (by decide +kernel) rfl rfl dX3_renew_7 ?_
  refine go_aload_n X dX3_renew_10 0 rfl rfl ?_
  refine go_iload_n X dX3_renew_11 2 rfl rfl ?_
  refine go_puti X (n := 12 + k) (j := 3) (ty := .int) (by omega) (sh_row (by omega)) rfl (fun _ h9 => List.mem_cons_of_mem _ (List.mem_append_right _ h9)) (by decide) (List.mem_cons_of_mem _ (List.mem_append_left _ (List.mem_of_getElem? (i := 2) rfl))) rfl tyX3 tyX3_ok nmX3 rfl (by decide +kernel) rfl rfl dX3_renew_12 ?_
  refine go_sg (σ2 := (zeroR (up2 (up2 (up2 σ (12 + k) 1 1) (12 + k) 2 ln) (12 + k) 3 n) (16 + k) 0)) zeroR_0.symm ?_
  refine go_iconst X (v := 0) dX3_renew_15 (by decide) ?_
  refine go_istore_n X (lv2 := [(3, .int 0), (0, .ref (ad (12 + k))), (1, .int ln), (2, .int n)]) dX3_renew_16 rfl (by decide) rfl ?_
  refine go_loop (ι := Nat) (fun i9 => (i9 ≤ 60)) (fun i9 => 60 - i9) (fun i9 => (zeroR (up2 (up2 (up2 σ (12 + k) 1 1) (12 + k) 2 ln) (12 + k) 3 n) (16 + k) i9)) (fun i9 => τ) (fun i9 => [(3, .int (nI i9)), (0, .ref (ad (12 + k))), (1, .int ln), (2, .int n)]) (fun i9 => []) 0 (by (try dsimp only); exact (Nat.zero_le _)) ?_
  intro i9 hi9 ih17
  obtain ⟨c9, hv9⟩ : ∃ z, z = i9 := ⟨_, rfl⟩; subst hv9
  (try dsimp only at hi9); (try dsimp only at ih17); (try dsimp only)
  have hc9 := hi9
  refine go_iload_n X dX3_renew_17 0 rfl rfl ?_
  refine go_bipush X (v := 60) dX3_renew_18 (by decide) ?_
  refine go_icmpn_ge X (tgt := 36) dX3_renew_20 (by decide) (a := c9) (b := 60) rfl rfl (by omega) (by omega) (fun c20 => ?_) (fun c20 => ?_)
  · skip
    exact go_return X hr hlk dX3_renew_36 (⟨by rw [show c9 = 60 by omega], rfl⟩)
  · skip
    refine go_aload_n X dX3_renew_23 1 rfl rfl ?_
    refine go_getr X (n := 12 + k) (j := 0) (by omega) (sh_row (by omega)) rfl (fun _ h9 => List.mem_cons_of_mem _ (List.mem_append_right _ h9)) (by decide) (List.mem_cons_of_mem _ (List.mem_append_left _ (List.mem_of_getElem? (i := 3) rfl))) rfl dX3_renew_24 ?_
    refine go_iload_n X dX3_renew_27 0 rfl rfl ?_
    refine go_iconst X (v := 0) dX3_renew_28 (by decide) ?_
    refine go_iast X (n := 16 + k) (k := c9) (by omega) (sh_cells (by omega)) rfl (by omega) (by omega) dX3_renew_29 ?_
    refine go_sg (σ2 := (zeroR (up2 (up2 (up2 σ (12 + k) 1 1) (12 + k) 2 ln) (12 + k) 3 n) (16 + k) (c9 + 1))) zeroR_1 ?_
    refine go_iinc X (v := nI (c9 + 1)) (lv2 := [(3, .int (nI (c9 + 1))), (0, .ref (ad (12 + k))), (1, .int ln), (2, .int n)]) dX3_renew_30 (k := 0) rfl (nI_add c9 1) (by decide) rfl ?_
    refine go_goto X (tgt := 17) dX3_renew_33 (by decide) ?_
    exact ih17 (c9 + 1) (by (try dsimp only); exact (by omega)) (by (try dsimp only); omega)

theorem hdX6_faultAs : yX6_faultAs.cls ≠ "java/lang/invoke/MethodHandle" ∧ yX6_faultAs.cls ≠ "java/lang/invoke/VarHandle" ∧ (parseMethodDescriptor yX6_faultAs.desc).map (fun d => d.parameters.length) = some 2 := by decide +kernel
set_option maxHeartbeats 4000000 in
set_option maxRecDepth 100000 in
theorem kX6_faultAs (l : Launch) (D : va_G) (cs : Nat → ClassId) (ad : Nat → Nat) (N kt : Nat) (hN : 58 ≤ N) (σ : vSg) (τ : vTa) (k : Nat) (lane : Int32) (th : Int32) (h_th : σ (12 + k) 1 = th) (la : Int32) (h_la : σ (12 + k) 2 = la)  (hk : k < 4) : CtI l yX6_faultAs wsX6_faultAs ({ frames := 0, cells := 0, slots := 0, locals := 0 }) D cs ad N (shP kt) [.ref (ad (12 + k)), .int lane] σ τ 0 0 (fun r9 σ9 τ9 => fAsS th la lane = r9 ∧ σ = σ9 ∧ τ = τ9) := by
  refine ct_I (cc := cX6_faultAs) (maxL := 2) (by decide) rfl (Nat.le_of_ble_eq_true rfl) rfl rfl ?_
  intro p e s m args below meth c A X hr hlk
  refine go_aload_n X dX6_faultAs_0 0 rfl rfl ?_
  refine go_geti X (n := 12 + k) (j := 1) (by omega) (sh_row (by omega)) rfl (fun _ h9 => List.mem_cons_of_mem _ (List.mem_append_right _ h9)) (by decide) (List.mem_cons_of_mem _ (List.mem_append_left _ (List.mem_of_getElem? (i := 0) rfl))) rfl dX6_faultAs_1 ?_
  refine go_topi (v := th) (h_th) ?_
  refine go_if_ne X (tgt := 9) dX6_faultAs_4 (by decide) (fun c4 => ?_) (fun c4 => ?_)
  · skip
    refine go_aload_n X dX6_faultAs_9 0 rfl rfl ?_
    refine go_geti X (n := 12 + k) (j := 2) (by omega) (sh_row (by omega)) rfl (fun _ h9 => List.mem_cons_of_mem _ (List.mem_append_right _ h9)) (by decide) (List.mem_cons_of_mem _ (List.mem_append_left _ (List.mem_of_getElem? (i := 1) rfl))) rfl dX6_faultAs_10 ?_
    refine go_topi (v := la) (h_la) ?_
    refine go_iload_n X dX6_faultAs_13 1 rfl rfl ?_
    refine go_icmp_ne X (tgt := 21) dX6_faultAs_14 (by decide) (fun c14 => ?_) (fun c14 => ?_)
    · skip
      refine go_iconst X (v := 2) dX6_faultAs_21 (by decide) ?_
      exact go_ireturn X hr hlk dX6_faultAs_22 ((have hE : fAsS th la lane = 2 := (by unfold fAsS; (try dsimp only); exact (cif_f c4).trans ((cif_f c14).trans (rfl))); ⟨hE, rfl, rfl⟩))
    · skip
      refine go_iconst X (v := 0) dX6_faultAs_17 (by decide) ?_
      refine go_goto X (tgt := 22) dX6_faultAs_18 (by decide) ?_
      exact go_ireturn X hr hlk dX6_faultAs_22 ((have hE : fAsS th la lane = 0 := (by unfold fAsS; (try dsimp only); exact (cif_f c4).trans ((cif_t c14).trans (rfl))); ⟨hE, rfl, rfl⟩))
  · skip
    refine go_iconst X (v := 1) dX6_faultAs_7 (by decide) ?_
    exact go_ireturn X hr hlk dX6_faultAs_8 ((have hE : fAsS th la lane = 1 := (by unfold fAsS; (try dsimp only); exact (cif_t c4).trans (rfl)); ⟨hE, rfl, rfl⟩))

theorem hdX6_ofDeed : yX6_ofDeed.cls = RX6 ∧ yX6_ofDeed.cls ≠ "java/lang/invoke/MethodHandle" ∧ yX6_ofDeed.cls ≠ "java/lang/invoke/VarHandle" ∧ (parseMethodDescriptor yX6_ofDeed.desc).map (fun d => d.parameters.length) = some 2 := by decide +kernel
set_option maxHeartbeats 4000000 in
set_option maxRecDepth 100000 in
theorem kX6_ofDeed (l : Launch) (D : va_G) (cs : Nat → ClassId) (ad : Nat → Nat) (N kt : Nat) (hN : 58 ≤ N) (σ : vSg) (τ : vTa) (d : Int32) (what : Int32) (nd : Nat) (ns : Nat) (nr : Nat)   (hI : IX σ nd ns nr) : CtI l yX6_ofDeed wsX6_ofDeed ({ frames := 2, cells := 0, slots := 0, locals := 42 }) D cs ad N (shP kt) [.ref (ad (0)), .int d, .int what] σ τ 0 0 (fun r9 σ9 τ9 => ofDeedS (nI nd) (fun z9 y9 => σ (20 + z9) y9) d what = r9 ∧ σ = σ9 ∧ τ = τ9) := by
  refine ct_I (cc := cX6_ofDeed) (maxL := 3) (by decide) rfl (Nat.le_of_ble_eq_true rfl) rfl rfl ?_
  intro p e s m args below meth c A X hr hlk
  obtain ⟨⟨hnd, hnd5⟩, ⟨hns, hns4⟩, hdd, hkp, ⟨hnr, hnr8⟩, hrd, hrw, hpos⟩ := id hI
  refine go_aload_n X dX6_ofDeed_0 0 rfl rfl ?_
  refine go_getr X (n := 0) (j := 1) (by omega) rfl rfl (fun _ h9 => List.mem_cons_of_mem _ (List.mem_append_left _ (List.mem_append_right _ h9))) (by decide) (List.mem_cons_of_mem _ (List.mem_append_left _ (List.mem_append_left _ (List.mem_of_getElem? (i := 0) rfl)))) rfl dX6_ofDeed_1 ?_
  refine go_iload_n X dX6_ofDeed_4 1 rfl rfl ?_
  refine go_callVI X (n := 2) (As := [.int d]) (rest := []) (kX2_hasDeed l D cs ad N kt (by omega) σ τ d (nI nd) (hnd)) gX6_ofDeed_X2_hasDeed rfl hdX2_hasDeed ⟨rfl, rfl, by decide, by decide, by decide, by decide⟩ (by omega) rfl rfl rfl rfl (Nat.le_of_ble_eq_true rfl) dX6_ofDeed_5 (fun r9 σ9 τ9 h9 => ?_)
  obtain ⟨rfl, rfl, rfl⟩ := h9
  refine go_ifb_ne X (tgt := 13) dX6_ofDeed_8 (by decide) (fun c8 => ?_) (fun c8 => ?_)
  · skip
    obtain ⟨i, hi, rfl⟩ := isB_nat c8 (by omega)
    refine go_iload_n X dX6_ofDeed_13 2 rfl rfl ?_
    refine go_iconst X (v := 3) dX6_ofDeed_14 (by decide) ?_
    refine go_callSI X (As := [.int what, .int 3]) (rest := []) (kX6_isBelow l D cs ad N kt (by omega) σ τ what 3) gX6_ofDeed_X6_isBelow rfl hdX6_isBelow ⟨rfl, rfl, by decide, by decide, by decide, by decide⟩ rfl rfl (Nat.le_of_ble_eq_true rfl) dX6_ofDeed_15 (fun r9 σ9 τ9 h9 => ?_)
    obtain ⟨rfl, rfl, rfl⟩ := h9
    refine go_ifb_ne X (tgt := 24) dX6_ofDeed_18 (by decide) (fun c18 => ?_) (fun c18 => ?_)
    · skip
      obtain ⟨j, hj, rfl⟩ := isB_nat (b := 3) c18 (by omega)
      refine go_aload_n X dX6_ofDeed_24 0 rfl rfl ?_
      refine go_getr X (n := 0) (j := 1) (by omega) rfl rfl (fun _ h9 => List.mem_cons_of_mem _ (List.mem_append_left _ (List.mem_append_right _ h9))) (by decide) (List.mem_cons_of_mem _ (List.mem_append_left _ (List.mem_append_left _ (List.mem_of_getElem? (i := 0) rfl)))) rfl dX6_ofDeed_25 ?_
      refine go_getr X (n := 2) (j := 0) (by omega) rfl rfl (fun _ h9 => List.mem_cons_of_mem _ (List.mem_append_right _ h9)) (by decide) (List.mem_cons_of_mem _ (List.mem_append_left _ (List.mem_append_left _ (List.mem_of_getElem? (i := 1) rfl)))) rfl dX6_ofDeed_28 ?_
      refine go_iload_n X dX6_ofDeed_31 1 rfl rfl ?_
      refine go_aald4 X (n := 7) (k := i) (by omega) rfl rfl (by omega) (by omega) dX6_ofDeed_32 ?_
      refine go_iload_n X dX6_ofDeed_33 2 rfl rfl ?_
      refine go_iald X (n := 20 + i) (k := j) (by omega) (sh_deed (by omega)) rfl (by omega) (by omega) dX6_ofDeed_34 ?_
      exact go_ireturn X hr hlk dX6_ofDeed_35 ((have hE : ofDeedS (nI nd) (fun z9 y9 => σ (20 + z9) y9) (nI i) (nI j) = σ (20 + i) j := (by unfold ofDeedS; (try dsimp only); (try rw [toN_nI (k := i) (by omega)]); (try rw [toN_nI (k := j) (by omega)]); exact (cif_t c8).trans ((cif_t c18).trans (rfl))); ⟨hE, rfl, rfl⟩))
    · skip
      refine go_bipush X (v := (-2)) dX6_ofDeed_21 (by decide) ?_
      exact go_ireturn X hr hlk dX6_ofDeed_23 ((have hE : ofDeedS (nI nd) (fun z9 y9 => σ (20 + z9) y9) (nI i) what = (-2) := (by unfold ofDeedS; (try dsimp only); (try rw [toN_nI (k := i) (by omega)]); exact (cif_t c8).trans ((cif_f c18).trans (rfl))); ⟨hE, rfl, rfl⟩))
  · skip
    refine go_iconst X (v := (-1)) dX6_ofDeed_11 (by decide) ?_
    exact go_ireturn X hr hlk dX6_ofDeed_12 ((have hE : ofDeedS (nI nd) (fun z9 y9 => σ (20 + z9) y9) d what = (-1) := (by unfold ofDeedS; (try dsimp only); exact (cif_f c8).trans (rfl)); ⟨hE, rfl, rfl⟩))

theorem hdX6_ofSubject : yX6_ofSubject.cls = RX6 ∧ yX6_ofSubject.cls ≠ "java/lang/invoke/MethodHandle" ∧ yX6_ofSubject.cls ≠ "java/lang/invoke/VarHandle" ∧ (parseMethodDescriptor yX6_ofSubject.desc).map (fun d => d.parameters.length) = some 2 := by decide +kernel
set_option maxHeartbeats 4000000 in
set_option maxRecDepth 100000 in
theorem kX6_ofSubject (l : Launch) (D : va_G) (cs : Nat → ClassId) (ad : Nat → Nat) (N kt : Nat) (hN : 58 ≤ N) (σ : vSg) (τ : vTa) (a : Int32) (what : Int32) (nd : Nat) (ns : Nat) (nr : Nat)   (hI : IX σ nd ns nr) : CtI l yX6_ofSubject wsX6_ofSubject ({ frames := 4, cells := 0, slots := 0, locals := 90 }) D cs ad N (shP kt) [.ref (ad (0)), .int a, .int what] σ τ 0 0 (fun r9 σ9 τ9 => ofSubjS (nI ns) (σ 8) (σ 9) (fun z9 => setS (doX σ z9) nd) a what = r9 ∧ σ = σ9 ∧ τ = τ9) := by
  refine ct_I (cc := cX6_ofSubject) (maxL := 3) (by decide) rfl (Nat.le_of_ble_eq_true rfl) rfl rfl ?_
  intro p e s m args below meth c A X hr hlk
  obtain ⟨⟨hnd, hnd5⟩, ⟨hns, hns4⟩, hdd, hkp, ⟨hnr, hnr8⟩, hrd, hrw, hpos⟩ := id hI
  refine go_aload_n X dX6_ofSubject_0 0 rfl rfl ?_
  refine go_getr X (n := 0) (j := 1) (by omega) rfl rfl (fun _ h9 => List.mem_cons_of_mem _ (List.mem_append_left _ (List.mem_append_right _ h9))) (by decide) (List.mem_cons_of_mem _ (List.mem_append_left _ (List.mem_append_left _ (List.mem_append_left _ (List.mem_of_getElem? (i := 0) rfl))))) rfl dX6_ofSubject_1 ?_
  refine go_iload_n X dX6_ofSubject_4 1 rfl rfl ?_
  refine go_callVI X (n := 2) (As := [.int a]) (rest := []) (kX2_hasSubject l D cs ad N kt (by omega) σ τ a (nI ns) (hns)) gX6_ofSubject_X2_hasSubject rfl hdX2_hasSubject ⟨rfl, rfl, by decide, by decide, by decide, by decide⟩ (by omega) rfl rfl rfl rfl (Nat.le_of_ble_eq_true rfl) dX6_ofSubject_5 (fun r9 σ9 τ9 h9 => ?_)
  obtain ⟨rfl, rfl, rfl⟩ := h9
  refine go_ifb_ne X (tgt := 13) dX6_ofSubject_8 (by decide) (fun c8 => ?_) (fun c8 => ?_)
  · skip
    obtain ⟨i, hi, rfl⟩ := isB_nat c8 (by omega)
    refine go_iload_n X dX6_ofSubject_13 2 rfl rfl ?_
    rcases Classical.em (what = 0) with e14_0 | n14_0
    · skip
      refine go_tableIn X (tgt := 40) (off := 26) dX6_ofSubject_14 (by rw [e14_0]; decide) (by rw [e14_0]; decide) (by rw [e14_0]; decide) (by decide) ?_
      refine go_aload_n X dX6_ofSubject_40 0 rfl rfl ?_
      refine go_getr X (n := 0) (j := 1) (by omega) rfl rfl (fun _ h9 => List.mem_cons_of_mem _ (List.mem_append_left _ (List.mem_append_right _ h9))) (by decide) (List.mem_cons_of_mem _ (List.mem_append_left _ (List.mem_append_left _ (List.mem_append_left _ (List.mem_of_getElem? (i := 0) rfl))))) rfl dX6_ofSubject_41 ?_
      refine go_getr X (n := 2) (j := 1) (by omega) rfl rfl (fun _ h9 => List.mem_cons_of_mem _ (List.mem_append_right _ h9)) (by decide) (List.mem_cons_of_mem _ (List.mem_append_left _ (List.mem_append_left _ (List.mem_append_left _ (List.mem_of_getElem? (i := 1) rfl))))) rfl dX6_ofSubject_44 ?_
      refine go_iload_n X dX6_ofSubject_47 1 rfl rfl ?_
      refine go_iald X (n := 8) (k := i) (by omega) rfl rfl (by omega) (by omega) dX6_ofSubject_48 ?_
      exact go_ireturn X hr hlk dX6_ofSubject_49 ((have hE : ofSubjS (nI ns) (σ 8) (σ 9) (fun z9 => setS (doX σ z9) nd) (nI i) what = σ 8 i := (by unfold ofSubjS; (try dsimp only); (try rw [toN_nI (k := i) (by omega)]); exact (cif_t c8).trans ((cif_t e14_0).trans (rfl))); ⟨hE, rfl, rfl⟩))
    · skip
      rcases Classical.em (what = 1) with e14_1 | n14_1
      · skip
        refine go_tableIn X (tgt := 50) (off := 36) dX6_ofSubject_14 (by rw [e14_1]; decide) (by rw [e14_1]; decide) (by rw [e14_1]; decide) (by decide) ?_
        refine go_aload_n X dX6_ofSubject_50 0 rfl rfl ?_
        refine go_getr X (n := 0) (j := 1) (by omega) rfl rfl (fun _ h9 => List.mem_cons_of_mem _ (List.mem_append_left _ (List.mem_append_right _ h9))) (by decide) (List.mem_cons_of_mem _ (List.mem_append_left _ (List.mem_append_left _ (List.mem_append_left _ (List.mem_of_getElem? (i := 0) rfl))))) rfl dX6_ofSubject_51 ?_
        refine go_getr X (n := 2) (j := 2) (by omega) rfl rfl (fun _ h9 => List.mem_cons_of_mem _ (List.mem_append_right _ h9)) (by decide) (List.mem_cons_of_mem _ (List.mem_append_left _ (List.mem_append_left _ (List.mem_append_left _ (List.mem_of_getElem? (i := 2) rfl))))) rfl dX6_ofSubject_54 ?_
        refine go_iload_n X dX6_ofSubject_57 1 rfl rfl ?_
        refine go_iald X (n := 9) (k := i) (by omega) rfl rfl (by omega) (by omega) dX6_ofSubject_58 ?_
        exact go_ireturn X hr hlk dX6_ofSubject_59 ((have hE : ofSubjS (nI ns) (σ 8) (σ 9) (fun z9 => setS (doX σ z9) nd) (nI i) what = σ 9 i := (by unfold ofSubjS; (try dsimp only); (try rw [toN_nI (k := i) (by omega)]); exact (cif_t c8).trans ((cif_f n14_0).trans ((cif_t e14_1).trans (rfl)))); ⟨hE, rfl, rfl⟩))
      · skip
        rcases Classical.em (what = 2) with e14_2 | n14_2
        · skip
          refine go_tableIn X (tgt := 60) (off := 46) dX6_ofSubject_14 (by rw [e14_2]; decide) (by rw [e14_2]; decide) (by rw [e14_2]; decide) (by decide) ?_
          refine go_aload_n X dX6_ofSubject_60 0 rfl rfl ?_
          refine go_getr X (n := 0) (j := 1) (by omega) rfl rfl (fun _ h9 => List.mem_cons_of_mem _ (List.mem_append_left _ (List.mem_append_right _ h9))) (by decide) (List.mem_cons_of_mem _ (List.mem_append_left _ (List.mem_append_left _ (List.mem_append_left _ (List.mem_of_getElem? (i := 0) rfl))))) rfl dX6_ofSubject_61 ?_
          refine go_iload_n X dX6_ofSubject_64 1 rfl rfl ?_
          refine go_callVI X (n := 2) (As := [.int (nI i)]) (rest := []) (kX2_doneBy l D cs ad N kt (by omega) σ τ i nd (by omega) (by omega) (by omega)) gX6_ofSubject_X2_doneBy rfl hdX2_doneBy ⟨rfl, rfl, by decide, by decide, by decide, by decide⟩ (by omega) rfl rfl rfl rfl (Nat.le_of_ble_eq_true rfl) dX6_ofSubject_65 (fun r9 σ9 τ9 h9 => ?_)
          obtain ⟨rfl, rfl, rfl⟩ := h9
          exact go_ireturn X hr hlk dX6_ofSubject_68 ((have hE : ofSubjS (nI ns) (σ 8) (σ 9) (fun z9 => setS (doX σ z9) nd) (nI i) what = setS (doX σ i) nd := (by unfold ofSubjS; (try dsimp only); (try rw [toN_nI (k := i) (by omega)]); exact (cif_t c8).trans ((cif_f n14_0).trans ((cif_f n14_1).trans ((cif_t e14_2).trans (rfl))))); ⟨hE, rfl, rfl⟩))
        · skip
          refine go_tableOut X (tgt := 69) dX6_ofSubject_14 (by have k0 := lv_neT (a := 0) n14_0 (by decide); have k1 := lv_neT (a := 1) n14_1 (by decide); have k2 := lv_neT (a := 2) n14_2 (by decide); omega) (by decide) ?_
          refine go_bipush X (v := (-2)) dX6_ofSubject_69 (by decide) ?_
          exact go_ireturn X hr hlk dX6_ofSubject_71 ((have hE : ofSubjS (nI ns) (σ 8) (σ 9) (fun z9 => setS (doX σ z9) nd) (nI i) what = (-2) := (by unfold ofSubjS; (try dsimp only); (try rw [toN_nI (k := i) (by omega)]); exact (cif_t c8).trans ((cif_f n14_0).trans ((cif_f n14_1).trans ((cif_f n14_2).trans (rfl))))); ⟨hE, rfl, rfl⟩))
  · skip
    refine go_iconst X (v := (-1)) dX6_ofSubject_11 (by decide) ?_
    exact go_ireturn X hr hlk dX6_ofSubject_12 ((have hE : ofSubjS (nI ns) (σ 8) (σ 9) (fun z9 => setS (doX σ z9) nd) a what = (-1) := (by unfold ofSubjS; (try dsimp only); exact (cif_f c8).trans (rfl)); ⟨hE, rfl, rfl⟩))

theorem hdX6_fear : yX6_fear.cls = RX6 ∧ yX6_fear.cls ≠ "java/lang/invoke/MethodHandle" ∧ yX6_fear.cls ≠ "java/lang/invoke/VarHandle" ∧ (parseMethodDescriptor yX6_fear.desc).map (fun d => d.parameters.length) = some 2 := by decide +kernel
set_option maxHeartbeats 4000000 in
set_option maxRecDepth 100000 in
theorem kX6_fear (l : Launch) (D : va_G) (cs : Nat → ClassId) (ad : Nat → Nat) (N kt : Nat) (hN : 58 ≤ N) (σ : vSg) (τ : vTa) (a : Int32) (d : Int32) (nd : Nat) (ns : Nat) (nr : Nat)   (hI : IX σ nd ns nr) : CtI l yX6_fear wsX6_fear ({ frames := 2, cells := 0, slots := 0, locals := 42 }) D cs ad N (shP kt) [.ref (ad (0)), .int a, .int d] σ τ 0 0 (fun r9 σ9 τ9 => fearOS (nI ns) (nI nd) (fun z9 y9 => fearS (σ 8 z9) (σ (20 + y9) 1) (σ (20 + y9) 2)) a d = r9 ∧ σ = σ9 ∧ τ = τ9) := by
  refine ct_I (cc := cX6_fear) (maxL := 3) (by decide) rfl (Nat.le_of_ble_eq_true rfl) rfl rfl ?_
  intro p e s m args below meth c A X hr hlk
  obtain ⟨⟨hnd, hnd5⟩, ⟨hns, hns4⟩, hdd, hkp, ⟨hnr, hnr8⟩, hrd, hrw, hpos⟩ := id hI
  refine go_aload_n X dX6_fear_0 0 rfl rfl ?_
  refine go_getr X (n := 0) (j := 1) (by omega) rfl rfl (fun _ h9 => List.mem_cons_of_mem _ (List.mem_append_left _ (List.mem_append_right _ h9))) (by decide) (List.mem_cons_of_mem _ (List.mem_append_left _ (List.mem_append_left _ (List.mem_of_getElem? (i := 0) rfl)))) rfl dX6_fear_1 ?_
  refine go_iload_n X dX6_fear_4 1 rfl rfl ?_
  refine go_callVI X (n := 2) (As := [.int a]) (rest := []) (kX2_hasSubject l D cs ad N kt (by omega) σ τ a (nI ns) (hns)) gX6_fear_X2_hasSubject rfl hdX2_hasSubject ⟨rfl, rfl, by decide, by decide, by decide, by decide⟩ (by omega) rfl rfl rfl rfl (Nat.le_of_ble_eq_true rfl) dX6_fear_5 (fun r9 σ9 τ9 h9 => ?_)
  obtain ⟨rfl, rfl, rfl⟩ := h9
  refine go_ifb_eq X (tgt := 22) dX6_fear_8 (by decide) (fun c8 => ?_) (fun c8 => ?_)
  · skip
    refine go_iconst X (v := (-1)) dX6_fear_22 (by decide) ?_
    exact go_ireturn X hr hlk dX6_fear_23 ((have hE : fearOS (nI ns) (nI nd) (fun z9 y9 => fearS (σ 8 z9) (σ (20 + y9) 1) (σ (20 + y9) 2)) a d = (-1) := (by unfold fearOS; (try dsimp only); exact (cif_f c8).trans (rfl)); ⟨hE, rfl, rfl⟩))
  · skip
    obtain ⟨i, hi, rfl⟩ := isB_nat c8 (by omega)
    refine go_aload_n X dX6_fear_11 0 rfl rfl ?_
    refine go_getr X (n := 0) (j := 1) (by omega) rfl rfl (fun _ h9 => List.mem_cons_of_mem _ (List.mem_append_left _ (List.mem_append_right _ h9))) (by decide) (List.mem_cons_of_mem _ (List.mem_append_left _ (List.mem_append_left _ (List.mem_of_getElem? (i := 0) rfl)))) rfl dX6_fear_12 ?_
    refine go_iload_n X dX6_fear_15 2 rfl rfl ?_
    refine go_callVI X (n := 2) (As := [.int d]) (rest := []) (kX2_hasDeed l D cs ad N kt (by omega) σ τ d (nI nd) (hnd)) gX6_fear_X2_hasDeed rfl hdX2_hasDeed ⟨rfl, rfl, by decide, by decide, by decide, by decide⟩ (by omega) rfl rfl rfl rfl (Nat.le_of_ble_eq_true rfl) dX6_fear_16 (fun r9 σ9 τ9 h9 => ?_)
    obtain ⟨rfl, rfl, rfl⟩ := h9
    refine go_ifb_ne X (tgt := 24) dX6_fear_19 (by decide) (fun c19 => ?_) (fun c19 => ?_)
    · skip
      obtain ⟨j, hj, rfl⟩ := isB_nat c19 (by omega)
      refine go_aload_n X dX6_fear_24 0 rfl rfl ?_
      refine go_getr X (n := 0) (j := 1) (by omega) rfl rfl (fun _ h9 => List.mem_cons_of_mem _ (List.mem_append_left _ (List.mem_append_right _ h9))) (by decide) (List.mem_cons_of_mem _ (List.mem_append_left _ (List.mem_append_left _ (List.mem_of_getElem? (i := 0) rfl)))) rfl dX6_fear_25 ?_
      refine go_iload_n X dX6_fear_28 1 rfl rfl ?_
      refine go_iload_n X dX6_fear_29 2 rfl rfl ?_
      refine go_callVI X (n := 2) (As := [.int (nI i), .int (nI j)]) (rest := []) (kX2_fearOf l D cs ad N kt (by omega) σ τ i j (σ 8 i) (rfl) (σ (20 + j) 1) (rfl) (σ (20 + j) 2) (rfl) (by omega) (by omega)) gX6_fear_X2_fearOf rfl hdX2_fearOf ⟨rfl, rfl, by decide, by decide, by decide, by decide⟩ (by omega) rfl rfl rfl rfl (Nat.le_of_ble_eq_true rfl) dX6_fear_30 (fun r9 σ9 τ9 h9 => ?_)
      obtain ⟨rfl, rfl, rfl⟩ := h9
      exact go_ireturn X hr hlk dX6_fear_33 ((have hE : fearOS (nI ns) (nI nd) (fun z9 y9 => fearS (σ 8 z9) (σ (20 + y9) 1) (σ (20 + y9) 2)) (nI i) (nI j) = fearS (σ 8 i) (σ (20 + j) 1) (σ (20 + j) 2) := (by unfold fearOS; (try dsimp only); (try rw [toN_nI (k := i) (by omega)]); (try rw [toN_nI (k := j) (by omega)]); exact (cif_t c8).trans ((cif_t c19).trans (rfl))); ⟨hE, rfl, rfl⟩))
    · skip
      refine go_iconst X (v := (-1)) dX6_fear_22 (by decide) ?_
      exact go_ireturn X hr hlk dX6_fear_23 ((have hE : fearOS (nI ns) (nI nd) (fun z9 y9 => fearS (σ 8 z9) (σ (20 + y9) 1) (σ (20 + y9) 2)) (nI i) d = (-1) := (by unfold fearOS; (try dsimp only); (try rw [toN_nI (k := i) (by omega)]); exact (cif_t c8).trans ((cif_f c19).trans (rfl))); ⟨hE, rfl, rfl⟩))

theorem hdX6_alter : yX6_alter.cls = RX6 ∧ yX6_alter.cls ≠ "java/lang/invoke/MethodHandle" ∧ yX6_alter.cls ≠ "java/lang/invoke/VarHandle" ∧ (parseMethodDescriptor yX6_alter.desc).map (fun d => d.parameters.length) = some 3 := by decide +kernel
set_option maxHeartbeats 4000000 in
set_option maxRecDepth 100000 in
theorem kX6_alter (l : Launch) (D : va_G) (cs : Nat → ClassId) (ad : Nat → Nat) (N kt : Nat) (hN : 58 ≤ N) (σ : vSg) (τ : vTa) (d : Int32) (what : Int32) (v : Int32) (nd : Nat) (ns : Nat) (nr : Nat)   (hI : IX σ nd ns nr) : CtI l yX6_alter wsX6_alter ({ frames := 2, cells := 0, slots := 0, locals := 42 }) D cs ad N (shP kt) [.ref (ad (0)), .int d, .int what, .int v] σ τ 0 0 (fun r9 σ9 τ9 => alterS (nI nd) (fun z9 y9 => σ (20 + z9) y9) d what v = r9 ∧ cif (isB d (nI nd) ∧ isB what 3 ∧ isB v 10) (up2 σ (20 + toN d) (toN what) v) σ = σ9 ∧ τ = τ9) := by
  refine ct_I (cc := cX6_alter) (maxL := 5) (by decide) rfl (Nat.le_of_ble_eq_true rfl) rfl rfl ?_
  intro p e s m args below meth c A X hr hlk
  obtain ⟨⟨hnd, hnd5⟩, ⟨hns, hns4⟩, hdd, hkp, ⟨hnr, hnr8⟩, hrd, hrw, hpos⟩ := id hI
  refine go_aload_n X dX6_alter_0 0 rfl rfl ?_
  refine go_getr X (n := 0) (j := 1) (by omega) rfl rfl (fun _ h9 => List.mem_cons_of_mem _ (List.mem_append_left _ (List.mem_append_right _ h9))) (by decide) (List.mem_cons_of_mem _ (List.mem_append_left _ (List.mem_append_left _ (List.mem_of_getElem? (i := 0) rfl)))) rfl dX6_alter_1 ?_
  refine go_iload_n X dX6_alter_4 1 rfl rfl ?_
  refine go_callVI X (n := 2) (As := [.int d]) (rest := []) (kX2_hasDeed l D cs ad N kt (by omega) σ τ d (nI nd) (hnd)) gX6_alter_X2_hasDeed rfl hdX2_hasDeed ⟨rfl, rfl, by decide, by decide, by decide, by decide⟩ (by omega) rfl rfl rfl rfl (Nat.le_of_ble_eq_true rfl) dX6_alter_5 (fun r9 σ9 τ9 h9 => ?_)
  obtain ⟨rfl, rfl, rfl⟩ := h9
  refine go_ifb_ne X (tgt := 13) dX6_alter_8 (by decide) (fun c8 => ?_) (fun c8 => ?_)
  · skip
    obtain ⟨i, hi, rfl⟩ := isB_nat c8 (by omega)
    refine go_iload_n X dX6_alter_13 2 rfl rfl ?_
    refine go_iconst X (v := 3) dX6_alter_14 (by decide) ?_
    refine go_callSI X (As := [.int what, .int 3]) (rest := []) (kX6_isBelow l D cs ad N kt (by omega) σ τ what 3) gX6_alter_X6_isBelow rfl hdX6_isBelow ⟨rfl, rfl, by decide, by decide, by decide, by decide⟩ rfl rfl (Nat.le_of_ble_eq_true rfl) dX6_alter_15 (fun r9 σ9 τ9 h9 => ?_)
    obtain ⟨rfl, rfl, rfl⟩ := h9
    refine go_ifb_eq X (tgt := 30) dX6_alter_18 (by decide) (fun c18 => ?_) (fun c18 => ?_)
    · skip
      refine go_bipush X (v := (-2)) dX6_alter_30 (by decide) ?_
      exact go_ireturn X hr hlk dX6_alter_32 ((have hE : alterS (nI nd) (fun z9 y9 => σ (20 + z9) y9) (nI i) what v = (-2) := (by unfold alterS; (try dsimp only); (try rw [toN_nI (k := i) (by omega)]); exact (cif_t c8).trans ((cif_f c18).trans (rfl))); ⟨hE, cif_f (fun q => c18 q.2.1), rfl⟩))
    · skip
      obtain ⟨j, hj, rfl⟩ := isB_nat (b := 3) c18 (by omega)
      refine go_iload_n X dX6_alter_21 3 rfl rfl ?_
      refine go_bipush X (v := 10) dX6_alter_22 (by decide) ?_
      refine go_callSI X (As := [.int v, .int 10]) (rest := []) (kX6_isBelow l D cs ad N kt (by omega) σ τ v 10) gX6_alter_X6_isBelow rfl hdX6_isBelow ⟨rfl, rfl, by decide, by decide, by decide, by decide⟩ rfl rfl (Nat.le_of_ble_eq_true rfl) dX6_alter_24 (fun r9 σ9 τ9 h9 => ?_)
      obtain ⟨rfl, rfl, rfl⟩ := h9
      refine go_ifb_ne X (tgt := 33) dX6_alter_27 (by decide) (fun c27 => ?_) (fun c27 => ?_)
      · skip
        refine go_aload_n X dX6_alter_33 0 rfl rfl ?_
        refine go_getr X (n := 0) (j := 1) (by omega) rfl rfl (fun _ h9 => List.mem_cons_of_mem _ (List.mem_append_left _ (List.mem_append_right _ h9))) (by decide) (List.mem_cons_of_mem _ (List.mem_append_left _ (List.mem_append_left _ (List.mem_of_getElem? (i := 0) rfl)))) rfl dX6_alter_34 ?_
        refine go_getr X (n := 2) (j := 0) (by omega) rfl rfl (fun _ h9 => List.mem_cons_of_mem _ (List.mem_append_right _ h9)) (by decide) (List.mem_cons_of_mem _ (List.mem_append_left _ (List.mem_append_left _ (List.mem_of_getElem? (i := 1) rfl)))) rfl dX6_alter_37 ?_
        refine go_iload_n X dX6_alter_40 1 rfl rfl ?_
        refine go_aald4 X (n := 7) (k := i) (by omega) rfl rfl (by omega) (by omega) dX6_alter_41 ?_
        refine go_iload_n X dX6_alter_42 2 rfl rfl ?_
        refine go_iald X (n := 20 + i) (k := j) (by omega) (sh_deed (by omega)) rfl (by omega) (by omega) dX6_alter_43 ?_
        refine go_istore X (lv2 := [(4, .int (σ (20 + i) j)), (0, .ref (ad (0))), (1, .int (nI i)), (2, .int (nI j)), (3, .int v)]) dX6_alter_44 (by decide) rfl ?_
        refine go_aload_n X dX6_alter_46 1 rfl rfl ?_
        refine go_getr X (n := 0) (j := 1) (by omega) rfl rfl (fun _ h9 => List.mem_cons_of_mem _ (List.mem_append_left _ (List.mem_append_right _ h9))) (by decide) (List.mem_cons_of_mem _ (List.mem_append_left _ (List.mem_append_left _ (List.mem_of_getElem? (i := 0) rfl)))) rfl dX6_alter_47 ?_
        refine go_getr X (n := 2) (j := 0) (by omega) rfl rfl (fun _ h9 => List.mem_cons_of_mem _ (List.mem_append_right _ h9)) (by decide) (List.mem_cons_of_mem _ (List.mem_append_left _ (List.mem_append_left _ (List.mem_of_getElem? (i := 1) rfl)))) rfl dX6_alter_50 ?_
        refine go_iload_n X dX6_alter_53 2 rfl rfl ?_
        refine go_aald4 X (n := 7) (k := i) (by omega) rfl rfl (by omega) (by omega) dX6_alter_54 ?_
        refine go_iload_n X dX6_alter_55 3 rfl rfl ?_
        refine go_iload_n X dX6_alter_56 4 rfl rfl ?_
        refine go_iast X (n := 20 + i) (k := j) (by omega) (sh_deed (by omega)) rfl (by omega) (by omega) dX6_alter_57 ?_
        refine go_iload X dX6_alter_58 0 rfl ?_
        exact go_ireturn X hr hlk dX6_alter_60 ((have hE : alterS (nI nd) (fun z9 y9 => σ (20 + z9) y9) (nI i) (nI j) v = σ (20 + i) j := (by unfold alterS; (try dsimp only); (try rw [toN_nI (k := i) (by omega)]); (try rw [toN_nI (k := j) (by omega)]); exact (cif_t c8).trans ((cif_t c18).trans ((cif_t c27).trans (rfl)))); ⟨hE, (cif_t ⟨c8, c18, c27⟩).trans (by rw [toN_nI (k := i) (by omega), toN_nI (k := j) (by omega)]), rfl⟩))
      · skip
        refine go_bipush X (v := (-2)) dX6_alter_30 (by decide) ?_
        exact go_ireturn X hr hlk dX6_alter_32 ((have hE : alterS (nI nd) (fun z9 y9 => σ (20 + z9) y9) (nI i) (nI j) v = (-2) := (by unfold alterS; (try dsimp only); (try rw [toN_nI (k := i) (by omega)]); (try rw [toN_nI (k := j) (by omega)]); exact (cif_t c8).trans ((cif_t c18).trans ((cif_f c27).trans (rfl)))); ⟨hE, cif_f (fun q => c27 q.2.2), rfl⟩))
  · skip
    refine go_iconst X (v := (-1)) dX6_alter_11 (by decide) ?_
    exact go_ireturn X hr hlk dX6_alter_12 ((have hE : alterS (nI nd) (fun z9 y9 => σ (20 + z9) y9) d what v = (-1) := (by unfold alterS; (try dsimp only); exact (cif_f c8).trans (rfl)); ⟨hE, cif_f (fun q => c8 q.1), rfl⟩))

theorem hdX6_grant : yX6_grant.cls = RX6 ∧ yX6_grant.cls ≠ "java/lang/invoke/MethodHandle" ∧ yX6_grant.cls ≠ "java/lang/invoke/VarHandle" ∧ (parseMethodDescriptor yX6_grant.desc).map (fun d => d.parameters.length) = some 2 := by decide +kernel
set_option maxHeartbeats 4000000 in
set_option maxRecDepth 100000 in
theorem kX6_grant (l : Launch) (D : va_G) (cs : Nat → ClassId) (ad : Nat → Nat) (N kt : Nat) (hN : 58 ≤ N) (σ : vSg) (τ : vTa) (a : Int32) (v : Int32) (nd : Nat) (ns : Nat) (nr : Nat)   (hI : IX σ nd ns nr) : CtI l yX6_grant wsX6_grant ({ frames := 2, cells := 0, slots := 0, locals := 42 }) D cs ad N (shP kt) [.ref (ad (0)), .int a, .int v] σ τ 0 0 (fun r9 σ9 τ9 => grantS (nI ns) (σ 9) a v = r9 ∧ cif (isB a (nI ns) ∧ isB v 4) (up2 σ 9 (toN a) v) σ = σ9 ∧ τ = τ9) := by
  refine ct_I (cc := cX6_grant) (maxL := 4) (by decide) rfl (Nat.le_of_ble_eq_true rfl) rfl rfl ?_
  intro p e s m args below meth c A X hr hlk
  obtain ⟨⟨hnd, hnd5⟩, ⟨hns, hns4⟩, hdd, hkp, ⟨hnr, hnr8⟩, hrd, hrw, hpos⟩ := id hI
  refine go_aload_n X dX6_grant_0 0 rfl rfl ?_
  refine go_getr X (n := 0) (j := 1) (by omega) rfl rfl (fun _ h9 => List.mem_cons_of_mem _ (List.mem_append_left _ (List.mem_append_right _ h9))) (by decide) (List.mem_cons_of_mem _ (List.mem_append_left _ (List.mem_append_left _ (List.mem_of_getElem? (i := 0) rfl)))) rfl dX6_grant_1 ?_
  refine go_iload_n X dX6_grant_4 1 rfl rfl ?_
  refine go_callVI X (n := 2) (As := [.int a]) (rest := []) (kX2_hasSubject l D cs ad N kt (by omega) σ τ a (nI ns) (hns)) gX6_grant_X2_hasSubject rfl hdX2_hasSubject ⟨rfl, rfl, by decide, by decide, by decide, by decide⟩ (by omega) rfl rfl rfl rfl (Nat.le_of_ble_eq_true rfl) dX6_grant_5 (fun r9 σ9 τ9 h9 => ?_)
  obtain ⟨rfl, rfl, rfl⟩ := h9
  refine go_ifb_ne X (tgt := 13) dX6_grant_8 (by decide) (fun c8 => ?_) (fun c8 => ?_)
  · skip
    obtain ⟨i, hi, rfl⟩ := isB_nat c8 (by omega)
    refine go_iload_n X dX6_grant_13 2 rfl rfl ?_
    refine go_iconst X (v := 4) dX6_grant_14 (by decide) ?_
    refine go_callSI X (As := [.int v, .int 4]) (rest := []) (kX6_isBelow l D cs ad N kt (by omega) σ τ v 4) gX6_grant_X6_isBelow rfl hdX6_isBelow ⟨rfl, rfl, by decide, by decide, by decide, by decide⟩ rfl rfl (Nat.le_of_ble_eq_true rfl) dX6_grant_15 (fun r9 σ9 τ9 h9 => ?_)
    obtain ⟨rfl, rfl, rfl⟩ := h9
    refine go_ifb_ne X (tgt := 24) dX6_grant_18 (by decide) (fun c18 => ?_) (fun c18 => ?_)
    · skip
      refine go_aload_n X dX6_grant_24 0 rfl rfl ?_
      refine go_getr X (n := 0) (j := 1) (by omega) rfl rfl (fun _ h9 => List.mem_cons_of_mem _ (List.mem_append_left _ (List.mem_append_right _ h9))) (by decide) (List.mem_cons_of_mem _ (List.mem_append_left _ (List.mem_append_left _ (List.mem_of_getElem? (i := 0) rfl)))) rfl dX6_grant_25 ?_
      refine go_getr X (n := 2) (j := 2) (by omega) rfl rfl (fun _ h9 => List.mem_cons_of_mem _ (List.mem_append_right _ h9)) (by decide) (List.mem_cons_of_mem _ (List.mem_append_left _ (List.mem_append_left _ (List.mem_of_getElem? (i := 1) rfl)))) rfl dX6_grant_28 ?_
      refine go_iload_n X dX6_grant_31 1 rfl rfl ?_
      refine go_iald X (n := 9) (k := i) (by omega) rfl rfl (by omega) (by omega) dX6_grant_32 ?_
      refine go_istore_n X (lv2 := [(3, .int (σ 9 i)), (0, .ref (ad (0))), (1, .int (nI i)), (2, .int v)]) dX6_grant_33 rfl (by decide) rfl ?_
      refine go_aload_n X dX6_grant_34 1 rfl rfl ?_
      refine go_getr X (n := 0) (j := 1) (by omega) rfl rfl (fun _ h9 => List.mem_cons_of_mem _ (List.mem_append_left _ (List.mem_append_right _ h9))) (by decide) (List.mem_cons_of_mem _ (List.mem_append_left _ (List.mem_append_left _ (List.mem_of_getElem? (i := 0) rfl)))) rfl dX6_grant_35 ?_
      refine go_getr X (n := 2) (j := 2) (by omega) rfl rfl (fun _ h9 => List.mem_cons_of_mem _ (List.mem_append_right _ h9)) (by decide) (List.mem_cons_of_mem _ (List.mem_append_left _ (List.mem_append_left _ (List.mem_of_getElem? (i := 1) rfl)))) rfl dX6_grant_38 ?_
      refine go_iload_n X dX6_grant_41 2 rfl rfl ?_
      refine go_iload_n X dX6_grant_42 3 rfl rfl ?_
      refine go_iast X (n := 9) (k := i) (by omega) rfl rfl (by omega) (by omega) dX6_grant_43 ?_
      refine go_iload_n X dX6_grant_44 0 rfl rfl ?_
      exact go_ireturn X hr hlk dX6_grant_45 ((have hE : grantS (nI ns) (σ 9) (nI i) v = σ 9 i := (by unfold grantS; (try dsimp only); (try rw [toN_nI (k := i) (by omega)]); exact (cif_t c8).trans ((cif_t c18).trans (rfl))); ⟨hE, (cif_t ⟨c8, c18⟩).trans (by rw [toN_nI (k := i) (by omega)]), rfl⟩))
    · skip
      refine go_bipush X (v := (-2)) dX6_grant_21 (by decide) ?_
      exact go_ireturn X hr hlk dX6_grant_23 ((have hE : grantS (nI ns) (σ 9) (nI i) v = (-2) := (by unfold grantS; (try dsimp only); (try rw [toN_nI (k := i) (by omega)]); exact (cif_t c8).trans ((cif_f c18).trans (rfl))); ⟨hE, cif_f (fun q => c18 q.2), rfl⟩))
  · skip
    refine go_iconst X (v := (-1)) dX6_grant_11 (by decide) ?_
    exact go_ireturn X hr hlk dX6_grant_12 ((have hE : grantS (nI ns) (σ 9) a v = (-1) := (by unfold grantS; (try dsimp only); exact (cif_f c8).trans (rfl)); ⟨hE, cif_f (fun q => c8 q.1), rfl⟩))

