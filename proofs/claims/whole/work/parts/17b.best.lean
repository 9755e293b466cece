theorem popN_le : ∀ k, k < 16 → popN k ≤ 4 := by decide
theorem setS_16 {P : Nat → Prop} {n : Nat} (hn : n ≤ 4) : setS P n = nI (toN (setS P n)) ∧ toN (setS P n) < 16 := by
  have key : ∀ k, k < 16 → nI k = nI (toN (nI k)) ∧ toN (nI k) < 16 := fun k hk => by rw [toN_nI (by omega)]; exact ⟨rfl, hk⟩
  have st : ∀ m, m ≤ 4 → ∃ k, k < 2 ^ m ∧ setS P m = nI k := by
    intro m
    induction m with
    | zero => intro _; exact ⟨0, by decide, rfl⟩
    | succ m ih =>
      intro hm
      obtain ⟨k, hk, e⟩ := ih (by omega)
      by_cases h : P m
      · rw [setS_t h, e]
        exact ⟨k + 2 ^ m, by rw [Nat.pow_succ]; omega, bc_or m (by omega) k hk⟩
      · rw [setS_f h, e]
        exact ⟨k, by rw [Nat.pow_succ]; omega, rfl⟩
  obtain ⟨k, hk, e⟩ := st n hn
  rw [e]
  exact key k (Nat.lt_of_lt_of_le hk (Nat.pow_le_pow_right (by omega) hn))
/-- the price that brings most among the first q, and what it brings; ct: how many buy at a price -/
def bstS (ct : Nat → Nat) : Nat → Int32 × Int32
  | 0 => (-9, 0)
  | q + 1 => if nI ((q + 1) * ct (q + 1)) ≤ (bstS ct q).2 then bstS ct q else (nI (q + 1), nI ((q + 1) * ct (q + 1)))
theorem bstS_t {ct : Nat → Nat} {q : Nat} (h : nI ((q + 1) * ct (q + 1)) ≤ (bstS ct q).2) : bstS ct (q + 1) = bstS ct q := if_pos h
theorem bstS_f {ct : Nat → Nat} {q : Nat} (h : ¬ nI ((q + 1) * ct (q + 1)) ≤ (bstS ct q).2) : bstS ct (q + 1) = (nI (q + 1), nI ((q + 1) * ct (q + 1))) := if_neg h
noncomputable def ctS (ns nd n : Nat) (u : Nat → Nat → Nat) (v : Nat → Nat) (q : Nat) : Nat := popN (toN (buyS ns nd n u v (nI q)))
noncomputable def bestOS (ns nd : Nat) (u : Nat → Nat → Nat) (v : Nat → Nat) (n : Int32) : Int32 := cif (isB n 9) (cif (0 < nI ns) (bstS (ctS ns nd (toN n) u v) 99).1 (-3)) (-2)
theorem hdJ6_bitCount_0f7a4 : yJ6_bitCount_0f7a4.cls ≠ "java/lang/invoke/MethodHandle" ∧ yJ6_bitCount_0f7a4.cls ≠ "java/lang/invoke/VarHandle" ∧ (parseMethodDescriptor yJ6_bitCount_0f7a4.desc).map (fun d => d.parameters.length) = some 1 := by decide +kernel
set_option maxHeartbeats 4000000 in
set_option maxRecDepth 100000 in
theorem kJ6_bitCount_0f7a4 (l : Launch) (D : va_G) (cs : Nat → ClassId) (ad : Nat → Nat) (N kt : Nat) (hN : 58 ≤ N) (σ : vSg) (τ : vTa) (k : Nat)   (hk : k < 16) : CtI l yJ6_bitCount_0f7a4 wsJ6_bitCount_0f7a4 ({ frames := 0, cells := 0, slots := 0, locals := 0 }) D cs ad N (shP kt) [.int (nI k)] σ τ 0 0 (fun r9 σ9 τ9 => nI (popN k) = r9 ∧ σ = σ9 ∧ τ = τ9) := by
  refine ct_I (cc := cJ6_bitCount_0f7a4) (maxL := 1) (by decide) rfl (Nat.le_of_ble_eq_true rfl) rfl rfl ?_
  intro p e s m args below meth c A X hr hlk
  refine go_iload_n X dJ6_bitCount_0f7a4_0 0 rfl rfl ?_
  refine go_iload_n X dJ6_bitCount_0f7a4_1 0 rfl rfl ?_
  refine go_iconst X (v := 1) dJ6_bitCount_0f7a4_2 (by decide) ?_
  refine go_iushr X dJ6_bitCount_0f7a4_3 rfl ?_
  refine go_ldcw X (v := 1431655765) (List.mem_cons_of_mem _ (List.mem_of_getElem? (i := 0) rfl)) dJ6_bitCount_0f7a4_4 ?_
  refine go_iand X dJ6_bitCount_0f7a4_7 ?_
  refine go_isub X dJ6_bitCount_0f7a4_8 ?_
  refine go_topi (v := nI (pc1 k)) (bc1 k hk) ?_
  refine go_istore_n X (lv2 := [(0, .int (nI (pc1 k)))]) dJ6_bitCount_0f7a4_9 rfl (by decide) rfl ?_
  refine go_iload_n X dJ6_bitCount_0f7a4_10 0 rfl rfl ?_
  refine go_ldcw X (v := 858993459) (List.mem_cons_of_mem _ (List.mem_of_getElem? (i := 1) rfl)) dJ6_bitCount_0f7a4_11 ?_
  refine go_iand X dJ6_bitCount_0f7a4_14 ?_
  refine go_iload_n X dJ6_bitCount_0f7a4_15 0 rfl rfl ?_
  refine go_iconst X (v := 2) dJ6_bitCount_0f7a4_16 (by decide) ?_
  refine go_iushr X dJ6_bitCount_0f7a4_17 rfl ?_
  refine go_ldcw X (v := 858993459) (List.mem_cons_of_mem _ (List.mem_of_getElem? (i := 1) rfl)) dJ6_bitCount_0f7a4_18 ?_
  refine go_iand X dJ6_bitCount_0f7a4_21 ?_
  refine go_iadd X dJ6_bitCount_0f7a4_22 ?_
  refine go_topi (v := nI (popN k)) (bc2 k hk) ?_
  refine go_istore_n X (lv2 := [(0, .int (nI (popN k)))]) dJ6_bitCount_0f7a4_23 rfl (by decide) rfl ?_
  refine go_iload_n X dJ6_bitCount_0f7a4_24 0 rfl rfl ?_
  refine go_iload_n X dJ6_bitCount_0f7a4_25 0 rfl rfl ?_
  refine go_iconst X (v := 4) dJ6_bitCount_0f7a4_26 (by decide) ?_
  refine go_iushr X dJ6_bitCount_0f7a4_27 rfl ?_
  refine go_iadd X dJ6_bitCount_0f7a4_28 ?_
  refine go_ldcw X (v := 252645135) (List.mem_cons_of_mem _ (List.mem_of_getElem? (i := 2) rfl)) dJ6_bitCount_0f7a4_29 ?_
  refine go_iand X dJ6_bitCount_0f7a4_32 ?_
  refine go_topi (v := nI (popN k)) (bc3 k hk) ?_
  refine go_istore_n X (lv2 := [(0, .int (nI (popN k)))]) dJ6_bitCount_0f7a4_33 rfl (by decide) rfl ?_
  refine go_iload_n X dJ6_bitCount_0f7a4_34 0 rfl rfl ?_
  refine go_iload_n X dJ6_bitCount_0f7a4_35 0 rfl rfl ?_
  refine go_bipush X (v := 8) dJ6_bitCount_0f7a4_36 (by decide) ?_
  refine go_iushr X dJ6_bitCount_0f7a4_38 rfl ?_
  refine go_iadd X dJ6_bitCount_0f7a4_39 ?_
  refine go_topi (v := nI (popN k)) (bc4 k hk) ?_
  refine go_istore_n X (lv2 := [(0, .int (nI (popN k)))]) dJ6_bitCount_0f7a4_40 rfl (by decide) rfl ?_
  refine go_iload_n X dJ6_bitCount_0f7a4_41 0 rfl rfl ?_
  refine go_iload_n X dJ6_bitCount_0f7a4_42 0 rfl rfl ?_
  refine go_bipush X (v := 16) dJ6_bitCount_0f7a4_43 (by decide) ?_
  refine go_iushr X dJ6_bitCount_0f7a4_45 rfl ?_
  refine go_iadd X dJ6_bitCount_0f7a4_46 ?_
  refine go_topi (v := nI (popN k)) (bc5 k hk) ?_
  refine go_istore_n X (lv2 := [(0, .int (nI (popN k)))]) dJ6_bitCount_0f7a4_47 rfl (by decide) rfl ?_
  refine go_iload_n X dJ6_bitCount_0f7a4_48 0 rfl rfl ?_
  refine go_bipush X (v := 63) dJ6_bitCount_0f7a4_49 (by decide) ?_
  refine go_iand X dJ6_bitCount_0f7a4_51 ?_
  refine go_topi (v := nI (popN k)) (bc6 k hk) ?_
  exact go_ireturn X hr hlk dJ6_bitCount_0f7a4_52 (⟨rfl, rfl, rfl⟩)

theorem hdX6_best : yX6_best.cls = RX6 ∧ yX6_best.cls ≠ "java/lang/invoke/MethodHandle" ∧ yX6_best.cls ≠ "java/lang/invoke/VarHandle" ∧ (parseMethodDescriptor yX6_best.desc).map (fun d => d.parameters.length) = some 1 := by decide +kernel
set_option maxHeartbeats 4000000 in
set_option maxRecDepth 100000 in
theorem kX6_best (l : Launch) (D : va_G) (cs : Nat → ClassId) (ad : Nat → Nat) (N kt : Nat) (hN : 58 ≤ N) (σ : vSg) (τ : vTa) (n : Int32) (nd : Nat) (ns : Nat) (nr : Nat)   (hI : IX σ nd ns nr) : CtI l yX6_best wsX6_best ({ frames := 6, cells := 0, slots := 0, locals := 146 }) D cs ad N (shP kt) [.ref (ad (0)), .int n] σ τ 0 0 (fun r9 σ9 τ9 => bestOS ns nd (unX σ) (vnX σ) n = r9 ∧ σ = σ9) := by
  refine ct_I (cc := cX6_best) (maxL := 6) (by decide) rfl (Nat.le_of_ble_eq_true rfl) rfl rfl ?_
  intro p e s m args below meth c A X hr hlk
  obtain ⟨⟨hnd, hnd5⟩, ⟨hns, hns4⟩, hdd, hkp, ⟨hnr, hnr8⟩, hrd, hrw, hpos⟩ := id hI
  refine go_iload_n X dX6_best_0 1 rfl rfl ?_
  refine go_bipush X (v := 9) dX6_best_1 (by decide) ?_
  refine go_callSI X (As := [.int n, .int 9]) (rest := []) (kX6_isBelow l D cs ad N kt (by omega) σ τ n 9) gX6_best_X6_isBelow rfl hdX6_isBelow ⟨rfl, rfl, by decide, by decide, by decide, by decide⟩ rfl rfl (Nat.le_of_ble_eq_true rfl) dX6_best_3 (fun r9 σ9 τ9 h9 => ?_)
  obtain ⟨rfl, rfl, rfl⟩ := h9
  refine go_ifb_ne X (tgt := 12) dX6_best_6 (by decide) (fun c6 => ?_) (fun c6 => ?_)
  · skip
    obtain ⟨nn, hnn, rfl⟩ := isB_nat (b := 9) c6 (by omega)
    refine go_aload_n X dX6_best_12 0 rfl rfl ?_
    refine go_getr X (n := 0) (j := 1) (by omega) rfl rfl (fun _ h9 => List.mem_cons_of_mem _ (List.mem_append_left _ (List.mem_append_left _ (List.mem_append_right _ h9)))) (by decide) (List.mem_cons_of_mem _ (List.mem_append_left _ (List.mem_append_left _ (List.mem_append_left _ (List.mem_append_left _ (List.mem_of_getElem? (i := 0) rfl)))))) rfl dX6_best_13 ?_
    refine go_callVI X (n := 2) (As := []) (rest := []) (kX2_isThere l D cs ad N kt (by omega) σ τ (nI ns) (hns)) gX6_best_X2_isThere rfl hdX2_isThere ⟨rfl, rfl, by decide, by decide, by decide, by decide⟩ (by omega) rfl rfl rfl rfl (Nat.le_of_ble_eq_true rfl) dX6_best_16 (fun r9 σ9 τ9 h9 => ?_)
    obtain ⟨rfl, rfl, rfl⟩ := h9
    refine go_ifb_ne X (tgt := 25) dX6_best_19 (by decide) (fun c19 => ?_) (fun c19 => ?_)
    · skip
      refine go_aload_n X dX6_best_25 0 rfl rfl ?_
      refine go_iload_n X dX6_best_26 1 rfl rfl ?_
      refine go_callVV X (n := 0) (As := [.int (nI nn)]) (rest := []) (kX6_weighPapers l D cs ad N kt (by omega) σ τ nn nd ns nr (by omega) (by omega)) gX6_best_X6_weighPapers rfl hdX6_weighPapers ⟨rfl, rfl, by decide, by decide, by decide, by decide⟩ (by omega) rfl rfl rfl rfl (Nat.le_of_ble_eq_true rfl) dX6_best_27 (fun σ1z τ1z h1z => ?_)
      obtain ⟨rfl, hg9, hs9⟩ := h1z
      refine go_bipush X (v := (-9)) dX6_best_30 (by decide) ?_
      refine go_istore_n X (lv2 := [(2, .int (-9)), (0, .ref (ad (0))), (1, .int (nI nn))]) dX6_best_32 rfl (by decide) rfl ?_
      refine go_iconst X (v := 0) dX6_best_33 (by decide) ?_
      refine go_istore_n X (lv2 := [(3, .int 0), (2, .int (-9)), (0, .ref (ad (0))), (1, .int (nI nn))]) dX6_best_34 rfl (by decide) rfl ?_
      refine go_iconst X (v := 1) dX6_best_35 (by decide) ?_
      refine go_istore X (lv2 := [(4, .int 1), (3, .int 0), (2, .int (-9)), (0, .ref (ad (0))), (1, .int (nI nn))]) dX6_best_36 (by decide) rfl ?_
      refine go_loop (ι := Nat) (fun i9 => (i9 ≤ 99)) (fun i9 => 100 - i9) (fun i9 => σ) (fun i9 => τ1z) (fun i9 => [(4, .int (nI (i9 + 1))), (3, .int ((bstS (ctS ns nd nn (unX σ) (vnX σ)) i9).2)), (2, .int ((bstS (ctS ns nd nn (unX σ) (vnX σ)) i9).1)), (0, .ref (ad (0))), (1, .int (nI nn))]) (fun i9 => []) 0 (by (try dsimp only); exact (Nat.zero_le _)) ?_
      intro i9 hi9 ih38
      obtain ⟨q, hv9⟩ : ∃ z, z = i9 := ⟨_, rfl⟩; subst hv9
      (try dsimp only at hi9); (try dsimp only at ih38); (try dsimp only)
      have hq := hi9
      refine go_iload X dX6_best_38 0 rfl ?_
      refine go_bipush X (v := 99) dX6_best_40 (by decide) ?_
      refine go_icmpn_gt X (tgt := 78) dX6_best_42 (by decide) (a := q + 1) (b := 99) rfl rfl (by omega) (by omega) (fun c42 => ?_) (fun c42 => ?_)
      · skip
        refine go_iload_n X dX6_best_78 2 rfl rfl ?_
        exact go_ireturn X hr hlk dX6_best_79 ((have hE : bestOS ns nd (unX σ) (vnX σ) (nI nn) = (bstS (ctS ns nd nn (unX σ) (vnX σ)) q).1 := (by unfold bestOS; (try dsimp only); (try rw [toN_nI (k := nn) (by omega)]); exact (cif_t c6).trans ((cif_t c19).trans ((by rw [show q = 99 by omega])))); ⟨hE, rfl⟩))
      · skip
        refine go_iload X dX6_best_45 0 rfl ?_
        refine go_aload_n X dX6_best_47 3 rfl rfl ?_
        refine go_iload X dX6_best_48 0 rfl ?_
        refine go_iload_n X dX6_best_50 4 rfl rfl ?_
        refine go_callVI X (n := 0) (As := [.int (nI (q + 1)), .int (nI nn)]) (rest := [.int (nI (q + 1))]) (kX6_buyersAt l D cs ad N kt (by omega) σ τ1z (nI (q + 1)) nn nd ns nr (by omega) (by omega) hg9 hs9) gX6_best_X6_buyersAt rfl hdX6_buyersAt ⟨rfl, rfl, by decide, by decide, by decide, by decide⟩ (by omega) rfl rfl rfl rfl (Nat.le_of_ble_eq_true rfl) dX6_best_51 (fun r9 σ9 τ9 h9 => ?_)
        obtain ⟨rfl, rfl, rfl⟩ := h9
        have h16 := setS_16 (P := buyP nd nn (unX σ) (vnX σ) (nI (q + 1))) hns4
        refine go_topi (v := nI (toN (buyS ns nd nn (unX σ) (vnX σ) (nI (q + 1))))) h16.1 ?_
        refine go_callSI X (As := [.int (nI (toN (buyS ns nd nn (unX σ) (vnX σ) (nI (q + 1)))))]) (rest := [.int (nI (q + 1))]) (kJ6_bitCount_0f7a4 l D cs ad N kt (by omega) σ τ1z (toN (buyS ns nd nn (unX σ) (vnX σ) (nI (q + 1)))) h16.2) gX6_best_J6_bitCount_0f7a4 rfl hdJ6_bitCount_0f7a4 ⟨rfl, rfl, by decide, by decide, by decide, by decide⟩ rfl rfl (Nat.le_of_ble_eq_true rfl) dX6_best_54 (fun r9 σ9 τ9 h9 => ?_)
        obtain ⟨rfl, rfl, rfl⟩ := h9
        refine go_imul X dX6_best_57 ?_
        refine go_topi (v := nI ((q + 1) * (popN (toN (buyS ns nd nn (unX σ) (vnX σ) (nI (q + 1))))))) (pk_mul (q + 1) (popN (toN (buyS ns nd nn (unX σ) (vnX σ) (nI (q + 1)))))) ?_
        refine go_topi (v := nI ((q + 1) * (ctS ns nd nn (unX σ) (vnX σ)) (q + 1))) rfl ?_
        refine go_istore X (lv2 := [(5, .int (nI ((q + 1) * (ctS ns nd nn (unX σ) (vnX σ)) (q + 1)))), (4, .int (nI (q + 1))), (3, .int ((bstS (ctS ns nd nn (unX σ) (vnX σ)) q).2)), (2, .int ((bstS (ctS ns nd nn (unX σ) (vnX σ)) q).1)), (0, .ref (ad (0))), (1, .int (nI nn))]) dX6_best_58 (by decide) rfl ?_
        refine go_iload X dX6_best_60 0 rfl ?_
        refine go_iload_n X dX6_best_62 2 rfl rfl ?_
        refine go_icmp_le X (tgt := 72) dX6_best_63 (by decide) (fun c63 => ?_) (fun c63 => ?_)
        · skip
          refine go_lv (lv2 := [(5, .int (nI ((q + 1) * (ctS ns nd nn (unX σ) (vnX σ)) (q + 1)))), (4, .int (nI (q + 1))), (3, .int ((bstS (ctS ns nd nn (unX σ) (vnX σ)) (q + 1)).2)), (2, .int ((bstS (ctS ns nd nn (unX σ) (vnX σ)) (q + 1)).1)), (0, .ref (ad (0))), (1, .int (nI nn))]) (by rw [bstS_t (ct := (ctS ns nd nn (unX σ) (vnX σ))) (q := q) c63]) ?_
          refine go_iinc X (v := nI (q + 1 + 1)) (lv2 := [(4, .int (nI (q + 1 + 1))), (5, .int (nI ((q + 1) * (ctS ns nd nn (unX σ) (vnX σ)) (q + 1)))), (3, .int ((bstS (ctS ns nd nn (unX σ) (vnX σ)) (q + 1)).2)), (2, .int ((bstS (ctS ns nd nn (unX σ) (vnX σ)) (q + 1)).1)), (0, .ref (ad (0))), (1, .int (nI nn))]) dX6_best_72 (k := 1) rfl (nI_add (q + 1) 1) (by decide) rfl ?_
          refine go_goto X (tgt := 38) dX6_best_75 (by decide) ?_
          refine go_lvsub [0, 2, 3, 4, 5] rfl ?_
          exact ih38 (q + 1) (by (try dsimp only); exact (by omega)) (by (try dsimp only); omega)
        · skip
          refine go_iload X dX6_best_66 0 rfl ?_
          refine go_istore_n X (lv2 := [(3, .int (nI ((q + 1) * (ctS ns nd nn (unX σ) (vnX σ)) (q + 1)))), (5, .int (nI ((q + 1) * (ctS ns nd nn (unX σ) (vnX σ)) (q + 1)))), (4, .int (nI (q + 1))), (2, .int ((bstS (ctS ns nd nn (unX σ) (vnX σ)) q).1)), (0, .ref (ad (0))), (1, .int (nI nn))]) dX6_best_68 rfl (by decide) rfl ?_
          refine go_iload X dX6_best_69 2 rfl ?_
          refine go_istore_n X (lv2 := [(2, .int (nI (q + 1))), (3, .int (nI ((q + 1) * (ctS ns nd nn (unX σ) (vnX σ)) (q + 1)))), (5, .int (nI ((q + 1) * (ctS ns nd nn (unX σ) (vnX σ)) (q + 1)))), (4, .int (nI (q + 1))), (0, .ref (ad (0))), (1, .int (nI nn))]) dX6_best_71 rfl (by decide) rfl ?_
          refine go_lv (lv2 := [(2, .int ((bstS (ctS ns nd nn (unX σ) (vnX σ)) (q + 1)).1)), (3, .int ((bstS (ctS ns nd nn (unX σ) (vnX σ)) (q + 1)).2)), (5, .int (nI ((q + 1) * (ctS ns nd nn (unX σ) (vnX σ)) (q + 1)))), (4, .int (nI (q + 1))), (0, .ref (ad (0))), (1, .int (nI nn))]) (by rw [bstS_f (ct := (ctS ns nd nn (unX σ) (vnX σ))) (q := q) c63]) ?_
          refine go_iinc X (v := nI (q + 1 + 1)) (lv2 := [(4, .int (nI (q + 1 + 1))), (2, .int ((bstS (ctS ns nd nn (unX σ) (vnX σ)) (q + 1)).1)), (3, .int ((bstS (ctS ns nd nn (unX σ) (vnX σ)) (q + 1)).2)), (5, .int (nI ((q + 1) * (ctS ns nd nn (unX σ) (vnX σ)) (q + 1)))), (0, .ref (ad (0))), (1, .int (nI nn))]) dX6_best_72 (k := 3) rfl (nI_add (q + 1) 1) (by decide) rfl ?_
          refine go_goto X (tgt := 38) dX6_best_75 (by decide) ?_
          refine go_lvsub [0, 2, 1, 4, 5] rfl ?_
          exact ih38 (q + 1) (by (try dsimp only); exact (by omega)) (by (try dsimp only); omega)
    · skip
      refine go_bipush X (v := (-3)) dX6_best_22 (by decide) ?_
      exact go_ireturn X hr hlk dX6_best_24 ((have hE : bestOS ns nd (unX σ) (vnX σ) (nI nn) = (-3) := (by unfold bestOS; (try dsimp only); (try rw [toN_nI (k := nn) (by omega)]); exact (cif_t c6).trans ((cif_f c19).trans (rfl))); ⟨hE, rfl⟩))
  · skip
    refine go_bipush X (v := (-2)) dX6_best_9 (by decide) ?_
    exact go_ireturn X hr hlk dX6_best_11 ((have hE : bestOS ns nd (unX σ) (vnX σ) n = (-2) := (by unfold bestOS; (try dsimp only); exact (cif_f c6).trans (rfl)); ⟨hE, rfl⟩))

