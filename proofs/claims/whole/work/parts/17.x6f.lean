theorem rng_nat {v : Int32} {lo hi : Nat} (h1 : ¬ v < nI lo) (h2 : v ≤ nI hi) (hl : lo < 2 ^ 31) (hh : hi < 2 ^ 31) : ∃ k : Nat, lo ≤ k ∧ k ≤ hi ∧ v = nI k := by
  have h0 : ¬ v < 0 := fun q => h1 (by
    rw [Int32.lt_iff_toInt_lt] at q ⊢
    rw [nI_toInt hl]
    rw [show (0 : Int32).toInt = 0 from rfl] at q
    omega)
  obtain ⟨k, hk, rfl⟩ := nI_of h0
  exact ⟨k, Nat.not_lt.mp (fun q => h1 (nI_lt q hl)), (nI_leI hk hh).mp h2, rfl⟩
theorem bpX {σ : vSg} {nd ns nr : Nat} (hI : IX σ nd ns nr) {a : Nat} (ha : a < ns) {d : Nat} (hd : d < nd) {sc hp : Int64} {s9 p9 : Nat} (hs : sc = lN s9) (hp9 : hp = lN p9) : bpS sc hp (10 * σ (20 + d) 0) = lN (vnX σ d * s9 + p9) := by
  have h := (IX_uv hI ha).2 d hd
  rw [hs, hp9, show 10 * σ (20 + d) 0 = pvX σ d from rfl, h.1]
  exact bpS_N (by omega)
theorem bnX {σ : vSg} {nd ns nr : Nat} (hI : IX σ nd ns nr) {a : Nat} (ha : a < ns) {d : Nat} (hd : d < nd) {sc hp : Int64} {s9 p9 : Nat} (hs : sc = lN s9) (hp9 : hp = lN p9) : bnS sc hp (valS (σ 8 a) (σ (20 + d) 0) (σ (20 + d) 1) (σ (20 + d) 2)) = lN (unX σ a d * s9 + p9) := by
  have h := (IX_uv hI ha).1 d hd
  rw [hs, hp9]
  exact bnS_N h.1 (by omega)
theorem useP_le {nd n pp d : Nat} {u v : Nat → Nat} (hb : ∀ d, d < nd → u d ≤ 90 ∧ v d ≤ 90) (hn : nd ≤ 5) (hk : n ≤ 8) (hd : d < nd) : lN (v d * nd ^ n + hpN nd u v n (pp - 1)) ≤ lN (u d * nd ^ n + hpN nd u v n pp) ↔ ¬ useP nd u v n pp d := by
  have b1 := hpN_b hb hn hk pp
  have b2 := hpN_b hb hn hk (pp - 1)
  have b3 := pow58 hn hk
  have b4 : u d * nd ^ n ≤ 90 * 390625 := Nat.mul_le_mul (hb d hd).1 b3
  have b5 : v d * nd ^ n ≤ 90 * 390625 := Nat.mul_le_mul (hb d hd).2 b3
  rw [pk_lLE (by omega) (by omega)]
  exact Nat.not_lt.symm
theorem hdX6_uses : yX6_uses.cls = RX6 ∧ yX6_uses.cls ≠ "java/lang/invoke/MethodHandle" ∧ yX6_uses.cls ≠ "java/lang/invoke/VarHandle" ∧ (parseMethodDescriptor yX6_uses.desc).map (fun d => d.parameters.length) = some 3 := by decide +kernel
set_option maxHeartbeats 4000000 in
set_option maxRecDepth 100000 in
theorem kX6_uses (l : Launch) (D : va_G) (cs : Nat → ClassId) (ad : Nat → Nat) (N kt : Nat) (hN : 58 ≤ N) (σ : vSg) (τ : vTa) (a : Int32) (n : Int32) (pp : Int32) (nd : Nat) (ns : Nat) (nr : Nat)   (hI : IX σ nd ns nr) : CtI l yX6_uses wsX6_uses ({ frames := 5, cells := 0, slots := 0, locals := 124 }) D cs ad N (shP kt) [.ref (ad (0)), .int a, .int n, .int pp] σ τ 0 0 (fun r9 σ9 τ9 => usesS (nI ns) nd (unX σ) (vnX σ) a n pp = r9 ∧ σ = σ9) := by
  refine ct_I (cc := cX6_uses) (maxL := 6) (by decide) rfl (Nat.le_of_ble_eq_true rfl) rfl rfl ?_
  intro p e s m args below meth c A X hr hlk
  obtain ⟨⟨hnd, hnd5⟩, ⟨hns, hns4⟩, hdd, hkp, ⟨hnr, hnr8⟩, hrd, hrw, hpos⟩ := id hI
  refine go_aload_n X dX6_uses_0 0 rfl rfl ?_
  refine go_getr X (n := 0) (j := 1) (by omega) rfl rfl (fun _ h9 => List.mem_cons_of_mem _ (List.mem_append_left _ (List.mem_append_left _ (List.mem_append_right _ h9)))) (by decide) (List.mem_cons_of_mem _ (List.mem_append_left _ (List.mem_append_left _ (List.mem_append_left _ (List.mem_append_left _ (List.mem_of_getElem? (i := 0) rfl)))))) rfl dX6_uses_1 ?_
  refine go_iload_n X dX6_uses_4 1 rfl rfl ?_
  refine go_callVI X (n := 2) (As := [.int a]) (rest := []) (kX2_hasSubject l D cs ad N kt (by omega) σ τ a (nI ns) (hns)) gX6_uses_X2_hasSubject rfl hdX2_hasSubject ⟨rfl, rfl, by decide, by decide, by decide, by decide⟩ (by omega) rfl rfl rfl rfl (Nat.le_of_ble_eq_true rfl) dX6_uses_5 (fun r9 σ9 τ9 h9 => ?_)
  obtain ⟨rfl, rfl, rfl⟩ := h9
  refine go_ifb_ne X (tgt := 13) dX6_uses_8 (by decide) (fun c8 => ?_) (fun c8 => ?_)
  · skip
    obtain ⟨i, hi, rfl⟩ := isB_nat c8 (by omega)
    refine go_iload_n X dX6_uses_13 2 rfl rfl ?_
    refine go_iconst X (v := 1) dX6_uses_14 (by decide) ?_
    refine go_icmp_lt X (tgt := 34) dX6_uses_15 (by decide) (fun c15 => ?_) (fun c15 => ?_)
    · skip
      refine go_bipush X (v := (-2)) dX6_uses_34 (by decide) ?_
      exact go_ireturn X hr hlk dX6_uses_36 ((have hE : usesS (nI ns) nd (unX σ) (vnX σ) (nI i) n pp = (-2) := (by unfold usesS; (try dsimp only); (try rw [toN_nI (k := i) (by omega)]); exact (cif_t c8).trans ((cif_t c15).trans (rfl))); ⟨hE, rfl⟩))
    · skip
      refine go_iload_n X dX6_uses_18 2 rfl rfl ?_
      refine go_bipush X (v := 8) dX6_uses_19 (by decide) ?_
      refine go_icmp_gt X (tgt := 34) dX6_uses_21 (by decide) (fun c21 => ?_) (fun c21 => ?_)
      · skip
        refine go_bipush X (v := (-2)) dX6_uses_34 (by decide) ?_
        exact go_ireturn X hr hlk dX6_uses_36 ((have hE : usesS (nI ns) nd (unX σ) (vnX σ) (nI i) n pp = (-2) := (by unfold usesS; (try dsimp only); (try rw [toN_nI (k := i) (by omega)]); exact (cif_t c8).trans ((cif_f c15).trans ((cif_t c21).trans (rfl)))); ⟨hE, rfl⟩))
      · skip
        refine go_iload_n X dX6_uses_24 3 rfl rfl ?_
        refine go_iconst X (v := 1) dX6_uses_25 (by decide) ?_
        refine go_icmp_lt X (tgt := 34) dX6_uses_26 (by decide) (fun c26 => ?_) (fun c26 => ?_)
        · skip
          refine go_bipush X (v := (-2)) dX6_uses_34 (by decide) ?_
          exact go_ireturn X hr hlk dX6_uses_36 ((have hE : usesS (nI ns) nd (unX σ) (vnX σ) (nI i) n pp = (-2) := (by unfold usesS; (try dsimp only); (try rw [toN_nI (k := i) (by omega)]); exact (cif_t c8).trans ((cif_f c15).trans ((cif_f c21).trans ((cif_t c26).trans (rfl))))); ⟨hE, rfl⟩))
        · skip
          refine go_iload_n X dX6_uses_29 3 rfl rfl ?_
          refine go_iconst X (v := 3) dX6_uses_30 (by decide) ?_
          refine go_icmp_le X (tgt := 37) dX6_uses_31 (by decide) (fun c31 => ?_) (fun c31 => ?_)
          · skip
            obtain ⟨nn, hn1, hn8, rfl⟩ := rng_nat (lo := 1) (hi := 8) c15 (Int32.not_lt.mp c21) (by omega) (by omega)
            obtain ⟨qq, hq1, hq3, rfl⟩ := rng_nat (lo := 1) (hi := 3) c26 c31 (by omega) (by omega)
            refine go_aload_n X dX6_uses_37 0 rfl rfl ?_
            refine go_getr X (n := 0) (j := 3) (by omega) rfl rfl (fun _ h9 => List.mem_cons_of_mem _ (List.mem_append_left _ (List.mem_append_left _ (List.mem_append_right _ h9)))) (by decide) (List.mem_cons_of_mem _ (List.mem_append_left _ (List.mem_append_left _ (List.mem_append_left _ (List.mem_append_left _ (List.mem_of_getElem? (i := 1) rfl)))))) rfl dX6_uses_38 ?_
            refine go_aload_n X dX6_uses_41 0 rfl rfl ?_
            refine go_getr X (n := 0) (j := 1) (by omega) rfl rfl (fun _ h9 => List.mem_cons_of_mem _ (List.mem_append_left _ (List.mem_append_left _ (List.mem_append_right _ h9)))) (by decide) (List.mem_cons_of_mem _ (List.mem_append_left _ (List.mem_append_left _ (List.mem_append_left _ (List.mem_append_left _ (List.mem_of_getElem? (i := 0) rfl)))))) rfl dX6_uses_42 ?_
            refine go_iload_n X dX6_uses_45 1 rfl rfl ?_
            refine go_iload_n X dX6_uses_46 2 rfl rfl ?_
            refine go_iconst X (v := 1) dX6_uses_47 (by decide) ?_
            refine go_isub X dX6_uses_48 ?_
            refine go_topi (v := nI (nn - 1)) (pk_sub (by omega)) ?_
            refine go_callVV X (n := 4) (As := [.ref (ad (2)), .int (nI i), .int (nI (nn - 1))]) (rest := []) (kX0_lookAhead l D cs ad N kt (by omega) σ τ i (nn - 1) nd (by omega) (by omega) (by omega) (by omega)) gX6_uses_X0_lookAhead rfl hdX0_lookAhead ⟨rfl, rfl, by decide, by decide, by decide, by decide⟩ (by omega) rfl rfl rfl rfl (Nat.le_of_ble_eq_true rfl) dX6_uses_49 (fun σ1z τ1z h1z => ?_)
            obtain ⟨rfl, hτ1z⟩ := h1z
            refine go_iconst X (v := 0) dX6_uses_52 (by decide) ?_
            refine go_istore X (lv2 := [(4, .int 0), (0, .ref (ad (0))), (1, .int (nI i)), (2, .int (nI nn)), (3, .int (nI qq))]) dX6_uses_53 (by decide) rfl ?_
            refine go_iconst X (v := 0) dX6_uses_55 (by decide) ?_
            refine go_istore X (lv2 := [(5, .int 0), (4, .int 0), (0, .ref (ad (0))), (1, .int (nI i)), (2, .int (nI nn)), (3, .int (nI qq))]) dX6_uses_56 (by decide) rfl ?_
            refine go_loop (ι := Nat) (fun i9 => (i9 ≤ nd)) (fun i9 => nd - i9) (fun i9 => σ) (fun i9 => τ1z) (fun i9 => [(5, .int (nI i9)), (4, .int (setS (useP nd (unX σ i) (vnX σ) (nn - 1) qq) i9)), (0, .ref (ad (0))), (1, .int (nI i)), (2, .int (nI nn)), (3, .int (nI qq))]) (fun i9 => []) 0 (by (try dsimp only); exact (Nat.zero_le _)) ?_
            intro i9 hi9 ih58
            obtain ⟨d, hv9⟩ : ∃ z, z = i9 := ⟨_, rfl⟩; subst hv9
            (try dsimp only at hi9); (try dsimp only at ih58); (try dsimp only)
            have hd := hi9
            refine go_iload X dX6_uses_58 0 rfl ?_
            refine go_aload_n X dX6_uses_60 2 rfl rfl ?_
            refine go_getr X (n := 0) (j := 1) (by omega) rfl rfl (fun _ h9 => List.mem_cons_of_mem _ (List.mem_append_left _ (List.mem_append_left _ (List.mem_append_right _ h9)))) (by decide) (List.mem_cons_of_mem _ (List.mem_append_left _ (List.mem_append_left _ (List.mem_append_left _ (List.mem_append_left _ (List.mem_of_getElem? (i := 0) rfl)))))) rfl dX6_uses_61 ?_
            refine go_geti X (n := 2) (j := 3) (by omega) rfl rfl (fun _ h9 => List.mem_cons_of_mem _ (List.mem_append_left _ (List.mem_append_right _ h9))) (by decide) (List.mem_cons_of_mem _ (List.mem_append_left _ (List.mem_append_left _ (List.mem_append_left _ (List.mem_append_left _ (List.mem_of_getElem? (i := 2) rfl)))))) rfl dX6_uses_64 ?_
            refine go_topi (v := nI nd) (hnd) ?_
            refine go_icmpn_ge X (tgt := 124) dX6_uses_67 (by decide) (a := d) (b := nd) rfl rfl (by omega) (by omega) (fun c67 => ?_) (fun c67 => ?_)
            · skip
              refine go_iload X dX6_uses_124 1 rfl ?_
              exact go_ireturn X hr hlk dX6_uses_126 ((have hE : usesS (nI ns) nd (unX σ) (vnX σ) (nI i) (nI nn) (nI qq) = setS (useP nd (unX σ i) (vnX σ) (nn - 1) qq) d := (by unfold usesS; (try dsimp only); (try rw [toN_nI (k := i) (by omega)]); (try rw [toN_nI (k := nn) (by omega)]); (try rw [toN_nI (k := qq) (by omega)]); exact (cif_t c8).trans ((cif_f c15).trans ((cif_f c21).trans ((cif_f c26).trans ((cif_t c31).trans ((by rw [show d = nd by omega]))))))); ⟨hE, rfl⟩))
            · skip
              refine go_aload_n X dX6_uses_70 2 rfl rfl ?_
              refine go_getr X (n := 0) (j := 3) (by omega) rfl rfl (fun _ h9 => List.mem_cons_of_mem _ (List.mem_append_left _ (List.mem_append_left _ (List.mem_append_right _ h9)))) (by decide) (List.mem_cons_of_mem _ (List.mem_append_left _ (List.mem_append_left _ (List.mem_append_left _ (List.mem_append_left _ (List.mem_of_getElem? (i := 1) rfl)))))) rfl dX6_uses_71 ?_
              refine go_aload_n X dX6_uses_74 2 rfl rfl ?_
              refine go_getr X (n := 0) (j := 1) (by omega) rfl rfl (fun _ h9 => List.mem_cons_of_mem _ (List.mem_append_left _ (List.mem_append_left _ (List.mem_append_right _ h9)))) (by decide) (List.mem_cons_of_mem _ (List.mem_append_left _ (List.mem_append_left _ (List.mem_append_left _ (List.mem_append_left _ (List.mem_of_getElem? (i := 0) rfl)))))) rfl dX6_uses_75 ?_
              refine go_iload X dX6_uses_78 0 rfl ?_
              refine go_iload_n X dX6_uses_80 4 rfl rfl ?_
              refine go_iconst X (v := 1) dX6_uses_81 (by decide) ?_
              refine go_isub X dX6_uses_82 ?_
              refine go_topi (v := nI (nn - 1)) (pk_sub (by omega)) ?_
              refine go_iload_n X dX6_uses_83 5 rfl rfl ?_
              refine go_callVL X (n := 4) (As := [.ref (ad (2)), .int (nI d), .int (nI (nn - 1)), .int (nI qq)]) (rest := []) (kX0_byPaper l D cs ad N kt (by omega) σ τ1z d (nn - 1) qq (σ (20 + d) 0) (rfl) (τ1z 36 (nn - 1)) (rfl) (τ1z (25 + (nn - 1)) (qq - 1)) (rfl) (by omega) (by omega) (by omega) (by omega)) gX6_uses_X0_byPaper rfl hdX0_byPaper ⟨rfl, rfl, by decide, by decide, by decide, by decide⟩ (by omega) rfl rfl rfl rfl (Nat.le_of_ble_eq_true rfl) dX6_uses_84 (fun r9 σ9 τ9 h9 => ?_)
              obtain ⟨rfl, rfl, rfl⟩ := h9
              refine go_topl (v := lN (vnX σ d * nd ^ (nn - 1) + hpN nd (unX σ i) (vnX σ) (nn - 1) (qq - 1))) (bpX hI (show i < ns by omega) (by omega) (((hτ1z.2 (nn - 1) (by omega)).1).trans (scS_N nd _)) (((hτ1z.2 (nn - 1) (by omega)).2 (qq - 1) (by omega)).trans (hpX_N hI (by omega) (by omega) _))) ?_
              refine go_aload_n X dX6_uses_87 2 rfl rfl ?_
              refine go_getr X (n := 0) (j := 3) (by omega) rfl rfl (fun _ h9 => List.mem_cons_of_mem _ (List.mem_append_left _ (List.mem_append_left _ (List.mem_append_right _ h9)))) (by decide) (List.mem_cons_of_mem _ (List.mem_append_left _ (List.mem_append_left _ (List.mem_append_left _ (List.mem_append_left _ (List.mem_of_getElem? (i := 1) rfl)))))) rfl dX6_uses_88 ?_
              refine go_aload_n X dX6_uses_91 2 rfl rfl ?_
              refine go_getr X (n := 0) (j := 1) (by omega) rfl rfl (fun _ h9 => List.mem_cons_of_mem _ (List.mem_append_left _ (List.mem_append_left _ (List.mem_append_right _ h9)))) (by decide) (List.mem_cons_of_mem _ (List.mem_append_left _ (List.mem_append_left _ (List.mem_append_left _ (List.mem_append_left _ (List.mem_of_getElem? (i := 0) rfl)))))) rfl dX6_uses_92 ?_
              refine go_iload_n X dX6_uses_95 3 rfl rfl ?_
              refine go_iload X dX6_uses_96 0 rfl ?_
              refine go_iload_n X dX6_uses_98 4 rfl rfl ?_
              refine go_iconst X (v := 1) dX6_uses_99 (by decide) ?_
              refine go_isub X dX6_uses_100 ?_
              refine go_topi (v := nI (nn - 1)) (pk_sub (by omega)) ?_
              refine go_iload_n X dX6_uses_101 5 rfl rfl ?_
              refine go_callVL X (n := 4) (As := [.ref (ad (2)), .int (nI i), .int (nI d), .int (nI (nn - 1)), .int (nI qq)]) (rest := [.long (lN (vnX σ d * nd ^ (nn - 1) + hpN nd (unX σ i) (vnX σ) (nn - 1) (qq - 1)))]) (kX0_byNone l D cs ad N kt (by omega) σ τ1z i d (nn - 1) qq (σ 8 i) (rfl) (σ (20 + d) 0) (rfl) (σ (20 + d) 1) (rfl) (σ (20 + d) 2) (rfl) (τ1z 36 (nn - 1)) (rfl) (τ1z (25 + (nn - 1)) qq) (rfl) (by omega) (by omega) (by omega) (by omega)) gX6_uses_X0_byNone rfl hdX0_byNone ⟨rfl, rfl, by decide, by decide, by decide, by decide⟩ (by omega) rfl rfl rfl rfl (Nat.le_of_ble_eq_true rfl) dX6_uses_102 (fun r9 σ9 τ9 h9 => ?_)
              obtain ⟨rfl, rfl, rfl⟩ := h9
              refine go_topl (v := lN (unX σ i d * nd ^ (nn - 1) + hpN nd (unX σ i) (vnX σ) (nn - 1) qq)) (bnX hI (show i < ns by omega) (by omega) (((hτ1z.2 (nn - 1) (by omega)).1).trans (scS_N nd _)) (((hτ1z.2 (nn - 1) (by omega)).2 qq (by omega)).trans (hpX_N hI (by omega) (by omega) _))) ?_
              refine go_lcmp X dX6_uses_105 ?_
              refine go_lcmp_le X (tgt := 118) dX6_uses_106 (by decide) (fun c106 => ?_) (fun c106 => ?_)
              · skip
                refine go_lv (lv2 := [(5, .int (nI d)), (4, .int (setS (useP nd (unX σ i) (vnX σ) (nn - 1) qq) (d + 1))), (0, .ref (ad (0))), (1, .int (nI i)), (2, .int (nI nn)), (3, .int (nI qq))]) (by rw [setS_f (P := useP nd (unX σ i) (vnX σ) (nn - 1) qq) (n := d) ((useP_le (IX_b hI (by omega)) hnd5 (by omega) (by omega)).mp c106)]) ?_
                refine go_iinc X (v := nI (d + 1)) (lv2 := [(5, .int (nI (d + 1))), (4, .int (setS (useP nd (unX σ i) (vnX σ) (nn - 1) qq) (d + 1))), (0, .ref (ad (0))), (1, .int (nI i)), (2, .int (nI nn)), (3, .int (nI qq))]) dX6_uses_118 (k := 0) rfl (nI_add d 1) (by decide) rfl ?_
                refine go_goto X (tgt := 58) dX6_uses_121 (by decide) ?_
                exact ih58 (d + 1) (by (try dsimp only); exact (by omega)) (by (try dsimp only); omega)
              · skip
                refine go_iload X dX6_uses_109 1 rfl ?_
                refine go_iconst X (v := 1) dX6_uses_111 (by decide) ?_
                refine go_iload X dX6_uses_112 0 rfl ?_
                refine go_ishl X dX6_uses_114 ?_
                refine go_ior X dX6_uses_115 ?_
                refine go_istore X (lv2 := [(4, .int ((setS (useP nd (unX σ i) (vnX σ) (nn - 1) qq) d) ||| (1 <<< ((nI d) &&& 31)))), (5, .int (nI d)), (0, .ref (ad (0))), (1, .int (nI i)), (2, .int (nI nn)), (3, .int (nI qq))]) dX6_uses_116 (by decide) rfl ?_
                refine go_lv (lv2 := [(4, .int (setS (useP nd (unX σ i) (vnX σ) (nn - 1) qq) (d + 1))), (5, .int (nI d)), (0, .ref (ad (0))), (1, .int (nI i)), (2, .int (nI nn)), (3, .int (nI qq))]) (by rw [setS_t (P := useP nd (unX σ i) (vnX σ) (nn - 1) qq) (n := d) (Classical.byContradiction fun q => c106 ((useP_le (IX_b hI (by omega)) hnd5 (by omega) (by omega)).mpr q))]) ?_
                refine go_iinc X (v := nI (d + 1)) (lv2 := [(5, .int (nI (d + 1))), (4, .int (setS (useP nd (unX σ i) (vnX σ) (nn - 1) qq) (d + 1))), (0, .ref (ad (0))), (1, .int (nI i)), (2, .int (nI nn)), (3, .int (nI qq))]) dX6_uses_118 (k := 1) rfl (nI_add d 1) (by decide) rfl ?_
                refine go_goto X (tgt := 58) dX6_uses_121 (by decide) ?_
                exact ih58 (d + 1) (by (try dsimp only); exact (by omega)) (by (try dsimp only); omega)
          · skip
            refine go_bipush X (v := (-2)) dX6_uses_34 (by decide) ?_
            exact go_ireturn X hr hlk dX6_uses_36 ((have hE : usesS (nI ns) nd (unX σ) (vnX σ) (nI i) n pp = (-2) := (by unfold usesS; (try dsimp only); (try rw [toN_nI (k := i) (by omega)]); exact (cif_t c8).trans ((cif_f c15).trans ((cif_f c21).trans ((cif_f c26).trans ((cif_f c31).trans (rfl)))))); ⟨hE, rfl⟩))
  · skip
    refine go_iconst X (v := (-1)) dX6_uses_11 (by decide) ?_
    exact go_ireturn X hr hlk dX6_uses_12 ((have hE : usesS (nI ns) nd (unX σ) (vnX σ) a n pp = (-1) := (by unfold usesS; (try dsimp only); exact (cif_f c8).trans (rfl)); ⟨hE, rfl⟩))

theorem hdX6_weighPapers : yX6_weighPapers.cls = RX6 ∧ yX6_weighPapers.cls ≠ "java/lang/invoke/MethodHandle" ∧ yX6_weighPapers.cls ≠ "java/lang/invoke/VarHandle" ∧ (parseMethodDescriptor yX6_weighPapers.desc).map (fun d => d.parameters.length) = some 1 := by decide +kernel
set_option maxHeartbeats 4000000 in
set_option maxRecDepth 100000 in
theorem kX6_weighPapers (l : Launch) (D : va_G) (cs : Nat → ClassId) (ad : Nat → Nat) (N kt : Nat) (hN : 58 ≤ N) (σ : vSg) (τ : vTa) (n : Nat) (nd : Nat) (ns : Nat) (nr : Nat)  (hI : IX σ nd ns nr) (hn : n < 9) : CtV l yX6_weighPapers wsX6_weighPapers ({ frames := 5, cells := 0, slots := 0, locals := 124 }) D cs ad N (shP kt) [.ref (ad (0)), .int (nI n)] σ τ 0 0 (fun σ9 τ9 => σ = σ9 ∧ (∀ a, a < ns → τ9 6 a = lN (hpN nd (unX σ a) (vnX σ) n 1) - lN (hpN nd (unX σ a) (vnX σ) n 0)) ∧ (0 < ns → τ9 36 n = lN (nd ^ n))) := by
  refine ct_V (cc := cX6_weighPapers) (maxL := 3) (by decide) rfl (Nat.le_of_ble_eq_true rfl) rfl rfl ?_
  intro p e s m args below meth c A X hr hlk
  obtain ⟨⟨hnd, hnd5⟩, ⟨hns, hns4⟩, hdd, hkp, ⟨hnr, hnr8⟩, hrd, hrw, hpos⟩ := id hI
  refine go_iconst X (v := 0) dX6_weighPapers_0 (by decide) ?_
  refine go_istore_n X (lv2 := [(2, .int 0), (0, .ref (ad (0))), (1, .int (nI n))]) dX6_weighPapers_1 rfl (by decide) rfl ?_
  refine go_loop (ι := Nat × vTa) (fun i9 => (i9.1 ≤ ns) ∧ (∀ b, b < i9.1 → i9.2 6 b = lN (hpN nd (unX σ b) (vnX σ) n 1) - lN (hpN nd (unX σ b) (vnX σ) n 0)) ∧ (0 < i9.1 → i9.2 36 n = lN (nd ^ n))) (fun i9 => ns - i9.1) (fun i9 => σ) (fun i9 => i9.2) (fun i9 => [(2, .int (nI i9.1)), (0, .ref (ad (0))), (1, .int (nI n))]) (fun i9 => []) (0, τ) (by (try dsimp only); exact ⟨Nat.zero_le _, fun _ h => absurd h (Nat.not_lt_zero _), fun h => absurd h (Nat.lt_irrefl _)⟩) ?_
  intro i9 hi9 ih2
  obtain ⟨a, ω⟩ := i9
  (try dsimp only at hi9); (try dsimp only at ih2); (try dsimp only)
  obtain ⟨ha, hG, hS⟩ := hi9
  refine go_iload_n X dX6_weighPapers_2 0 rfl rfl ?_
  refine go_aload_n X dX6_weighPapers_3 1 rfl rfl ?_
  refine go_getr X (n := 0) (j := 1) (by omega) rfl rfl (fun _ h9 => List.mem_cons_of_mem _ (List.mem_append_left _ (List.mem_append_left _ (List.mem_append_right _ h9)))) (by decide) (List.mem_cons_of_mem _ (List.mem_append_left _ (List.mem_append_left _ (List.mem_append_left _ (List.mem_append_left _ (List.mem_of_getElem? (i := 0) rfl)))))) rfl dX6_weighPapers_4 ?_
  refine go_geti X (n := 2) (j := 4) (by omega) rfl rfl (fun _ h9 => List.mem_cons_of_mem _ (List.mem_append_left _ (List.mem_append_right _ h9))) (by decide) (List.mem_cons_of_mem _ (List.mem_append_left _ (List.mem_append_left _ (List.mem_append_left _ (List.mem_append_left _ (List.mem_of_getElem? (i := 1) rfl)))))) rfl dX6_weighPapers_7 ?_
  refine go_topi (v := nI ns) (hns) ?_
  refine go_icmpn_ge X (tgt := 61) dX6_weighPapers_10 (by decide) (a := a) (b := ns) rfl rfl (by omega) (by omega) (fun c10 => ?_) (fun c10 => ?_)
  · skip
    exact go_return X hr hlk dX6_weighPapers_61 (⟨rfl, fun b hb => hG b (by omega), fun h => hS (by omega)⟩)
  · skip
    refine go_aload_n X dX6_weighPapers_13 1 rfl rfl ?_
    refine go_getr X (n := 0) (j := 3) (by omega) rfl rfl (fun _ h9 => List.mem_cons_of_mem _ (List.mem_append_left _ (List.mem_append_left _ (List.mem_append_right _ h9)))) (by decide) (List.mem_cons_of_mem _ (List.mem_append_left _ (List.mem_append_left _ (List.mem_append_left _ (List.mem_append_left _ (List.mem_of_getElem? (i := 2) rfl)))))) rfl dX6_weighPapers_14 ?_
    refine go_aload_n X dX6_weighPapers_17 1 rfl rfl ?_
    refine go_getr X (n := 0) (j := 1) (by omega) rfl rfl (fun _ h9 => List.mem_cons_of_mem _ (List.mem_append_left _ (List.mem_append_left _ (List.mem_append_right _ h9)))) (by decide) (List.mem_cons_of_mem _ (List.mem_append_left _ (List.mem_append_left _ (List.mem_append_left _ (List.mem_append_left _ (List.mem_of_getElem? (i := 0) rfl)))))) rfl dX6_weighPapers_18 ?_
    refine go_iload_n X dX6_weighPapers_21 0 rfl rfl ?_
    refine go_iload_n X dX6_weighPapers_22 2 rfl rfl ?_
    refine go_callVV X (n := 4) (As := [.ref (ad (2)), .int (nI a), .int (nI n)]) (rest := []) (kX0_lookAhead l D cs ad N kt (by omega) σ ω a n nd (by omega) (by omega) (by omega) (by omega)) gX6_weighPapers_X0_lookAhead rfl hdX0_lookAhead ⟨rfl, rfl, by decide, by decide, by decide, by decide⟩ (by omega) rfl rfl rfl rfl (Nat.le_of_ble_eq_true rfl) dX6_weighPapers_23 (fun σ1z τ1z h1z => ?_)
    obtain ⟨rfl, hτ1z⟩ := h1z
    refine go_aload_n X dX6_weighPapers_26 1 rfl rfl ?_
    refine go_getr X (n := 0) (j := 5) (by omega) rfl rfl (fun _ h9 => List.mem_cons_of_mem _ (List.mem_append_left _ (List.mem_append_left _ (List.mem_append_right _ h9)))) (by decide) (List.mem_cons_of_mem _ (List.mem_append_left _ (List.mem_append_left _ (List.mem_append_left _ (List.mem_append_left _ (List.mem_of_getElem? (i := 3) rfl)))))) rfl dX6_weighPapers_27 ?_
    refine go_iload_n X dX6_weighPapers_30 0 rfl rfl ?_
    refine go_aload_n X dX6_weighPapers_31 1 rfl rfl ?_
    refine go_getr X (n := 0) (j := 3) (by omega) rfl rfl (fun _ h9 => List.mem_cons_of_mem _ (List.mem_append_left _ (List.mem_append_left _ (List.mem_append_right _ h9)))) (by decide) (List.mem_cons_of_mem _ (List.mem_append_left _ (List.mem_append_left _ (List.mem_append_left _ (List.mem_append_left _ (List.mem_of_getElem? (i := 2) rfl)))))) rfl dX6_weighPapers_32 ?_
    refine go_getr X (n := 4) (j := 0) (by omega) rfl rfl (fun _ h9 => List.mem_cons_of_mem _ (List.mem_append_right _ h9)) (by decide) (List.mem_cons_of_mem _ (List.mem_append_left _ (List.mem_append_left _ (List.mem_append_left _ (List.mem_append_left _ (List.mem_of_getElem? (i := 4) rfl)))))) rfl dX6_weighPapers_35 ?_
    refine go_iload_n X dX6_weighPapers_38 2 rfl rfl ?_
    refine go_aald5 X (n := 35) (k := n) (by omega) rfl rfl (by omega) (by omega) dX6_weighPapers_39 ?_
    refine go_iconst X (v := 1) dX6_weighPapers_40 (by decide) ?_
    refine go_lald X (n := 25 + n) (k := 1) (by omega) (sh_hope (by omega)) rfl (by omega) (by omega) dX6_weighPapers_41 ?_
    refine go_topl (v := lN (hpN nd (unX σ a) (vnX σ) n 1)) (((hτ1z.2 n (by omega)).2 1 (by omega)).trans (hpX_N hI (by omega) (by omega) _)) ?_
    refine go_aload_n X dX6_weighPapers_42 1 rfl rfl ?_
    refine go_getr X (n := 0) (j := 3) (by omega) rfl rfl (fun _ h9 => List.mem_cons_of_mem _ (List.mem_append_left _ (List.mem_append_left _ (List.mem_append_right _ h9)))) (by decide) (List.mem_cons_of_mem _ (List.mem_append_left _ (List.mem_append_left _ (List.mem_append_left _ (List.mem_append_left _ (List.mem_of_getElem? (i := 2) rfl)))))) rfl dX6_weighPapers_43 ?_
    refine go_getr X (n := 4) (j := 0) (by omega) rfl rfl (fun _ h9 => List.mem_cons_of_mem _ (List.mem_append_right _ h9)) (by decide) (List.mem_cons_of_mem _ (List.mem_append_left _ (List.mem_append_left _ (List.mem_append_left _ (List.mem_append_left _ (List.mem_of_getElem? (i := 4) rfl)))))) rfl dX6_weighPapers_46 ?_
    refine go_iload_n X dX6_weighPapers_49 2 rfl rfl ?_
    refine go_aald5 X (n := 35) (k := n) (by omega) rfl rfl (by omega) (by omega) dX6_weighPapers_50 ?_
    refine go_iconst X (v := 0) dX6_weighPapers_51 (by decide) ?_
    refine go_lald X (n := 25 + n) (k := 0) (by omega) (sh_hope (by omega)) rfl (by omega) (by omega) dX6_weighPapers_52 ?_
    refine go_topl (v := lN (hpN nd (unX σ a) (vnX σ) n 0)) (((hτ1z.2 n (by omega)).2 0 (by omega)).trans (hpX_N hI (by omega) (by omega) _)) ?_
    refine go_lsub X dX6_weighPapers_53 ?_
    refine go_last X (n := 6) (k := a) (by omega) rfl rfl (by omega) (by omega) dX6_weighPapers_54 ?_
    refine go_iinc X (v := nI (a + 1)) (lv2 := [(2, .int (nI (a + 1))), (0, .ref (ad (0))), (1, .int (nI n))]) dX6_weighPapers_55 (k := 0) rfl (nI_add a 1) (by decide) rfl ?_
    refine go_goto X (tgt := 2) dX6_weighPapers_58 (by decide) ?_
    exact ih2 (a + 1, (up2 τ1z 6 a ((lN (hpN nd (unX σ a) (vnX σ) n 1)) - (lN (hpN nd (unX σ a) (vnX σ) n 0))))) (by (try dsimp only); exact ⟨by omega, fun b hb => by rcases Nat.lt_succ_iff_lt_or_eq.mp hb with h | h; rw [up2_ne (by omega), hτ1z.1 6 (by omega) (by omega)]; exact hG b h; rw [h, up2_self], fun _ => by rw [up2_ne (by omega)]; exact ((hτ1z.2 n (by omega)).1).trans (scS_N nd _)⟩) (by (try dsimp only); omega)

theorem hdX6_buyersAt : yX6_buyersAt.cls = RX6 ∧ yX6_buyersAt.cls ≠ "java/lang/invoke/MethodHandle" ∧ yX6_buyersAt.cls ≠ "java/lang/invoke/VarHandle" ∧ (parseMethodDescriptor yX6_buyersAt.desc).map (fun d => d.parameters.length) = some 2 := by decide +kernel
set_option maxHeartbeats 4000000 in
set_option maxRecDepth 100000 in
theorem kX6_buyersAt (l : Launch) (D : va_G) (cs : Nat → ClassId) (ad : Nat → Nat) (N kt : Nat) (hN : 58 ≤ N) (σ : vSg) (τ : vTa) (price : Int32) (n : Nat) (nd : Nat) (ns : Nat) (nr : Nat)   (hI : IX σ nd ns nr) (hn : n < 9) (hg9 : ∀ a, a < ns → τ 6 a = lN (hpN nd (unX σ a) (vnX σ) n 1) - lN (hpN nd (unX σ a) (vnX σ) n 0)) (hs9 : 0 < ns → τ 36 n = lN (nd ^ n)) : CtI l yX6_buyersAt wsX6_buyersAt ({ frames := 0, cells := 0, slots := 0, locals := 0 }) D cs ad N (shP kt) [.ref (ad (0)), .int price, .int (nI n)] σ τ 0 0 (fun r9 σ9 τ9 => buyS ns nd n (unX σ) (vnX σ) price = r9 ∧ σ = σ9 ∧ τ = τ9) := by
  refine ct_I (cc := cX6_buyersAt) (maxL := 5) (by decide) rfl (Nat.le_of_ble_eq_true rfl) rfl rfl ?_
  intro p e s m args below meth c A X hr hlk
  obtain ⟨⟨hnd, hnd5⟩, ⟨hns, hns4⟩, hdd, hkp, ⟨hnr, hnr8⟩, hrd, hrw, hpos⟩ := id hI
  refine go_iconst X (v := 0) dX6_buyersAt_0 (by decide) ?_
  refine go_istore_n X (lv2 := [(3, .int 0), (0, .ref (ad (0))), (1, .int price), (2, .int (nI n))]) dX6_buyersAt_1 rfl (by decide) rfl ?_
  refine go_iconst X (v := 0) dX6_buyersAt_2 (by decide) ?_
  refine go_istore X (lv2 := [(4, .int 0), (3, .int 0), (0, .ref (ad (0))), (1, .int price), (2, .int (nI n))]) dX6_buyersAt_3 (by decide) rfl ?_
  refine go_loop (ι := Nat) (fun i9 => (i9 ≤ ns)) (fun i9 => ns - i9) (fun i9 => σ) (fun i9 => τ) (fun i9 => [(4, .int (nI i9)), (3, .int (setS (buyP nd n (unX σ) (vnX σ) price) i9)), (0, .ref (ad (0))), (1, .int price), (2, .int (nI n))]) (fun i9 => []) 0 (by (try dsimp only); exact (Nat.zero_le _)) ?_
  intro i9 hi9 ih5
  obtain ⟨a, hv9⟩ : ∃ z, z = i9 := ⟨_, rfl⟩; subst hv9
  (try dsimp only at hi9); (try dsimp only at ih5); (try dsimp only)
  have ha := hi9
  refine go_iload X dX6_buyersAt_5 0 rfl ?_
  refine go_aload_n X dX6_buyersAt_7 2 rfl rfl ?_
  refine go_getr X (n := 0) (j := 1) (by omega) rfl rfl (fun _ h9 => List.mem_cons_of_mem _ (List.mem_append_left _ (List.mem_append_left _ (List.mem_append_right _ h9)))) (by decide) (List.mem_cons_of_mem _ (List.mem_append_left _ (List.mem_append_left _ (List.mem_append_left _ (List.mem_of_getElem? (i := 0) rfl))))) rfl dX6_buyersAt_8 ?_
  refine go_geti X (n := 2) (j := 4) (by omega) rfl rfl (fun _ h9 => List.mem_cons_of_mem _ (List.mem_append_left _ (List.mem_append_right _ h9))) (by decide) (List.mem_cons_of_mem _ (List.mem_append_left _ (List.mem_append_left _ (List.mem_append_left _ (List.mem_of_getElem? (i := 1) rfl))))) rfl dX6_buyersAt_11 ?_
  refine go_topi (v := nI ns) (hns) ?_
  refine go_icmpn_ge X (tgt := 53) dX6_buyersAt_14 (by decide) (a := a) (b := ns) rfl rfl (by omega) (by omega) (fun c14 => ?_) (fun c14 => ?_)
  · skip
    refine go_iload_n X dX6_buyersAt_53 1 rfl rfl ?_
    exact go_ireturn X hr hlk dX6_buyersAt_54 (⟨by rw [show a = ns by omega]; rfl, rfl, rfl⟩)
  · skip
    refine go_aload_n X dX6_buyersAt_17 2 rfl rfl ?_
    refine go_getr X (n := 0) (j := 5) (by omega) rfl rfl (fun _ h9 => List.mem_cons_of_mem _ (List.mem_append_left _ (List.mem_append_left _ (List.mem_append_right _ h9)))) (by decide) (List.mem_cons_of_mem _ (List.mem_append_left _ (List.mem_append_left _ (List.mem_append_left _ (List.mem_of_getElem? (i := 2) rfl))))) rfl dX6_buyersAt_18 ?_
    refine go_iload X dX6_buyersAt_21 0 rfl ?_
    refine go_lald X (n := 6) (k := a) (by omega) rfl rfl (by omega) (by omega) dX6_buyersAt_23 ?_
    refine go_topl (v := lN (hpN nd (unX σ a) (vnX σ) n 1) - lN (hpN nd (unX σ a) (vnX σ) n 0)) (hg9 a (by omega)) ?_
    refine go_iload_n X dX6_buyersAt_24 3 rfl rfl ?_
    refine go_i2l X (v := price.toInt64) dX6_buyersAt_25 rfl ?_
    refine go_aload_n X dX6_buyersAt_26 2 rfl rfl ?_
    refine go_getr X (n := 0) (j := 3) (by omega) rfl rfl (fun _ h9 => List.mem_cons_of_mem _ (List.mem_append_left _ (List.mem_append_left _ (List.mem_append_right _ h9)))) (by decide) (List.mem_cons_of_mem _ (List.mem_append_left _ (List.mem_append_left _ (List.mem_append_left _ (List.mem_of_getElem? (i := 3) rfl))))) rfl dX6_buyersAt_27 ?_
    refine go_getr X (n := 4) (j := 1) (by omega) rfl rfl (fun _ h9 => List.mem_cons_of_mem _ (List.mem_append_right _ h9)) (by decide) (List.mem_cons_of_mem _ (List.mem_append_left _ (List.mem_append_left _ (List.mem_append_left _ (List.mem_of_getElem? (i := 4) rfl))))) rfl dX6_buyersAt_30 ?_
    refine go_iload_n X dX6_buyersAt_33 4 rfl rfl ?_
    refine go_lald X (n := 36) (k := n) (by omega) rfl rfl (by omega) (by omega) dX6_buyersAt_34 ?_
    refine go_topl (v := lN (nd ^ n)) (hs9 (by omega)) ?_
    refine go_lmul X dX6_buyersAt_35 ?_
    refine go_lcmp X dX6_buyersAt_36 ?_
    refine go_lcmp_lt X (tgt := 47) dX6_buyersAt_37 (by decide) (fun c37 => ?_) (fun c37 => ?_)
    · skip
      refine go_lv (lv2 := [(4, .int (nI a)), (3, .int (setS (buyP nd n (unX σ) (vnX σ) price) (a + 1))), (0, .ref (ad (0))), (1, .int price), (2, .int (nI n))]) (by rw [setS_f (P := buyP nd n (unX σ) (vnX σ) price) (n := a) (fun q => q c37)]) ?_
      refine go_iinc X (v := nI (a + 1)) (lv2 := [(4, .int (nI (a + 1))), (3, .int (setS (buyP nd n (unX σ) (vnX σ) price) (a + 1))), (0, .ref (ad (0))), (1, .int price), (2, .int (nI n))]) dX6_buyersAt_47 (k := 0) rfl (nI_add a 1) (by decide) rfl ?_
      refine go_goto X (tgt := 5) dX6_buyersAt_50 (by decide) ?_
      exact ih5 (a + 1) (by (try dsimp only); exact (by omega)) (by (try dsimp only); omega)
    · skip
      refine go_iload_n X dX6_buyersAt_40 1 rfl rfl ?_
      refine go_iconst X (v := 1) dX6_buyersAt_41 (by decide) ?_
      refine go_iload X dX6_buyersAt_42 0 rfl ?_
      refine go_ishl X dX6_buyersAt_44 ?_
      refine go_ior X dX6_buyersAt_45 ?_
      refine go_istore_n X (lv2 := [(3, .int ((setS (buyP nd n (unX σ) (vnX σ) price) a) ||| (1 <<< ((nI a) &&& 31)))), (4, .int (nI a)), (0, .ref (ad (0))), (1, .int price), (2, .int (nI n))]) dX6_buyersAt_46 rfl (by decide) rfl ?_
      refine go_lv (lv2 := [(3, .int (setS (buyP nd n (unX σ) (vnX σ) price) (a + 1))), (4, .int (nI a)), (0, .ref (ad (0))), (1, .int price), (2, .int (nI n))]) (by rw [setS_t (P := buyP nd n (unX σ) (vnX σ) price) (n := a) c37]) ?_
      refine go_iinc X (v := nI (a + 1)) (lv2 := [(4, .int (nI (a + 1))), (3, .int (setS (buyP nd n (unX σ) (vnX σ) price) (a + 1))), (0, .ref (ad (0))), (1, .int price), (2, .int (nI n))]) dX6_buyersAt_47 (k := 1) rfl (nI_add a 1) (by decide) rfl ?_
      refine go_goto X (tgt := 5) dX6_buyersAt_50 (by decide) ?_
      exact ih5 (a + 1) (by (try dsimp only); exact (by omega)) (by (try dsimp only); omega)

theorem hdX6_buyers : yX6_buyers.cls = RX6 ∧ yX6_buyers.cls ≠ "java/lang/invoke/MethodHandle" ∧ yX6_buyers.cls ≠ "java/lang/invoke/VarHandle" ∧ (parseMethodDescriptor yX6_buyers.desc).map (fun d => d.parameters.length) = some 2 := by decide +kernel
set_option maxHeartbeats 4000000 in
set_option maxRecDepth 100000 in
theorem kX6_buyers (l : Launch) (D : va_G) (cs : Nat → ClassId) (ad : Nat → Nat) (N kt : Nat) (hN : 58 ≤ N) (σ : vSg) (τ : vTa) (price : Int32) (n : Int32) (nd : Nat) (ns : Nat) (nr : Nat)   (hI : IX σ nd ns nr) : CtI l yX6_buyers wsX6_buyers ({ frames := 6, cells := 0, slots := 0, locals := 146 }) D cs ad N (shP kt) [.ref (ad (0)), .int price, .int n] σ τ 0 0 (fun r9 σ9 τ9 => buyersS ns nd (unX σ) (vnX σ) price n = r9 ∧ σ = σ9) := by
  refine ct_I (cc := cX6_buyers) (maxL := 3) (by decide) rfl (Nat.le_of_ble_eq_true rfl) rfl rfl ?_
  intro p e s m args below meth c A X hr hlk
  obtain ⟨⟨hnd, hnd5⟩, ⟨hns, hns4⟩, hdd, hkp, ⟨hnr, hnr8⟩, hrd, hrw, hpos⟩ := id hI
  refine go_iload_n X dX6_buyers_0 1 rfl rfl ?_
  refine go_bipush X (v := 100) dX6_buyers_1 (by decide) ?_
  refine go_callSI X (As := [.int price, .int 100]) (rest := []) (kX6_isBelow l D cs ad N kt (by omega) σ τ price 100) gX6_buyers_X6_isBelow rfl hdX6_isBelow ⟨rfl, rfl, by decide, by decide, by decide, by decide⟩ rfl rfl (Nat.le_of_ble_eq_true rfl) dX6_buyers_3 (fun r9 σ9 τ9 h9 => ?_)
  obtain ⟨rfl, rfl, rfl⟩ := h9
  refine go_ifb_eq X (tgt := 18) dX6_buyers_6 (by decide) (fun c6 => ?_) (fun c6 => ?_)
  · skip
    refine go_bipush X (v := (-2)) dX6_buyers_18 (by decide) ?_
    exact go_ireturn X hr hlk dX6_buyers_20 ((have hE : buyersS ns nd (unX σ) (vnX σ) price n = (-2) := (by unfold buyersS; (try dsimp only); exact (cif_f c6).trans (rfl)); ⟨hE, rfl⟩))
  · skip
    refine go_iload_n X dX6_buyers_9 2 rfl rfl ?_
    refine go_bipush X (v := 9) dX6_buyers_10 (by decide) ?_
    refine go_callSI X (As := [.int n, .int 9]) (rest := []) (kX6_isBelow l D cs ad N kt (by omega) σ τ n 9) gX6_buyers_X6_isBelow rfl hdX6_isBelow ⟨rfl, rfl, by decide, by decide, by decide, by decide⟩ rfl rfl (Nat.le_of_ble_eq_true rfl) dX6_buyers_12 (fun r9 σ9 τ9 h9 => ?_)
    obtain ⟨rfl, rfl, rfl⟩ := h9
    refine go_ifb_ne X (tgt := 21) dX6_buyers_15 (by decide) (fun c15 => ?_) (fun c15 => ?_)
    · skip
      obtain ⟨nn, hnn, rfl⟩ := isB_nat (b := 9) c15 (by omega)
      refine go_aload_n X dX6_buyers_21 0 rfl rfl ?_
      refine go_getr X (n := 0) (j := 1) (by omega) rfl rfl (fun _ h9 => List.mem_cons_of_mem _ (List.mem_append_left _ (List.mem_append_left _ (List.mem_append_right _ h9)))) (by decide) (List.mem_cons_of_mem _ (List.mem_append_left _ (List.mem_append_left _ (List.mem_append_left _ (List.mem_append_left _ (List.mem_of_getElem? (i := 0) rfl)))))) rfl dX6_buyers_22 ?_
      refine go_callVI X (n := 2) (As := []) (rest := []) (kX2_isThere l D cs ad N kt (by omega) σ τ (nI ns) (hns)) gX6_buyers_X2_isThere rfl hdX2_isThere ⟨rfl, rfl, by decide, by decide, by decide, by decide⟩ (by omega) rfl rfl rfl rfl (Nat.le_of_ble_eq_true rfl) dX6_buyers_25 (fun r9 σ9 τ9 h9 => ?_)
      obtain ⟨rfl, rfl, rfl⟩ := h9
      refine go_ifb_ne X (tgt := 34) dX6_buyers_28 (by decide) (fun c28 => ?_) (fun c28 => ?_)
      · skip
        refine go_aload_n X dX6_buyers_34 0 rfl rfl ?_
        refine go_iload_n X dX6_buyers_35 2 rfl rfl ?_
        refine go_callVV X (n := 0) (As := [.int (nI nn)]) (rest := []) (kX6_weighPapers l D cs ad N kt (by omega) σ τ nn nd ns nr (by omega) (by omega)) gX6_buyers_X6_weighPapers rfl hdX6_weighPapers ⟨rfl, rfl, by decide, by decide, by decide, by decide⟩ (by omega) rfl rfl rfl rfl (Nat.le_of_ble_eq_true rfl) dX6_buyers_36 (fun σ1z τ1z h1z => ?_)
        obtain ⟨rfl, hg9, hs9⟩ := h1z
        refine go_aload_n X dX6_buyers_39 0 rfl rfl ?_
        refine go_iload_n X dX6_buyers_40 1 rfl rfl ?_
        refine go_iload_n X dX6_buyers_41 2 rfl rfl ?_
        refine go_callVI X (n := 0) (As := [.int price, .int (nI nn)]) (rest := []) (kX6_buyersAt l D cs ad N kt (by omega) σ τ1z price nn nd ns nr (by omega) (by omega) hg9 hs9) gX6_buyers_X6_buyersAt rfl hdX6_buyersAt ⟨rfl, rfl, by decide, by decide, by decide, by decide⟩ (by omega) rfl rfl rfl rfl (Nat.le_of_ble_eq_true rfl) dX6_buyers_42 (fun r9 σ9 τ9 h9 => ?_)
        obtain ⟨rfl, rfl, rfl⟩ := h9
        exact go_ireturn X hr hlk dX6_buyers_45 ((have hE : buyersS ns nd (unX σ) (vnX σ) price (nI nn) = buyS ns nd nn (unX σ) (vnX σ) price := (by unfold buyersS; (try dsimp only); (try rw [toN_nI (k := nn) (by omega)]); exact (cif_t c6).trans ((cif_t c15).trans ((cif_t c28).trans (rfl)))); ⟨hE, rfl⟩))
      · skip
        refine go_bipush X (v := (-3)) dX6_buyers_31 (by decide) ?_
        exact go_ireturn X hr hlk dX6_buyers_33 ((have hE : buyersS ns nd (unX σ) (vnX σ) price (nI nn) = (-3) := (by unfold buyersS; (try dsimp only); (try rw [toN_nI (k := nn) (by omega)]); exact (cif_t c6).trans ((cif_t c15).trans ((cif_f c28).trans (rfl)))); ⟨hE, rfl⟩))
    · skip
      refine go_bipush X (v := (-2)) dX6_buyers_18 (by decide) ?_
      exact go_ireturn X hr hlk dX6_buyers_20 ((have hE : buyersS ns nd (unX σ) (vnX σ) price n = (-2) := (by unfold buyersS; (try dsimp only); exact (cif_t c6).trans ((cif_f c15).trans (rfl))); ⟨hE, rfl⟩))

