def nkX (c : Nat → Int32) (nd ns : Nat) (ρ : vSg) : Prop := (nd ≤ 5 ∧ ns ≤ 4 ∧ 0 < nd ∧ 0 < ns) ∧ ρ 2 3 = nI nd ∧ ρ 2 4 = nI ns ∧ ρ 3 3 = 0 ∧ (∀ d, d < nd → ∀ w, w < 3 → ρ (20 + d) w = c (4 * d + 2 + w) - 48) ∧ ∀ a, a < ns → ρ 8 a = kndS (c (4 * nd + 3 * a + 2)) ∧ ρ 9 a = c (4 * nd + 3 * a + 3) - 48
theorem hdX6_kingdom : yX6_kingdom.cls = RX6 ∧ yX6_kingdom.cls ≠ "java/lang/invoke/MethodHandle" ∧ yX6_kingdom.cls ≠ "java/lang/invoke/VarHandle" ∧ (parseMethodDescriptor yX6_kingdom.desc).map (fun d => d.parameters.length) = some 4 := by decide +kernel
set_option maxHeartbeats 4000000 in
set_option maxRecDepth 100000 in
theorem kX6_kingdom (l : Launch) (D : va_G) (cs : Nat → ClassId) (ad : Nat → Nat) (kt : Nat) (σ : vSg) (τ : vTa) (k : Int32) (lane : Int32) (i : Int32) (n : Int32) (nd : Nat) (ns : Nat) (nr : Nat)  (hI : IX σ nd ns nr) : CtI l yX6_kingdom wsX6_kingdom ({ frames := 5, cells := 1, slots := 5, locals := 107 }) D cs ad 58 (shP kt) [.ref (ad (0)), .int k, .int lane, .int i, .int n] σ τ 1 5 (fun r9 σ9 τ9 => (kinS (fun z9 => σ (12 + z9) 1) (fun z9 => σ (12 + z9) 2) (fun z9 => σ (12 + z9) 3) (fun z9 y9 x9 => cdS (σ (16 + z9)) y9 x9) k lane i n).1 = r9 ∧ σ9 0 7 = (kinS (fun z9 => σ (12 + z9) 1) (fun z9 => σ (12 + z9) 2) (fun z9 => σ (12 + z9) 3) (fun z9 y9 x9 => cdS (σ (16 + z9)) y9 x9) k lane i n).2 ∧ σ9 0 6 = σ 0 6 ∧ (∀ q, q ≠ 0 → q ≠ 2 → q ≠ 3 → q ≠ 8 → q ≠ 9 → q < 20 ∨ 25 ≤ q → q ≠ 58 → σ9 q = σ q) ∧ (¬ tkP (fun z9 => σ (12 + z9) 1) (fun z9 => σ (12 + z9) 2) (fun z9 => σ (12 + z9) 3) (fun z9 y9 x9 => cdS (σ (16 + z9)) y9 x9) k lane i n → ∀ q, q ≠ 0 → q ≠ 58 → σ9 q = σ q) ∧ (tkP (fun z9 => σ (12 + z9) 1) (fun z9 => σ (12 + z9) 2) (fun z9 => σ (12 + z9) 3) (fun z9 y9 x9 => cdS (σ (16 + z9)) y9 x9) k lane i n → nkX (cdS (σ (16 + toN k)) (toN i) (toN n)) (pText ((fun z9 y9 x9 => cdS (σ (16 + z9)) y9 x9) (toN k) (toN i) (toN n)) (toN n)).2.1 (pText ((fun z9 y9 x9 => cdS (σ (16 + z9)) y9 x9) (toN k) (toN i) (toN n)) (toN n)).2.2 σ9) ∧ τ = τ9) := by
  refine ct_I (cc := cX6_kingdom) (maxL := 9) (by decide) rfl (Nat.le_of_ble_eq_true rfl) rfl rfl ?_
  intro p e s m args below meth c A X hr hlk
  obtain ⟨⟨hnd, hnd5⟩, ⟨hns, hns4⟩, hdd, hkp, ⟨hnr, hnr8⟩, hrd, hrw, hpos⟩ := id hI
  refine go_aload_n X dX6_kingdom_0 0 rfl rfl ?_
  refine go_iconst X (v := 0) dX6_kingdom_1 (by decide) ?_
  refine go_puti X (n := 0) (j := 7) (ty := .int) (by omega) rfl rfl (fun _ h9 => List.mem_cons_of_mem _ (List.mem_append_left _ (List.mem_append_left _ (List.mem_append_left _ (List.mem_append_left _ (List.mem_append_right _ h9)))))) (by decide) (List.mem_cons_of_mem _ (List.mem_append_left _ (List.mem_append_left _ (List.mem_append_left _ (List.mem_append_left _ (List.mem_append_left _ (List.mem_append_left _ (List.mem_of_getElem? (i := 0) rfl)))))))) rfl tyX6 tyX6_ok nmX6 rfl (by decide +kernel) rfl rfl dX6_kingdom_2 ?_
  refine go_iload_n X dX6_kingdom_5 1 rfl rfl ?_
  refine go_callSI X (As := [.int k]) (rest := []) (kX6_isSheet l D cs ad 58 kt (by omega) (up2 σ 0 7 0) τ k) gX6_kingdom_X6_isSheet rfl hdX6_isSheet ⟨rfl, rfl, by decide, by decide, by decide, by decide⟩ rfl rfl (Nat.le_of_ble_eq_true rfl) dX6_kingdom_6 (fun r9 σ9 τ9 h9 => ?_)
  obtain ⟨rfl, rfl, rfl⟩ := h9
  refine go_ifb_ne X (tgt := 14) dX6_kingdom_9 (by decide) (fun c9 => ?_) (fun c9 => ?_)
  · skip
    obtain ⟨kk, hkk, rfl⟩ := isB_nat (b := 4) c9 (by omega)
    refine go_iload_n X dX6_kingdom_14 2 rfl rfl ?_
    refine go_iconst X (v := 3) dX6_kingdom_15 (by decide) ?_
    refine go_callSI X (As := [.int lane, .int 3]) (rest := []) (kX6_isBelow l D cs ad 58 kt (by omega) (up2 σ 0 7 0) τ lane 3) gX6_kingdom_X6_isBelow rfl hdX6_isBelow ⟨rfl, rfl, by decide, by decide, by decide, by decide⟩ rfl rfl (Nat.le_of_ble_eq_true rfl) dX6_kingdom_16 (fun r9 σ9 τ9 h9 => ?_)
    obtain ⟨rfl, rfl, rfl⟩ := h9
    refine go_ifb_ne X (tgt := 25) dX6_kingdom_19 (by decide) (fun c19 => ?_) (fun c19 => ?_)
    · skip
      refine go_aload_n X dX6_kingdom_25 0 rfl rfl ?_
      refine go_getr X (n := 0) (j := 0) (by omega) rfl rfl (fun _ h9 => List.mem_cons_of_mem _ (List.mem_append_left _ (List.mem_append_left _ (List.mem_append_left _ (List.mem_append_left _ (List.mem_append_right _ h9)))))) (by decide) (List.mem_cons_of_mem _ (List.mem_append_left _ (List.mem_append_left _ (List.mem_append_left _ (List.mem_append_left _ (List.mem_append_left _ (List.mem_append_left _ (List.mem_of_getElem? (i := 1) rfl)))))))) rfl dX6_kingdom_26 ?_
      refine go_iload_n X dX6_kingdom_29 1 rfl rfl ?_
      refine go_aald3 X (n := 1) (k := kk) (by omega) rfl rfl (by omega) (by omega) dX6_kingdom_30 ?_
      refine go_astore X (lv2 := [(5, .ref (ad (12 + kk))), (0, .ref (ad (0))), (1, .int (nI kk)), (2, .int lane), (3, .int i), (4, .int n)]) dX6_kingdom_31 (by decide) rfl ?_
      refine go_aload X dX6_kingdom_33 0 rfl ?_
      refine go_iload_n X dX6_kingdom_35 3 rfl rfl ?_
      refine go_callSI X (As := [.ref (ad (12 + kk)), .int lane]) (rest := []) (kX6_faultAs l D cs ad 58 kt (by omega) (up2 σ 0 7 0) τ kk lane (σ (12 + kk) 1) ((up2_ne (by omega))) (σ (12 + kk) 2) ((up2_ne (by omega))) (by omega)) gX6_kingdom_X6_faultAs rfl hdX6_faultAs ⟨rfl, rfl, by decide, by decide, by decide, by decide⟩ rfl rfl (Nat.le_of_ble_eq_true rfl) dX6_kingdom_36 (fun r9 σ9 τ9 h9 => ?_)
      obtain ⟨rfl, rfl, rfl⟩ := h9
      refine go_istore X (lv2 := [(6, .int (fAsS (σ (12 + kk) 1) (σ (12 + kk) 2) lane)), (5, .ref (ad (12 + kk))), (0, .ref (ad (0))), (1, .int (nI kk)), (2, .int lane), (3, .int i), (4, .int n)]) dX6_kingdom_39 (by decide) rfl ?_
      refine go_iload X dX6_kingdom_41 0 rfl ?_
      refine go_if_eq X (tgt := 53) dX6_kingdom_43 (by decide) (fun c43 => ?_) (fun c43 => ?_)
      · skip
        refine go_iload X dX6_kingdom_53 6 rfl ?_
        refine go_if_ge X (tgt := 64) dX6_kingdom_55 (by decide) (fun c55 => ?_) (fun c55 => ?_)
        · skip
          refine go_aload X dX6_kingdom_64 1 rfl ?_
          refine go_iload_n X dX6_kingdom_66 5 rfl rfl ?_
          refine go_iload X dX6_kingdom_67 6 rfl ?_
          refine go_callVI X (n := 12 + kk) (As := [.int i, .int n]) (rest := []) (kX3_spans l D cs ad 58 kt (by omega) (up2 σ 0 7 0) τ kk i n (σ (12 + kk) 3) ((up2_ne (by omega))) (by omega)) gX6_kingdom_X3_spans rfl hdX3_spans ⟨rfl, rfl, by decide, by decide, by decide, by decide⟩ (by omega) (sh_row (by omega)) rfl rfl rfl (Nat.le_of_ble_eq_true rfl) dX6_kingdom_69 (fun r9 σ9 τ9 h9 => ?_)
          obtain ⟨rfl, rfl, rfl⟩ := h9
          refine go_ifb_ne X (tgt := 81) dX6_kingdom_72 (by decide) (fun c72 => ?_) (fun c72 => ?_)
          · skip
            obtain ⟨len, hlen, elen⟩ := isB_nat (b := 61) (hrw kk (by omega)).2 (by omega)
            obtain ⟨ii, nn, rfl, rfl, hsp⟩ := spanS_nat (len := len) (by rw [← elen]; exact c72) (by omega)
            refine go_mkText X (kk := kk) 1 5 6 (by omega) rfl rfl rfl ⟨by decide, by decide, by decide, by decide⟩ (fun ad9 hag X9 => ?_)
            refine go_lv (lv2 := [(6, .int (fAsS (σ (12 + kk) 1) (σ (12 + kk) 2) lane)), (5, .ref (ad9 (12 + kk))), (0, .ref (ad9 (0))), (1, .int (nI kk)), (2, .int lane), (3, .int (nI ii)), (4, .int (nI nn))]) (by rw [hag 0 (by omega), hag (12 + kk) (by omega)]) ?_
            revert hag X9; revert ad9; intro ad hag X
            refine go_astore X (lv2 := [(7, .ref (ad (58))), (6, .int (fAsS (σ (12 + kk) 1) (σ (12 + kk) 2) lane)), (5, .ref (ad (12 + kk))), (0, .ref (ad (0))), (1, .int (nI kk)), (2, .int lane), (3, .int (nI ii)), (4, .int (nI nn))]) dX6_kingdom_93 (by decide) rfl ?_
            refine go_aload X dX6_kingdom_95 0 rfl ?_
            refine go_callVI X (n := 58) (As := []) (rest := []) (kX4_firstFault l D cs ad 59 kk (by omega) (upT (up2 σ 0 7 0) (nI ii) (nI nn)) τ ii nn (σ (16 + kk)) (by omega) upT_1 upT_2 ((upT_row (by omega)).trans (up2_row (by omega))) (by omega)) gX6_kingdom_X4_firstFault rfl hdX4_firstFault ⟨rfl, rfl, by decide, by decide, by decide, by decide⟩ (by omega) rfl rfl rfl rfl (Nat.le_of_ble_eq_true rfl) dX6_kingdom_97 (fun r1z σ1z τ1z h1z => ?_)
            obtain ⟨rfl, hof, hcnt, rfl⟩ := h1z
            obtain ⟨ρ, hρ9⟩ : ∃ z, z = σ1z := ⟨_, rfl⟩; subst hρ9
            refine go_istore X (lv2 := [(8, .int ((pText (cdS (σ (16 + kk)) ii nn) nn).1)), (7, .ref (ad (58))), (6, .int (fAsS (σ (12 + kk) 1) (σ (12 + kk) 2) lane)), (5, .ref (ad (12 + kk))), (0, .ref (ad (0))), (1, .int (nI kk)), (2, .int lane), (3, .int (nI ii)), (4, .int (nI nn))]) dX6_kingdom_100 (by decide) rfl ?_
            refine go_iload X dX6_kingdom_102 0 rfl ?_
            refine go_iconst X (v := (-1)) dX6_kingdom_104 (by decide) ?_
            refine go_icmp_eq X (tgt := 114) dX6_kingdom_105 (by decide) (fun c105 => ?_) (fun c105 => ?_)
            · skip
              have hAll := pText_all c105
              refine go_aload_n X dX6_kingdom_114 4 rfl rfl ?_
              refine go_getr X (n := 0) (j := 1) (by omega) rfl rfl (fun _ h9 => List.mem_cons_of_mem _ (List.mem_append_left _ (List.mem_append_left _ (List.mem_append_left _ (List.mem_append_left _ (List.mem_append_right _ h9)))))) (by decide) (List.mem_cons_of_mem _ (List.mem_append_left _ (List.mem_append_left _ (List.mem_append_left _ (List.mem_append_left _ (List.mem_append_left _ (List.mem_append_left _ (List.mem_of_getElem? (i := 5) rfl)))))))) rfl dX6_kingdom_115 ?_
              refine go_aload X dX6_kingdom_118 1 rfl ?_
              refine go_callVV X (n := 2) (As := [.ref (ad (58))]) (rest := []) (kX2_found l D cs ad 59 kk (by omega) ρ τ ii nn (σ (16 + kk)) ((pText (cdS (σ (16 + kk)) ii nn) nn).2.1) ((pText (cdS (σ (16 + kk)) ii nn) nn).2.2) (by omega) hof.2.1 hof.2.2 ((hof.1 (16 + kk) (by omega)).trans ((upT_row (by omega)).trans (up2_row (by omega)))) (by omega) ((hcnt c105).1) ((hcnt c105).2) hAll.1.2 hAll.2.1.2) gX6_kingdom_X2_found rfl hdX2_found ⟨rfl, rfl, by decide, by decide, by decide, by decide⟩ (by omega) rfl rfl rfl rfl (Nat.le_of_ble_eq_true rfl) dX6_kingdom_120 (fun σ2z τ2z h2z => ?_)
              obtain ⟨rfl, hF⟩ := h2z
              obtain ⟨ψ, hψ9⟩ : ∃ z, z = σ2z := ⟨_, rfl⟩; subst hψ9
              refine go_aload_n X dX6_kingdom_123 4 rfl rfl ?_
              refine go_getr X (n := 0) (j := 2) (by omega) rfl rfl (fun _ h9 => List.mem_cons_of_mem _ (List.mem_append_left _ (List.mem_append_left _ (List.mem_append_left _ (List.mem_append_left _ (List.mem_append_right _ h9)))))) (by decide) (List.mem_cons_of_mem _ (List.mem_append_left _ (List.mem_append_left _ (List.mem_append_left _ (List.mem_append_left _ (List.mem_append_left _ (List.mem_append_left _ (List.mem_of_getElem? (i := 6) rfl)))))))) rfl dX6_kingdom_124 ?_
              refine go_iconst X (v := 0) dX6_kingdom_127 (by decide) ?_
              refine go_puti X (n := 3) (j := 3) (ty := .int) (by omega) rfl rfl (fun _ h9 => List.mem_cons_of_mem _ (List.mem_append_left _ (List.mem_append_left _ (List.mem_append_right _ h9)))) (by decide) (List.mem_cons_of_mem _ (List.mem_append_left _ (List.mem_append_left _ (List.mem_append_left _ (List.mem_append_left _ (List.mem_append_left _ (List.mem_append_left _ (List.mem_of_getElem? (i := 7) rfl)))))))) rfl tyX1 tyX1_ok nmX1 rfl (by decide +kernel) rfl rfl dX6_kingdom_128 ?_
              refine go_aload_n X dX6_kingdom_131 4 rfl rfl ?_
              refine go_getr X (n := 0) (j := 1) (by omega) rfl rfl (fun _ h9 => List.mem_cons_of_mem _ (List.mem_append_left _ (List.mem_append_left _ (List.mem_append_left _ (List.mem_append_left _ (List.mem_append_right _ h9)))))) (by decide) (List.mem_cons_of_mem _ (List.mem_append_left _ (List.mem_append_left _ (List.mem_append_left _ (List.mem_append_left _ (List.mem_append_left _ (List.mem_append_left _ (List.mem_of_getElem? (i := 5) rfl)))))))) rfl dX6_kingdom_132 ?_
              refine go_geti X (n := 2) (j := 4) (by omega) rfl rfl (fun _ h9 => List.mem_cons_of_mem _ (List.mem_append_left _ (List.mem_append_right _ h9))) (by decide) (List.mem_cons_of_mem _ (List.mem_append_left _ (List.mem_append_left _ (List.mem_append_left _ (List.mem_append_left _ (List.mem_append_left _ (List.mem_append_left _ (List.mem_of_getElem? (i := 8) rfl)))))))) rfl dX6_kingdom_135 ?_
              refine go_topi (v := nI ((pText (cdS (σ (16 + kk)) ii nn) nn).2.2)) ((up2_ne (by omega)).trans hF.2.2.1) ?_
              exact go_ireturn2 X hag hr hlk dX6_kingdom_138 ((have hE : kinS (fun z9 => σ (12 + z9) 1) (fun z9 => σ (12 + z9) 2) (fun z9 => σ (12 + z9) 3) (fun z9 y9 x9 => cdS (σ (16 + z9)) y9 x9) (nI kk) lane (nI ii) (nI nn) = (nI ((pText (cdS (σ (16 + kk)) ii nn) nn).2.2), 0) := (by unfold kinS; (try dsimp only); (try rw [toN_nI (k := kk) (by omega)]); (try rw [toN_nI (k := ii) (by omega)]); (try rw [toN_nI (k := nn) (by omega)]); exact (cif_t c9).trans ((cif_t c19).trans ((cif_t ((cif_t c43).trans ((cif_t c55).trans (cif_t c72)))).trans (cif_t c105)))); ⟨by rw [hE], by rw [hE, up2_row (by omega), (hF.1 0 (by omega) (by omega) (by omega) (by omega))]; exact (congrFun ((hof.1 0 (by omega)).trans (upT_row (by omega))) 7).trans up2_self, by rw [up2_row (by omega), (hF.1 0 (by omega) (by omega) (by omega) (by omega))]; exact (congrFun ((hof.1 0 (by omega)).trans (upT_row (by omega))) 6).trans (up2_ne (by omega)), fun q h h2 h3 h8 h9 h20 h58 => by rw [up2_row h3, hF.1 q h2 h8 h9 h20]; exact ((hof.1 q h58).trans (upT_row h58)).trans (up2_row h), fun q => absurd (by unfold tkP; (try dsimp only); (try rw [toN_nI (k := kk) (by omega)]); (try rw [toN_nI (k := ii) (by omega)]); (try rw [toN_nI (k := nn) (by omega)]); exact ⟨c9, c19, ((cif_t c43).trans ((cif_t c55).trans (cif_t c72))), c105⟩) q, fun _ => by (try dsimp only); (try rw [toN_nI (k := kk) (by omega)]); (try rw [toN_nI (k := ii) (by omega)]); (try rw [toN_nI (k := nn) (by omega)]); exact ⟨⟨hAll.1.2, hAll.2.1.2, hAll.1.1, hAll.2.1.1⟩, by rw [up2_ne (by omega)]; exact hF.2.1, by rw [up2_ne (by omega)]; exact hF.2.2.1, up2_self, fun d hd w hw => by rw [up2_row (by omega)]; exact hF.2.2.2.1 d hd w hw, fun a ha => by rw [up2_row (by omega), up2_row (by omega)]; exact hF.2.2.2.2 a ha⟩, rfl⟩))
            · skip
              refine go_bipush X (v := (-100)) dX6_kingdom_108 (by decide) ?_
              refine go_iload X dX6_kingdom_110 0 rfl ?_
              refine go_isub X dX6_kingdom_112 ?_
              exact go_ireturn2 X hag hr hlk dX6_kingdom_113 ((have hE : kinS (fun z9 => σ (12 + z9) 1) (fun z9 => σ (12 + z9) 2) (fun z9 => σ (12 + z9) 3) (fun z9 y9 x9 => cdS (σ (16 + z9)) y9 x9) (nI kk) lane (nI ii) (nI nn) = ((-100) - ((pText (cdS (σ (16 + kk)) ii nn) nn).1), 0) := (by unfold kinS; (try dsimp only); (try rw [toN_nI (k := kk) (by omega)]); (try rw [toN_nI (k := ii) (by omega)]); (try rw [toN_nI (k := nn) (by omega)]); exact (cif_t c9).trans ((cif_t c19).trans ((cif_t ((cif_t c43).trans ((cif_t c55).trans (cif_t c72)))).trans (cif_f c105)))); ⟨by rw [hE], by rw [hE]; exact (congrFun ((hof.1 0 (by omega)).trans (upT_row (by omega))) 7).trans up2_self, (congrFun ((hof.1 0 (by omega)).trans (upT_row (by omega))) 6).trans (up2_ne (by omega)), fun q h _ _ _ _ _ h8 => ((hof.1 q h8).trans (upT_row h8)).trans (up2_row h), fun _ q h h8 => ((hof.1 q h8).trans (upT_row h8)).trans (up2_row h), fun q => absurd q (fun q => by unfold tkP at q; (try dsimp only at q); (try rw [toN_nI (k := kk) (by omega)] at q); (try rw [toN_nI (k := ii) (by omega)] at q); (try rw [toN_nI (k := nn) (by omega)] at q); exact c105 q.2.2.2), rfl⟩))
          · skip
            refine go_aload_n X dX6_kingdom_75 2 rfl rfl ?_
            refine go_iconst X (v := 3) dX6_kingdom_76 (by decide) ?_
            refine go_callVI X (n := 0) (As := [.int 3]) (rest := []) (kX6_failed l D cs ad 58 kt (by omega) (up2 σ 0 7 0) τ 3) gX6_kingdom_X6_failed rfl hdX6_failed ⟨rfl, rfl, by decide, by decide, by decide, by decide⟩ (by omega) rfl rfl rfl rfl (Nat.le_of_ble_eq_true rfl) dX6_kingdom_77 (fun r9 σ9 τ9 h9 => ?_)
            obtain ⟨rfl, rfl, rfl⟩ := h9
            exact go_widen (k := 1) (n := 5) (by decide) (by decide) (go_ireturn X hr hlk dX6_kingdom_80 ((have hB : cbF (σ (12 + kk) 1) (σ (12 + kk) 2) (σ (12 + kk) 3) lane i n = 3 := (cif_t c43).trans ((cif_t c55).trans (cif_f c72)); have hE : kinS (fun z9 => σ (12 + z9) 1) (fun z9 => σ (12 + z9) 2) (fun z9 => σ (12 + z9) 3) (fun z9 y9 x9 => cdS (σ (16 + z9)) y9 x9) (nI kk) lane i n = ((-10) - 3, 3) := (by unfold kinS; (try dsimp only); (try rw [toN_nI (k := kk) (by omega)]); exact (cif_t c9).trans ((cif_t c19).trans ((cif_f (by rw [hB]; exact (by decide))).trans (congrArg (fun z => ((-10) - z, z)) hB)))); ⟨by rw [hE], by rw [hE]; exact up2_self, (up2_ne (by omega)).trans (up2_ne (by omega)), fun q h _ _ _ _ _ _ => (up2_row h).trans (up2_row h), fun _ q h _ => (up2_row h).trans (up2_row h), fun q => absurd q (fun q => by unfold tkP at q; (try dsimp only at q); (try rw [toN_nI (k := kk) (by omega)] at q); rw [hB] at q; exact absurd q.2.2.1 (by decide)), rfl⟩)))
        · skip
          refine go_aload_n X dX6_kingdom_58 2 rfl rfl ?_
          refine go_iconst X (v := 4) dX6_kingdom_59 (by decide) ?_
          refine go_callVI X (n := 0) (As := [.int 4]) (rest := []) (kX6_failed l D cs ad 58 kt (by omega) (up2 σ 0 7 0) τ 4) gX6_kingdom_X6_failed rfl hdX6_failed ⟨rfl, rfl, by decide, by decide, by decide, by decide⟩ (by omega) rfl rfl rfl rfl (Nat.le_of_ble_eq_true rfl) dX6_kingdom_60 (fun r9 σ9 τ9 h9 => ?_)
          obtain ⟨rfl, rfl, rfl⟩ := h9
          exact go_widen (k := 1) (n := 5) (by decide) (by decide) (go_ireturn X hr hlk dX6_kingdom_63 ((have hB : cbF (σ (12 + kk) 1) (σ (12 + kk) 2) (σ (12 + kk) 3) lane i n = 4 := (cif_t c43).trans (cif_f c55); have hE : kinS (fun z9 => σ (12 + z9) 1) (fun z9 => σ (12 + z9) 2) (fun z9 => σ (12 + z9) 3) (fun z9 y9 x9 => cdS (σ (16 + z9)) y9 x9) (nI kk) lane i n = ((-10) - 4, 4) := (by unfold kinS; (try dsimp only); (try rw [toN_nI (k := kk) (by omega)]); exact (cif_t c9).trans ((cif_t c19).trans ((cif_f (by rw [hB]; exact (by decide))).trans (congrArg (fun z => ((-10) - z, z)) hB)))); ⟨by rw [hE], by rw [hE]; exact up2_self, (up2_ne (by omega)).trans (up2_ne (by omega)), fun q h _ _ _ _ _ _ => (up2_row h).trans (up2_row h), fun _ q h _ => (up2_row h).trans (up2_row h), fun q => absurd q (fun q => by unfold tkP at q; (try dsimp only at q); (try rw [toN_nI (k := kk) (by omega)] at q); rw [hB] at q; exact absurd q.2.2.1 (by decide)), rfl⟩)))
      · skip
        refine go_aload_n X dX6_kingdom_46 2 rfl rfl ?_
        refine go_iload X dX6_kingdom_47 0 rfl ?_
        refine go_callVI X (n := 0) (As := [.int (fAsS (σ (12 + kk) 1) (σ (12 + kk) 2) lane)]) (rest := []) (kX6_failed l D cs ad 58 kt (by omega) (up2 σ 0 7 0) τ (fAsS (σ (12 + kk) 1) (σ (12 + kk) 2) lane)) gX6_kingdom_X6_failed rfl hdX6_failed ⟨rfl, rfl, by decide, by decide, by decide, by decide⟩ (by omega) rfl rfl rfl rfl (Nat.le_of_ble_eq_true rfl) dX6_kingdom_49 (fun r9 σ9 τ9 h9 => ?_)
        obtain ⟨rfl, rfl, rfl⟩ := h9
        exact go_widen (k := 1) (n := 5) (by decide) (by decide) (go_ireturn X hr hlk dX6_kingdom_52 ((have hB : cbF (σ (12 + kk) 1) (σ (12 + kk) 2) (σ (12 + kk) 3) lane i n = fAsS (σ (12 + kk) 1) (σ (12 + kk) 2) lane := cif_f c43; have hE : kinS (fun z9 => σ (12 + z9) 1) (fun z9 => σ (12 + z9) 2) (fun z9 => σ (12 + z9) 3) (fun z9 y9 x9 => cdS (σ (16 + z9)) y9 x9) (nI kk) lane i n = ((-10) - (fAsS (σ (12 + kk) 1) (σ (12 + kk) 2) lane), fAsS (σ (12 + kk) 1) (σ (12 + kk) 2) lane) := (by unfold kinS; (try dsimp only); (try rw [toN_nI (k := kk) (by omega)]); exact (cif_t c9).trans ((cif_t c19).trans ((cif_f (by rw [hB]; exact c43)).trans (congrArg (fun z => ((-10) - z, z)) hB)))); ⟨by rw [hE], by rw [hE]; exact up2_self, (up2_ne (by omega)).trans (up2_ne (by omega)), fun q h _ _ _ _ _ _ => (up2_row h).trans (up2_row h), fun _ q h _ => (up2_row h).trans (up2_row h), fun q => absurd q (fun q => by unfold tkP at q; (try dsimp only at q); (try rw [toN_nI (k := kk) (by omega)] at q); rw [hB] at q; exact absurd q.2.2.1 c43), rfl⟩)))
    · skip
      refine go_bipush X (v := (-2)) dX6_kingdom_22 (by decide) ?_
      exact go_widen (k := 1) (n := 5) (by decide) (by decide) (go_ireturn X hr hlk dX6_kingdom_24 ((have hE : kinS (fun z9 => σ (12 + z9) 1) (fun z9 => σ (12 + z9) 2) (fun z9 => σ (12 + z9) 3) (fun z9 y9 x9 => cdS (σ (16 + z9)) y9 x9) (nI kk) lane i n = ((-2), 0) := (by unfold kinS; (try dsimp only); (try rw [toN_nI (k := kk) (by omega)]); exact (cif_t c9).trans (cif_f c19)); ⟨by rw [hE], by rw [hE]; exact up2_self, up2_ne (by omega), fun q h _ _ _ _ _ _ => up2_row h, fun _ q h _ => up2_row h, fun q => absurd q (fun q => by unfold tkP at q; (try dsimp only at q); (try rw [toN_nI (k := kk) (by omega)] at q); exact c19 q.2.1), rfl⟩)))
  · skip
    refine go_iconst X (v := (-1)) dX6_kingdom_12 (by decide) ?_
    exact go_widen (k := 1) (n := 5) (by decide) (by decide) (go_ireturn X hr hlk dX6_kingdom_13 ((have hE : kinS (fun z9 => σ (12 + z9) 1) (fun z9 => σ (12 + z9) 2) (fun z9 => σ (12 + z9) 3) (fun z9 y9 x9 => cdS (σ (16 + z9)) y9 x9) k lane i n = ((-1), 0) := (by unfold kinS; (try dsimp only); exact cif_f c9); ⟨by rw [hE], by rw [hE]; exact up2_self, up2_ne (by omega), fun q h _ _ _ _ _ _ => up2_row h, fun _ q h _ => up2_row h, fun q => absurd q (fun q => by unfold tkP at q; (try dsimp only at q); exact c9 q.1), rfl⟩)))

