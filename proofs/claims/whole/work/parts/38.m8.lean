noncomputable def kinS (th la le : Nat → Int32) (cd : Nat → Nat → Nat → Nat → Int32) (k lane i n : Int32) : Int32 × Int32 := cif (isB k 4) (cif (isB lane 3) (cif (cbF (th (toN k)) (la (toN k)) (le (toN k)) lane i n = 0) (cif ((pText (cd (toN k) (toN i) (toN n)) (toN n)).1 = -1) (nI (pText (cd (toN k) (toN i) (toN n)) (toN n)).2.2, 0) (-100 - (pText (cd (toN k) (toN i) (toN n)) (toN n)).1, 0)) (-10 - cbF (th (toN k)) (la (toN k)) (le (toN k)) lane i n, cbF (th (toN k)) (la (toN k)) (le (toN k)) lane i n)) (-2, 0)) (-1, 0)
/-- a text is taken -/
def tkP (th la le : Nat → Int32) (cd : Nat → Nat → Nat → Nat → Int32) (k lane i n : Int32) : Prop := isB k 4 ∧ isB lane 3 ∧ cbF (th (toN k)) (la (toN k)) (le (toN k)) lane i n = 0 ∧ (pText (cd (toN k) (toN i) (toN n)) (toN n)).1 = -1
def nkM (c : Nat → Int32) (nd ns : Nat) (ρ : vSg) : Prop := (nd ≤ 5 ∧ ns ≤ 4 ∧ 0 < nd ∧ 0 < ns) ∧ ρ 38 1 = nI nd ∧ ρ 38 5 = nI ns ∧ ρ 38 21 = 0 ∧ (∀ d, d < nd → ρ 39 d = c (4 * d + 2) - 48 ∧ ρ 40 d = c (4 * d + 3) - 48 ∧ ρ 41 d = c (4 * d + 4) - 48) ∧ ∀ a, a < ns → ρ 42 a = kndS (c (4 * nd + 3 * a + 2)) ∧ ρ 43 a = c (4 * nd + 3 * a + 3) - 48
theorem hdX7_kingdom : yX7_kingdom.cls = RX7 ∧ yX7_kingdom.cls ≠ "java/lang/invoke/MethodHandle" ∧ yX7_kingdom.cls ≠ "java/lang/invoke/VarHandle" ∧ (parseMethodDescriptor yX7_kingdom.desc).map (fun d => d.parameters.length) = some 4 := by decide +kernel
set_option maxHeartbeats 4000000 in
set_option maxRecDepth 100000 in
theorem kX7_kingdom (l : Launch) (D : va_G) (cs : Nat → ClassId) (ad : Nat → Nat) (N kt : Nat) (hN : 58 ≤ N) (σ : vSg) (τ : vTa) (k : Int32) (lane : Int32) (i : Int32) (n : Int32) (nd : Nat) (ns : Nat) (nr : Nat)  (hI : IM σ nd ns nr) : CtI l yX7_kingdom wsX7_kingdom ({ frames := 4, cells := 0, slots := 0, locals := 99 }) D cs ad N (shP kt) [.ref (ad (38)), .int k, .int lane, .int i, .int n] σ τ 0 0 (fun r9 σ9 τ9 => (kinS (thM σ) (σ 55) (σ 54) (fun z9 y9 x9 => cdS (σ 56) (60 * z9 + y9) x9) k lane i n).1 = r9 ∧ σ9 38 0 = (kinS (thM σ) (σ 55) (σ 54) (fun z9 y9 x9 => cdS (σ 56) (60 * z9 + y9) x9) k lane i n).2 ∧ (∀ q, q ≠ 38 → q < 39 ∨ 48 < q → σ9 q = σ q) ∧ σ9 38 29 = σ 38 29 ∧ (¬ tkP (thM σ) (σ 55) (σ 54) (fun z9 y9 x9 => cdS (σ 56) (60 * z9 + y9) x9) k lane i n → (∀ q, 39 ≤ q → q ≤ 43 → σ9 q = σ q) ∧ σ9 38 1 = σ 38 1 ∧ σ9 38 5 = σ 38 5 ∧ σ9 38 21 = σ 38 21) ∧ (tkP (thM σ) (σ 55) (σ 54) (fun z9 y9 x9 => cdS (σ 56) (60 * z9 + y9) x9) k lane i n → nkM (cdS (σ 56) (60 * toN k + toN i) (toN n)) (pText ((fun z9 y9 x9 => cdS (σ 56) (60 * z9 + y9) x9) (toN k) (toN i) (toN n)) (toN n)).2.1 (pText ((fun z9 y9 x9 => cdS (σ 56) (60 * z9 + y9) x9) (toN k) (toN i) (toN n)) (toN n)).2.2 σ9) ∧ τ = τ9) := by
  refine ct_I (cc := cX7_kingdom) (maxL := 7) (by decide) rfl (Nat.le_of_ble_eq_true rfl) rfl rfl ?_
  intro p e s m args below meth c A X hr hlk
  obtain ⟨⟨hnd, hnd5⟩, ⟨hns, hns4⟩, hdd, hkp, ⟨hnr, hnr8⟩, hrd, hsh, hpos⟩ := id hI
  refine go_iload_n X dX7_kingdom_0 1 rfl rfl ?_
  refine go_callSI X (As := [.int k]) (rest := []) (kX7_noSheet l D cs ad N kt (by omega) σ τ k) gX7_kingdom_X7_noSheet rfl hdX7_noSheet ⟨rfl, rfl, by decide, by decide, by decide, by decide⟩ rfl rfl (Nat.le_of_ble_eq_true rfl) dX7_kingdom_1 (fun r9 σ9 τ9 h9 => ?_)
  obtain ⟨rfl, rfl, rfl⟩ := h9
  refine go_ifb_eq X (tgt := 13) dX7_kingdom_4 (by decide) (fun c4 => ?_) (fun c4 => ?_)
  · skip
    obtain ⟨kk, hkk, rfl⟩ := isB_nat (b := 4) (Classical.not_not.mp c4) (by omega)
    refine go_iload_n X dX7_kingdom_13 2 rfl rfl ?_
    refine go_i2l X (v := lane.toInt64) dX7_kingdom_14 rfl ?_
    refine go_lconst X (v := 0) dX7_kingdom_15 (by decide) ?_
    refine go_ldc2 X (v := 2) (List.mem_cons_of_mem _ (List.mem_append_left _ (List.mem_append_left _ (List.mem_of_getElem? (i := 0) rfl)))) dX7_kingdom_16 ?_
    refine go_callSI X (As := [.long lane.toInt64, .long 0, .long 2]) (rest := []) (kX7_in l D cs ad N kt (by omega) σ τ lane.toInt64 0 2) gX7_kingdom_X7_in rfl hdX7_in ⟨rfl, rfl, by decide, by decide, by decide, by decide⟩ rfl rfl (Nat.le_of_ble_eq_true rfl) dX7_kingdom_19 (fun r9 σ9 τ9 h9 => ?_)
    obtain ⟨rfl, rfl, rfl⟩ := h9
    refine go_topi (v := b2i (isB lane 3)) (b2i_c (in_iff rfl rfl)) ?_
    refine go_ifb_ne X (tgt := 32) dX7_kingdom_22 (by decide) (fun c22 => ?_) (fun c22 => ?_)
    · skip
      refine go_aload_n X dX7_kingdom_32 0 rfl rfl ?_
      refine go_iload_n X dX7_kingdom_33 1 rfl rfl ?_
      refine go_iload_n X dX7_kingdom_34 2 rfl rfl ?_
      refine go_iload_n X dX7_kingdom_35 3 rfl rfl ?_
      refine go_iload X dX7_kingdom_36 4 rfl ?_
      refine go_i2l X (v := n.toInt64) dX7_kingdom_38 rfl ?_
      refine go_callVI X (n := 38) (As := [.int (nI kk), .int lane, .int i, .long n.toInt64]) (rest := []) (kX7_cellsBarred l D cs ad N kt (by omega) σ τ kk lane i n (by omega) (hsh kk (by omega))) gX7_kingdom_X7_cellsBarred rfl hdX7_cellsBarred ⟨rfl, rfl, by decide, by decide, by decide, by decide⟩ (by omega) rfl rfl rfl rfl (Nat.le_of_ble_eq_true rfl) dX7_kingdom_39 (fun r9 σ9 τ9 h9 => ?_)
      obtain ⟨rfl, rfl, rfl⟩ := h9
      rcases cbF_c (th := thM σ kk) (la := σ 55 kk) (le := σ 54 kk) (lane := lane) (i := i) (n := n) with ⟨f9, g9, s9, e9⟩ | ⟨f9, g9, s9, e9⟩ | ⟨f9, g9, e9⟩ | ⟨f9, e9⟩ | ⟨f9, e9⟩
      · skip
        have r9 := cb_0 (σ := σ) e9
        refine go_topi (v := 0) r9.1 ?_
        refine go_sg (σ2 := σ) r9.2 ?_
        refine go_istore X (lv2 := [(5, .int 0), (0, .ref (ad (38))), (1, .int (nI kk)), (2, .int lane), (3, .int i), (4, .int n)]) dX7_kingdom_42 (by decide) rfl ?_
        refine go_iload X dX7_kingdom_44 0 rfl ?_
        refine go_if_ge X (tgt := 52) dX7_kingdom_46 (by decide) (fun _ => ?_) (fun h9 => absurd h9 (by decide))
        obtain ⟨len, hlen, elen⟩ := isB_nat (b := 61) ((hsh kk (by omega)).resolve_left (fun q => by rw [show σ 54 kk = -1 from q] at s9; exact absurd (Int32.le_trans s9.1 s9.2.1) (by decide))) (by omega)
        obtain ⟨ii, nn, rfl, rfl, hsp⟩ := spanS_nat (len := len) (by rw [← elen]; exact s9) (by omega)
        refine go_aload_n X dX7_kingdom_52 1 rfl rfl ?_
        refine go_bipush X (v := 60) dX7_kingdom_53 (by decide) ?_
        refine go_iload_n X dX7_kingdom_55 2 rfl rfl ?_
        refine go_imul X dX7_kingdom_56 ?_
        refine go_topi (v := nI (60 * kk)) (pk_mul 60 kk) ?_
        refine go_iload_n X dX7_kingdom_57 4 rfl rfl ?_
        refine go_iadd X dX7_kingdom_58 ?_
        refine go_topi (v := nI ((60 * kk) + ii)) (nI_add (60 * kk) ii) ?_
        refine go_iload X dX7_kingdom_59 5 rfl ?_
        refine go_callVI X (n := 38) (As := [.int (nI ((60 * kk) + ii)), .int (nI nn)]) (rest := []) (kX7_readsKingdom l D cs ad N kt (by omega) σ τ ((60 * kk) + ii) nn (σ 56) rfl (by omega)) gX7_kingdom_X7_readsKingdom rfl hdX7_readsKingdom ⟨rfl, rfl, by decide, by decide, by decide, by decide⟩ (by omega) rfl rfl rfl rfl (Nat.le_of_ble_eq_true rfl) dX7_kingdom_61 (fun r1z σ1z τ1z h1z => ?_)
        obtain ⟨hRK, rfl⟩ := h1z
        obtain ⟨ρ, hρ9⟩ : ∃ z, z = σ1z := ⟨_, rfl⟩; subst hρ9
        refine go_topi (v := b2i ((pText (cdS (σ 56) (60 * kk + ii) nn) nn).1 = -1)) hRK.2.1.symm ?_
        refine go_ifb_ne X (tgt := 79) dX7_kingdom_64 (by decide) (fun c64 => ?_) (fun c64 => ?_)
        · skip
          obtain ⟨hK5, hK4, hKd, hKs, hK9, hK10, hKD, hKA⟩ := hRK.2.2.2 c64
          refine go_aload_n X dX7_kingdom_79 1 rfl rfl ?_
          refine go_aload_n X dX7_kingdom_80 1 rfl rfl ?_
          refine go_geti X (n := 38) (j := 9) (by omega) rfl rfl (fun _ h9 => List.mem_cons_of_mem _ (List.mem_append_right _ h9)) (by decide) (List.mem_cons_of_mem _ (List.mem_append_left _ (List.mem_append_left _ (List.mem_of_getElem? (i := 2) rfl)))) rfl dX7_kingdom_81 ?_
          refine go_topi (v := nI ((pText (cdS (σ 56) (60 * kk + ii) nn) nn).2.1)) (hK9) ?_
          refine go_puti X (n := 38) (j := 1) (ty := .int) (by omega) rfl rfl (fun _ h9 => List.mem_cons_of_mem _ (List.mem_append_right _ h9)) (by decide) (List.mem_cons_of_mem _ (List.mem_append_left _ (List.mem_append_left _ (List.mem_of_getElem? (i := 3) rfl)))) rfl tyX7 tyX7_ok nmX7 rfl (by decide +kernel) rfl rfl dX7_kingdom_84 ?_
          refine go_aload_n X dX7_kingdom_87 1 rfl rfl ?_
          refine go_aload_n X dX7_kingdom_88 1 rfl rfl ?_
          refine go_geti X (n := 38) (j := 10) (by omega) rfl rfl (fun _ h9 => List.mem_cons_of_mem _ (List.mem_append_right _ h9)) (by decide) (List.mem_cons_of_mem _ (List.mem_append_left _ (List.mem_append_left _ (List.mem_of_getElem? (i := 4) rfl)))) rfl dX7_kingdom_89 ?_
          refine go_topi (v := nI ((pText (cdS (σ 56) (60 * kk + ii) nn) nn).2.2)) ((up2_ne (by omega)).trans hK10) ?_
          refine go_puti X (n := 38) (j := 5) (ty := .int) (by omega) rfl rfl (fun _ h9 => List.mem_cons_of_mem _ (List.mem_append_right _ h9)) (by decide) (List.mem_cons_of_mem _ (List.mem_append_left _ (List.mem_append_left _ (List.mem_of_getElem? (i := 5) rfl)))) rfl tyX7 tyX7_ok nmX7 rfl (by decide +kernel) rfl rfl dX7_kingdom_92 ?_
          refine go_iconst X (v := 0) dX7_kingdom_95 (by decide) ?_
          refine go_istore X (lv2 := [(6, .int 0), (5, .int 0), (0, .ref (ad (38))), (1, .int (nI kk)), (2, .int lane), (3, .int (nI ii)), (4, .int (nI nn))]) dX7_kingdom_96 (by decide) rfl ?_
          refine go_loop (ι := Nat × vSg) (fun i9 => (i9.1 ≤ (pText (cdS (σ 56) (60 * kk + ii) nn) nn).2.1) ∧ (∀ q, q ≠ 38 → q < 39 ∨ 41 < q → i9.2 q = ρ q) ∧ (∀ j, j ≠ 1 → j ≠ 5 → i9.2 38 j = ρ 38 j) ∧ (i9.2 38 1 = nI (pText (cdS (σ 56) (60 * kk + ii) nn) nn).2.1) ∧ (i9.2 38 5 = nI (pText (cdS (σ 56) (60 * kk + ii) nn) nn).2.2) ∧ (∀ d, d < i9.1 → i9.2 39 d = ρ 44 d ∧ i9.2 40 d = ρ 45 d ∧ i9.2 41 d = ρ 46 d)) (fun i9 => (pText (cdS (σ 56) (60 * kk + ii) nn) nn).2.1 - i9.1) (fun i9 => i9.2) (fun i9 => τ) (fun i9 => [(6, .int (nI i9.1)), (5, .int 0), (0, .ref (ad (38))), (1, .int (nI kk)), (2, .int lane), (3, .int (nI ii)), (4, .int (nI nn))]) (fun i9 => []) (0, (up2 (up2 ρ 38 1 (nI ((pText (cdS (σ 56) (60 * kk + ii) nn) nn).2.1))) 38 5 (nI ((pText (cdS (σ 56) (60 * kk + ii) nn) nn).2.2)))) (by (try dsimp only); exact ⟨Nat.zero_le _, fun q h38 _ => by rw [up2_row h38, up2_row h38], fun j j1 j5 => by rw [up2_ne (by omega), up2_ne (by omega)], by rw [up2_ne (by omega), up2_self], up2_self, fun _ h => absurd h (Nat.not_lt_zero _)⟩) ?_
          intro i9 hi9 ih98
          obtain ⟨x, ϕ⟩ := i9
          (try dsimp only at hi9); (try dsimp only at ih98); (try dsimp only)
          obtain ⟨hx, h0, hj, h1, h5, hdd2⟩ := hi9
          refine go_iload X dX7_kingdom_98 0 rfl ?_
          refine go_aload_n X dX7_kingdom_100 2 rfl rfl ?_
          refine go_geti X (n := 38) (j := 1) (by omega) rfl rfl (fun _ h9 => List.mem_cons_of_mem _ (List.mem_append_right _ h9)) (by decide) (List.mem_cons_of_mem _ (List.mem_append_left _ (List.mem_append_left _ (List.mem_of_getElem? (i := 3) rfl)))) rfl dX7_kingdom_101 ?_
          refine go_topi (v := nI ((pText (cdS (σ 56) (60 * kk + ii) nn) nn).2.1)) (h1) ?_
          refine go_icmpn_ge X (tgt := 155) dX7_kingdom_104 (by decide) (a := x) (b := (pText (cdS (σ 56) (60 * kk + ii) nn) nn).2.1) rfl rfl (by omega) (by omega) (fun c104 => ?_) (fun c104 => ?_)
          · skip
            refine go_iconst X (v := 0) dX7_kingdom_155 (by decide) ?_
            refine go_istore X (lv2 := [(6, .int 0), (5, .int 0), (0, .ref (ad (38))), (1, .int (nI kk)), (2, .int lane), (3, .int (nI ii)), (4, .int (nI nn))]) dX7_kingdom_156 (by decide) rfl ?_
            refine go_loop (ι := Nat × vSg) (fun i9 => (i9.1 ≤ (pText (cdS (σ 56) (60 * kk + ii) nn) nn).2.2) ∧ (∀ q, q ≠ 38 → q < 39 ∨ 43 < q → i9.2 q = ρ q) ∧ (∀ j, j ≠ 1 → j ≠ 5 → i9.2 38 j = ρ 38 j) ∧ (i9.2 38 1 = nI (pText (cdS (σ 56) (60 * kk + ii) nn) nn).2.1) ∧ (i9.2 38 5 = nI (pText (cdS (σ 56) (60 * kk + ii) nn) nn).2.2) ∧ (∀ d, d < (pText (cdS (σ 56) (60 * kk + ii) nn) nn).2.1 → i9.2 39 d = ρ 44 d ∧ i9.2 40 d = ρ 45 d ∧ i9.2 41 d = ρ 46 d) ∧ (∀ a, a < i9.1 → i9.2 42 a = ρ 47 a ∧ i9.2 43 a = ρ 48 a)) (fun i9 => (pText (cdS (σ 56) (60 * kk + ii) nn) nn).2.2 - i9.1) (fun i9 => i9.2) (fun i9 => τ) (fun i9 => [(6, .int (nI i9.1)), (5, .int 0), (0, .ref (ad (38))), (1, .int (nI kk)), (2, .int lane), (3, .int (nI ii)), (4, .int (nI nn))]) (fun i9 => []) (0, ϕ) (by (try dsimp only); exact ⟨Nat.zero_le _, fun q h38 h9 => h0 q h38 (by omega), hj, h1, h5, fun d hd => hdd2 d (by omega), fun _ h => absurd h (Nat.not_lt_zero _)⟩) ?_
            intro i9 hi9 ih158
            obtain ⟨x, ψ⟩ := i9
            (try dsimp only at hi9); (try dsimp only at ih158); (try dsimp only)
            obtain ⟨hx, h0, hj, h1, h5, hdd2, haa⟩ := hi9
            refine go_iload X dX7_kingdom_158 0 rfl ?_
            refine go_aload_n X dX7_kingdom_160 2 rfl rfl ?_
            refine go_geti X (n := 38) (j := 5) (by omega) rfl rfl (fun _ h9 => List.mem_cons_of_mem _ (List.mem_append_right _ h9)) (by decide) (List.mem_cons_of_mem _ (List.mem_append_left _ (List.mem_append_left _ (List.mem_of_getElem? (i := 5) rfl)))) rfl dX7_kingdom_161 ?_
            refine go_topi (v := nI ((pText (cdS (σ 56) (60 * kk + ii) nn) nn).2.2)) (h5) ?_
            refine go_icmpn_ge X (tgt := 201) dX7_kingdom_164 (by decide) (a := x) (b := (pText (cdS (σ 56) (60 * kk + ii) nn) nn).2.2) rfl rfl (by omega) (by omega) (fun c164 => ?_) (fun c164 => ?_)
            · skip
              refine go_aload_n X dX7_kingdom_201 2 rfl rfl ?_
              refine go_iconst X (v := 0) dX7_kingdom_202 (by decide) ?_
              refine go_puti X (n := 38) (j := 21) (ty := .int) (by omega) rfl rfl (fun _ h9 => List.mem_cons_of_mem _ (List.mem_append_right _ h9)) (by decide) (List.mem_cons_of_mem _ (List.mem_append_left _ (List.mem_append_left _ (List.mem_of_getElem? (i := 16) rfl)))) rfl tyX7 tyX7_ok nmX7 rfl (by decide +kernel) rfl rfl dX7_kingdom_203 ?_
              refine go_aload_n X dX7_kingdom_206 2 rfl rfl ?_
              refine go_aload_n X dX7_kingdom_207 2 rfl rfl ?_
              refine go_geti X (n := 38) (j := 5) (by omega) rfl rfl (fun _ h9 => List.mem_cons_of_mem _ (List.mem_append_right _ h9)) (by decide) (List.mem_cons_of_mem _ (List.mem_append_left _ (List.mem_append_left _ (List.mem_of_getElem? (i := 5) rfl)))) rfl dX7_kingdom_208 ?_
              refine go_topi (v := nI ((pText (cdS (σ 56) (60 * kk + ii) nn) nn).2.2)) ((up2_ne (by omega)).trans h5) ?_
              refine go_callVI X (n := 38) (As := [.int (nI ((pText (cdS (σ 56) (60 * kk + ii) nn) nn).2.2))]) (rest := []) (kX7_refused l D cs ad N kt (by omega) (up2 ψ 38 21 0) τ (nI ((pText (cdS (σ 56) (60 * kk + ii) nn) nn).2.2))) gX7_kingdom_X7_refused rfl hdX7_refused ⟨rfl, rfl, by decide, by decide, by decide, by decide⟩ (by omega) rfl rfl rfl rfl (Nat.le_of_ble_eq_true rfl) dX7_kingdom_211 (fun r9 σ9 τ9 h9 => ?_)
              obtain ⟨rfl, rfl, rfl⟩ := h9
              exact go_ireturn X hr hlk dX7_kingdom_214 ((have hE : kinS (thM σ) (σ 55) (σ 54) (fun z9 y9 x9 => cdS (σ 56) (60 * z9 + y9) x9) (nI kk) lane (nI ii) (nI nn) = ((nI ((pText (cdS (σ 56) (60 * kk + ii) nn) nn).2.2)), 0) := (by unfold kinS; (try dsimp only); (try rw [toN_nI (k := kk) (by omega)]); (try rw [toN_nI (k := ii) (by omega)]); (try rw [toN_nI (k := nn) (by omega)]); exact (cif_t (Classical.not_not.mp c4)).trans ((cif_t c22).trans ((cif_t e9).trans (cif_t c64)))); ⟨by rw [hE], by rw [hE]; exact up2_self, fun q h38 h9 => by rw [up2_row h38, up2_row h38, h0 q h38 (by omega)]; exact hRK.1.1 q h38 (by omega), by rw [up2_ne (by omega), up2_ne (by omega), hj 29 (by omega) (by omega)]; exact hRK.1.2 29 (by omega), fun q => absurd (by unfold tkP; (try dsimp only); (try rw [toN_nI (k := kk) (by omega)]); (try rw [toN_nI (k := ii) (by omega)]); (try rw [toN_nI (k := nn) (by omega)]); exact ⟨(Classical.not_not.mp c4), c22, e9, c64⟩) q, fun _ => by (try dsimp only); (try rw [toN_nI (k := kk) (by omega)]); (try rw [toN_nI (k := ii) (by omega)]); (try rw [toN_nI (k := nn) (by omega)]); exact ⟨⟨hK5, hK4, hKd, hKs⟩, by rw [up2_ne (by omega), up2_ne (by omega)]; exact h1, by rw [up2_ne (by omega), up2_ne (by omega)]; exact h5, by rw [up2_ne (by omega), up2_self], fun d hd => by rw [up2_row (by omega), up2_row (by omega), up2_row (by omega), up2_row (by omega), up2_row (by omega), up2_row (by omega), (hdd2 d hd).1, (hdd2 d hd).2.1, (hdd2 d hd).2.2]; exact hKD d hd, fun a ha => by rw [up2_row (by omega), up2_row (by omega), up2_row (by omega), up2_row (by omega), (haa a (by omega)).1, (haa a (by omega)).2]; exact hKA a ha⟩, rfl⟩))
            · skip
              refine go_aload_n X dX7_kingdom_167 2 rfl rfl ?_
              refine go_getr X (n := 38) (j := 6) (by omega) rfl rfl (fun _ h9 => List.mem_cons_of_mem _ (List.mem_append_right _ h9)) (by decide) (List.mem_cons_of_mem _ (List.mem_append_left _ (List.mem_append_left _ (List.mem_of_getElem? (i := 12) rfl)))) rfl dX7_kingdom_168 ?_
              refine go_iload X dX7_kingdom_171 0 rfl ?_
              refine go_aload_n X dX7_kingdom_173 2 rfl rfl ?_
              refine go_getr X (n := 38) (j := 14) (by omega) rfl rfl (fun _ h9 => List.mem_cons_of_mem _ (List.mem_append_right _ h9)) (by decide) (List.mem_cons_of_mem _ (List.mem_append_left _ (List.mem_append_left _ (List.mem_of_getElem? (i := 13) rfl)))) rfl dX7_kingdom_174 ?_
              refine go_iload X dX7_kingdom_177 0 rfl ?_
              refine go_iald X (n := 47) (k := x) (by omega) rfl rfl (by omega) (by omega) dX7_kingdom_179 ?_
              refine go_topi (v := ρ 47 x) (congrFun (h0 47 (by omega) (by omega)) x) ?_
              refine go_iast X (n := 42) (k := x) (by omega) rfl rfl (by omega) (by omega) dX7_kingdom_180 ?_
              refine go_aload_n X dX7_kingdom_181 2 rfl rfl ?_
              refine go_getr X (n := 38) (j := 7) (by omega) rfl rfl (fun _ h9 => List.mem_cons_of_mem _ (List.mem_append_right _ h9)) (by decide) (List.mem_cons_of_mem _ (List.mem_append_left _ (List.mem_append_left _ (List.mem_of_getElem? (i := 14) rfl)))) rfl dX7_kingdom_182 ?_
              refine go_iload X dX7_kingdom_185 0 rfl ?_
              refine go_aload_n X dX7_kingdom_187 2 rfl rfl ?_
              refine go_getr X (n := 38) (j := 15) (by omega) rfl rfl (fun _ h9 => List.mem_cons_of_mem _ (List.mem_append_right _ h9)) (by decide) (List.mem_cons_of_mem _ (List.mem_append_left _ (List.mem_append_left _ (List.mem_of_getElem? (i := 15) rfl)))) rfl dX7_kingdom_188 ?_
              refine go_iload X dX7_kingdom_191 0 rfl ?_
              refine go_iald X (n := 48) (k := x) (by omega) rfl rfl (by omega) (by omega) dX7_kingdom_193 ?_
              refine go_topi (v := ψ 48 x) ((up2_ne (by omega))) ?_
              refine go_topi (v := ρ 48 x) (congrFun (h0 48 (by omega) (by omega)) x) ?_
              refine go_iast X (n := 43) (k := x) (by omega) rfl rfl (by omega) (by omega) dX7_kingdom_194 ?_
              refine go_iinc X (v := nI (x + 1)) (lv2 := [(6, .int (nI (x + 1))), (5, .int 0), (0, .ref (ad (38))), (1, .int (nI kk)), (2, .int lane), (3, .int (nI ii)), (4, .int (nI nn))]) dX7_kingdom_195 (k := 0) rfl (nI_add x 1) (by decide) rfl ?_
              refine go_goto X (tgt := 158) dX7_kingdom_198 (by decide) ?_
              exact ih158 (x + 1, (up2 (up2 ψ 42 x (ρ 47 x)) 43 x (ρ 48 x))) (by (try dsimp only); exact ⟨by omega, fun q h38 h9 => by rw [up2_row (by omega), up2_row (by omega)]; exact h0 q h38 h9, fun j j1 j5 => by rw [up2_ne (by omega), up2_ne (by omega)]; exact hj j j1 j5, by rw [up2_ne (by omega), up2_ne (by omega)]; exact h1, by rw [up2_ne (by omega), up2_ne (by omega)]; exact h5, fun d hd => by rw [up2_ne (by omega), up2_ne (by omega), up2_ne (by omega), up2_ne (by omega), up2_ne (by omega), up2_ne (by omega)]; exact hdd2 d hd, fun a ha => by rcases Nat.lt_succ_iff_lt_or_eq.mp ha with h | h; rw [up2_ne (by omega), up2_ne (by omega), up2_ne (by omega), up2_ne (by omega)]; exact haa a h; rw [h]; refine ⟨?_, ?_⟩; rw [up2_ne (by omega), up2_self]; rw [up2_self]⟩) (by (try dsimp only); omega)
          · skip
            refine go_aload_n X dX7_kingdom_107 2 rfl rfl ?_
            refine go_getr X (n := 38) (j := 2) (by omega) rfl rfl (fun _ h9 => List.mem_cons_of_mem _ (List.mem_append_right _ h9)) (by decide) (List.mem_cons_of_mem _ (List.mem_append_left _ (List.mem_append_left _ (List.mem_of_getElem? (i := 6) rfl)))) rfl dX7_kingdom_108 ?_
            refine go_iload X dX7_kingdom_111 0 rfl ?_
            refine go_aload_n X dX7_kingdom_113 2 rfl rfl ?_
            refine go_getr X (n := 38) (j := 11) (by omega) rfl rfl (fun _ h9 => List.mem_cons_of_mem _ (List.mem_append_right _ h9)) (by decide) (List.mem_cons_of_mem _ (List.mem_append_left _ (List.mem_append_left _ (List.mem_of_getElem? (i := 7) rfl)))) rfl dX7_kingdom_114 ?_
            refine go_iload X dX7_kingdom_117 0 rfl ?_
            refine go_iald X (n := 44) (k := x) (by omega) rfl rfl (by omega) (by omega) dX7_kingdom_119 ?_
            refine go_topi (v := ρ 44 x) (congrFun (h0 44 (by omega) (by omega)) x) ?_
            refine go_iast X (n := 39) (k := x) (by omega) rfl rfl (by omega) (by omega) dX7_kingdom_120 ?_
            refine go_aload_n X dX7_kingdom_121 2 rfl rfl ?_
            refine go_getr X (n := 38) (j := 3) (by omega) rfl rfl (fun _ h9 => List.mem_cons_of_mem _ (List.mem_append_right _ h9)) (by decide) (List.mem_cons_of_mem _ (List.mem_append_left _ (List.mem_append_left _ (List.mem_of_getElem? (i := 8) rfl)))) rfl dX7_kingdom_122 ?_
            refine go_iload X dX7_kingdom_125 0 rfl ?_
            refine go_aload_n X dX7_kingdom_127 2 rfl rfl ?_
            refine go_getr X (n := 38) (j := 12) (by omega) rfl rfl (fun _ h9 => List.mem_cons_of_mem _ (List.mem_append_right _ h9)) (by decide) (List.mem_cons_of_mem _ (List.mem_append_left _ (List.mem_append_left _ (List.mem_of_getElem? (i := 9) rfl)))) rfl dX7_kingdom_128 ?_
            refine go_iload X dX7_kingdom_131 0 rfl ?_
            refine go_iald X (n := 45) (k := x) (by omega) rfl rfl (by omega) (by omega) dX7_kingdom_133 ?_
            refine go_topi (v := ϕ 45 x) ((up2_ne (by omega))) ?_
            refine go_topi (v := ρ 45 x) (congrFun (h0 45 (by omega) (by omega)) x) ?_
            refine go_iast X (n := 40) (k := x) (by omega) rfl rfl (by omega) (by omega) dX7_kingdom_134 ?_
            refine go_aload_n X dX7_kingdom_135 2 rfl rfl ?_
            refine go_getr X (n := 38) (j := 4) (by omega) rfl rfl (fun _ h9 => List.mem_cons_of_mem _ (List.mem_append_right _ h9)) (by decide) (List.mem_cons_of_mem _ (List.mem_append_left _ (List.mem_append_left _ (List.mem_of_getElem? (i := 10) rfl)))) rfl dX7_kingdom_136 ?_
            refine go_iload X dX7_kingdom_139 0 rfl ?_
            refine go_aload_n X dX7_kingdom_141 2 rfl rfl ?_
            refine go_getr X (n := 38) (j := 13) (by omega) rfl rfl (fun _ h9 => List.mem_cons_of_mem _ (List.mem_append_right _ h9)) (by decide) (List.mem_cons_of_mem _ (List.mem_append_left _ (List.mem_append_left _ (List.mem_of_getElem? (i := 11) rfl)))) rfl dX7_kingdom_142 ?_
            refine go_iload X dX7_kingdom_145 0 rfl ?_
            refine go_iald X (n := 46) (k := x) (by omega) rfl rfl (by omega) (by omega) dX7_kingdom_147 ?_
            refine go_topi (v := ϕ 46 x) ((up2_ne (by omega)).trans (up2_ne (by omega))) ?_
            refine go_topi (v := ρ 46 x) (congrFun (h0 46 (by omega) (by omega)) x) ?_
            refine go_iast X (n := 41) (k := x) (by omega) rfl rfl (by omega) (by omega) dX7_kingdom_148 ?_
            refine go_iinc X (v := nI (x + 1)) (lv2 := [(6, .int (nI (x + 1))), (5, .int 0), (0, .ref (ad (38))), (1, .int (nI kk)), (2, .int lane), (3, .int (nI ii)), (4, .int (nI nn))]) dX7_kingdom_149 (k := 0) rfl (nI_add x 1) (by decide) rfl ?_
            refine go_goto X (tgt := 98) dX7_kingdom_152 (by decide) ?_
            exact ih98 (x + 1, (up2 (up2 (up2 ϕ 39 x (ρ 44 x)) 40 x (ρ 45 x)) 41 x (ρ 46 x))) (by (try dsimp only); exact ⟨by omega, fun q h38 h9 => by rw [up2_row (by omega), up2_row (by omega), up2_row (by omega)]; exact h0 q h38 h9, fun j j1 j5 => by rw [up2_ne (by omega), up2_ne (by omega), up2_ne (by omega)]; exact hj j j1 j5, by rw [up2_ne (by omega), up2_ne (by omega), up2_ne (by omega)]; exact h1, by rw [up2_ne (by omega), up2_ne (by omega), up2_ne (by omega)]; exact h5, fun d hd => by rcases Nat.lt_succ_iff_lt_or_eq.mp hd with h | h; rw [up2_ne (by omega), up2_ne (by omega), up2_ne (by omega), up2_ne (by omega), up2_ne (by omega), up2_ne (by omega), up2_ne (by omega), up2_ne (by omega), up2_ne (by omega)]; exact hdd2 d h; rw [h]; refine ⟨?_, ?_, ?_⟩; rw [up2_ne (by omega), up2_ne (by omega), up2_self]; rw [up2_ne (by omega), up2_self]; rw [up2_self]⟩) (by (try dsimp only); omega)
        · skip
          refine go_aload_n X dX7_kingdom_67 1 rfl rfl ?_
          refine go_bipush X (v := (-100)) dX7_kingdom_68 (by decide) ?_
          refine go_aload_n X dX7_kingdom_70 1 rfl rfl ?_
          refine go_geti X (n := 38) (j := 8) (by omega) rfl rfl (fun _ h9 => List.mem_cons_of_mem _ (List.mem_append_right _ h9)) (by decide) (List.mem_cons_of_mem _ (List.mem_append_left _ (List.mem_append_left _ (List.mem_of_getElem? (i := 1) rfl)))) rfl dX7_kingdom_71 ?_
          refine go_topi (v := (pText (cdS (σ 56) (60 * kk + ii) nn) nn).1) (hRK.2.2.1 c64) ?_
          refine go_isub X dX7_kingdom_74 ?_
          refine go_callVI X (n := 38) (As := [.int ((-100) - ((pText (cdS (σ 56) (60 * kk + ii) nn) nn).1))]) (rest := []) (kX7_refused l D cs ad N kt (by omega) ρ τ ((-100) - ((pText (cdS (σ 56) (60 * kk + ii) nn) nn).1))) gX7_kingdom_X7_refused rfl hdX7_refused ⟨rfl, rfl, by decide, by decide, by decide, by decide⟩ (by omega) rfl rfl rfl rfl (Nat.le_of_ble_eq_true rfl) dX7_kingdom_75 (fun r9 σ9 τ9 h9 => ?_)
          obtain ⟨rfl, rfl, rfl⟩ := h9
          exact go_ireturn X hr hlk dX7_kingdom_78 ((have hE : kinS (thM σ) (σ 55) (σ 54) (fun z9 y9 x9 => cdS (σ 56) (60 * z9 + y9) x9) (nI kk) lane (nI ii) (nI nn) = (((-100) - ((pText (cdS (σ 56) (60 * kk + ii) nn) nn).1)), 0) := (by unfold kinS; (try dsimp only); (try rw [toN_nI (k := kk) (by omega)]); (try rw [toN_nI (k := ii) (by omega)]); (try rw [toN_nI (k := nn) (by omega)]); exact (cif_t (Classical.not_not.mp c4)).trans ((cif_t c22).trans ((cif_t e9).trans (cif_f c64)))); ⟨by rw [hE], by rw [hE]; exact up2_self, fun q h38 h9 => (up2_row h38).trans (hRK.1.1 q h38 (by omega)), (up2_ne (by omega)).trans (hRK.1.2 29 (by omega)), fun _ => ⟨fun q h1 h2 => (up2_row (by omega)).trans (hRK.1.1 q (by omega) (by omega)), (up2_ne (by omega)).trans (hRK.1.2 1 (by omega)), (up2_ne (by omega)).trans (hRK.1.2 5 (by omega)), (up2_ne (by omega)).trans (hRK.1.2 21 (by omega))⟩, fun q => absurd q (fun q => by unfold tkP at q; (try dsimp only at q); (try rw [toN_nI (k := kk) (by omega)] at q); (try rw [toN_nI (k := ii) (by omega)] at q); (try rw [toN_nI (k := nn) (by omega)] at q); exact c64 q.2.2.2), rfl⟩))
      · skip
        have r9 := cbRG (σ := σ) e9 (by decide)
        refine go_topi (v := (-10) - 3) r9.1 ?_
        refine go_sg (σ2 := (up2 σ 38 0 3)) r9.2 ?_
        refine go_istore X (lv2 := [(5, .int ((-10) - 3)), (0, .ref (ad (38))), (1, .int (nI kk)), (2, .int lane), (3, .int i), (4, .int n)]) dX7_kingdom_42 (by decide) rfl ?_
        refine go_iload X dX7_kingdom_44 0 rfl ?_
        refine go_if_ge X (tgt := 52) dX7_kingdom_46 (by decide) (fun h9 => absurd h9 (by decide)) (fun _ => ?_)
        refine go_iload X dX7_kingdom_49 0 rfl ?_
        exact go_ireturn X hr hlk dX7_kingdom_51 ((have hE : kinS (thM σ) (σ 55) (σ 54) (fun z9 y9 x9 => cdS (σ 56) (60 * z9 + y9) x9) (nI kk) lane i n = ((-10) - 3, 3) := (by unfold kinS; (try dsimp only); (try rw [toN_nI (k := kk) (by omega)]); exact (cif_t (Classical.not_not.mp c4)).trans ((cif_t c22).trans ((cif_f (by rw [e9]; decide)).trans (by rw [e9])))); ⟨by rw [hE], by rw [hE]; exact up2_self, fun q h38 _ => up2_row h38, up2_ne (by omega), fun _ => ⟨fun q h1 h2 => up2_row (by omega), up2_ne (by omega), up2_ne (by omega), up2_ne (by omega)⟩, fun q => absurd q (fun q => by unfold tkP at q; (try dsimp only at q); (try rw [toN_nI (k := kk) (by omega)] at q); rw [e9] at q; exact absurd q.2.2.1 (by decide)), rfl⟩))
      · skip
        have r9 := cbRG (σ := σ) e9 (by decide)
        refine go_topi (v := (-10) - 4) r9.1 ?_
        refine go_sg (σ2 := (up2 σ 38 0 4)) r9.2 ?_
        refine go_istore X (lv2 := [(5, .int ((-10) - 4)), (0, .ref (ad (38))), (1, .int (nI kk)), (2, .int lane), (3, .int i), (4, .int n)]) dX7_kingdom_42 (by decide) rfl ?_
        refine go_iload X dX7_kingdom_44 0 rfl ?_
        refine go_if_ge X (tgt := 52) dX7_kingdom_46 (by decide) (fun h9 => absurd h9 (by decide)) (fun _ => ?_)
        refine go_iload X dX7_kingdom_49 0 rfl ?_
        exact go_ireturn X hr hlk dX7_kingdom_51 ((have hE : kinS (thM σ) (σ 55) (σ 54) (fun z9 y9 x9 => cdS (σ 56) (60 * z9 + y9) x9) (nI kk) lane i n = ((-10) - 4, 4) := (by unfold kinS; (try dsimp only); (try rw [toN_nI (k := kk) (by omega)]); exact (cif_t (Classical.not_not.mp c4)).trans ((cif_t c22).trans ((cif_f (by rw [e9]; decide)).trans (by rw [e9])))); ⟨by rw [hE], by rw [hE]; exact up2_self, fun q h38 _ => up2_row h38, up2_ne (by omega), fun _ => ⟨fun q h1 h2 => up2_row (by omega), up2_ne (by omega), up2_ne (by omega), up2_ne (by omega)⟩, fun q => absurd q (fun q => by unfold tkP at q; (try dsimp only at q); (try rw [toN_nI (k := kk) (by omega)] at q); rw [e9] at q; exact absurd q.2.2.1 (by decide)), rfl⟩))
      · skip
        have r9 := cbRG (σ := σ) e9 (by decide)
        refine go_topi (v := (-10) - 1) r9.1 ?_
        refine go_sg (σ2 := (up2 σ 38 0 1)) r9.2 ?_
        refine go_istore X (lv2 := [(5, .int ((-10) - 1)), (0, .ref (ad (38))), (1, .int (nI kk)), (2, .int lane), (3, .int i), (4, .int n)]) dX7_kingdom_42 (by decide) rfl ?_
        refine go_iload X dX7_kingdom_44 0 rfl ?_
        refine go_if_ge X (tgt := 52) dX7_kingdom_46 (by decide) (fun h9 => absurd h9 (by decide)) (fun _ => ?_)
        refine go_iload X dX7_kingdom_49 0 rfl ?_
        exact go_ireturn X hr hlk dX7_kingdom_51 ((have hE : kinS (thM σ) (σ 55) (σ 54) (fun z9 y9 x9 => cdS (σ 56) (60 * z9 + y9) x9) (nI kk) lane i n = ((-10) - 1, 1) := (by unfold kinS; (try dsimp only); (try rw [toN_nI (k := kk) (by omega)]); exact (cif_t (Classical.not_not.mp c4)).trans ((cif_t c22).trans ((cif_f (by rw [e9]; decide)).trans (by rw [e9])))); ⟨by rw [hE], by rw [hE]; exact up2_self, fun q h38 _ => up2_row h38, up2_ne (by omega), fun _ => ⟨fun q h1 h2 => up2_row (by omega), up2_ne (by omega), up2_ne (by omega), up2_ne (by omega)⟩, fun q => absurd q (fun q => by unfold tkP at q; (try dsimp only at q); (try rw [toN_nI (k := kk) (by omega)] at q); rw [e9] at q; exact absurd q.2.2.1 (by decide)), rfl⟩))
      · skip
        have r9 := cbRG (σ := σ) e9 (by decide)
        refine go_topi (v := (-10) - 2) r9.1 ?_
        refine go_sg (σ2 := (up2 σ 38 0 2)) r9.2 ?_
        refine go_istore X (lv2 := [(5, .int ((-10) - 2)), (0, .ref (ad (38))), (1, .int (nI kk)), (2, .int lane), (3, .int i), (4, .int n)]) dX7_kingdom_42 (by decide) rfl ?_
        refine go_iload X dX7_kingdom_44 0 rfl ?_
        refine go_if_ge X (tgt := 52) dX7_kingdom_46 (by decide) (fun h9 => absurd h9 (by decide)) (fun _ => ?_)
        refine go_iload X dX7_kingdom_49 0 rfl ?_
        exact go_ireturn X hr hlk dX7_kingdom_51 ((have hE : kinS (thM σ) (σ 55) (σ 54) (fun z9 y9 x9 => cdS (σ 56) (60 * z9 + y9) x9) (nI kk) lane i n = ((-10) - 2, 2) := (by unfold kinS; (try dsimp only); (try rw [toN_nI (k := kk) (by omega)]); exact (cif_t (Classical.not_not.mp c4)).trans ((cif_t c22).trans ((cif_f (by rw [e9]; decide)).trans (by rw [e9])))); ⟨by rw [hE], by rw [hE]; exact up2_self, fun q h38 _ => up2_row h38, up2_ne (by omega), fun _ => ⟨fun q h1 h2 => up2_row (by omega), up2_ne (by omega), up2_ne (by omega), up2_ne (by omega)⟩, fun q => absurd q (fun q => by unfold tkP at q; (try dsimp only at q); (try rw [toN_nI (k := kk) (by omega)] at q); rw [e9] at q; exact absurd q.2.2.1 (by decide)), rfl⟩))
    · skip
      refine go_aload_n X dX7_kingdom_25 0 rfl rfl ?_
      refine go_bipush X (v := (-2)) dX7_kingdom_26 (by decide) ?_
      refine go_callVI X (n := 38) (As := [.int (-2)]) (rest := []) (kX7_refused l D cs ad N kt (by omega) σ τ (-2)) gX7_kingdom_X7_refused rfl hdX7_refused ⟨rfl, rfl, by decide, by decide, by decide, by decide⟩ (by omega) rfl rfl rfl rfl (Nat.le_of_ble_eq_true rfl) dX7_kingdom_28 (fun r9 σ9 τ9 h9 => ?_)
      obtain ⟨rfl, rfl, rfl⟩ := h9
      exact go_ireturn X hr hlk dX7_kingdom_31 ((have hE : kinS (thM σ) (σ 55) (σ 54) (fun z9 y9 x9 => cdS (σ 56) (60 * z9 + y9) x9) (nI kk) lane i n = ((-2), 0) := (by unfold kinS; (try dsimp only); (try rw [toN_nI (k := kk) (by omega)]); exact (cif_t (Classical.not_not.mp c4)).trans (cif_f c22)); ⟨by rw [hE], by rw [hE]; exact up2_self, fun q h38 _ => up2_row h38, up2_ne (by omega), fun _ => ⟨fun q h1 h2 => up2_row (by omega), up2_ne (by omega), up2_ne (by omega), up2_ne (by omega)⟩, fun q => absurd q (fun q => by unfold tkP at q; (try dsimp only at q); (try rw [toN_nI (k := kk) (by omega)] at q); exact c22 q.2.1), rfl⟩))
  · skip
    refine go_aload_n X dX7_kingdom_7 0 rfl rfl ?_
    refine go_iconst X (v := (-1)) dX7_kingdom_8 (by decide) ?_
    refine go_callVI X (n := 38) (As := [.int (-1)]) (rest := []) (kX7_refused l D cs ad N kt (by omega) σ τ (-1)) gX7_kingdom_X7_refused rfl hdX7_refused ⟨rfl, rfl, by decide, by decide, by decide, by decide⟩ (by omega) rfl rfl rfl rfl (Nat.le_of_ble_eq_true rfl) dX7_kingdom_9 (fun r9 σ9 τ9 h9 => ?_)
    obtain ⟨rfl, rfl, rfl⟩ := h9
    exact go_ireturn X hr hlk dX7_kingdom_12 ((have hE : kinS (thM σ) (σ 55) (σ 54) (fun z9 y9 x9 => cdS (σ 56) (60 * z9 + y9) x9) k lane i n = ((-1), 0) := (by unfold kinS; (try dsimp only); exact cif_f c4); ⟨by rw [hE], by rw [hE]; exact up2_self, fun q h38 _ => up2_row h38, up2_ne (by omega), fun _ => ⟨fun q h1 h2 => up2_row (by omega), up2_ne (by omega), up2_ne (by omega), up2_ne (by omega)⟩, fun q => absurd q (fun q => by unfold tkP at q; (try dsimp only at q); exact c4 q.1), rfl⟩))

