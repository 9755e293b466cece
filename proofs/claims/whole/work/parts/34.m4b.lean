noncomputable def bPr (f : Nat → Nat) (set : Int32) : Nat → Nat
  | 0 => 1
  | d + 1 => bPr f set d * cif (inP set d) (f d) 1
theorem oPr_b {f : Nat → Nat} {set : Int32} {n : Nat} : ∀ d, oPr f set n d = bPr f set d ^ n
  | 0 => by simp [oPr, bPr]
  | d + 1 => by
    simp only [oPr, bPr]
    rw [oPr_b d, Nat.mul_pow]
    congr 1
    unfold tmN
    by_cases h : inP set d
    · rw [cif_t h, cif_t h]
    · rw [cif_f h, cif_f h, Nat.pow_zero, Nat.one_pow]
noncomputable def mPr (f : Nat → Nat) (set : Int32) (nd : Nat) : Nat → Nat
  | 0 => 1
  | x + 1 => mPr f set nd x * cif (inP set (x % nd)) (f (x % nd)) 1
theorem mPr_k {f : Nat → Nat} {set : Int32} {nd : Nat} (k : Nat) (h : mPr f set nd (k * nd) = bPr f set nd ^ k) : ∀ r, r ≤ nd → mPr f set nd (k * nd + r) = bPr f set nd ^ k * bPr f set r
  | 0, _ => by simp [h, bPr]
  | r + 1, hr => by
    show mPr f set nd ((k * nd + r) + 1) = _
    simp only [mPr, bPr]
    rw [mPr_k k h r (by omega), show (k * nd + r) % nd = r by rw [Nat.mul_comm, Nat.mul_add_mod]; exact Nat.mod_eq_of_lt (by omega), Nat.mul_assoc]
theorem mPr_b {f : Nat → Nat} {set : Int32} {nd : Nat} : ∀ n, mPr f set nd (n * nd) = bPr f set nd ^ n
  | 0 => by simp [mPr]
  | n + 1 => by rw [Nat.succ_mul, mPr_k n (mPr_b n) nd (Nat.le_refl _), Nat.pow_succ]
theorem mPr_o {f : Nat → Nat} {set : Int32} {nd n : Nat} : mPr f set nd (n * nd) = oPr f set n nd := by rw [mPr_b, oPr_b]
theorem hdX7_odds : yX7_odds.cls = RX7 ∧ yX7_odds.cls ≠ "java/lang/invoke/MethodHandle" ∧ yX7_odds.cls ≠ "java/lang/invoke/VarHandle" ∧ (parseMethodDescriptor yX7_odds.desc).map (fun d => d.parameters.length) = some 3 := by decide +kernel
set_option maxHeartbeats 4000000 in
set_option maxRecDepth 100000 in
theorem kX7_odds (l : Launch) (D : va_G) (cs : Nat → ClassId) (ad : Nat → Nat) (N kt : Nat) (hN : 58 ≤ N) (σ : vSg) (τ : vTa) (set : Int32) (n : Int32) (which : Int32) (nd : Nat) (ns : Nat) (nr : Nat)   (hI : IM σ nd ns nr) : CtL l yX7_odds wsX7_odds ({ frames := 1, cells := 0, slots := 0, locals := 30 }) D cs ad N (shP kt) [.ref (ad (38)), .int set, .int n, .int which] σ τ 0 0 (fun r9 σ9 τ9 => oddsS ns nd (fun z => toN (σ 40 z)) set n which = r9 ∧ σ = σ9 ∧ τ = τ9) := by
  refine ct_L (cc := cX7_odds) (maxL := 10) (by decide) rfl (Nat.le_of_ble_eq_true rfl) rfl rfl ?_
  intro p e s m args below meth c A X hr hlk
  obtain ⟨⟨hnd, hnd5⟩, ⟨hns, hns4⟩, hdd, hkp, ⟨hnr, hnr8⟩, hrd, hsh, hpos⟩ := id hI
  refine go_aload_n X dX7_odds_0 0 rfl rfl ?_
  refine go_geti X (n := 38) (j := 5) (by omega) rfl rfl (fun _ h9 => List.mem_cons_of_mem _ (List.mem_append_right _ h9)) (by decide) (List.mem_cons_of_mem _ (List.mem_append_left _ (List.mem_of_getElem? (i := 0) rfl))) rfl dX7_odds_1 ?_
  refine go_topi (v := nI ns) (hns) ?_
  refine go_ifn_eq X (tgt := 47) dX7_odds_4 (by decide) (a := ns) rfl (by omega) (fun c4 => ?_) (fun c4 => ?_)
  · skip
    refine go_callSL X (As := []) (rest := []) (kX7_lost l D cs ad N kt (by omega) σ τ ) gX7_odds_X7_lost rfl hdX7_lost ⟨rfl, rfl, by decide, by decide, by decide, by decide⟩ rfl rfl (Nat.le_of_ble_eq_true rfl) dX7_odds_47 (fun r9 σ9 τ9 h9 => ?_)
    obtain ⟨rfl, rfl, rfl⟩ := h9
    exact go_lreturn X hr hlk dX7_odds_50 ((have hE : oddsS ns nd (fun z => toN (σ 40 z)) set n which = LOST9 := (by unfold oddsS; (try dsimp only); exact (cif_f (by rw [c4]; decide)).trans (rfl)); ⟨hE, rfl, rfl⟩))
  · skip
    refine go_iload_n X dX7_odds_7 1 rfl rfl ?_
    refine go_i2l X (v := set.toInt64) dX7_odds_8 rfl ?_
    refine go_lconst X (v := 0) dX7_odds_9 (by decide) ?_
    refine go_iconst X (v := 1) dX7_odds_10 (by decide) ?_
    refine go_aload_n X dX7_odds_11 0 rfl rfl ?_
    refine go_geti X (n := 38) (j := 1) (by omega) rfl rfl (fun _ h9 => List.mem_cons_of_mem _ (List.mem_append_right _ h9)) (by decide) (List.mem_cons_of_mem _ (List.mem_append_left _ (List.mem_of_getElem? (i := 1) rfl))) rfl dX7_odds_12 ?_
    refine go_topi (v := nI nd) (hnd) ?_
    refine go_ishl X dX7_odds_15 ?_
    refine go_i2l X (v := (1 <<< ((nI nd) &&& 31)).toInt64) dX7_odds_16 rfl ?_
    refine go_lconst X (v := 1) dX7_odds_17 (by decide) ?_
    refine go_lsub X dX7_odds_18 ?_
    refine go_callSI X (As := [.long set.toInt64, .long 0, .long (((1 <<< ((nI nd) &&& 31)).toInt64) - 1)]) (rest := []) (kX7_in l D cs ad N kt (by omega) σ τ set.toInt64 0 (((1 <<< ((nI nd) &&& 31)).toInt64) - 1)) gX7_odds_X7_in rfl hdX7_in ⟨rfl, rfl, by decide, by decide, by decide, by decide⟩ rfl rfl (Nat.le_of_ble_eq_true rfl) dX7_odds_19 (fun r9 σ9 τ9 h9 => ?_)
    obtain ⟨rfl, rfl, rfl⟩ := h9
    refine go_topi (v := b2i (isB set (1 <<< ((nI nd) &&& 31)))) (b2i_c (in_iff rfl (i64_sub1 (1 <<< ((nI nd) &&& 31))))) ?_
    refine go_ifb_eq X (tgt := 47) dX7_odds_22 (by decide) (fun c22 => ?_) (fun c22 => ?_)
    · skip
      refine go_callSL X (As := []) (rest := []) (kX7_lost l D cs ad N kt (by omega) σ τ ) gX7_odds_X7_lost rfl hdX7_lost ⟨rfl, rfl, by decide, by decide, by decide, by decide⟩ rfl rfl (Nat.le_of_ble_eq_true rfl) dX7_odds_47 (fun r9 σ9 τ9 h9 => ?_)
      obtain ⟨rfl, rfl, rfl⟩ := h9
      exact go_lreturn X hr hlk dX7_odds_50 ((have hE : oddsS ns nd (fun z => toN (σ 40 z)) set n which = LOST9 := (by unfold oddsS; (try dsimp only); exact (cif_t (nI_posN (Nat.pos_of_ne_zero c4) (by omega))).trans ((cif_f c22).trans (rfl))); ⟨hE, rfl, rfl⟩))
    · skip
      refine go_iload_n X dX7_odds_25 2 rfl rfl ?_
      refine go_i2l X (v := n.toInt64) dX7_odds_26 rfl ?_
      refine go_lconst X (v := 0) dX7_odds_27 (by decide) ?_
      refine go_ldc2 X (v := 3) (List.mem_cons_of_mem _ (List.mem_append_left _ (List.mem_of_getElem? (i := 2) rfl))) dX7_odds_28 ?_
      refine go_callSI X (As := [.long n.toInt64, .long 0, .long 3]) (rest := []) (kX7_in l D cs ad N kt (by omega) σ τ n.toInt64 0 3) gX7_odds_X7_in rfl hdX7_in ⟨rfl, rfl, by decide, by decide, by decide, by decide⟩ rfl rfl (Nat.le_of_ble_eq_true rfl) dX7_odds_31 (fun r9 σ9 τ9 h9 => ?_)
      obtain ⟨rfl, rfl, rfl⟩ := h9
      refine go_topi (v := b2i (isB n 4)) (b2i_c (in_iff rfl rfl)) ?_
      refine go_ifb_eq X (tgt := 47) dX7_odds_34 (by decide) (fun c34 => ?_) (fun c34 => ?_)
      · skip
        refine go_callSL X (As := []) (rest := []) (kX7_lost l D cs ad N kt (by omega) σ τ ) gX7_odds_X7_lost rfl hdX7_lost ⟨rfl, rfl, by decide, by decide, by decide, by decide⟩ rfl rfl (Nat.le_of_ble_eq_true rfl) dX7_odds_47 (fun r9 σ9 τ9 h9 => ?_)
        obtain ⟨rfl, rfl, rfl⟩ := h9
        exact go_lreturn X hr hlk dX7_odds_50 ((have hE : oddsS ns nd (fun z => toN (σ 40 z)) set n which = LOST9 := (by unfold oddsS; (try dsimp only); exact (cif_t (nI_posN (Nat.pos_of_ne_zero c4) (by omega))).trans ((cif_t c22).trans ((cif_f c34).trans (rfl)))); ⟨hE, rfl, rfl⟩))
      · skip
        obtain ⟨nn, hnn, rfl⟩ := isB_nat (b := 4) c34 (by omega)
        refine go_iload_n X dX7_odds_37 3 rfl rfl ?_
        refine go_i2l X (v := which.toInt64) dX7_odds_38 rfl ?_
        refine go_lconst X (v := 0) dX7_odds_39 (by decide) ?_
        refine go_lconst X (v := 1) dX7_odds_40 (by decide) ?_
        refine go_callSI X (As := [.long which.toInt64, .long 0, .long 1]) (rest := []) (kX7_in l D cs ad N kt (by omega) σ τ which.toInt64 0 1) gX7_odds_X7_in rfl hdX7_in ⟨rfl, rfl, by decide, by decide, by decide, by decide⟩ rfl rfl (Nat.le_of_ble_eq_true rfl) dX7_odds_41 (fun r9 σ9 τ9 h9 => ?_)
        obtain ⟨rfl, rfl, rfl⟩ := h9
        refine go_topi (v := b2i (isB which 2)) (b2i_c (in_iff rfl rfl)) ?_
        refine go_ifb_ne X (tgt := 51) dX7_odds_44 (by decide) (fun c44 => ?_) (fun c44 => ?_)
        · skip
          have hnd0 := hpos (Nat.pos_of_ne_zero c4)
          have hmx : nn * nd ≤ 3 * 5 := Nat.mul_le_mul (by omega) (by omega)
          refine go_lconst X (v := 1) dX7_odds_51 (by decide) ?_
          refine go_lstore X (lv2 := [(4, .long 1), (0, .ref (ad (38))), (1, .int set), (2, .int (nI nn)), (3, .int which)]) dX7_odds_52 (by decide) rfl ?_
          refine go_lconst X (v := 1) dX7_odds_54 (by decide) ?_
          refine go_lstore X (lv2 := [(6, .long 1), (4, .long 1), (0, .ref (ad (38))), (1, .int set), (2, .int (nI nn)), (3, .int which)]) dX7_odds_55 (by decide) rfl ?_
          refine go_iconst X (v := 0) dX7_odds_57 (by decide) ?_
          refine go_istore X (lv2 := [(8, .int 0), (6, .long 1), (4, .long 1), (0, .ref (ad (38))), (1, .int set), (2, .int (nI nn)), (3, .int which)]) dX7_odds_58 (by decide) rfl ?_
          refine go_loop (ι := Nat) (fun i9 => (i9 ≤ nn * nd)) (fun i9 => nn * nd - i9) (fun i9 => σ) (fun i9 => τ) (fun i9 => [(8, .int (nI i9)), (6, .long (lN (mPr (fun _ => 10) set nd i9))), (4, .long (lN (mPr (fun z => 10 - toN (σ 40 z)) set nd i9))), (0, .ref (ad (38))), (1, .int set), (2, .int (nI nn)), (3, .int which)]) (fun i9 => []) 0 (by (try dsimp only); exact (Nat.zero_le _)) ?_
          intro i9 hi9 ih60
          obtain ⟨x, hv9⟩ : ∃ z, z = i9 := ⟨_, rfl⟩; subst hv9
          (try dsimp only at hi9); (try dsimp only at ih60); (try dsimp only)
          have hx := hi9
          refine go_iload X dX7_odds_60 0 rfl ?_
          refine go_iload_n X dX7_odds_62 5 rfl rfl ?_
          refine go_aload_n X dX7_odds_63 3 rfl rfl ?_
          refine go_geti X (n := 38) (j := 1) (by omega) rfl rfl (fun _ h9 => List.mem_cons_of_mem _ (List.mem_append_right _ h9)) (by decide) (List.mem_cons_of_mem _ (List.mem_append_left _ (List.mem_of_getElem? (i := 1) rfl))) rfl dX7_odds_64 ?_
          refine go_topi (v := nI nd) (hnd) ?_
          refine go_imul X dX7_odds_67 ?_
          refine go_topi (v := nI (nn * nd)) (pk_mul nn nd) ?_
          refine go_icmpn_ge X (tgt := 138) dX7_odds_68 (by decide) (a := x) (b := nn * nd) rfl rfl (by omega) (by omega) (fun c68 => ?_) (fun c68 => ?_)
          · skip
            refine go_lv (lv2 := [(8, .int (nI x)), (6, .long (lN (oPr (fun _ => 10) set nn nd))), (4, .long (lN (oPr (fun z => 10 - toN (σ 40 z)) set nn nd))), (0, .ref (ad (38))), (1, .int set), (2, .int (nI nn)), (3, .int which)]) (by rw [show x = nn * nd by omega, mPr_o, mPr_o]) ?_
            refine go_lload X dX7_odds_138 2 rfl ?_
            refine go_lload X dX7_odds_140 1 rfl ?_
            refine go_iload_n X dX7_odds_142 6 rfl rfl ?_
            have hb9 := odds_b (f := (fun z => 10 - toN (σ 40 z))) (set := set) (n := nn) (d := nd) (by omega) hnd5 (fun q _ => Nat.sub_le _ _)
            refine go_callSL X (As := [.long (lN (oPr (fun z => 10 - toN (σ 40 z)) set nn nd)), .long (lN (oPr (fun _ => 10) set nn nd)), .int which]) (rest := []) (kX7_share l D cs ad N kt (by omega) σ τ (oPr (fun z => 10 - toN (σ 40 z)) set nn nd) (oPr (fun _ => 10) set nn nd) which hb9.1 hb9.2.1 hb9.2.2.2) gX7_odds_X7_share rfl hdX7_share ⟨rfl, rfl, by decide, by decide, by decide, by decide⟩ rfl rfl (Nat.le_of_ble_eq_true rfl) dX7_odds_143 (fun r9 σ9 τ9 h9 => ?_)
            obtain ⟨rfl, rfl, rfl⟩ := h9
            exact go_lreturn X hr hlk dX7_odds_146 ((have hE : oddsS ns nd (fun z => toN (σ 40 z)) set (nI nn) which = lN (shN (oPr (fun z => 10 - toN (σ 40 z)) set nn nd) (oPr (fun _ => 10) set nn nd) which) := (by unfold oddsS; (try dsimp only); (try rw [toN_nI (k := nn) (by omega)]); exact (cif_t (nI_posN (Nat.pos_of_ne_zero c4) (by omega))).trans ((cif_t c22).trans ((cif_t c34).trans ((cif_t c44).trans (rfl))))); ⟨hE, rfl, rfl⟩))
          · skip
            refine go_iload_n X dX7_odds_71 4 rfl rfl ?_
            refine go_iload X dX7_odds_72 0 rfl ?_
            refine go_aload_n X dX7_odds_74 3 rfl rfl ?_
            refine go_geti X (n := 38) (j := 1) (by omega) rfl rfl (fun _ h9 => List.mem_cons_of_mem _ (List.mem_append_right _ h9)) (by decide) (List.mem_cons_of_mem _ (List.mem_append_left _ (List.mem_of_getElem? (i := 1) rfl))) rfl dX7_odds_75 ?_
            refine go_topi (v := nI nd) (hnd) ?_
            refine go_irem X dX7_odds_78 (nI_ne0 (by omega) (by omega)) ?_
            refine go_topi (v := nI (x % nd)) (pk_rem (by omega) (by omega) (by omega)) ?_
            refine go_callSI X (As := [.int set, .int (nI (x % nd))]) (rest := []) (kX7_isIn l D cs ad N kt (by omega) σ τ set (x % nd)) gX7_odds_X7_isIn rfl hdX7_isIn ⟨rfl, rfl, by decide, by decide, by decide, by decide⟩ rfl rfl (Nat.le_of_ble_eq_true rfl) dX7_odds_79 (fun r9 σ9 τ9 h9 => ?_)
            obtain ⟨rfl, rfl, rfl⟩ := h9
            refine go_istore X (lv2 := [(9, .int (b2i (inP set (x % nd)))), (8, .int (nI x)), (6, .long (lN (mPr (fun _ => 10) set nd x))), (4, .long (lN (mPr (fun z => 10 - toN (σ 40 z)) set nd x))), (0, .ref (ad (38))), (1, .int set), (2, .int (nI nn)), (3, .int which)]) dX7_odds_82 (by decide) rfl ?_
            refine go_lload X dX7_odds_84 3 rfl ?_
            refine go_iload X dX7_odds_86 0 rfl ?_
            refine go_ifb_eq X (tgt := 111) dX7_odds_88 (by decide) (fun c88 => ?_) (fun c88 => ?_)
            · skip
              refine go_lconst X (v := 1) dX7_odds_111 (by decide) ?_
              refine go_lmul X dX7_odds_112 ?_
              refine go_topl (v := lN (mPr (fun z => 10 - toN (σ 40 z)) set nd (x + 1))) (by rw [show mPr (fun z => 10 - toN (σ 40 z)) set nd (x + 1) = mPr (fun z => 10 - toN (σ 40 z)) set nd x * cif (inP set (x % nd)) (10 - toN (σ 40 (x % nd))) 1 from rfl, cif_f c88, Nat.mul_one]; exact Int64.mul_one _) ?_
              refine go_lstore X (lv2 := [(4, .long (lN (mPr (fun z => 10 - toN (σ 40 z)) set nd (x + 1)))), (9, .int (b2i (inP set (x % nd)))), (8, .int (nI x)), (6, .long (lN (mPr (fun _ => 10) set nd x))), (0, .ref (ad (38))), (1, .int set), (2, .int (nI nn)), (3, .int which)]) dX7_odds_113 (by decide) rfl ?_
              refine go_lload X dX7_odds_115 3 rfl ?_
              refine go_iload X dX7_odds_117 1 rfl ?_
              refine go_ifb_eq X (tgt := 128) dX7_odds_119 (by decide) (fun c119 => ?_) (fun h9 => absurd h9 c88)
              refine go_lconst X (v := 1) dX7_odds_128 (by decide) ?_
              refine go_lmul X dX7_odds_129 ?_
              refine go_topl (v := lN (mPr (fun _ => 10) set nd (x + 1))) (by rw [show mPr (fun _ => 10) set nd (x + 1) = mPr (fun _ => 10) set nd x * cif (inP set (x % nd)) 10 1 from rfl, cif_f c88, Nat.mul_one]; exact Int64.mul_one _) ?_
              refine go_lstore X (lv2 := [(6, .long (lN (mPr (fun _ => 10) set nd (x + 1)))), (4, .long (lN (mPr (fun z => 10 - toN (σ 40 z)) set nd (x + 1)))), (9, .int (b2i (inP set (x % nd)))), (8, .int (nI x)), (0, .ref (ad (38))), (1, .int set), (2, .int (nI nn)), (3, .int which)]) dX7_odds_130 (by decide) rfl ?_
              refine go_iinc X (v := nI (x + 1)) (lv2 := [(8, .int (nI (x + 1))), (6, .long (lN (mPr (fun _ => 10) set nd (x + 1)))), (4, .long (lN (mPr (fun z => 10 - toN (σ 40 z)) set nd (x + 1)))), (9, .int (b2i (inP set (x % nd)))), (0, .ref (ad (38))), (1, .int set), (2, .int (nI nn)), (3, .int which)]) dX7_odds_132 (k := 3) rfl (nI_add x 1) (by decide) rfl ?_
              refine go_goto X (tgt := 60) dX7_odds_135 (by decide) ?_
              refine go_lvsub [0, 1, 2, 4, 5, 6, 7] rfl ?_
              exact ih60 (x + 1) (by (try dsimp only); exact (by omega)) (by (try dsimp only); omega)
            · skip
              refine go_ldc2 X (v := 10) (List.mem_cons_of_mem _ (List.mem_append_left _ (List.mem_of_getElem? (i := 3) rfl))) dX7_odds_91 ?_
              refine go_aload_n X dX7_odds_94 4 rfl rfl ?_
              refine go_getr X (n := 38) (j := 3) (by omega) rfl rfl (fun _ h9 => List.mem_cons_of_mem _ (List.mem_append_right _ h9)) (by decide) (List.mem_cons_of_mem _ (List.mem_append_left _ (List.mem_of_getElem? (i := 4) rfl))) rfl dX7_odds_95 ?_
              refine go_iload X dX7_odds_98 1 rfl ?_
              refine go_aload_n X dX7_odds_100 4 rfl rfl ?_
              refine go_geti X (n := 38) (j := 1) (by omega) rfl rfl (fun _ h9 => List.mem_cons_of_mem _ (List.mem_append_right _ h9)) (by decide) (List.mem_cons_of_mem _ (List.mem_append_left _ (List.mem_of_getElem? (i := 1) rfl))) rfl dX7_odds_101 ?_
              refine go_topi (v := nI nd) (hnd) ?_
              refine go_irem X dX7_odds_104 (nI_ne0 (by omega) (by omega)) ?_
              refine go_topi (v := nI (x % nd)) (pk_rem (by omega) (by omega) (by omega)) ?_
              refine go_iald X (n := 40) (k := x % nd) (by omega) rfl rfl (Nat.lt_of_lt_of_le (Nat.mod_lt _ (by omega)) hnd5) (by omega) dX7_odds_105 ?_
              have hrk := isB_toN (b := 10) (hdd (x % nd) (Nat.mod_lt _ (by omega))).2.1 (by omega)
              refine go_i2l X (v := (σ 40 (x % nd)).toInt64) dX7_odds_106 rfl ?_
              refine go_lsub X dX7_odds_107 ?_
              refine go_topl (v := lN (10 - toN (σ 40 (x % nd)))) (by rw [show 10 - (σ 40 (x % nd)).toInt64 = lN 10 - (nI (toN (σ 40 (x % nd)))).toInt64 by rw [← hrk.2]; rfl, nI_l (by omega)]; exact lN_sub (by omega)) ?_
              refine go_goto X (tgt := 112) dX7_odds_108 (by decide) ?_
              refine go_lmul X dX7_odds_112 ?_
              refine go_topl (v := lN (mPr (fun z => 10 - toN (σ 40 z)) set nd (x + 1))) (by rw [show mPr (fun z => 10 - toN (σ 40 z)) set nd (x + 1) = mPr (fun z => 10 - toN (σ 40 z)) set nd x * cif (inP set (x % nd)) (10 - toN (σ 40 (x % nd))) 1 from rfl, cif_t c88]; exact lN_mul _ _) ?_
              refine go_lstore X (lv2 := [(4, .long (lN (mPr (fun z => 10 - toN (σ 40 z)) set nd (x + 1)))), (9, .int (b2i (inP set (x % nd)))), (8, .int (nI x)), (6, .long (lN (mPr (fun _ => 10) set nd x))), (0, .ref (ad (38))), (1, .int set), (2, .int (nI nn)), (3, .int which)]) dX7_odds_113 (by decide) rfl ?_
              refine go_lload X dX7_odds_115 3 rfl ?_
              refine go_iload X dX7_odds_117 1 rfl ?_
              refine go_ifb_eq X (tgt := 128) dX7_odds_119 (by decide) (fun h9 => absurd c88 h9) (fun c119 => ?_)
              refine go_ldc2 X (v := 10) (List.mem_cons_of_mem _ (List.mem_append_left _ (List.mem_of_getElem? (i := 3) rfl))) dX7_odds_122 ?_
              refine go_goto X (tgt := 129) dX7_odds_125 (by decide) ?_
              refine go_lmul X dX7_odds_129 ?_
              refine go_topl (v := lN (mPr (fun _ => 10) set nd (x + 1))) (by rw [show mPr (fun _ => 10) set nd (x + 1) = mPr (fun _ => 10) set nd x * cif (inP set (x % nd)) 10 1 from rfl, cif_t c88]; exact lN_mul _ 10) ?_
              refine go_lstore X (lv2 := [(6, .long (lN (mPr (fun _ => 10) set nd (x + 1)))), (4, .long (lN (mPr (fun z => 10 - toN (σ 40 z)) set nd (x + 1)))), (9, .int (b2i (inP set (x % nd)))), (8, .int (nI x)), (0, .ref (ad (38))), (1, .int set), (2, .int (nI nn)), (3, .int which)]) dX7_odds_130 (by decide) rfl ?_
              refine go_iinc X (v := nI (x + 1)) (lv2 := [(8, .int (nI (x + 1))), (6, .long (lN (mPr (fun _ => 10) set nd (x + 1)))), (4, .long (lN (mPr (fun z => 10 - toN (σ 40 z)) set nd (x + 1)))), (9, .int (b2i (inP set (x % nd)))), (0, .ref (ad (38))), (1, .int set), (2, .int (nI nn)), (3, .int which)]) dX7_odds_132 (k := 3) rfl (nI_add x 1) (by decide) rfl ?_
              refine go_goto X (tgt := 60) dX7_odds_135 (by decide) ?_
              refine go_lvsub [0, 1, 2, 4, 5, 6, 7] rfl ?_
              exact ih60 (x + 1) (by (try dsimp only); exact (by omega)) (by (try dsimp only); omega)
        · skip
          refine go_callSL X (As := []) (rest := []) (kX7_lost l D cs ad N kt (by omega) σ τ ) gX7_odds_X7_lost rfl hdX7_lost ⟨rfl, rfl, by decide, by decide, by decide, by decide⟩ rfl rfl (Nat.le_of_ble_eq_true rfl) dX7_odds_47 (fun r9 σ9 τ9 h9 => ?_)
          obtain ⟨rfl, rfl, rfl⟩ := h9
          exact go_lreturn X hr hlk dX7_odds_50 ((have hE : oddsS ns nd (fun z => toN (σ 40 z)) set (nI nn) which = LOST9 := (by unfold oddsS; (try dsimp only); (try rw [toN_nI (k := nn) (by omega)]); exact (cif_t (nI_posN (Nat.pos_of_ne_zero c4) (by omega))).trans ((cif_t c22).trans ((cif_t c34).trans ((cif_f c44).trans (rfl))))); ⟨hE, rfl, rfl⟩))

