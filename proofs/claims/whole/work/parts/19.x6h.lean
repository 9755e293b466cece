/-! odds -/
def inP (set : Int32) (d : Nat) : Prop := (set >>> (nI d &&& 31)) &&& 1 = 1
noncomputable def tmN (set : Int32) (n d : Nat) : Nat := cif (inP set d) n 0
noncomputable def oPr (f : Nat → Nat) (set : Int32) (n : Nat) : Nat → Nat
  | 0 => 1
  | d + 1 => oPr f set n d * f d ^ tmN set n d
theorem tmN_le (set : Int32) (n d : Nat) : tmN set n d ≤ n := by
  unfold tmN
  by_cases h : inP set d
  · rw [cif_t h]; exact Nat.le_refl _
  · rw [cif_f h]; exact Nat.zero_le _
theorem oPr_le {f : Nat → Nat} {set : Int32} {n : Nat} (hn : n ≤ 3) : ∀ d, (∀ q, q < d → f q ≤ 10) → oPr f set n d ≤ 1000 ^ d
  | 0, _ => by simp [oPr]
  | d + 1, h => by
    have h1 := oPr_le (set := set) hn d (fun q hq => h q (by omega))
    have h2 : f d ^ tmN set n d ≤ 1000 := Nat.le_trans (Nat.pow_le_pow_left (h d (by omega)) _) (Nat.le_trans (Nat.pow_le_pow_right (by omega) (Nat.le_trans (tmN_le set n d) hn)) (by decide))
    simp only [oPr]
    rw [Nat.pow_succ]
    exact Nat.mul_le_mul h1 h2
theorem oPr_5 {f : Nat → Nat} {set : Int32} {n d : Nat} (hn : n ≤ 3) (hd : d ≤ 5) (h : ∀ q, q < d → f q ≤ 10) : oPr f set n d ≤ 1000000000000000 := Nat.le_trans (oPr_le hn d h) (Nat.le_trans (Nat.pow_le_pow_right (by omega) hd) (by decide))
theorem oPr_pos {set : Int32} {n : Nat} : ∀ d, 0 < oPr (fun _ => 10) set n d
  | 0 => by simp [oPr]
  | d + 1 => by simp only [oPr]; exact Nat.mul_pos (oPr_pos d) (Nat.pow_pos (by omega))
theorem oPr_c {f g : Nat → Nat} {set : Int32} {n : Nat} : ∀ d, (∀ q, q < d → f q = g q) → oPr f set n d = oPr g set n d
  | 0, _ => rfl
  | d + 1, h => by simp only [oPr]; rw [oPr_c d (fun q hq => h q (by omega)), h d (by omega)]
theorem oPr_s {f : Nat → Nat} {set : Int32} {n d tm : Nat} (h : tmN set n d = tm) : oPr f set n d * f d ^ tm = oPr f set n (d + 1) := by simp only [oPr]; rw [h]
theorem powS {x y t : Nat} : x * y ^ t * y = x * y ^ (t + 1) := by rw [Nat.pow_succ, Nat.mul_assoc]
noncomputable def oddsS (ns nd : Nat) (rk : Nat → Nat) (set n which : Int32) : Int64 := cif (0 < nI ns) (cif (isB set (1 <<< (nI nd &&& 31))) (cif (isB n 4) (cif (isB which 2) (lN (shN (oPr (fun z => 10 - rk z) set (toN n) nd) (oPr (fun _ => 10) set (toN n) nd) which)) LOST9) LOST9) LOST9) LOST9
theorem odds_b {f : Nat → Nat} {set : Int32} {n d : Nat} (hn : n ≤ 3) (hd : d ≤ 5) (h : ∀ q, q < d → f q ≤ 10) : oPr f set n d < 2 ^ 62 ∧ oPr (fun _ => 10) set n d < 2 ^ 62 ∧ oPr f set n d * oPr (fun _ => 10) set n d < 2 ^ 120 ∧ 0 < oPr (fun _ => 10) set n d := by
  have h1 := oPr_5 (set := set) hn hd h
  have h2 := oPr_5 (f := fun _ => 10) (set := set) hn hd (fun _ _ => Nat.le_refl _)
  have h3 : oPr f set n d * oPr (fun _ => 10) set n d ≤ 1000000000000000 * 1000000000000000 := Nat.mul_le_mul h1 h2
  exact ⟨by omega, by omega, by omega, oPr_pos d⟩
theorem hdX6_odds : yX6_odds.cls = RX6 ∧ yX6_odds.cls ≠ "java/lang/invoke/MethodHandle" ∧ yX6_odds.cls ≠ "java/lang/invoke/VarHandle" ∧ (parseMethodDescriptor yX6_odds.desc).map (fun d => d.parameters.length) = some 3 := by decide +kernel
set_option maxHeartbeats 4000000 in
set_option maxRecDepth 100000 in
theorem kX6_odds (l : Launch) (D : va_G) (cs : Nat → ClassId) (ad : Nat → Nat) (N kt : Nat) (hN : 58 ≤ N) (σ : vSg) (τ : vTa) (set : Int32) (n : Int32) (which : Int32) (nd : Nat) (ns : Nat) (nr : Nat)   (hI : IX σ nd ns nr) : CtL l yX6_odds wsX6_odds ({ frames := 2, cells := 0, slots := 0, locals := 58 }) D cs ad N (shP kt) [.ref (ad (0)), .int set, .int n, .int which] σ τ 0 0 (fun r9 σ9 τ9 => oddsS ns nd (fun z => toN (σ (20 + z) 1)) set n which = r9 ∧ σ = σ9 ∧ τ = τ9) := by
  refine ct_L (cc := cX6_odds) (maxL := 11) (by decide) rfl (Nat.le_of_ble_eq_true rfl) rfl rfl ?_
  intro p e s m args below meth c A X hr hlk
  obtain ⟨⟨hnd, hnd5⟩, ⟨hns, hns4⟩, hdd, hkp, ⟨hnr, hnr8⟩, hrd, hrw, hpos⟩ := id hI
  refine go_aload_n X dX6_odds_0 0 rfl rfl ?_
  refine go_getr X (n := 0) (j := 1) (by omega) rfl rfl (fun _ h9 => List.mem_cons_of_mem _ (List.mem_append_left _ (List.mem_append_right _ h9))) (by decide) (List.mem_cons_of_mem _ (List.mem_append_left _ (List.mem_append_left _ (List.mem_of_getElem? (i := 0) rfl)))) rfl dX6_odds_1 ?_
  refine go_callVI X (n := 2) (As := []) (rest := []) (kX2_isThere l D cs ad N kt (by omega) σ τ (nI ns) (hns)) gX6_odds_X2_isThere rfl hdX2_isThere ⟨rfl, rfl, by decide, by decide, by decide, by decide⟩ (by omega) rfl rfl rfl rfl (Nat.le_of_ble_eq_true rfl) dX6_odds_4 (fun r9 σ9 τ9 h9 => ?_)
  obtain ⟨rfl, rfl, rfl⟩ := h9
  refine go_ifb_ne X (tgt := 14) dX6_odds_7 (by decide) (fun c7 => ?_) (fun c7 => ?_)
  · skip
    refine go_iload_n X dX6_odds_14 1 rfl rfl ?_
    refine go_iconst X (v := 1) dX6_odds_15 (by decide) ?_
    refine go_aload_n X dX6_odds_16 0 rfl rfl ?_
    refine go_getr X (n := 0) (j := 1) (by omega) rfl rfl (fun _ h9 => List.mem_cons_of_mem _ (List.mem_append_left _ (List.mem_append_right _ h9))) (by decide) (List.mem_cons_of_mem _ (List.mem_append_left _ (List.mem_append_left _ (List.mem_of_getElem? (i := 0) rfl)))) rfl dX6_odds_17 ?_
    refine go_geti X (n := 2) (j := 3) (by omega) rfl rfl (fun _ h9 => List.mem_cons_of_mem _ (List.mem_append_right _ h9)) (by decide) (List.mem_cons_of_mem _ (List.mem_append_left _ (List.mem_append_left _ (List.mem_of_getElem? (i := 2) rfl)))) rfl dX6_odds_20 ?_
    refine go_topi (v := nI nd) (hnd) ?_
    refine go_ishl X dX6_odds_23 ?_
    refine go_callSI X (As := [.int set, .int (1 <<< ((nI nd) &&& 31))]) (rest := []) (kX6_isBelow l D cs ad N kt (by omega) σ τ set (1 <<< ((nI nd) &&& 31))) gX6_odds_X6_isBelow rfl hdX6_isBelow ⟨rfl, rfl, by decide, by decide, by decide, by decide⟩ rfl rfl (Nat.le_of_ble_eq_true rfl) dX6_odds_24 (fun r9 σ9 τ9 h9 => ?_)
    obtain ⟨rfl, rfl, rfl⟩ := h9
    refine go_ifb_eq X (tgt := 46) dX6_odds_27 (by decide) (fun c27 => ?_) (fun c27 => ?_)
    · skip
      refine go_ldc2 X (v := (-9223372036854775808)) (List.mem_cons_of_mem _ (List.mem_append_left _ (List.mem_append_left _ (List.mem_of_getElem? (i := 1) rfl)))) dX6_odds_46 ?_
      exact go_lreturn X hr hlk dX6_odds_49 ((have hE : oddsS ns nd (fun z => toN (σ (20 + z) 1)) set n which = (-9223372036854775808) := (by unfold oddsS; (try dsimp only); exact (cif_t c7).trans ((cif_f c27).trans (rfl))); ⟨hE, rfl, rfl⟩))
    · skip
      refine go_iload_n X dX6_odds_30 2 rfl rfl ?_
      refine go_iconst X (v := 4) dX6_odds_31 (by decide) ?_
      refine go_callSI X (As := [.int n, .int 4]) (rest := []) (kX6_isBelow l D cs ad N kt (by omega) σ τ n 4) gX6_odds_X6_isBelow rfl hdX6_isBelow ⟨rfl, rfl, by decide, by decide, by decide, by decide⟩ rfl rfl (Nat.le_of_ble_eq_true rfl) dX6_odds_32 (fun r9 σ9 τ9 h9 => ?_)
      obtain ⟨rfl, rfl, rfl⟩ := h9
      refine go_ifb_eq X (tgt := 46) dX6_odds_35 (by decide) (fun c35 => ?_) (fun c35 => ?_)
      · skip
        refine go_ldc2 X (v := (-9223372036854775808)) (List.mem_cons_of_mem _ (List.mem_append_left _ (List.mem_append_left _ (List.mem_of_getElem? (i := 1) rfl)))) dX6_odds_46 ?_
        exact go_lreturn X hr hlk dX6_odds_49 ((have hE : oddsS ns nd (fun z => toN (σ (20 + z) 1)) set n which = (-9223372036854775808) := (by unfold oddsS; (try dsimp only); exact (cif_t c7).trans ((cif_t c27).trans ((cif_f c35).trans (rfl)))); ⟨hE, rfl, rfl⟩))
      · skip
        obtain ⟨nn, hnn, rfl⟩ := isB_nat (b := 4) c35 (by omega)
        refine go_iload_n X dX6_odds_38 3 rfl rfl ?_
        refine go_iconst X (v := 2) dX6_odds_39 (by decide) ?_
        refine go_callSI X (As := [.int which, .int 2]) (rest := []) (kX6_isBelow l D cs ad N kt (by omega) σ τ which 2) gX6_odds_X6_isBelow rfl hdX6_isBelow ⟨rfl, rfl, by decide, by decide, by decide, by decide⟩ rfl rfl (Nat.le_of_ble_eq_true rfl) dX6_odds_40 (fun r9 σ9 τ9 h9 => ?_)
        obtain ⟨rfl, rfl, rfl⟩ := h9
        refine go_ifb_ne X (tgt := 50) dX6_odds_43 (by decide) (fun c43 => ?_) (fun c43 => ?_)
        · skip
          refine go_lconst X (v := 1) dX6_odds_50 (by decide) ?_
          refine go_lstore X (lv2 := [(4, .long 1), (0, .ref (ad (0))), (1, .int set), (2, .int (nI nn)), (3, .int which)]) dX6_odds_51 (by decide) rfl ?_
          refine go_lconst X (v := 1) dX6_odds_53 (by decide) ?_
          refine go_lstore X (lv2 := [(6, .long 1), (4, .long 1), (0, .ref (ad (0))), (1, .int set), (2, .int (nI nn)), (3, .int which)]) dX6_odds_54 (by decide) rfl ?_
          refine go_iconst X (v := 0) dX6_odds_56 (by decide) ?_
          refine go_istore X (lv2 := [(8, .int 0), (6, .long 1), (4, .long 1), (0, .ref (ad (0))), (1, .int set), (2, .int (nI nn)), (3, .int which)]) dX6_odds_57 (by decide) rfl ?_
          refine go_loop (ι := Nat) (fun i9 => (i9 ≤ nd)) (fun i9 => nd - i9) (fun i9 => σ) (fun i9 => τ) (fun i9 => [(8, .int (nI i9)), (6, .long (lN (oPr (fun _ => 10) set nn i9))), (4, .long (lN (oPr (fun z => 10 - toN (σ (20 + z) 1)) set nn i9))), (0, .ref (ad (0))), (1, .int set), (2, .int (nI nn)), (3, .int which)]) (fun i9 => []) 0 (by (try dsimp only); exact (Nat.zero_le _)) ?_
          intro i9 hi9 ih59
          obtain ⟨d, hv9⟩ : ∃ z, z = i9 := ⟨_, rfl⟩; subst hv9
          (try dsimp only at hi9); (try dsimp only at ih59); (try dsimp only)
          have hd := hi9
          refine go_iload X dX6_odds_59 0 rfl ?_
          refine go_aload_n X dX6_odds_61 3 rfl rfl ?_
          refine go_getr X (n := 0) (j := 1) (by omega) rfl rfl (fun _ h9 => List.mem_cons_of_mem _ (List.mem_append_left _ (List.mem_append_right _ h9))) (by decide) (List.mem_cons_of_mem _ (List.mem_append_left _ (List.mem_append_left _ (List.mem_of_getElem? (i := 0) rfl)))) rfl dX6_odds_62 ?_
          refine go_geti X (n := 2) (j := 3) (by omega) rfl rfl (fun _ h9 => List.mem_cons_of_mem _ (List.mem_append_right _ h9)) (by decide) (List.mem_cons_of_mem _ (List.mem_append_left _ (List.mem_append_left _ (List.mem_of_getElem? (i := 2) rfl)))) rfl dX6_odds_65 ?_
          refine go_topi (v := nI nd) (hnd) ?_
          refine go_icmpn_ge X (tgt := 139) dX6_odds_68 (by decide) (a := d) (b := nd) rfl rfl (by omega) (by omega) (fun c68 => ?_) (fun c68 => ?_)
          · skip
            refine go_lv (lv2 := [(8, .int (nI d)), (6, .long (lN (oPr (fun _ => 10) set nn nd))), (4, .long (lN (oPr (fun z => 10 - toN (σ (20 + z) 1)) set nn nd))), (0, .ref (ad (0))), (1, .int set), (2, .int (nI nn)), (3, .int which)]) (by rw [show d = nd by omega]) ?_
            refine go_lload X dX6_odds_139 2 rfl ?_
            refine go_lload X dX6_odds_141 1 rfl ?_
            refine go_iload_n X dX6_odds_143 6 rfl rfl ?_
            have hb9 := odds_b (f := (fun z => 10 - toN (σ (20 + z) 1))) (set := set) (n := nn) (d := nd) (by omega) hnd5 (fun q _ => Nat.sub_le _ _)
            refine go_callSL X (As := [.long (lN (oPr (fun z => 10 - toN (σ (20 + z) 1)) set nn nd)), .long (lN (oPr (fun _ => 10) set nn nd)), .int which]) (rest := []) (kX6_inLeastTerms l D cs ad N kt (by omega) σ τ (oPr (fun z => 10 - toN (σ (20 + z) 1)) set nn nd) (oPr (fun _ => 10) set nn nd) which hb9.1 hb9.2.1 hb9.2.2.1 hb9.2.2.2) gX6_odds_X6_inLeastTerms rfl hdX6_inLeastTerms ⟨rfl, rfl, by decide, by decide, by decide, by decide⟩ rfl rfl (Nat.le_of_ble_eq_true rfl) dX6_odds_144 (fun r9 σ9 τ9 h9 => ?_)
            obtain ⟨rfl, rfl, rfl⟩ := h9
            exact go_lreturn X hr hlk dX6_odds_147 ((have hE : oddsS ns nd (fun z => toN (σ (20 + z) 1)) set (nI nn) which = lN (shN (oPr (fun z => 10 - toN (σ (20 + z) 1)) set nn nd) (oPr (fun _ => 10) set nn nd) which) := (by unfold oddsS; (try dsimp only); (try rw [toN_nI (k := nn) (by omega)]); exact (cif_t c7).trans ((cif_t c27).trans ((cif_t c35).trans ((cif_t c43).trans (rfl))))); ⟨hE, rfl, rfl⟩))
          · skip
            refine go_iload_n X dX6_odds_71 4 rfl rfl ?_
            refine go_iload X dX6_odds_72 0 rfl ?_
            refine go_ishr X dX6_odds_74 ?_
            refine go_iconst X (v := 1) dX6_odds_75 (by decide) ?_
            refine go_iand X dX6_odds_76 ?_
            refine go_iconst X (v := 1) dX6_odds_77 (by decide) ?_
            refine go_icmp_ne X (tgt := 85) dX6_odds_78 (by decide) (fun c78 => ?_) (fun c78 => ?_)
            · skip
              refine go_iconst X (v := 0) dX6_odds_85 (by decide) ?_
              obtain ⟨tm, htm⟩ : ∃ z, z = 0 := ⟨_, rfl⟩
              have hTm : tmN set nn d = tm := by rw [htm]; exact cif_f c78
              refine go_topi (v := nI tm) (by rw [htm]; rfl) ?_
              refine go_istore X (lv2 := [(9, .int (nI tm)), (8, .int (nI d)), (6, .long (lN (oPr (fun _ => 10) set nn d))), (4, .long (lN (oPr (fun z => 10 - toN (σ (20 + z) 1)) set nn d))), (0, .ref (ad (0))), (1, .int set), (2, .int (nI nn)), (3, .int which)]) dX6_odds_86 (by decide) rfl ?_
              refine go_lv (lv2 := [(9, .int (nI tm)), (8, .int (nI d)), (6, .long (lN (oPr (fun _ => 10) set nn d * 10 ^ 0))), (4, .long (lN (oPr (fun z => 10 - toN (σ (20 + z) 1)) set nn d * (10 - toN (σ (20 + d) 1)) ^ 0))), (0, .ref (ad (0))), (1, .int set), (2, .int (nI nn)), (3, .int which)]) (by rw [Nat.pow_zero, Nat.pow_zero, Nat.mul_one, Nat.mul_one]) ?_
              refine go_iconst X (v := 0) dX6_odds_88 (by decide) ?_
              refine go_istore X (lv2 := [(10, .int 0), (9, .int (nI tm)), (8, .int (nI d)), (6, .long (lN (oPr (fun _ => 10) set nn d * 10 ^ 0))), (4, .long (lN (oPr (fun z => 10 - toN (σ (20 + z) 1)) set nn d * (10 - toN (σ (20 + d) 1)) ^ 0))), (0, .ref (ad (0))), (1, .int set), (2, .int (nI nn)), (3, .int which)]) dX6_odds_89 (by decide) rfl ?_
              refine go_loop (ι := Nat) (fun i9 => (i9 ≤ tm)) (fun i9 => tm - i9) (fun i9 => σ) (fun i9 => τ) (fun i9 => [(10, .int (nI i9)), (9, .int (nI tm)), (8, .int (nI d)), (6, .long (lN (oPr (fun _ => 10) set nn d * 10 ^ i9))), (4, .long (lN (oPr (fun z => 10 - toN (σ (20 + z) 1)) set nn d * (10 - toN (σ (20 + d) 1)) ^ i9))), (0, .ref (ad (0))), (1, .int set), (2, .int (nI nn)), (3, .int which)]) (fun i9 => []) 0 (by (try dsimp only); exact (Nat.zero_le _)) ?_
              intro i9 hi9 ih91
              obtain ⟨t, hv9⟩ : ∃ z, z = i9 := ⟨_, rfl⟩; subst hv9
              (try dsimp only at hi9); (try dsimp only at ih91); (try dsimp only)
              have ht := hi9
              refine go_iload X dX6_odds_91 0 rfl ?_
              refine go_iload X dX6_odds_93 1 rfl ?_
              refine go_icmpn_ge X (tgt := 133) dX6_odds_95 (by decide) (a := t) (b := tm) rfl rfl (by omega) (by omega) (fun c95 => ?_) (fun c95 => ?_)
              · skip
                refine go_lv (lv2 := [(10, .int (nI t)), (9, .int (nI tm)), (8, .int (nI d)), (6, .long (lN (oPr (fun _ => 10) set nn (d + 1)))), (4, .long (lN (oPr (fun z => 10 - toN (σ (20 + z) 1)) set nn (d + 1)))), (0, .ref (ad (0))), (1, .int set), (2, .int (nI nn)), (3, .int which)]) (by rw [← oPr_s (f := (fun z => 10 - toN (σ (20 + z) 1))) hTm, ← oPr_s (f := fun _ => 10) hTm, show tm = t by omega]) ?_
                refine go_iinc X (v := nI (d + 1)) (lv2 := [(8, .int (nI (d + 1))), (10, .int (nI t)), (9, .int (nI tm)), (6, .long (lN (oPr (fun _ => 10) set nn (d + 1)))), (4, .long (lN (oPr (fun z => 10 - toN (σ (20 + z) 1)) set nn (d + 1)))), (0, .ref (ad (0))), (1, .int set), (2, .int (nI nn)), (3, .int which)]) dX6_odds_133 (k := 2) rfl (nI_add d 1) (by decide) rfl ?_
                refine go_goto X (tgt := 59) dX6_odds_136 (by decide) ?_
                refine go_lvsub [0, 3, 4, 5, 6, 7, 8] rfl ?_
                exact ih59 (d + 1) (by (try dsimp only); exact (by omega)) (by (try dsimp only); omega)
              · skip
                refine go_lload X dX6_odds_98 4 rfl ?_
                refine go_bipush X (v := 10) dX6_odds_100 (by decide) ?_
                refine go_aload_n X dX6_odds_102 5 rfl rfl ?_
                refine go_getr X (n := 0) (j := 1) (by omega) rfl rfl (fun _ h9 => List.mem_cons_of_mem _ (List.mem_append_left _ (List.mem_append_right _ h9))) (by decide) (List.mem_cons_of_mem _ (List.mem_append_left _ (List.mem_append_left _ (List.mem_of_getElem? (i := 0) rfl)))) rfl dX6_odds_103 ?_
                refine go_getr X (n := 2) (j := 0) (by omega) rfl rfl (fun _ h9 => List.mem_cons_of_mem _ (List.mem_append_right _ h9)) (by decide) (List.mem_cons_of_mem _ (List.mem_append_left _ (List.mem_append_left _ (List.mem_of_getElem? (i := 3) rfl)))) rfl dX6_odds_106 ?_
                refine go_iload X dX6_odds_109 2 rfl ?_
                refine go_aald4 X (n := 7) (k := d) (by omega) rfl rfl (by omega) (by omega) dX6_odds_111 ?_
                refine go_iconst X (v := 1) dX6_odds_112 (by decide) ?_
                refine go_iald X (n := 20 + d) (k := 1) (by omega) (sh_deed (by omega)) rfl (by omega) (by omega) dX6_odds_113 ?_
                refine go_isub X dX6_odds_114 ?_
                have hrk := isB_toN (b := 10) (hdd d (by omega) 1 (by omega)) (by omega)
                refine go_topi (v := nI (10 - toN (σ (20 + d) 1))) (by rw [show 10 - σ (20 + d) 1 = nI 10 - nI (toN (σ (20 + d) 1)) by rw [← hrk.2]; rfl]; exact pk_sub (by omega)) ?_
                refine go_i2l X (v := lN (10 - toN (σ (20 + d) 1))) dX6_odds_115 (nI_l (by omega)) ?_
                refine go_lmul X dX6_odds_116 ?_
                refine go_topl (v := lN (oPr (fun z => 10 - toN (σ (20 + z) 1)) set nn d * (10 - toN (σ (20 + d) 1)) ^ (t + 1))) (by rw [lN_mul, powS]) ?_
                refine go_lstore X (lv2 := [(4, .long (lN (oPr (fun z => 10 - toN (σ (20 + z) 1)) set nn d * (10 - toN (σ (20 + d) 1)) ^ (t + 1)))), (10, .int (nI t)), (9, .int (nI tm)), (8, .int (nI d)), (6, .long (lN (oPr (fun _ => 10) set nn d * 10 ^ t))), (0, .ref (ad (0))), (1, .int set), (2, .int (nI nn)), (3, .int which)]) dX6_odds_117 (by decide) rfl ?_
                refine go_lload X dX6_odds_119 4 rfl ?_
                refine go_ldc2 X (v := 10) (List.mem_cons_of_mem _ (List.mem_append_left _ (List.mem_append_left _ (List.mem_of_getElem? (i := 4) rfl)))) dX6_odds_121 ?_
                refine go_lmul X dX6_odds_124 ?_
                refine go_topl (v := lN (oPr (fun _ => 10) set nn d * 10 ^ (t + 1))) (by rw [show (10 : Int64) = lN 10 from rfl, lN_mul, powS]) ?_
                refine go_lstore X (lv2 := [(6, .long (lN (oPr (fun _ => 10) set nn d * 10 ^ (t + 1)))), (4, .long (lN (oPr (fun z => 10 - toN (σ (20 + z) 1)) set nn d * (10 - toN (σ (20 + d) 1)) ^ (t + 1)))), (10, .int (nI t)), (9, .int (nI tm)), (8, .int (nI d)), (0, .ref (ad (0))), (1, .int set), (2, .int (nI nn)), (3, .int which)]) dX6_odds_125 (by decide) rfl ?_
                refine go_iinc X (v := nI (t + 1)) (lv2 := [(10, .int (nI (t + 1))), (6, .long (lN (oPr (fun _ => 10) set nn d * 10 ^ (t + 1)))), (4, .long (lN (oPr (fun z => 10 - toN (σ (20 + z) 1)) set nn d * (10 - toN (σ (20 + d) 1)) ^ (t + 1)))), (9, .int (nI tm)), (8, .int (nI d)), (0, .ref (ad (0))), (1, .int set), (2, .int (nI nn)), (3, .int which)]) dX6_odds_127 (k := 2) rfl (nI_add t 1) (by decide) rfl ?_
                refine go_goto X (tgt := 91) dX6_odds_130 (by decide) ?_
                refine go_lvsub [0, 3, 4, 1, 2, 5, 6, 7, 8] rfl ?_
                exact ih91 (t + 1) (by (try dsimp only); exact (by omega)) (by (try dsimp only); omega)
            · skip
              refine go_iload_n X dX6_odds_81 5 rfl rfl ?_
              refine go_goto X (tgt := 86) dX6_odds_82 (by decide) ?_
              obtain ⟨tm, htm⟩ : ∃ z, z = nn := ⟨_, rfl⟩
              have hTm : tmN set nn d = tm := by rw [htm]; exact cif_t c78
              refine go_topi (v := nI tm) (by rw [htm]) ?_
              refine go_istore X (lv2 := [(9, .int (nI tm)), (8, .int (nI d)), (6, .long (lN (oPr (fun _ => 10) set nn d))), (4, .long (lN (oPr (fun z => 10 - toN (σ (20 + z) 1)) set nn d))), (0, .ref (ad (0))), (1, .int set), (2, .int (nI nn)), (3, .int which)]) dX6_odds_86 (by decide) rfl ?_
              refine go_lv (lv2 := [(9, .int (nI tm)), (8, .int (nI d)), (6, .long (lN (oPr (fun _ => 10) set nn d * 10 ^ 0))), (4, .long (lN (oPr (fun z => 10 - toN (σ (20 + z) 1)) set nn d * (10 - toN (σ (20 + d) 1)) ^ 0))), (0, .ref (ad (0))), (1, .int set), (2, .int (nI nn)), (3, .int which)]) (by rw [Nat.pow_zero, Nat.pow_zero, Nat.mul_one, Nat.mul_one]) ?_
              refine go_iconst X (v := 0) dX6_odds_88 (by decide) ?_
              refine go_istore X (lv2 := [(10, .int 0), (9, .int (nI tm)), (8, .int (nI d)), (6, .long (lN (oPr (fun _ => 10) set nn d * 10 ^ 0))), (4, .long (lN (oPr (fun z => 10 - toN (σ (20 + z) 1)) set nn d * (10 - toN (σ (20 + d) 1)) ^ 0))), (0, .ref (ad (0))), (1, .int set), (2, .int (nI nn)), (3, .int which)]) dX6_odds_89 (by decide) rfl ?_
              refine go_loop (ι := Nat) (fun i9 => (i9 ≤ tm)) (fun i9 => tm - i9) (fun i9 => σ) (fun i9 => τ) (fun i9 => [(10, .int (nI i9)), (9, .int (nI tm)), (8, .int (nI d)), (6, .long (lN (oPr (fun _ => 10) set nn d * 10 ^ i9))), (4, .long (lN (oPr (fun z => 10 - toN (σ (20 + z) 1)) set nn d * (10 - toN (σ (20 + d) 1)) ^ i9))), (0, .ref (ad (0))), (1, .int set), (2, .int (nI nn)), (3, .int which)]) (fun i9 => []) 0 (by (try dsimp only); exact (Nat.zero_le _)) ?_
              intro i9 hi9 ih91
              obtain ⟨t, hv9⟩ : ∃ z, z = i9 := ⟨_, rfl⟩; subst hv9
              (try dsimp only at hi9); (try dsimp only at ih91); (try dsimp only)
              have ht := hi9
              refine go_iload X dX6_odds_91 0 rfl ?_
              refine go_iload X dX6_odds_93 1 rfl ?_
              refine go_icmpn_ge X (tgt := 133) dX6_odds_95 (by decide) (a := t) (b := tm) rfl rfl (by omega) (by omega) (fun c95 => ?_) (fun c95 => ?_)
              · skip
                refine go_lv (lv2 := [(10, .int (nI t)), (9, .int (nI tm)), (8, .int (nI d)), (6, .long (lN (oPr (fun _ => 10) set nn (d + 1)))), (4, .long (lN (oPr (fun z => 10 - toN (σ (20 + z) 1)) set nn (d + 1)))), (0, .ref (ad (0))), (1, .int set), (2, .int (nI nn)), (3, .int which)]) (by rw [← oPr_s (f := (fun z => 10 - toN (σ (20 + z) 1))) hTm, ← oPr_s (f := fun _ => 10) hTm, show tm = t by omega]) ?_
                refine go_iinc X (v := nI (d + 1)) (lv2 := [(8, .int (nI (d + 1))), (10, .int (nI t)), (9, .int (nI tm)), (6, .long (lN (oPr (fun _ => 10) set nn (d + 1)))), (4, .long (lN (oPr (fun z => 10 - toN (σ (20 + z) 1)) set nn (d + 1)))), (0, .ref (ad (0))), (1, .int set), (2, .int (nI nn)), (3, .int which)]) dX6_odds_133 (k := 2) rfl (nI_add d 1) (by decide) rfl ?_
                refine go_goto X (tgt := 59) dX6_odds_136 (by decide) ?_
                refine go_lvsub [0, 3, 4, 5, 6, 7, 8] rfl ?_
                exact ih59 (d + 1) (by (try dsimp only); exact (by omega)) (by (try dsimp only); omega)
              · skip
                refine go_lload X dX6_odds_98 4 rfl ?_
                refine go_bipush X (v := 10) dX6_odds_100 (by decide) ?_
                refine go_aload_n X dX6_odds_102 5 rfl rfl ?_
                refine go_getr X (n := 0) (j := 1) (by omega) rfl rfl (fun _ h9 => List.mem_cons_of_mem _ (List.mem_append_left _ (List.mem_append_right _ h9))) (by decide) (List.mem_cons_of_mem _ (List.mem_append_left _ (List.mem_append_left _ (List.mem_of_getElem? (i := 0) rfl)))) rfl dX6_odds_103 ?_
                refine go_getr X (n := 2) (j := 0) (by omega) rfl rfl (fun _ h9 => List.mem_cons_of_mem _ (List.mem_append_right _ h9)) (by decide) (List.mem_cons_of_mem _ (List.mem_append_left _ (List.mem_append_left _ (List.mem_of_getElem? (i := 3) rfl)))) rfl dX6_odds_106 ?_
                refine go_iload X dX6_odds_109 2 rfl ?_
                refine go_aald4 X (n := 7) (k := d) (by omega) rfl rfl (by omega) (by omega) dX6_odds_111 ?_
                refine go_iconst X (v := 1) dX6_odds_112 (by decide) ?_
                refine go_iald X (n := 20 + d) (k := 1) (by omega) (sh_deed (by omega)) rfl (by omega) (by omega) dX6_odds_113 ?_
                refine go_isub X dX6_odds_114 ?_
                have hrk := isB_toN (b := 10) (hdd d (by omega) 1 (by omega)) (by omega)
                refine go_topi (v := nI (10 - toN (σ (20 + d) 1))) (by rw [show 10 - σ (20 + d) 1 = nI 10 - nI (toN (σ (20 + d) 1)) by rw [← hrk.2]; rfl]; exact pk_sub (by omega)) ?_
                refine go_i2l X (v := lN (10 - toN (σ (20 + d) 1))) dX6_odds_115 (nI_l (by omega)) ?_
                refine go_lmul X dX6_odds_116 ?_
                refine go_topl (v := lN (oPr (fun z => 10 - toN (σ (20 + z) 1)) set nn d * (10 - toN (σ (20 + d) 1)) ^ (t + 1))) (by rw [lN_mul, powS]) ?_
                refine go_lstore X (lv2 := [(4, .long (lN (oPr (fun z => 10 - toN (σ (20 + z) 1)) set nn d * (10 - toN (σ (20 + d) 1)) ^ (t + 1)))), (10, .int (nI t)), (9, .int (nI tm)), (8, .int (nI d)), (6, .long (lN (oPr (fun _ => 10) set nn d * 10 ^ t))), (0, .ref (ad (0))), (1, .int set), (2, .int (nI nn)), (3, .int which)]) dX6_odds_117 (by decide) rfl ?_
                refine go_lload X dX6_odds_119 4 rfl ?_
                refine go_ldc2 X (v := 10) (List.mem_cons_of_mem _ (List.mem_append_left _ (List.mem_append_left _ (List.mem_of_getElem? (i := 4) rfl)))) dX6_odds_121 ?_
                refine go_lmul X dX6_odds_124 ?_
                refine go_topl (v := lN (oPr (fun _ => 10) set nn d * 10 ^ (t + 1))) (by rw [show (10 : Int64) = lN 10 from rfl, lN_mul, powS]) ?_
                refine go_lstore X (lv2 := [(6, .long (lN (oPr (fun _ => 10) set nn d * 10 ^ (t + 1)))), (4, .long (lN (oPr (fun z => 10 - toN (σ (20 + z) 1)) set nn d * (10 - toN (σ (20 + d) 1)) ^ (t + 1)))), (10, .int (nI t)), (9, .int (nI tm)), (8, .int (nI d)), (0, .ref (ad (0))), (1, .int set), (2, .int (nI nn)), (3, .int which)]) dX6_odds_125 (by decide) rfl ?_
                refine go_iinc X (v := nI (t + 1)) (lv2 := [(10, .int (nI (t + 1))), (6, .long (lN (oPr (fun _ => 10) set nn d * 10 ^ (t + 1)))), (4, .long (lN (oPr (fun z => 10 - toN (σ (20 + z) 1)) set nn d * (10 - toN (σ (20 + d) 1)) ^ (t + 1)))), (9, .int (nI tm)), (8, .int (nI d)), (0, .ref (ad (0))), (1, .int set), (2, .int (nI nn)), (3, .int which)]) dX6_odds_127 (k := 2) rfl (nI_add t 1) (by decide) rfl ?_
                refine go_goto X (tgt := 91) dX6_odds_130 (by decide) ?_
                refine go_lvsub [0, 3, 4, 1, 2, 5, 6, 7, 8] rfl ?_
                exact ih91 (t + 1) (by (try dsimp only); exact (by omega)) (by (try dsimp only); omega)
        · skip
          refine go_ldc2 X (v := (-9223372036854775808)) (List.mem_cons_of_mem _ (List.mem_append_left _ (List.mem_append_left _ (List.mem_of_getElem? (i := 1) rfl)))) dX6_odds_46 ?_
          exact go_lreturn X hr hlk dX6_odds_49 ((have hE : oddsS ns nd (fun z => toN (σ (20 + z) 1)) set (nI nn) which = (-9223372036854775808) := (by unfold oddsS; (try dsimp only); (try rw [toN_nI (k := nn) (by omega)]); exact (cif_t c7).trans ((cif_t c27).trans ((cif_t c35).trans ((cif_f c43).trans (rfl))))); ⟨hE, rfl, rfl⟩))
  · skip
    refine go_ldc2 X (v := (-9223372036854775808)) (List.mem_cons_of_mem _ (List.mem_append_left _ (List.mem_append_left _ (List.mem_of_getElem? (i := 1) rfl)))) dX6_odds_10 ?_
    exact go_lreturn X hr hlk dX6_odds_13 ((have hE : oddsS ns nd (fun z => toN (σ (20 + z) 1)) set n which = (-9223372036854775808) := (by unfold oddsS; (try dsimp only); exact (cif_f c7).trans (rfl)); ⟨hE, rfl, rfl⟩))

