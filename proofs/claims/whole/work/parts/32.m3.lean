noncomputable def thM (σ : vSg) (z : Nat) : Int32 := b2i (0 ≤ σ 54 z)
theorem thM_0 {σ : vSg} {z : Nat} : thM σ z = 0 ↔ ¬ 0 ≤ σ 54 z := b2i_0
theorem i64_neg {n : Int32} : n.toInt64 < 0 ↔ n < 0 := by
  rw [Int64.lt_iff_toInt_lt, Int32.lt_iff_toInt_lt, Int32.toInt_toInt64]
  exact Iff.rfl
theorem i64_nat {n : Nat} (h : n < 2 ^ 31) : (nI n).toInt64 = lN n := nI_l h
theorem beyond {len : Nat} {i n : Int32} (hl : len < 2 ^ 30) : (i < 0 ∨ n.toInt64 < 0 ∨ ¬ i.toInt64 + n.toInt64 ≤ (nI len).toInt64) ↔ ¬ spanS (nI len) i n := by
  by_cases h1 : i < 0
  · exact ⟨fun _ q => absurd q.1 (Int32.not_le.mpr h1), fun _ => Or.inl h1⟩
  · obtain ⟨a, ha, rfl⟩ := nI_of h1
    by_cases h2 : n < 0
    · exact ⟨fun _ q => absurd q.2.2.1 (Int32.not_le.mpr h2), fun _ => Or.inr (Or.inl (i64_neg.mpr h2))⟩
    · obtain ⟨b, hb, rfl⟩ := nI_of h2
      rw [nI_l ha, nI_l hb, nI_l (by omega), lN_add, pk_lLE (by omega) (by omega)]
      constructor
      · rintro (q | q | q)
        · exact absurd q h1
        · exact absurd q (fun z => h2 (by rw [← nI_l hb] at z; exact i64_neg.mp z))
        · rintro ⟨-, q2, -, q4⟩
          have q5 := (nI_leI ha (by omega)).mp q2
          rw [pk_sub q5] at q4
          have := (nI_leI hb (by omega)).mp q4
          omega
      · intro q
        refine Or.inr (Or.inr (fun z => q ⟨nI_pos' ha, nI_le (by omega) (by omega), nI_pos' hb, ?_⟩))
        rw [pk_sub (by omega)]
        exact nI_le (by omega) (by omega)
noncomputable def ncS (sz i : Int32) : Int32 := cif (0 ≤ sz) (cif (isB i sz) 0 3) 1
noncomputable def cbF (th la le lane i n : Int32) : Int32 := cif (fAsS th la lane = 0) (cif (0 ≤ n) (cif (spanS le i n) 0 3) 4) (fAsS th la lane)
def zeroM (σ : vSg) (k c : Nat) : vSg := fun a b => if a = 56 ∧ 60 * k ≤ b ∧ b < 60 * k + c then 0 else σ a b
theorem zeroM_0 {σ : vSg} {k : Nat} : zeroM σ k 0 = σ := by
  funext a b
  simp only [zeroM]
  rw [if_neg (by omega)]
theorem zeroM_1 {σ : vSg} {k c : Nat} : up2 (zeroM σ k c) 56 (60 * k + c) 0 = zeroM σ k (c + 1) := by
  funext a b
  simp only [up2, zeroM]
  by_cases h : a = 56 ∧ b = 60 * k + c
  · rw [if_pos h, if_pos (by omega)]
  · rw [if_neg h]
    by_cases h2 : a = 56 ∧ 60 * k ≤ b ∧ b < 60 * k + c
    · rw [if_pos h2, if_pos (by omega)]
    · rw [if_neg h2, if_neg (by omega)]
theorem hdX7_isBeyond : yX7_isBeyond.cls ≠ "java/lang/invoke/MethodHandle" ∧ yX7_isBeyond.cls ≠ "java/lang/invoke/VarHandle" ∧ (parseMethodDescriptor yX7_isBeyond.desc).map (fun d => d.parameters.length) = some 3 := by decide +kernel
set_option maxHeartbeats 4000000 in
set_option maxRecDepth 100000 in
theorem kX7_isBeyond (l : Launch) (D : va_G) (cs : Nat → ClassId) (ad : Nat → Nat) (N kt : Nat) (hN : 58 ≤ N) (σ : vSg) (τ : vTa) (i : Int32) (n : Int32) (len : Nat)   (hl : len < 2 ^ 30) : CtI l yX7_isBeyond wsX7_isBeyond ({ frames := 0, cells := 0, slots := 0, locals := 0 }) D cs ad N (shP kt) [.int i, .long n.toInt64, .int (nI len)] σ τ 0 0 (fun r9 σ9 τ9 => b2i (¬ spanS (nI len) i n) = r9 ∧ σ = σ9 ∧ τ = τ9) := by
  refine ct_I (cc := cX7_isBeyond) (maxL := 4) (by decide) rfl (Nat.le_of_ble_eq_true rfl) rfl rfl ?_
  intro p e s m args below meth c A X hr hlk
  refine go_iload_n X dX7_isBeyond_0 0 rfl rfl ?_
  refine go_if_lt X (tgt := 20) dX7_isBeyond_1 (by decide) (fun c1 => ?_) (fun c1 => ?_)
  · skip
    refine go_iconst X (v := 1) dX7_isBeyond_20 (by decide) ?_
    refine go_goto X (tgt := 25) dX7_isBeyond_21 (by decide) ?_
    exact go_zreturn X hr hlk dX7_isBeyond_25 (by first | exact Or.inl rfl | exact Or.inr rfl) (⟨b2i_t ((beyond hl).mp (Or.inl c1)), rfl, rfl⟩)
  · skip
    refine go_lload_n X dX7_isBeyond_4 1 rfl rfl ?_
    refine go_lconst X (v := 0) dX7_isBeyond_5 (by decide) ?_
    refine go_lcmp X dX7_isBeyond_6 ?_
    refine go_lcmp_lt X (tgt := 20) dX7_isBeyond_7 (by decide) (fun c7 => ?_) (fun c7 => ?_)
    · skip
      refine go_iconst X (v := 1) dX7_isBeyond_20 (by decide) ?_
      refine go_goto X (tgt := 25) dX7_isBeyond_21 (by decide) ?_
      exact go_zreturn X hr hlk dX7_isBeyond_25 (by first | exact Or.inl rfl | exact Or.inr rfl) (⟨b2i_t ((beyond hl).mp (Or.inr (Or.inl c7))), rfl, rfl⟩)
    · skip
      refine go_iload_n X dX7_isBeyond_10 0 rfl rfl ?_
      refine go_i2l X (v := i.toInt64) dX7_isBeyond_11 rfl ?_
      refine go_lload_n X dX7_isBeyond_12 1 rfl rfl ?_
      refine go_ladd X dX7_isBeyond_13 ?_
      refine go_iload_n X dX7_isBeyond_14 2 rfl rfl ?_
      refine go_i2l X (v := lN len) dX7_isBeyond_15 (nI_l (by omega)) ?_
      refine go_topl (v := (nI len).toInt64) ((nI_l (by omega)).symm) ?_
      refine go_lcmp X dX7_isBeyond_16 ?_
      refine go_lcmp_le X (tgt := 24) dX7_isBeyond_17 (by decide) (fun c17 => ?_) (fun c17 => ?_)
      · skip
        refine go_iconst X (v := 0) dX7_isBeyond_24 (by decide) ?_
        exact go_zreturn X hr hlk dX7_isBeyond_25 (by first | exact Or.inl rfl | exact Or.inr rfl) (⟨b2i_f (fun q => by rcases (beyond hl).mpr q with h | h | h; exact c1 h; exact c7 h; exact h c17), rfl, rfl⟩)
      · skip
        refine go_iconst X (v := 1) dX7_isBeyond_20 (by decide) ?_
        refine go_goto X (tgt := 25) dX7_isBeyond_21 (by decide) ?_
        exact go_zreturn X hr hlk dX7_isBeyond_25 (by first | exact Or.inl rfl | exact Or.inr rfl) (⟨b2i_t ((beyond hl).mp (Or.inr (Or.inr c17))), rfl, rfl⟩)

theorem hdX7_noCell : yX7_noCell.cls = RX7 ∧ yX7_noCell.cls ≠ "java/lang/invoke/MethodHandle" ∧ yX7_noCell.cls ≠ "java/lang/invoke/VarHandle" ∧ (parseMethodDescriptor yX7_noCell.desc).map (fun d => d.parameters.length) = some 2 := by decide +kernel
set_option maxHeartbeats 4000000 in
set_option maxRecDepth 100000 in
theorem kX7_noCell (l : Launch) (D : va_G) (cs : Nat → ClassId) (ad : Nat → Nat) (N kt : Nat) (hN : 58 ≤ N) (σ : vSg) (τ : vTa) (k : Nat) (i : Int32) (sz : Int32) (h_sz : σ 54 k = sz)  (hk : k < 4) : CtI l yX7_noCell wsX7_noCell ({ frames := 1, cells := 0, slots := 0, locals := 25 }) D cs ad N (shP kt) [.ref (ad (38)), .int (nI k), .int i] σ τ 0 0 (fun r9 σ9 τ9 => ncS sz i = r9 ∧ σ = σ9 ∧ τ = τ9) := by
  refine ct_I (cc := cX7_noCell) (maxL := 3) (by decide) rfl (Nat.le_of_ble_eq_true rfl) rfl rfl ?_
  intro p e s m args below meth c A X hr hlk
  refine go_aload_n X dX7_noCell_0 0 rfl rfl ?_
  refine go_getr X (n := 38) (j := 25) (by omega) rfl rfl (fun _ h9 => List.mem_cons_of_mem _ (List.mem_append_right _ h9)) (by decide) (List.mem_cons_of_mem _ (List.mem_append_left _ (List.mem_of_getElem? (i := 0) rfl))) rfl dX7_noCell_1 ?_
  refine go_iload_n X dX7_noCell_4 1 rfl rfl ?_
  refine go_iald X (n := 54) (k := k) (by omega) rfl rfl (by omega) (by omega) dX7_noCell_5 ?_
  refine go_topi (v := sz) (h_sz) ?_
  refine go_if_ge X (tgt := 13) dX7_noCell_6 (by decide) (fun c6 => ?_) (fun c6 => ?_)
  · skip
    refine go_iload_n X dX7_noCell_13 2 rfl rfl ?_
    refine go_i2l X (v := i.toInt64) dX7_noCell_14 rfl ?_
    refine go_lconst X (v := 0) dX7_noCell_15 (by decide) ?_
    refine go_aload_n X dX7_noCell_16 0 rfl rfl ?_
    refine go_getr X (n := 38) (j := 25) (by omega) rfl rfl (fun _ h9 => List.mem_cons_of_mem _ (List.mem_append_right _ h9)) (by decide) (List.mem_cons_of_mem _ (List.mem_append_left _ (List.mem_of_getElem? (i := 0) rfl))) rfl dX7_noCell_17 ?_
    refine go_iload_n X dX7_noCell_20 1 rfl rfl ?_
    refine go_iald X (n := 54) (k := k) (by omega) rfl rfl (by omega) (by omega) dX7_noCell_21 ?_
    refine go_topi (v := sz) (h_sz) ?_
    refine go_i2l X (v := sz.toInt64) dX7_noCell_22 rfl ?_
    refine go_lconst X (v := 1) dX7_noCell_23 (by decide) ?_
    refine go_lsub X dX7_noCell_24 ?_
    refine go_callSI X (As := [.long i.toInt64, .long 0, .long (sz.toInt64 - 1)]) (rest := []) (kX7_in l D cs ad N kt (by omega) σ τ i.toInt64 0 (sz.toInt64 - 1)) gX7_noCell_X7_in rfl hdX7_in ⟨rfl, rfl, by decide, by decide, by decide, by decide⟩ rfl rfl (Nat.le_of_ble_eq_true rfl) dX7_noCell_25 (fun r9 σ9 τ9 h9 => ?_)
    obtain ⟨rfl, rfl, rfl⟩ := h9
    refine go_topi (v := b2i (isB i sz)) (b2i_c (in_iff rfl (i64_sub1 sz))) ?_
    refine go_ifb_eq X (tgt := 35) dX7_noCell_28 (by decide) (fun c28 => ?_) (fun c28 => ?_)
    · skip
      refine go_iconst X (v := 3) dX7_noCell_35 (by decide) ?_
      exact go_ireturn X hr hlk dX7_noCell_36 ((have hE : ncS sz i = 3 := (by unfold ncS; (try dsimp only); exact (cif_t c6).trans ((cif_f c28).trans (rfl))); ⟨hE, rfl, rfl⟩))
    · skip
      refine go_iconst X (v := 0) dX7_noCell_31 (by decide) ?_
      refine go_goto X (tgt := 36) dX7_noCell_32 (by decide) ?_
      exact go_ireturn X hr hlk dX7_noCell_36 ((have hE : ncS sz i = 0 := (by unfold ncS; (try dsimp only); exact (cif_t c6).trans ((cif_t c28).trans (rfl))); ⟨hE, rfl, rfl⟩))
  · skip
    refine go_iconst X (v := 1) dX7_noCell_9 (by decide) ?_
    refine go_goto X (tgt := 36) dX7_noCell_10 (by decide) ?_
    exact go_ireturn X hr hlk dX7_noCell_36 ((have hE : ncS sz i = 1 := (by unfold ncS; (try dsimp only); exact (cif_f c6).trans (rfl)); ⟨hE, rfl, rfl⟩))

theorem fAs_0 {th la lane : Int32} (h : th = 0) : fAsS th la lane = 1 := cif_t h
theorem fAs_2 {th la lane : Int32} (h : ¬ th = 0) (h2 : ¬ la = lane) : fAsS th la lane = 2 := (cif_f h).trans (cif_f h2)
theorem fAs_1 {th la lane : Int32} (h : ¬ th = 0) (h2 : la = lane) : fAsS th la lane = 0 := (cif_f h).trans (cif_t h2)
noncomputable def cbR (f : Int32) : Int32 := cif (f = 0) 0 (-10 - f)
noncomputable def cbG (σ : vSg) (f : Int32) : vSg := cif (f = 0) σ (up2 σ 38 0 f)
theorem cbRG {σ : vSg} {f g : Int32} (h : f = g) (h0 : ¬ g = 0) : cbR f = -10 - g ∧ cbG σ f = up2 σ 38 0 g := by
  subst h
  exact ⟨cif_f h0, cif_f h0⟩
theorem cbRG0 {σ : vSg} {f : Int32} (h : f = 0) : cbR f = 0 ∧ cbG σ f = σ := ⟨cif_t h, cif_t h⟩
theorem hdX7_cellsBarred : yX7_cellsBarred.cls = RX7 ∧ yX7_cellsBarred.cls ≠ "java/lang/invoke/MethodHandle" ∧ yX7_cellsBarred.cls ≠ "java/lang/invoke/VarHandle" ∧ (parseMethodDescriptor yX7_cellsBarred.desc).map (fun d => d.parameters.length) = some 4 := by decide +kernel
set_option maxHeartbeats 4000000 in
set_option maxRecDepth 100000 in
theorem kX7_cellsBarred (l : Launch) (D : va_G) (cs : Nat → ClassId) (ad : Nat → Nat) (N kt : Nat) (hN : 58 ≤ N) (σ : vSg) (τ : vTa) (k : Nat) (lane : Int32) (i : Int32) (n : Int32)   (hk : k < 4) (hsh : σ 54 k = -1 ∨ isB (σ 54 k) 61) : CtI l yX7_cellsBarred wsX7_cellsBarred ({ frames := 1, cells := 0, slots := 0, locals := 23 }) D cs ad N (shP kt) [.ref (ad (38)), .int (nI k), .int lane, .int i, .long n.toInt64] σ τ 0 0 (fun r9 σ9 τ9 => cbR (cbF (thM σ k) (σ 55 k) (σ 54 k) lane i n) = r9 ∧ cbG σ (cbF (thM σ k) (σ 55 k) (σ 54 k) lane i n) = σ9 ∧ τ = τ9) := by
  refine ct_I (cc := cX7_cellsBarred) (maxL := 6) (by decide) rfl (Nat.le_of_ble_eq_true rfl) rfl rfl ?_
  intro p e s m args below meth c A X hr hlk
  refine go_aload_n X dX7_cellsBarred_0 0 rfl rfl ?_
  refine go_getr X (n := 38) (j := 25) (by omega) rfl rfl (fun _ h9 => List.mem_cons_of_mem _ (List.mem_append_right _ h9)) (by decide) (List.mem_cons_of_mem _ (List.mem_append_left _ (List.mem_of_getElem? (i := 0) rfl))) rfl dX7_cellsBarred_1 ?_
  refine go_iload_n X dX7_cellsBarred_4 1 rfl rfl ?_
  refine go_iald X (n := 54) (k := k) (by omega) rfl rfl (by omega) (by omega) dX7_cellsBarred_5 ?_
  refine go_if_lt X (tgt := 25) dX7_cellsBarred_6 (by decide) (fun c6 => ?_) (fun c6 => ?_)
  · skip
    refine go_aload_n X dX7_cellsBarred_25 0 rfl rfl ?_
    refine go_getr X (n := 38) (j := 25) (by omega) rfl rfl (fun _ h9 => List.mem_cons_of_mem _ (List.mem_append_right _ h9)) (by decide) (List.mem_cons_of_mem _ (List.mem_append_left _ (List.mem_of_getElem? (i := 0) rfl))) rfl dX7_cellsBarred_26 ?_
    refine go_iload_n X dX7_cellsBarred_29 1 rfl rfl ?_
    refine go_iald X (n := 54) (k := k) (by omega) rfl rfl (by omega) (by omega) dX7_cellsBarred_30 ?_
    refine go_if_ge X (tgt := 40) dX7_cellsBarred_31 (by decide) (fun c31 => ?_) (fun c31 => ?_)
    · skip
      have cla : σ 55 k = lane := absurd c31 (Int32.not_le.mpr c6)
      refine go_lload X dX7_cellsBarred_40 4 rfl ?_
      refine go_lconst X (v := 0) dX7_cellsBarred_42 (by decide) ?_
      refine go_lcmp X dX7_cellsBarred_43 ?_
      refine go_lcmp_ge X (tgt := 53) dX7_cellsBarred_44 (by decide) (fun c44 => ?_) (fun c44 => ?_)
      · skip
        obtain ⟨len, hlen, elen⟩ := isB_nat (b := 61) (hsh.resolve_left (fun q => by rw [q] at c31; exact absurd c31 (by decide))) (by omega)
        have hn0 : 0 ≤ n := Int32.not_lt.mp (fun z => absurd c44 (Int64.not_le.mpr (i64_neg.mpr z)))
        refine go_iload_n X dX7_cellsBarred_53 3 rfl rfl ?_
        refine go_lload X dX7_cellsBarred_54 4 rfl ?_
        refine go_aload_n X dX7_cellsBarred_56 0 rfl rfl ?_
        refine go_getr X (n := 38) (j := 25) (by omega) rfl rfl (fun _ h9 => List.mem_cons_of_mem _ (List.mem_append_right _ h9)) (by decide) (List.mem_cons_of_mem _ (List.mem_append_left _ (List.mem_of_getElem? (i := 0) rfl))) rfl dX7_cellsBarred_57 ?_
        refine go_iload_n X dX7_cellsBarred_60 1 rfl rfl ?_
        refine go_iald X (n := 54) (k := k) (by omega) rfl rfl (by omega) (by omega) dX7_cellsBarred_61 ?_
        refine go_topi (v := nI len) elen ?_
        refine go_callSI X (As := [.int i, .long n.toInt64, .int (nI len)]) (rest := []) (kX7_isBeyond l D cs ad N kt (by omega) σ τ i n len (by omega)) gX7_cellsBarred_X7_isBeyond rfl hdX7_isBeyond ⟨rfl, rfl, by decide, by decide, by decide, by decide⟩ rfl rfl (Nat.le_of_ble_eq_true rfl) dX7_cellsBarred_62 (fun r9 σ9 τ9 h9 => ?_)
        obtain ⟨rfl, rfl, rfl⟩ := h9
        refine go_ifb_eq X (tgt := 76) dX7_cellsBarred_65 (by decide) (fun c65 => ?_) (fun c65 => ?_)
        · skip
          refine go_iconst X (v := 0) dX7_cellsBarred_76 (by decide) ?_
          exact go_ireturn X hr hlk dX7_cellsBarred_77 (by have h1 := fAs_1 (lane := lane) (fun q => thM_0.mp q c31) cla; have hF : cbF (thM σ k) (σ 55 k) (σ 54 k) lane i n = 0 := (cif_t h1).trans ((cif_t hn0).trans (cif_t (by rw [elen]; exact (Classical.not_not.mp c65)))); have hr9 := cbRG0 (σ := σ) hF; exact ⟨hr9.1, hr9.2, rfl⟩)
        · skip
          refine go_aload_n X dX7_cellsBarred_68 0 rfl rfl ?_
          refine go_iconst X (v := 3) dX7_cellsBarred_69 (by decide) ?_
          refine go_callVI X (n := 38) (As := [.int 3]) (rest := []) (kX7_failed l D cs ad N kt (by omega) σ τ 3) gX7_cellsBarred_X7_failed rfl hdX7_failed ⟨rfl, rfl, by decide, by decide, by decide, by decide⟩ (by omega) rfl rfl rfl rfl (Nat.le_of_ble_eq_true rfl) dX7_cellsBarred_70 (fun r9 σ9 τ9 h9 => ?_)
          obtain ⟨rfl, rfl, rfl⟩ := h9
          refine go_goto X (tgt := 77) dX7_cellsBarred_73 (by decide) ?_
          exact go_ireturn X hr hlk dX7_cellsBarred_77 (by have h1 := fAs_1 (lane := lane) (fun q => thM_0.mp q c31) cla; have hF : cbF (thM σ k) (σ 55 k) (σ 54 k) lane i n = 3 := (cif_t h1).trans ((cif_t hn0).trans (cif_f (by rw [elen]; exact c65))); have hr9 := cbRG (σ := σ) hF (by decide); exact ⟨hr9.1, hr9.2, rfl⟩)
      · skip
        refine go_aload_n X dX7_cellsBarred_47 0 rfl rfl ?_
        refine go_iconst X (v := 4) dX7_cellsBarred_48 (by decide) ?_
        refine go_callVI X (n := 38) (As := [.int 4]) (rest := []) (kX7_failed l D cs ad N kt (by omega) σ τ 4) gX7_cellsBarred_X7_failed rfl hdX7_failed ⟨rfl, rfl, by decide, by decide, by decide, by decide⟩ (by omega) rfl rfl rfl rfl (Nat.le_of_ble_eq_true rfl) dX7_cellsBarred_49 (fun r9 σ9 τ9 h9 => ?_)
        obtain ⟨rfl, rfl, rfl⟩ := h9
        exact go_ireturn X hr hlk dX7_cellsBarred_52 (by have h1 := fAs_1 (lane := lane) (fun q => thM_0.mp q c31) cla; have hF : cbF (thM σ k) (σ 55 k) (σ 54 k) lane i n = 4 := (cif_t h1).trans (cif_f (fun q => absurd (i64_neg.mpr (Int32.not_le.mp (fun z => c44 (by rw [← Int64.not_lt]; exact fun y => absurd z (Int32.not_le.mpr (i64_neg.mp y)))))) (fun y => absurd q (Int32.not_le.mpr (i64_neg.mp y))))); have hr9 := cbRG (σ := σ) hF (by decide); exact ⟨hr9.1, hr9.2, rfl⟩)
    · skip
      refine go_aload_n X dX7_cellsBarred_34 0 rfl rfl ?_
      refine go_iconst X (v := 1) dX7_cellsBarred_35 (by decide) ?_
      refine go_callVI X (n := 38) (As := [.int 1]) (rest := []) (kX7_failed l D cs ad N kt (by omega) σ τ 1) gX7_cellsBarred_X7_failed rfl hdX7_failed ⟨rfl, rfl, by decide, by decide, by decide, by decide⟩ (by omega) rfl rfl rfl rfl (Nat.le_of_ble_eq_true rfl) dX7_cellsBarred_36 (fun r9 σ9 τ9 h9 => ?_)
      obtain ⟨rfl, rfl, rfl⟩ := h9
      exact go_ireturn X hr hlk dX7_cellsBarred_39 (by have h1 := fAs_0 (la := σ 55 k) (lane := lane) (thM_0.mpr c31); have hF : cbF (thM σ k) (σ 55 k) (σ 54 k) lane i n = 1 := (cif_f (by rw [h1]; decide)).trans h1; have hr9 := cbRG (σ := σ) hF (by decide); exact ⟨hr9.1, hr9.2, rfl⟩)
  · skip
    refine go_aload_n X dX7_cellsBarred_9 0 rfl rfl ?_
    refine go_getr X (n := 38) (j := 26) (by omega) rfl rfl (fun _ h9 => List.mem_cons_of_mem _ (List.mem_append_right _ h9)) (by decide) (List.mem_cons_of_mem _ (List.mem_append_left _ (List.mem_of_getElem? (i := 1) rfl))) rfl dX7_cellsBarred_10 ?_
    refine go_iload_n X dX7_cellsBarred_13 1 rfl rfl ?_
    refine go_iald X (n := 55) (k := k) (by omega) rfl rfl (by omega) (by omega) dX7_cellsBarred_14 ?_
    refine go_iload_n X dX7_cellsBarred_15 2 rfl rfl ?_
    refine go_icmp_eq X (tgt := 25) dX7_cellsBarred_16 (by decide) (fun c16 => ?_) (fun c16 => ?_)
    · skip
      refine go_aload_n X dX7_cellsBarred_25 0 rfl rfl ?_
      refine go_getr X (n := 38) (j := 25) (by omega) rfl rfl (fun _ h9 => List.mem_cons_of_mem _ (List.mem_append_right _ h9)) (by decide) (List.mem_cons_of_mem _ (List.mem_append_left _ (List.mem_of_getElem? (i := 0) rfl))) rfl dX7_cellsBarred_26 ?_
      refine go_iload_n X dX7_cellsBarred_29 1 rfl rfl ?_
      refine go_iald X (n := 54) (k := k) (by omega) rfl rfl (by omega) (by omega) dX7_cellsBarred_30 ?_
      refine go_if_ge X (tgt := 40) dX7_cellsBarred_31 (by decide) (fun c31 => ?_) (fun c31 => ?_)
      · skip
        have cla : σ 55 k = lane := c16
        refine go_lload X dX7_cellsBarred_40 4 rfl ?_
        refine go_lconst X (v := 0) dX7_cellsBarred_42 (by decide) ?_
        refine go_lcmp X dX7_cellsBarred_43 ?_
        refine go_lcmp_ge X (tgt := 53) dX7_cellsBarred_44 (by decide) (fun c44 => ?_) (fun c44 => ?_)
        · skip
          obtain ⟨len, hlen, elen⟩ := isB_nat (b := 61) (hsh.resolve_left (fun q => by rw [q] at c31; exact absurd c31 (by decide))) (by omega)
          have hn0 : 0 ≤ n := Int32.not_lt.mp (fun z => absurd c44 (Int64.not_le.mpr (i64_neg.mpr z)))
          refine go_iload_n X dX7_cellsBarred_53 3 rfl rfl ?_
          refine go_lload X dX7_cellsBarred_54 4 rfl ?_
          refine go_aload_n X dX7_cellsBarred_56 0 rfl rfl ?_
          refine go_getr X (n := 38) (j := 25) (by omega) rfl rfl (fun _ h9 => List.mem_cons_of_mem _ (List.mem_append_right _ h9)) (by decide) (List.mem_cons_of_mem _ (List.mem_append_left _ (List.mem_of_getElem? (i := 0) rfl))) rfl dX7_cellsBarred_57 ?_
          refine go_iload_n X dX7_cellsBarred_60 1 rfl rfl ?_
          refine go_iald X (n := 54) (k := k) (by omega) rfl rfl (by omega) (by omega) dX7_cellsBarred_61 ?_
          refine go_topi (v := nI len) elen ?_
          refine go_callSI X (As := [.int i, .long n.toInt64, .int (nI len)]) (rest := []) (kX7_isBeyond l D cs ad N kt (by omega) σ τ i n len (by omega)) gX7_cellsBarred_X7_isBeyond rfl hdX7_isBeyond ⟨rfl, rfl, by decide, by decide, by decide, by decide⟩ rfl rfl (Nat.le_of_ble_eq_true rfl) dX7_cellsBarred_62 (fun r9 σ9 τ9 h9 => ?_)
          obtain ⟨rfl, rfl, rfl⟩ := h9
          refine go_ifb_eq X (tgt := 76) dX7_cellsBarred_65 (by decide) (fun c65 => ?_) (fun c65 => ?_)
          · skip
            refine go_iconst X (v := 0) dX7_cellsBarred_76 (by decide) ?_
            exact go_ireturn X hr hlk dX7_cellsBarred_77 (by have h1 := fAs_1 (lane := lane) (fun q => thM_0.mp q c31) cla; have hF : cbF (thM σ k) (σ 55 k) (σ 54 k) lane i n = 0 := (cif_t h1).trans ((cif_t hn0).trans (cif_t (by rw [elen]; exact (Classical.not_not.mp c65)))); have hr9 := cbRG0 (σ := σ) hF; exact ⟨hr9.1, hr9.2, rfl⟩)
          · skip
            refine go_aload_n X dX7_cellsBarred_68 0 rfl rfl ?_
            refine go_iconst X (v := 3) dX7_cellsBarred_69 (by decide) ?_
            refine go_callVI X (n := 38) (As := [.int 3]) (rest := []) (kX7_failed l D cs ad N kt (by omega) σ τ 3) gX7_cellsBarred_X7_failed rfl hdX7_failed ⟨rfl, rfl, by decide, by decide, by decide, by decide⟩ (by omega) rfl rfl rfl rfl (Nat.le_of_ble_eq_true rfl) dX7_cellsBarred_70 (fun r9 σ9 τ9 h9 => ?_)
            obtain ⟨rfl, rfl, rfl⟩ := h9
            refine go_goto X (tgt := 77) dX7_cellsBarred_73 (by decide) ?_
            exact go_ireturn X hr hlk dX7_cellsBarred_77 (by have h1 := fAs_1 (lane := lane) (fun q => thM_0.mp q c31) cla; have hF : cbF (thM σ k) (σ 55 k) (σ 54 k) lane i n = 3 := (cif_t h1).trans ((cif_t hn0).trans (cif_f (by rw [elen]; exact c65))); have hr9 := cbRG (σ := σ) hF (by decide); exact ⟨hr9.1, hr9.2, rfl⟩)
        · skip
          refine go_aload_n X dX7_cellsBarred_47 0 rfl rfl ?_
          refine go_iconst X (v := 4) dX7_cellsBarred_48 (by decide) ?_
          refine go_callVI X (n := 38) (As := [.int 4]) (rest := []) (kX7_failed l D cs ad N kt (by omega) σ τ 4) gX7_cellsBarred_X7_failed rfl hdX7_failed ⟨rfl, rfl, by decide, by decide, by decide, by decide⟩ (by omega) rfl rfl rfl rfl (Nat.le_of_ble_eq_true rfl) dX7_cellsBarred_49 (fun r9 σ9 τ9 h9 => ?_)
          obtain ⟨rfl, rfl, rfl⟩ := h9
          exact go_ireturn X hr hlk dX7_cellsBarred_52 (by have h1 := fAs_1 (lane := lane) (fun q => thM_0.mp q c31) cla; have hF : cbF (thM σ k) (σ 55 k) (σ 54 k) lane i n = 4 := (cif_t h1).trans (cif_f (fun q => absurd (i64_neg.mpr (Int32.not_le.mp (fun z => c44 (by rw [← Int64.not_lt]; exact fun y => absurd z (Int32.not_le.mpr (i64_neg.mp y)))))) (fun y => absurd q (Int32.not_le.mpr (i64_neg.mp y))))); have hr9 := cbRG (σ := σ) hF (by decide); exact ⟨hr9.1, hr9.2, rfl⟩)
      · skip
        refine go_aload_n X dX7_cellsBarred_34 0 rfl rfl ?_
        refine go_iconst X (v := 1) dX7_cellsBarred_35 (by decide) ?_
        refine go_callVI X (n := 38) (As := [.int 1]) (rest := []) (kX7_failed l D cs ad N kt (by omega) σ τ 1) gX7_cellsBarred_X7_failed rfl hdX7_failed ⟨rfl, rfl, by decide, by decide, by decide, by decide⟩ (by omega) rfl rfl rfl rfl (Nat.le_of_ble_eq_true rfl) dX7_cellsBarred_36 (fun r9 σ9 τ9 h9 => ?_)
        obtain ⟨rfl, rfl, rfl⟩ := h9
        exact go_ireturn X hr hlk dX7_cellsBarred_39 (by have h1 := fAs_0 (la := σ 55 k) (lane := lane) (thM_0.mpr c31); have hF : cbF (thM σ k) (σ 55 k) (σ 54 k) lane i n = 1 := (cif_f (by rw [h1]; decide)).trans h1; have hr9 := cbRG (σ := σ) hF (by decide); exact ⟨hr9.1, hr9.2, rfl⟩)
    · skip
      refine go_aload_n X dX7_cellsBarred_19 0 rfl rfl ?_
      refine go_iconst X (v := 2) dX7_cellsBarred_20 (by decide) ?_
      refine go_callVI X (n := 38) (As := [.int 2]) (rest := []) (kX7_failed l D cs ad N kt (by omega) σ τ 2) gX7_cellsBarred_X7_failed rfl hdX7_failed ⟨rfl, rfl, by decide, by decide, by decide, by decide⟩ (by omega) rfl rfl rfl rfl (Nat.le_of_ble_eq_true rfl) dX7_cellsBarred_21 (fun r9 σ9 τ9 h9 => ?_)
      obtain ⟨rfl, rfl, rfl⟩ := h9
      exact go_ireturn X hr hlk dX7_cellsBarred_24 (by have h1 := fAs_2 (lane := lane) (fun q => thM_0.mp q (Int32.not_lt.mp c6)) c16; have hF : cbF (thM σ k) (σ 55 k) (σ 54 k) lane i n = 2 := (cif_f (by rw [h1]; decide)).trans h1; have hr9 := cbRG (σ := σ) hF (by decide); exact ⟨hr9.1, hr9.2, rfl⟩)

theorem hdX7_sheet : yX7_sheet.cls = RX7 ∧ yX7_sheet.cls ≠ "java/lang/invoke/MethodHandle" ∧ yX7_sheet.cls ≠ "java/lang/invoke/VarHandle" ∧ (parseMethodDescriptor yX7_sheet.desc).map (fun d => d.parameters.length) = some 3 := by decide +kernel
set_option maxHeartbeats 4000000 in
set_option maxRecDepth 100000 in
theorem kX7_sheet (l : Launch) (D : va_G) (cs : Nat → ClassId) (ad : Nat → Nat) (N kt : Nat) (hN : 58 ≤ N) (σ : vSg) (τ : vTa) (k : Int32) (lane : Int32) (n : Int32) (nd : Nat) (ns : Nat) (nr : Nat)   (hI : IM σ nd ns nr) : CtI l yX7_sheet wsX7_sheet ({ frames := 2, cells := 0, slots := 0, locals := 45 }) D cs ad N (shP kt) [.ref (ad (38)), .int k, .int lane, .int n] σ τ 0 0 (fun r9 σ9 τ9 => (sheetS k lane n).1 = r9 ∧ cif (isB k 4 ∧ isB lane 3 ∧ n ≤ 60 ∧ 0 ≤ n) (up2 (zeroM (up2 (up2 σ 54 (toN k) n) 55 (toN k) lane) (toN k) (toN n)) 38 0 0) (up2 σ 38 0 (sheetS k lane n).2) = σ9 ∧ τ = τ9) := by
  refine ct_I (cc := cX7_sheet) (maxL := 5) (by decide) rfl (Nat.le_of_ble_eq_true rfl) rfl rfl ?_
  intro p e s m args below meth c A X hr hlk
  obtain ⟨⟨hnd, hnd5⟩, ⟨hns, hns4⟩, hdd, hkp, ⟨hnr, hnr8⟩, hrd, hsh, hpos⟩ := id hI
  refine go_iload_n X dX7_sheet_0 1 rfl rfl ?_
  refine go_callSI X (As := [.int k]) (rest := []) (kX7_noSheet l D cs ad N kt (by omega) σ τ k) gX7_sheet_X7_noSheet rfl hdX7_noSheet ⟨rfl, rfl, by decide, by decide, by decide, by decide⟩ rfl rfl (Nat.le_of_ble_eq_true rfl) dX7_sheet_1 (fun r9 σ9 τ9 h9 => ?_)
  obtain ⟨rfl, rfl, rfl⟩ := h9
  refine go_ifb_eq X (tgt := 13) dX7_sheet_4 (by decide) (fun c4 => ?_) (fun c4 => ?_)
  · skip
    refine go_iload_n X dX7_sheet_13 2 rfl rfl ?_
    refine go_i2l X (v := lane.toInt64) dX7_sheet_14 rfl ?_
    refine go_lconst X (v := 0) dX7_sheet_15 (by decide) ?_
    refine go_ldc2 X (v := 2) (List.mem_cons_of_mem _ (List.mem_append_left _ (List.mem_of_getElem? (i := 0) rfl))) dX7_sheet_16 ?_
    refine go_callSI X (As := [.long lane.toInt64, .long 0, .long 2]) (rest := []) (kX7_in l D cs ad N kt (by omega) σ τ lane.toInt64 0 2) gX7_sheet_X7_in rfl hdX7_in ⟨rfl, rfl, by decide, by decide, by decide, by decide⟩ rfl rfl (Nat.le_of_ble_eq_true rfl) dX7_sheet_19 (fun r9 σ9 τ9 h9 => ?_)
    obtain ⟨rfl, rfl, rfl⟩ := h9
    refine go_topi (v := b2i (isB lane 3)) (b2i_c (in_iff rfl rfl)) ?_
    refine go_ifb_eq X (tgt := 31) dX7_sheet_22 (by decide) (fun c22 => ?_) (fun c22 => ?_)
    · skip
      refine go_aload_n X dX7_sheet_31 0 rfl rfl ?_
      refine go_bipush X (v := (-2)) dX7_sheet_32 (by decide) ?_
      refine go_callVI X (n := 38) (As := [.int (-2)]) (rest := []) (kX7_refused l D cs ad N kt (by omega) σ τ (-2)) gX7_sheet_X7_refused rfl hdX7_refused ⟨rfl, rfl, by decide, by decide, by decide, by decide⟩ (by omega) rfl rfl rfl rfl (Nat.le_of_ble_eq_true rfl) dX7_sheet_34 (fun r9 σ9 τ9 h9 => ?_)
      obtain ⟨rfl, rfl, rfl⟩ := h9
      exact go_ireturn X hr hlk dX7_sheet_37 ((have hE : sheetS k lane n = ((-2), 0) := (by unfold sheetS; (try dsimp only); exact (cif_t (Classical.not_not.mp c4)).trans ((cif_f c22).trans (rfl))); ⟨by rw [hE], (cif_f (fun q => c22 q.2.1)).trans (by rw [hE]), rfl⟩))
    · skip
      refine go_iload_n X dX7_sheet_25 3 rfl rfl ?_
      refine go_bipush X (v := 60) dX7_sheet_26 (by decide) ?_
      refine go_icmp_le X (tgt := 38) dX7_sheet_28 (by decide) (fun c28 => ?_) (fun c28 => ?_)
      · skip
        refine go_iload_n X dX7_sheet_38 3 rfl rfl ?_
        refine go_if_ge X (tgt := 48) dX7_sheet_39 (by decide) (fun c39 => ?_) (fun c39 => ?_)
        · skip
          obtain ⟨i, hi, rfl⟩ := isB_nat (b := 4) (Classical.not_not.mp c4) (by omega)
          obtain ⟨nn, hn1, hnn, rfl⟩ := rng_nat (lo := 0) (hi := 60) (Int32.not_lt.mpr c39) c28 (by omega) (by omega)
          refine go_aload_n X dX7_sheet_48 0 rfl rfl ?_
          refine go_getr X (n := 38) (j := 25) (by omega) rfl rfl (fun _ h9 => List.mem_cons_of_mem _ (List.mem_append_right _ h9)) (by decide) (List.mem_cons_of_mem _ (List.mem_append_left _ (List.mem_of_getElem? (i := 1) rfl))) rfl dX7_sheet_49 ?_
          refine go_iload_n X dX7_sheet_52 1 rfl rfl ?_
          refine go_iload_n X dX7_sheet_53 3 rfl rfl ?_
          refine go_iast X (n := 54) (k := i) (by omega) rfl rfl (by omega) (by omega) dX7_sheet_54 ?_
          refine go_aload_n X dX7_sheet_55 0 rfl rfl ?_
          refine go_getr X (n := 38) (j := 26) (by omega) rfl rfl (fun _ h9 => List.mem_cons_of_mem _ (List.mem_append_right _ h9)) (by decide) (List.mem_cons_of_mem _ (List.mem_append_left _ (List.mem_of_getElem? (i := 2) rfl))) rfl dX7_sheet_56 ?_
          refine go_iload_n X dX7_sheet_59 1 rfl rfl ?_
          refine go_iload_n X dX7_sheet_60 2 rfl rfl ?_
          refine go_iast X (n := 55) (k := i) (by omega) rfl rfl (by omega) (by omega) dX7_sheet_61 ?_
          refine go_sg (σ2 := (zeroM (up2 (up2 σ 54 i (nI nn)) 55 i lane) i 0)) zeroM_0.symm ?_
          refine go_iconst X (v := 0) dX7_sheet_62 (by decide) ?_
          refine go_istore X (lv2 := [(4, .int 0), (0, .ref (ad (38))), (1, .int (nI i)), (2, .int lane), (3, .int (nI nn))]) dX7_sheet_63 (by decide) rfl ?_
          refine go_loop (ι := Nat) (fun i9 => (i9 ≤ nn)) (fun i9 => nn - i9) (fun i9 => (zeroM (up2 (up2 σ 54 i (nI nn)) 55 i lane) i i9)) (fun i9 => τ) (fun i9 => [(4, .int (nI i9)), (0, .ref (ad (38))), (1, .int (nI i)), (2, .int lane), (3, .int (nI nn))]) (fun i9 => []) 0 (by (try dsimp only); exact (Nat.zero_le _)) ?_
          intro i9 hi9 ih65
          obtain ⟨c9, hv9⟩ : ∃ z, z = i9 := ⟨_, rfl⟩; subst hv9
          (try dsimp only at hi9); (try dsimp only at ih65); (try dsimp only)
          have hc9 := hi9
          refine go_iload X dX7_sheet_65 0 rfl ?_
          refine go_iload_n X dX7_sheet_67 4 rfl rfl ?_
          refine go_icmpn_ge X (tgt := 90) dX7_sheet_68 (by decide) (a := c9) (b := nn) rfl rfl (by omega) (by omega) (fun c68 => ?_) (fun c68 => ?_)
          · skip
            refine go_sg (σ2 := (zeroM (up2 (up2 σ 54 i (nI nn)) 55 i lane) i nn)) (by rw [show c9 = nn by omega]) ?_
            refine go_aload_n X dX7_sheet_90 1 rfl rfl ?_
            refine go_iconst X (v := 1) dX7_sheet_91 (by decide) ?_
            refine go_callVI X (n := 38) (As := [.int 1]) (rest := []) (kX7_refused l D cs ad N kt (by omega) (zeroM (up2 (up2 σ 54 i (nI nn)) 55 i lane) i nn) τ 1) gX7_sheet_X7_refused rfl hdX7_refused ⟨rfl, rfl, by decide, by decide, by decide, by decide⟩ (by omega) rfl rfl rfl rfl (Nat.le_of_ble_eq_true rfl) dX7_sheet_92 (fun r9 σ9 τ9 h9 => ?_)
            obtain ⟨rfl, rfl, rfl⟩ := h9
            exact go_ireturn X hr hlk dX7_sheet_95 ((have hE : sheetS (nI i) lane (nI nn) = (1, 0) := (by unfold sheetS; exact (cif_t (Classical.not_not.mp c4)).trans ((cif_t c22).trans ((cif_t c28).trans ((cif_t c39).trans (rfl))))); ⟨by rw [hE], (cif_t ⟨(Classical.not_not.mp c4), c22, c28, c39⟩).trans (by rw [toN_nI (k := i) (by omega), toN_nI (k := nn) (by omega)]), rfl⟩))
          · skip
            refine go_aload_n X dX7_sheet_71 1 rfl rfl ?_
            refine go_getr X (n := 38) (j := 27) (by omega) rfl rfl (fun _ h9 => List.mem_cons_of_mem _ (List.mem_append_right _ h9)) (by decide) (List.mem_cons_of_mem _ (List.mem_append_left _ (List.mem_of_getElem? (i := 3) rfl))) rfl dX7_sheet_72 ?_
            refine go_bipush X (v := 60) dX7_sheet_75 (by decide) ?_
            refine go_iload_n X dX7_sheet_77 2 rfl rfl ?_
            refine go_imul X dX7_sheet_78 ?_
            refine go_topi (v := nI (60 * i)) (pk_mul 60 i) ?_
            refine go_iload X dX7_sheet_79 0 rfl ?_
            refine go_iadd X dX7_sheet_81 ?_
            refine go_topi (v := nI ((60 * i) + c9)) (nI_add (60 * i) c9) ?_
            refine go_iconst X (v := 0) dX7_sheet_82 (by decide) ?_
            refine go_iast X (n := 56) (k := (60 * i) + c9) (by omega) rfl rfl (by omega) (by omega) dX7_sheet_83 ?_
            refine go_sg (σ2 := (zeroM (up2 (up2 σ 54 i (nI nn)) 55 i lane) i (c9 + 1))) zeroM_1 ?_
            refine go_iinc X (v := nI (c9 + 1)) (lv2 := [(4, .int (nI (c9 + 1))), (0, .ref (ad (38))), (1, .int (nI i)), (2, .int lane), (3, .int (nI nn))]) dX7_sheet_84 (k := 0) rfl (nI_add c9 1) (by decide) rfl ?_
            refine go_goto X (tgt := 65) dX7_sheet_87 (by decide) ?_
            exact ih65 (c9 + 1) (by (try dsimp only); exact (by omega)) (by (try dsimp only); omega)
        · skip
          refine go_aload_n X dX7_sheet_42 0 rfl rfl ?_
          refine go_iconst X (v := 4) dX7_sheet_43 (by decide) ?_
          refine go_callVI X (n := 38) (As := [.int 4]) (rest := []) (kX7_failed l D cs ad N kt (by omega) σ τ 4) gX7_sheet_X7_failed rfl hdX7_failed ⟨rfl, rfl, by decide, by decide, by decide, by decide⟩ (by omega) rfl rfl rfl rfl (Nat.le_of_ble_eq_true rfl) dX7_sheet_44 (fun r9 σ9 τ9 h9 => ?_)
          obtain ⟨rfl, rfl, rfl⟩ := h9
          exact go_ireturn X hr hlk dX7_sheet_47 ((have hE : sheetS k lane n = ((-10) - 4, 4) := (by unfold sheetS; (try dsimp only); exact (cif_t (Classical.not_not.mp c4)).trans ((cif_t c22).trans ((cif_t c28).trans ((cif_f c39).trans (rfl))))); ⟨by rw [hE], (cif_f (fun q => c39 q.2.2.2)).trans (by rw [hE]), rfl⟩))
      · skip
        refine go_aload_n X dX7_sheet_31 0 rfl rfl ?_
        refine go_bipush X (v := (-2)) dX7_sheet_32 (by decide) ?_
        refine go_callVI X (n := 38) (As := [.int (-2)]) (rest := []) (kX7_refused l D cs ad N kt (by omega) σ τ (-2)) gX7_sheet_X7_refused rfl hdX7_refused ⟨rfl, rfl, by decide, by decide, by decide, by decide⟩ (by omega) rfl rfl rfl rfl (Nat.le_of_ble_eq_true rfl) dX7_sheet_34 (fun r9 σ9 τ9 h9 => ?_)
        obtain ⟨rfl, rfl, rfl⟩ := h9
        exact go_ireturn X hr hlk dX7_sheet_37 ((have hE : sheetS k lane n = ((-2), 0) := (by unfold sheetS; (try dsimp only); exact (cif_t (Classical.not_not.mp c4)).trans ((cif_t c22).trans ((cif_f c28).trans (rfl)))); ⟨by rw [hE], (cif_f (fun q => c28 q.2.2.1)).trans (by rw [hE]), rfl⟩))
  · skip
    refine go_aload_n X dX7_sheet_7 0 rfl rfl ?_
    refine go_iconst X (v := (-1)) dX7_sheet_8 (by decide) ?_
    refine go_callVI X (n := 38) (As := [.int (-1)]) (rest := []) (kX7_refused l D cs ad N kt (by omega) σ τ (-1)) gX7_sheet_X7_refused rfl hdX7_refused ⟨rfl, rfl, by decide, by decide, by decide, by decide⟩ (by omega) rfl rfl rfl rfl (Nat.le_of_ble_eq_true rfl) dX7_sheet_9 (fun r9 σ9 τ9 h9 => ?_)
    obtain ⟨rfl, rfl, rfl⟩ := h9
    exact go_ireturn X hr hlk dX7_sheet_12 ((have hE : sheetS k lane n = ((-1), 0) := (by unfold sheetS; (try dsimp only); exact (cif_f c4).trans (rfl)); ⟨by rw [hE], (cif_f (fun q => c4 q.1)).trans (by rw [hE]), rfl⟩))

theorem hdX7_lose : yX7_lose.cls = RX7 ∧ yX7_lose.cls ≠ "java/lang/invoke/MethodHandle" ∧ yX7_lose.cls ≠ "java/lang/invoke/VarHandle" ∧ (parseMethodDescriptor yX7_lose.desc).map (fun d => d.parameters.length) = some 1 := by decide +kernel
set_option maxHeartbeats 4000000 in
set_option maxRecDepth 100000 in
theorem kX7_lose (l : Launch) (D : va_G) (cs : Nat → ClassId) (ad : Nat → Nat) (N kt : Nat) (hN : 58 ≤ N) (σ : vSg) (τ : vTa) (k : Int32) (nd : Nat) (ns : Nat) (nr : Nat)   (hI : IM σ nd ns nr) : CtI l yX7_lose wsX7_lose ({ frames := 2, cells := 0, slots := 0, locals := 45 }) D cs ad N (shP kt) [.ref (ad (38)), .int k] σ τ 0 0 (fun r9 σ9 τ9 => loseS (thM σ) k = r9 ∧ cif (isB k 4) (up2 σ 54 (toN k) (-1)) σ = σ9 ∧ τ = τ9) := by
  refine ct_I (cc := cX7_lose) (maxL := 3) (by decide) rfl (Nat.le_of_ble_eq_true rfl) rfl rfl ?_
  intro p e s m args below meth c A X hr hlk
  obtain ⟨⟨hnd, hnd5⟩, ⟨hns, hns4⟩, hdd, hkp, ⟨hnr, hnr8⟩, hrd, hsh, hpos⟩ := id hI
  refine go_iload_n X dX7_lose_0 1 rfl rfl ?_
  refine go_callSI X (As := [.int k]) (rest := []) (kX7_noSheet l D cs ad N kt (by omega) σ τ k) gX7_lose_X7_noSheet rfl hdX7_noSheet ⟨rfl, rfl, by decide, by decide, by decide, by decide⟩ rfl rfl (Nat.le_of_ble_eq_true rfl) dX7_lose_1 (fun r9 σ9 τ9 h9 => ?_)
  obtain ⟨rfl, rfl, rfl⟩ := h9
  refine go_ifb_eq X (tgt := 9) dX7_lose_4 (by decide) (fun c4 => ?_) (fun c4 => ?_)
  · skip
    obtain ⟨i, hi, rfl⟩ := isB_nat (b := 4) (Classical.not_not.mp c4) (by omega)
    refine go_aload_n X dX7_lose_9 0 rfl rfl ?_
    refine go_getr X (n := 38) (j := 25) (by omega) rfl rfl (fun _ h9 => List.mem_cons_of_mem _ (List.mem_append_right _ h9)) (by decide) (List.mem_cons_of_mem _ (List.mem_append_left _ (List.mem_of_getElem? (i := 0) rfl))) rfl dX7_lose_10 ?_
    refine go_iload_n X dX7_lose_13 1 rfl rfl ?_
    refine go_iald X (n := 54) (k := i) (by omega) rfl rfl (by omega) (by omega) dX7_lose_14 ?_
    refine go_if_ge X (tgt := 22) dX7_lose_15 (by decide) (fun c15 => ?_) (fun c15 => ?_)
    · skip
      refine go_iconst X (v := 1) dX7_lose_22 (by decide) ?_
      refine go_istore_n X (lv2 := [(2, .int 1), (0, .ref (ad (38))), (1, .int (nI i))]) dX7_lose_23 rfl (by decide) rfl ?_
      refine go_aload_n X dX7_lose_24 1 rfl rfl ?_
      refine go_getr X (n := 38) (j := 25) (by omega) rfl rfl (fun _ h9 => List.mem_cons_of_mem _ (List.mem_append_right _ h9)) (by decide) (List.mem_cons_of_mem _ (List.mem_append_left _ (List.mem_of_getElem? (i := 0) rfl))) rfl dX7_lose_25 ?_
      refine go_iload_n X dX7_lose_28 2 rfl rfl ?_
      refine go_iconst X (v := (-1)) dX7_lose_29 (by decide) ?_
      refine go_iast X (n := 54) (k := i) (by omega) rfl rfl (by omega) (by omega) dX7_lose_30 ?_
      refine go_iload_n X dX7_lose_31 0 rfl rfl ?_
      exact go_ireturn X hr hlk dX7_lose_32 ((have hE : loseS (thM σ) (nI i) = 1 := (by unfold loseS; (try dsimp only); (try rw [toN_nI (k := i) (by omega)]); exact (cif_t (Classical.not_not.mp c4)).trans ((cif_f (fun q => thM_0.mp q c15)).trans (rfl))); ⟨hE, (cif_t (Classical.not_not.mp c4)).trans (by rw [toN_nI (k := i) (by omega)]), rfl⟩))
    · skip
      refine go_iconst X (v := 0) dX7_lose_18 (by decide) ?_
      refine go_goto X (tgt := 23) dX7_lose_19 (by decide) ?_
      refine go_istore_n X (lv2 := [(2, .int 0), (0, .ref (ad (38))), (1, .int (nI i))]) dX7_lose_23 rfl (by decide) rfl ?_
      refine go_aload_n X dX7_lose_24 1 rfl rfl ?_
      refine go_getr X (n := 38) (j := 25) (by omega) rfl rfl (fun _ h9 => List.mem_cons_of_mem _ (List.mem_append_right _ h9)) (by decide) (List.mem_cons_of_mem _ (List.mem_append_left _ (List.mem_of_getElem? (i := 0) rfl))) rfl dX7_lose_25 ?_
      refine go_iload_n X dX7_lose_28 2 rfl rfl ?_
      refine go_iconst X (v := (-1)) dX7_lose_29 (by decide) ?_
      refine go_iast X (n := 54) (k := i) (by omega) rfl rfl (by omega) (by omega) dX7_lose_30 ?_
      refine go_iload_n X dX7_lose_31 0 rfl rfl ?_
      exact go_ireturn X hr hlk dX7_lose_32 ((have hE : loseS (thM σ) (nI i) = 0 := (by unfold loseS; (try dsimp only); (try rw [toN_nI (k := i) (by omega)]); exact (cif_t (Classical.not_not.mp c4)).trans ((cif_t (thM_0.mpr c15)).trans (rfl))); ⟨hE, (cif_t (Classical.not_not.mp c4)).trans (by rw [toN_nI (k := i) (by omega)]), rfl⟩))
  · skip
    refine go_iconst X (v := (-1)) dX7_lose_7 (by decide) ?_
    exact go_ireturn X hr hlk dX7_lose_8 ((have hE : loseS (thM σ) k = (-1) := (by unfold loseS; (try dsimp only); exact (cif_f c4).trans (rfl)); ⟨hE, cif_f c4, rfl⟩))

theorem hdX7_put : yX7_put.cls = RX7 ∧ yX7_put.cls ≠ "java/lang/invoke/MethodHandle" ∧ yX7_put.cls ≠ "java/lang/invoke/VarHandle" ∧ (parseMethodDescriptor yX7_put.desc).map (fun d => d.parameters.length) = some 3 := by decide +kernel
set_option maxHeartbeats 4000000 in
set_option maxRecDepth 100000 in
theorem kX7_put (l : Launch) (D : va_G) (cs : Nat → ClassId) (ad : Nat → Nat) (N kt : Nat) (hN : 58 ≤ N) (σ : vSg) (τ : vTa) (k : Int32) (i : Int32) (v : Int32) (nd : Nat) (ns : Nat) (nr : Nat)   (hI : IM σ nd ns nr) : CtI l yX7_put wsX7_put ({ frames := 2, cells := 0, slots := 0, locals := 47 }) D cs ad N (shP kt) [.ref (ad (38)), .int k, .int i, .int v] σ τ 0 0 (fun r9 σ9 τ9 => (putS (thM σ) (σ 54) k i).1 = r9 ∧ cif (isB k 4 ∧ ¬ thM σ (toN k) = 0 ∧ isB i (σ 54 (toN k))) (up2 (up2 σ 56 (60 * toN k + toN i) (cutS (σ 55 (toN k)) v)) 38 0 0) (up2 σ 38 0 (putS (thM σ) (σ 54) k i).2) = σ9 ∧ τ = τ9) := by
  refine ct_I (cc := cX7_put) (maxL := 4) (by decide) rfl (Nat.le_of_ble_eq_true rfl) rfl rfl ?_
  intro p e s m args below meth c A X hr hlk
  obtain ⟨⟨hnd, hnd5⟩, ⟨hns, hns4⟩, hdd, hkp, ⟨hnr, hnr8⟩, hrd, hsh, hpos⟩ := id hI
  refine go_iload_n X dX7_put_0 1 rfl rfl ?_
  refine go_callSI X (As := [.int k]) (rest := []) (kX7_noSheet l D cs ad N kt (by omega) σ τ k) gX7_put_X7_noSheet rfl hdX7_noSheet ⟨rfl, rfl, by decide, by decide, by decide, by decide⟩ rfl rfl (Nat.le_of_ble_eq_true rfl) dX7_put_1 (fun r9 σ9 τ9 h9 => ?_)
  obtain ⟨rfl, rfl, rfl⟩ := h9
  refine go_ifb_eq X (tgt := 13) dX7_put_4 (by decide) (fun c4 => ?_) (fun c4 => ?_)
  · skip
    obtain ⟨kk, hkk, rfl⟩ := isB_nat (b := 4) (Classical.not_not.mp c4) (by omega)
    refine go_aload_n X dX7_put_13 0 rfl rfl ?_
    refine go_iload_n X dX7_put_14 1 rfl rfl ?_
    refine go_iload_n X dX7_put_15 2 rfl rfl ?_
    refine go_callVI X (n := 38) (As := [.int (nI kk), .int i]) (rest := []) (kX7_noCell l D cs ad N kt (by omega) σ τ kk i (σ 54 kk) (rfl) (by omega)) gX7_put_X7_noCell rfl hdX7_noCell ⟨rfl, rfl, by decide, by decide, by decide, by decide⟩ (by omega) rfl rfl rfl rfl (Nat.le_of_ble_eq_true rfl) dX7_put_16 (fun r9 σ9 τ9 h9 => ?_)
    obtain ⟨rfl, rfl, rfl⟩ := h9
    rcases Classical.em (0 ≤ σ 54 kk) with p9 | p9
    · skip
      rcases Classical.em (isB i (σ 54 kk)) with q9 | q9
      · skip
        refine go_topi (v := 0) ((cif_t p9).trans (cif_t q9)) ?_
        refine go_if_le X (tgt := 33) dX7_put_19 (by decide) (fun _ => ?_) (fun h9 => absurd h9 (by decide))
        obtain ⟨len, hlen, elen⟩ := isB_nat (b := 61) ((hsh kk (by omega)).resolve_left (fun q => by rw [q] at p9; exact absurd p9 (by decide))) (by omega)
        obtain ⟨ii, hii, rfl⟩ := isB_nat (v := i) (b := len) (by rw [← elen]; exact q9) (by omega)
        refine go_aload_n X dX7_put_33 0 rfl rfl ?_
        refine go_getr X (n := 38) (j := 27) (by omega) rfl rfl (fun _ h9 => List.mem_cons_of_mem _ (List.mem_append_right _ h9)) (by decide) (List.mem_cons_of_mem _ (List.mem_append_left _ (List.mem_of_getElem? (i := 0) rfl))) rfl dX7_put_34 ?_
        refine go_bipush X (v := 60) dX7_put_37 (by decide) ?_
        refine go_iload_n X dX7_put_39 1 rfl rfl ?_
        refine go_imul X dX7_put_40 ?_
        refine go_topi (v := nI (60 * kk)) (pk_mul 60 kk) ?_
        refine go_iload_n X dX7_put_41 2 rfl rfl ?_
        refine go_iadd X dX7_put_42 ?_
        refine go_topi (v := nI ((60 * kk) + ii)) (nI_add (60 * kk) ii) ?_
        refine go_aload_n X dX7_put_43 0 rfl rfl ?_
        refine go_getr X (n := 38) (j := 26) (by omega) rfl rfl (fun _ h9 => List.mem_cons_of_mem _ (List.mem_append_right _ h9)) (by decide) (List.mem_cons_of_mem _ (List.mem_append_left _ (List.mem_of_getElem? (i := 1) rfl))) rfl dX7_put_44 ?_
        refine go_iload_n X dX7_put_47 1 rfl rfl ?_
        refine go_iald X (n := 55) (k := kk) (by omega) rfl rfl (by omega) (by omega) dX7_put_48 ?_
        refine go_if_ne X (tgt := 57) dX7_put_49 (by decide) (fun c49 => ?_) (fun c49 => ?_)
        · skip
          refine go_aload_n X dX7_put_57 0 rfl rfl ?_
          refine go_getr X (n := 38) (j := 26) (by omega) rfl rfl (fun _ h9 => List.mem_cons_of_mem _ (List.mem_append_right _ h9)) (by decide) (List.mem_cons_of_mem _ (List.mem_append_left _ (List.mem_of_getElem? (i := 1) rfl))) rfl dX7_put_58 ?_
          refine go_iload_n X dX7_put_61 1 rfl rfl ?_
          refine go_iald X (n := 55) (k := kk) (by omega) rfl rfl (by omega) (by omega) dX7_put_62 ?_
          refine go_iconst X (v := 1) dX7_put_63 (by decide) ?_
          refine go_icmp_ne X (tgt := 72) dX7_put_64 (by decide) (fun c64 => ?_) (fun c64 => ?_)
          · skip
            refine go_iload_n X dX7_put_72 3 rfl rfl ?_
            refine go_topi (v := cutS (σ 55 kk) v) (((if_neg c49).trans (if_neg c64)).symm) ?_
            refine go_iast X (n := 56) (k := (60 * kk) + ii) (by omega) rfl rfl (by omega) (by omega) dX7_put_73 ?_
            refine go_aload_n X dX7_put_74 0 rfl rfl ?_
            refine go_iconst X (v := 1) dX7_put_75 (by decide) ?_
            refine go_callVI X (n := 38) (As := [.int 1]) (rest := []) (kX7_refused l D cs ad N kt (by omega) (up2 σ 56 ((60 * kk) + ii) (cutS (σ 55 kk) v)) τ 1) gX7_put_X7_refused rfl hdX7_refused ⟨rfl, rfl, by decide, by decide, by decide, by decide⟩ (by omega) rfl rfl rfl rfl (Nat.le_of_ble_eq_true rfl) dX7_put_76 (fun r9 σ9 τ9 h9 => ?_)
            obtain ⟨rfl, rfl, rfl⟩ := h9
            exact go_ireturn X hr hlk dX7_put_79 ((have hE : putS (thM σ) (σ 54) (nI kk) (nI ii) = (1, 0) := (by unfold putS; (try dsimp only); rw [toN_nI (k := kk) (by omega)]; exact (cif_t (Classical.not_not.mp c4)).trans ((cif_f (fun q => thM_0.mp q p9)).trans ((cif_t q9).trans (rfl)))); ⟨by rw [hE], by rw [toN_nI (k := kk) (by omega), toN_nI (k := ii) (by omega)]; exact cif_t ⟨(Classical.not_not.mp c4), fun q => thM_0.mp q p9, q9⟩, rfl⟩))
          · skip
            refine go_iload_n X dX7_put_67 3 rfl rfl ?_
            refine go_i2s X dX7_put_68 rfl ?_
            refine go_goto X (tgt := 73) dX7_put_69 (by decide) ?_
            refine go_topi (v := cutS (σ 55 kk) v) (((if_neg c49).trans (if_pos c64)).symm) ?_
            refine go_iast X (n := 56) (k := (60 * kk) + ii) (by omega) rfl rfl (by omega) (by omega) dX7_put_73 ?_
            refine go_aload_n X dX7_put_74 0 rfl rfl ?_
            refine go_iconst X (v := 1) dX7_put_75 (by decide) ?_
            refine go_callVI X (n := 38) (As := [.int 1]) (rest := []) (kX7_refused l D cs ad N kt (by omega) (up2 σ 56 ((60 * kk) + ii) (cutS (σ 55 kk) v)) τ 1) gX7_put_X7_refused rfl hdX7_refused ⟨rfl, rfl, by decide, by decide, by decide, by decide⟩ (by omega) rfl rfl rfl rfl (Nat.le_of_ble_eq_true rfl) dX7_put_76 (fun r9 σ9 τ9 h9 => ?_)
            obtain ⟨rfl, rfl, rfl⟩ := h9
            exact go_ireturn X hr hlk dX7_put_79 ((have hE : putS (thM σ) (σ 54) (nI kk) (nI ii) = (1, 0) := (by unfold putS; (try dsimp only); rw [toN_nI (k := kk) (by omega)]; exact (cif_t (Classical.not_not.mp c4)).trans ((cif_f (fun q => thM_0.mp q p9)).trans ((cif_t q9).trans (rfl)))); ⟨by rw [hE], by rw [toN_nI (k := kk) (by omega), toN_nI (k := ii) (by omega)]; exact cif_t ⟨(Classical.not_not.mp c4), fun q => thM_0.mp q p9, q9⟩, rfl⟩))
        · skip
          refine go_iload_n X dX7_put_52 3 rfl rfl ?_
          refine go_i2b X dX7_put_53 rfl ?_
          refine go_goto X (tgt := 73) dX7_put_54 (by decide) ?_
          refine go_topi (v := cutS (σ 55 kk) v) ((if_pos c49).symm) ?_
          refine go_iast X (n := 56) (k := (60 * kk) + ii) (by omega) rfl rfl (by omega) (by omega) dX7_put_73 ?_
          refine go_aload_n X dX7_put_74 0 rfl rfl ?_
          refine go_iconst X (v := 1) dX7_put_75 (by decide) ?_
          refine go_callVI X (n := 38) (As := [.int 1]) (rest := []) (kX7_refused l D cs ad N kt (by omega) (up2 σ 56 ((60 * kk) + ii) (cutS (σ 55 kk) v)) τ 1) gX7_put_X7_refused rfl hdX7_refused ⟨rfl, rfl, by decide, by decide, by decide, by decide⟩ (by omega) rfl rfl rfl rfl (Nat.le_of_ble_eq_true rfl) dX7_put_76 (fun r9 σ9 τ9 h9 => ?_)
          obtain ⟨rfl, rfl, rfl⟩ := h9
          exact go_ireturn X hr hlk dX7_put_79 ((have hE : putS (thM σ) (σ 54) (nI kk) (nI ii) = (1, 0) := (by unfold putS; (try dsimp only); rw [toN_nI (k := kk) (by omega)]; exact (cif_t (Classical.not_not.mp c4)).trans ((cif_f (fun q => thM_0.mp q p9)).trans ((cif_t q9).trans (rfl)))); ⟨by rw [hE], by rw [toN_nI (k := kk) (by omega), toN_nI (k := ii) (by omega)]; exact cif_t ⟨(Classical.not_not.mp c4), fun q => thM_0.mp q p9, q9⟩, rfl⟩))
      · skip
        refine go_topi (v := 3) ((cif_t p9).trans (cif_f q9)) ?_
        refine go_if_le X (tgt := 33) dX7_put_19 (by decide) (fun h9 => absurd h9 (by decide)) (fun _ => ?_)
        refine go_aload_n X dX7_put_22 0 rfl rfl ?_
        refine go_aload_n X dX7_put_23 0 rfl rfl ?_
        refine go_iload_n X dX7_put_24 1 rfl rfl ?_
        refine go_iload_n X dX7_put_25 2 rfl rfl ?_
        refine go_callVI X (n := 38) (As := [.int (nI kk), .int i]) (rest := [.ref (ad (38))]) (kX7_noCell l D cs ad N kt (by omega) σ τ kk i (σ 54 kk) (rfl) (by omega)) gX7_put_X7_noCell rfl hdX7_noCell ⟨rfl, rfl, by decide, by decide, by decide, by decide⟩ (by omega) rfl rfl rfl rfl (Nat.le_of_ble_eq_true rfl) dX7_put_26 (fun r9 σ9 τ9 h9 => ?_)
        obtain ⟨rfl, rfl, rfl⟩ := h9
        refine go_topi (v := 3) ((cif_t p9).trans (cif_f q9)) ?_
        refine go_callVI X (n := 38) (As := [.int 3]) (rest := []) (kX7_failed l D cs ad N kt (by omega) σ τ 3) gX7_put_X7_failed rfl hdX7_failed ⟨rfl, rfl, by decide, by decide, by decide, by decide⟩ (by omega) rfl rfl rfl rfl (Nat.le_of_ble_eq_true rfl) dX7_put_29 (fun r9 σ9 τ9 h9 => ?_)
        obtain ⟨rfl, rfl, rfl⟩ := h9
        exact go_ireturn X hr hlk dX7_put_32 ((have hE : putS (thM σ) (σ 54) (nI kk) i = ((-10) - 3, 3) := (by unfold putS; (try dsimp only); (try rw [toN_nI (k := kk) (by omega)]); exact (cif_t (Classical.not_not.mp c4)).trans ((cif_f (fun q => thM_0.mp q p9)).trans ((cif_f q9).trans (rfl)))); ⟨by rw [hE], (by rw [toN_nI (k := kk) (by omega)]; exact (cif_f (fun q => q9 q.2.2)).trans (by rw [hE])), rfl⟩))
    · skip
      refine go_topi (v := 1) (cif_f p9) ?_
      refine go_if_le X (tgt := 33) dX7_put_19 (by decide) (fun h9 => absurd h9 (by decide)) (fun _ => ?_)
      refine go_aload_n X dX7_put_22 0 rfl rfl ?_
      refine go_aload_n X dX7_put_23 0 rfl rfl ?_
      refine go_iload_n X dX7_put_24 1 rfl rfl ?_
      refine go_iload_n X dX7_put_25 2 rfl rfl ?_
      refine go_callVI X (n := 38) (As := [.int (nI kk), .int i]) (rest := [.ref (ad (38))]) (kX7_noCell l D cs ad N kt (by omega) σ τ kk i (σ 54 kk) (rfl) (by omega)) gX7_put_X7_noCell rfl hdX7_noCell ⟨rfl, rfl, by decide, by decide, by decide, by decide⟩ (by omega) rfl rfl rfl rfl (Nat.le_of_ble_eq_true rfl) dX7_put_26 (fun r9 σ9 τ9 h9 => ?_)
      obtain ⟨rfl, rfl, rfl⟩ := h9
      refine go_topi (v := 1) (cif_f p9) ?_
      refine go_callVI X (n := 38) (As := [.int 1]) (rest := []) (kX7_failed l D cs ad N kt (by omega) σ τ 1) gX7_put_X7_failed rfl hdX7_failed ⟨rfl, rfl, by decide, by decide, by decide, by decide⟩ (by omega) rfl rfl rfl rfl (Nat.le_of_ble_eq_true rfl) dX7_put_29 (fun r9 σ9 τ9 h9 => ?_)
      obtain ⟨rfl, rfl, rfl⟩ := h9
      exact go_ireturn X hr hlk dX7_put_32 ((have hE : putS (thM σ) (σ 54) (nI kk) i = ((-10) - 1, 1) := (by unfold putS; (try dsimp only); (try rw [toN_nI (k := kk) (by omega)]); exact (cif_t (Classical.not_not.mp c4)).trans ((cif_t (thM_0.mpr p9)).trans (rfl))); ⟨by rw [hE], (by rw [toN_nI (k := kk) (by omega)]; exact (cif_f (fun q => q.2.1 (thM_0.mpr p9))).trans (by rw [hE])), rfl⟩))
  · skip
    refine go_aload_n X dX7_put_7 0 rfl rfl ?_
    refine go_iconst X (v := (-1)) dX7_put_8 (by decide) ?_
    refine go_callVI X (n := 38) (As := [.int (-1)]) (rest := []) (kX7_refused l D cs ad N kt (by omega) σ τ (-1)) gX7_put_X7_refused rfl hdX7_refused ⟨rfl, rfl, by decide, by decide, by decide, by decide⟩ (by omega) rfl rfl rfl rfl (Nat.le_of_ble_eq_true rfl) dX7_put_9 (fun r9 σ9 τ9 h9 => ?_)
    obtain ⟨rfl, rfl, rfl⟩ := h9
    exact go_ireturn X hr hlk dX7_put_12 ((have hE : putS (thM σ) (σ 54) k i = ((-1), 0) := (by unfold putS; (try dsimp only); exact (cif_f c4).trans (rfl)); ⟨by rw [hE], (cif_f (fun q => c4 q.1)).trans (by rw [hE]), rfl⟩))

theorem hdX7_cell : yX7_cell.cls = RX7 ∧ yX7_cell.cls ≠ "java/lang/invoke/MethodHandle" ∧ yX7_cell.cls ≠ "java/lang/invoke/VarHandle" ∧ (parseMethodDescriptor yX7_cell.desc).map (fun d => d.parameters.length) = some 3 := by decide +kernel
set_option maxHeartbeats 4000000 in
set_option maxRecDepth 100000 in
theorem kX7_cell (l : Launch) (D : va_G) (cs : Nat → ClassId) (ad : Nat → Nat) (N kt : Nat) (hN : 58 ≤ N) (σ : vSg) (τ : vTa) (k : Int32) (i : Int32) (lane : Int32) (nd : Nat) (ns : Nat) (nr : Nat)   (hI : IM σ nd ns nr) : CtL l yX7_cell wsX7_cell ({ frames := 2, cells := 0, slots := 0, locals := 47 }) D cs ad N (shP kt) [.ref (ad (38)), .int k, .int i, .int lane] σ τ 0 0 (fun r9 σ9 τ9 => (cellS (thM σ) (σ 55) (σ 54) (fun z9 y9 => σ 56 (60 * z9 + y9)) k i lane).1 = r9 ∧ (up2 σ 38 0 ((cellS (thM σ) (σ 55) (σ 54) (fun z9 y9 => σ 56 (60 * z9 + y9)) k i lane).2)) = σ9 ∧ τ = τ9) := by
  refine ct_L (cc := cX7_cell) (maxL := 4) (by decide) rfl (Nat.le_of_ble_eq_true rfl) rfl rfl ?_
  intro p e s m args below meth c A X hr hlk
  obtain ⟨⟨hnd, hnd5⟩, ⟨hns, hns4⟩, hdd, hkp, ⟨hnr, hnr8⟩, hrd, hsh, hpos⟩ := id hI
  refine go_aload_n X dX7_cell_0 0 rfl rfl ?_
  refine go_iconst X (v := 0) dX7_cell_1 (by decide) ?_
  refine go_puti X (n := 38) (j := 0) (ty := .int) (by omega) rfl rfl (fun _ h9 => List.mem_cons_of_mem _ (List.mem_append_right _ h9)) (by decide) (List.mem_cons_of_mem _ (List.mem_append_left _ (List.mem_append_left _ (List.mem_of_getElem? (i := 0) rfl)))) rfl tyX7 tyX7_ok nmX7 rfl (by decide +kernel) rfl rfl dX7_cell_2 ?_
  refine go_iload_n X dX7_cell_5 1 rfl rfl ?_
  refine go_callSI X (As := [.int k]) (rest := []) (kX7_noSheet l D cs ad N kt (by omega) (up2 σ 38 0 0) τ k) gX7_cell_X7_noSheet rfl hdX7_noSheet ⟨rfl, rfl, by decide, by decide, by decide, by decide⟩ rfl rfl (Nat.le_of_ble_eq_true rfl) dX7_cell_6 (fun r9 σ9 τ9 h9 => ?_)
  obtain ⟨rfl, rfl, rfl⟩ := h9
  refine go_ifb_ne X (tgt := 24) dX7_cell_9 (by decide) (fun c9 => ?_) (fun c9 => ?_)
  · skip
    refine go_callSL X (As := []) (rest := []) (kX7_lost l D cs ad N kt (by omega) (up2 σ 38 0 0) τ ) gX7_cell_X7_lost rfl hdX7_lost ⟨rfl, rfl, by decide, by decide, by decide, by decide⟩ rfl rfl (Nat.le_of_ble_eq_true rfl) dX7_cell_24 (fun r9 σ9 τ9 h9 => ?_)
    obtain ⟨rfl, rfl, rfl⟩ := h9
    exact go_lreturn X hr hlk dX7_cell_27 ((have hE : cellS (thM σ) (σ 55) (σ 54) (fun z9 y9 => σ 56 (60 * z9 + y9)) k i lane = (LOST9, 0) := (by unfold cellS; (try dsimp only); exact (cif_f c9).trans (rfl)); ⟨by rw [hE], by rw [hE], rfl⟩))
  · skip
    obtain ⟨kk, hkk, rfl⟩ := isB_nat (b := 4) (Classical.not_not.mp c9) (by omega)
    refine go_iload_n X dX7_cell_12 3 rfl rfl ?_
    refine go_i2l X (v := lane.toInt64) dX7_cell_13 rfl ?_
    refine go_lconst X (v := 0) dX7_cell_14 (by decide) ?_
    refine go_ldc2 X (v := 2) (List.mem_cons_of_mem _ (List.mem_append_left _ (List.mem_append_left _ (List.mem_of_getElem? (i := 1) rfl)))) dX7_cell_15 ?_
    refine go_callSI X (As := [.long lane.toInt64, .long 0, .long 2]) (rest := []) (kX7_in l D cs ad N kt (by omega) (up2 σ 38 0 0) τ lane.toInt64 0 2) gX7_cell_X7_in rfl hdX7_in ⟨rfl, rfl, by decide, by decide, by decide, by decide⟩ rfl rfl (Nat.le_of_ble_eq_true rfl) dX7_cell_18 (fun r9 σ9 τ9 h9 => ?_)
    obtain ⟨rfl, rfl, rfl⟩ := h9
    refine go_topi (v := b2i (isB lane 3)) (b2i_c (in_iff rfl rfl)) ?_
    refine go_ifb_ne X (tgt := 28) dX7_cell_21 (by decide) (fun c21 => ?_) (fun c21 => ?_)
    · skip
      rcases Classical.em (0 ≤ σ 54 kk) with p9 | p9
      · skip
        rcases Classical.em (σ 55 kk = lane) with l9 | l9
        · skip
          have f9 := fAs_1 (lane := lane) (fun q => thM_0.mp q p9) l9
          rcases Classical.em (isB i (σ 54 kk)) with q9 | q9
          · skip
            refine go_aload_n X dX7_cell_28 0 rfl rfl ?_
            refine go_getr X (n := 38) (j := 25) (by omega) rfl rfl (fun _ h9 => List.mem_cons_of_mem _ (List.mem_append_right _ h9)) (by decide) (List.mem_cons_of_mem _ (List.mem_append_left _ (List.mem_append_left _ (List.mem_of_getElem? (i := 2) rfl)))) rfl dX7_cell_29 ?_
            refine go_iload_n X dX7_cell_32 1 rfl rfl ?_
            refine go_iald X (n := 54) (k := kk) (by omega) rfl rfl (by omega) (by omega) dX7_cell_33 ?_
            refine go_topi (v := σ 54 kk) ((up2_ne (by omega))) ?_
            refine go_if_lt X (tgt := 53) dX7_cell_34 (by decide) (fun h9 => absurd p9 (Int32.not_le.mpr h9)) (fun c34 => ?_)
            refine go_aload_n X dX7_cell_37 0 rfl rfl ?_
            refine go_getr X (n := 38) (j := 26) (by omega) rfl rfl (fun _ h9 => List.mem_cons_of_mem _ (List.mem_append_right _ h9)) (by decide) (List.mem_cons_of_mem _ (List.mem_append_left _ (List.mem_append_left _ (List.mem_of_getElem? (i := 3) rfl)))) rfl dX7_cell_38 ?_
            refine go_iload_n X dX7_cell_41 1 rfl rfl ?_
            refine go_iald X (n := 55) (k := kk) (by omega) rfl rfl (by omega) (by omega) dX7_cell_42 ?_
            refine go_topi (v := σ 55 kk) ((up2_ne (by omega))) ?_
            refine go_iload_n X dX7_cell_43 3 rfl rfl ?_
            refine go_icmp_eq X (tgt := 53) dX7_cell_44 (by decide) (fun c44 => ?_) (fun h9 => absurd l9 h9)
            refine go_aload_n X dX7_cell_53 0 rfl rfl ?_
            refine go_iload_n X dX7_cell_54 1 rfl rfl ?_
            refine go_iload_n X dX7_cell_55 2 rfl rfl ?_
            refine go_callVI X (n := 38) (As := [.int (nI kk), .int i]) (rest := []) (kX7_noCell l D cs ad N kt (by omega) (up2 σ 38 0 0) τ kk i (σ 54 kk) ((up2_ne (by omega))) (by omega)) gX7_cell_X7_noCell rfl hdX7_noCell ⟨rfl, rfl, by decide, by decide, by decide, by decide⟩ (by omega) rfl rfl rfl rfl (Nat.le_of_ble_eq_true rfl) dX7_cell_56 (fun r9 σ9 τ9 h9 => ?_)
            obtain ⟨rfl, rfl, rfl⟩ := h9
            refine go_topi (v := 0) ((cif_t p9).trans (cif_t q9)) ?_
            refine go_if_le X (tgt := 75) dX7_cell_59 (by decide) (fun _ => ?_) (fun h9 => absurd h9 (by decide))
            obtain ⟨len, hlen, elen⟩ := isB_nat (b := 61) ((hsh kk (by omega)).resolve_left (fun q => by rw [q] at p9; exact absurd p9 (by decide))) (by omega)
            obtain ⟨ii, hii, rfl⟩ := isB_nat (v := i) (b := len) (by rw [← elen]; exact q9) (by omega)
            refine go_aload_n X dX7_cell_75 0 rfl rfl ?_
            refine go_getr X (n := 38) (j := 27) (by omega) rfl rfl (fun _ h9 => List.mem_cons_of_mem _ (List.mem_append_right _ h9)) (by decide) (List.mem_cons_of_mem _ (List.mem_append_left _ (List.mem_append_left _ (List.mem_of_getElem? (i := 4) rfl)))) rfl dX7_cell_76 ?_
            refine go_bipush X (v := 60) dX7_cell_79 (by decide) ?_
            refine go_iload_n X dX7_cell_81 1 rfl rfl ?_
            refine go_imul X dX7_cell_82 ?_
            refine go_topi (v := nI (60 * kk)) (pk_mul 60 kk) ?_
            refine go_iload_n X dX7_cell_83 2 rfl rfl ?_
            refine go_iadd X dX7_cell_84 ?_
            refine go_topi (v := nI ((60 * kk) + ii)) (nI_add (60 * kk) ii) ?_
            refine go_iald X (n := 56) (k := (60 * kk) + ii) (by omega) rfl rfl (by omega) (by omega) dX7_cell_85 ?_
            refine go_topi (v := σ 56 ((60 * kk) + ii)) ((up2_ne (by omega))) ?_
            refine go_i2l X (v := (σ 56 ((60 * kk) + ii)).toInt64) dX7_cell_86 rfl ?_
            exact go_lreturn X hr hlk dX7_cell_87 ((have hE : cellS (thM σ) (σ 55) (σ 54) (fun z9 y9 => σ 56 (60 * z9 + y9)) (nI kk) (nI ii) lane = ((σ 56 ((60 * kk) + ii)).toInt64, 0) := (by unfold cellS; (try dsimp only); (try rw [toN_nI (k := kk) (by omega)]); (try rw [toN_nI (k := ii) (by omega)]); exact (cif_t (Classical.not_not.mp c9)).trans ((cif_t c21).trans ((cif_t f9).trans ((cif_t q9).trans (rfl))))); ⟨by rw [hE], by rw [hE], rfl⟩))
          · skip
            refine go_aload_n X dX7_cell_28 0 rfl rfl ?_
            refine go_getr X (n := 38) (j := 25) (by omega) rfl rfl (fun _ h9 => List.mem_cons_of_mem _ (List.mem_append_right _ h9)) (by decide) (List.mem_cons_of_mem _ (List.mem_append_left _ (List.mem_append_left _ (List.mem_of_getElem? (i := 2) rfl)))) rfl dX7_cell_29 ?_
            refine go_iload_n X dX7_cell_32 1 rfl rfl ?_
            refine go_iald X (n := 54) (k := kk) (by omega) rfl rfl (by omega) (by omega) dX7_cell_33 ?_
            refine go_topi (v := σ 54 kk) ((up2_ne (by omega))) ?_
            refine go_if_lt X (tgt := 53) dX7_cell_34 (by decide) (fun h9 => absurd p9 (Int32.not_le.mpr h9)) (fun c34 => ?_)
            refine go_aload_n X dX7_cell_37 0 rfl rfl ?_
            refine go_getr X (n := 38) (j := 26) (by omega) rfl rfl (fun _ h9 => List.mem_cons_of_mem _ (List.mem_append_right _ h9)) (by decide) (List.mem_cons_of_mem _ (List.mem_append_left _ (List.mem_append_left _ (List.mem_of_getElem? (i := 3) rfl)))) rfl dX7_cell_38 ?_
            refine go_iload_n X dX7_cell_41 1 rfl rfl ?_
            refine go_iald X (n := 55) (k := kk) (by omega) rfl rfl (by omega) (by omega) dX7_cell_42 ?_
            refine go_topi (v := σ 55 kk) ((up2_ne (by omega))) ?_
            refine go_iload_n X dX7_cell_43 3 rfl rfl ?_
            refine go_icmp_eq X (tgt := 53) dX7_cell_44 (by decide) (fun c44 => ?_) (fun h9 => absurd l9 h9)
            refine go_aload_n X dX7_cell_53 0 rfl rfl ?_
            refine go_iload_n X dX7_cell_54 1 rfl rfl ?_
            refine go_iload_n X dX7_cell_55 2 rfl rfl ?_
            refine go_callVI X (n := 38) (As := [.int (nI kk), .int i]) (rest := []) (kX7_noCell l D cs ad N kt (by omega) (up2 σ 38 0 0) τ kk i (σ 54 kk) ((up2_ne (by omega))) (by omega)) gX7_cell_X7_noCell rfl hdX7_noCell ⟨rfl, rfl, by decide, by decide, by decide, by decide⟩ (by omega) rfl rfl rfl rfl (Nat.le_of_ble_eq_true rfl) dX7_cell_56 (fun r9 σ9 τ9 h9 => ?_)
            obtain ⟨rfl, rfl, rfl⟩ := h9
            refine go_topi (v := 3) ((cif_t p9).trans (cif_f q9)) ?_
            refine go_if_le X (tgt := 75) dX7_cell_59 (by decide) (fun h9 => absurd h9 (by decide)) (fun _ => ?_)
            refine go_aload_n X dX7_cell_62 0 rfl rfl ?_
            refine go_aload_n X dX7_cell_63 0 rfl rfl ?_
            refine go_iload_n X dX7_cell_64 1 rfl rfl ?_
            refine go_iload_n X dX7_cell_65 2 rfl rfl ?_
            refine go_callVI X (n := 38) (As := [.int (nI kk), .int i]) (rest := [.ref (ad (38))]) (kX7_noCell l D cs ad N kt (by omega) (up2 σ 38 0 0) τ kk i (σ 54 kk) ((up2_ne (by omega))) (by omega)) gX7_cell_X7_noCell rfl hdX7_noCell ⟨rfl, rfl, by decide, by decide, by decide, by decide⟩ (by omega) rfl rfl rfl rfl (Nat.le_of_ble_eq_true rfl) dX7_cell_66 (fun r9 σ9 τ9 h9 => ?_)
            obtain ⟨rfl, rfl, rfl⟩ := h9
            refine go_topi (v := 3) ((cif_t p9).trans (cif_f q9)) ?_
            refine go_callVL X (n := 38) (As := [.int 3]) (rest := []) (kX7_failedLong l D cs ad N kt (by omega) (up2 σ 38 0 0) τ 3) gX7_cell_X7_failedLong rfl hdX7_failedLong ⟨rfl, rfl, by decide, by decide, by decide, by decide⟩ (by omega) rfl rfl rfl rfl (Nat.le_of_ble_eq_true rfl) dX7_cell_69 (fun r9 σ9 τ9 h9 => ?_)
            obtain ⟨rfl, rfl, rfl⟩ := h9
            refine go_goto X (tgt := 87) dX7_cell_72 (by decide) ?_
            exact go_lreturn X hr hlk dX7_cell_87 ((have hE : cellS (thM σ) (σ 55) (σ 54) (fun z9 y9 => σ 56 (60 * z9 + y9)) (nI kk) i lane = (LOST9, 3) := (by unfold cellS; (try dsimp only); (try rw [toN_nI (k := kk) (by omega)]); exact (cif_t (Classical.not_not.mp c9)).trans ((cif_t c21).trans ((cif_t f9).trans ((cif_f q9).trans (rfl))))); ⟨by rw [hE], by rw [hE]; exact up2_up2.symm, rfl⟩))
        · skip
          have f9 := fAs_2 (lane := lane) (fun q => thM_0.mp q p9) l9
          refine go_aload_n X dX7_cell_28 0 rfl rfl ?_
          refine go_getr X (n := 38) (j := 25) (by omega) rfl rfl (fun _ h9 => List.mem_cons_of_mem _ (List.mem_append_right _ h9)) (by decide) (List.mem_cons_of_mem _ (List.mem_append_left _ (List.mem_append_left _ (List.mem_of_getElem? (i := 2) rfl)))) rfl dX7_cell_29 ?_
          refine go_iload_n X dX7_cell_32 1 rfl rfl ?_
          refine go_iald X (n := 54) (k := kk) (by omega) rfl rfl (by omega) (by omega) dX7_cell_33 ?_
          refine go_topi (v := σ 54 kk) ((up2_ne (by omega))) ?_
          refine go_if_lt X (tgt := 53) dX7_cell_34 (by decide) (fun h9 => absurd p9 (Int32.not_le.mpr h9)) (fun c34 => ?_)
          refine go_aload_n X dX7_cell_37 0 rfl rfl ?_
          refine go_getr X (n := 38) (j := 26) (by omega) rfl rfl (fun _ h9 => List.mem_cons_of_mem _ (List.mem_append_right _ h9)) (by decide) (List.mem_cons_of_mem _ (List.mem_append_left _ (List.mem_append_left _ (List.mem_of_getElem? (i := 3) rfl)))) rfl dX7_cell_38 ?_
          refine go_iload_n X dX7_cell_41 1 rfl rfl ?_
          refine go_iald X (n := 55) (k := kk) (by omega) rfl rfl (by omega) (by omega) dX7_cell_42 ?_
          refine go_topi (v := σ 55 kk) ((up2_ne (by omega))) ?_
          refine go_iload_n X dX7_cell_43 3 rfl rfl ?_
          refine go_icmp_eq X (tgt := 53) dX7_cell_44 (by decide) (fun h9 => absurd h9 l9) (fun c44 => ?_)
          refine go_aload_n X dX7_cell_47 0 rfl rfl ?_
          refine go_iconst X (v := 2) dX7_cell_48 (by decide) ?_
          refine go_callVL X (n := 38) (As := [.int 2]) (rest := []) (kX7_failedLong l D cs ad N kt (by omega) (up2 σ 38 0 0) τ 2) gX7_cell_X7_failedLong rfl hdX7_failedLong ⟨rfl, rfl, by decide, by decide, by decide, by decide⟩ (by omega) rfl rfl rfl rfl (Nat.le_of_ble_eq_true rfl) dX7_cell_49 (fun r9 σ9 τ9 h9 => ?_)
          obtain ⟨rfl, rfl, rfl⟩ := h9
          exact go_lreturn X hr hlk dX7_cell_52 ((have hE : cellS (thM σ) (σ 55) (σ 54) (fun z9 y9 => σ 56 (60 * z9 + y9)) (nI kk) i lane = (LOST9, 2) := (by unfold cellS; (try dsimp only); (try rw [toN_nI (k := kk) (by omega)]); exact (cif_t (Classical.not_not.mp c9)).trans ((cif_t c21).trans ((cif_f (by rw [f9]; decide)).trans ((by rw [f9]))))); ⟨by rw [hE], by rw [hE]; exact up2_up2.symm, rfl⟩))
      · skip
        have f9 := fAs_0 (la := σ 55 kk) (lane := lane) (thM_0.mpr p9)
        refine go_aload_n X dX7_cell_28 0 rfl rfl ?_
        refine go_getr X (n := 38) (j := 25) (by omega) rfl rfl (fun _ h9 => List.mem_cons_of_mem _ (List.mem_append_right _ h9)) (by decide) (List.mem_cons_of_mem _ (List.mem_append_left _ (List.mem_append_left _ (List.mem_of_getElem? (i := 2) rfl)))) rfl dX7_cell_29 ?_
        refine go_iload_n X dX7_cell_32 1 rfl rfl ?_
        refine go_iald X (n := 54) (k := kk) (by omega) rfl rfl (by omega) (by omega) dX7_cell_33 ?_
        refine go_topi (v := σ 54 kk) ((up2_ne (by omega))) ?_
        refine go_if_lt X (tgt := 53) dX7_cell_34 (by decide) (fun c34 => ?_) (fun h9 => absurd (Int32.not_lt.mp h9) p9)
        refine go_aload_n X dX7_cell_53 0 rfl rfl ?_
        refine go_iload_n X dX7_cell_54 1 rfl rfl ?_
        refine go_iload_n X dX7_cell_55 2 rfl rfl ?_
        refine go_callVI X (n := 38) (As := [.int (nI kk), .int i]) (rest := []) (kX7_noCell l D cs ad N kt (by omega) (up2 σ 38 0 0) τ kk i (σ 54 kk) ((up2_ne (by omega))) (by omega)) gX7_cell_X7_noCell rfl hdX7_noCell ⟨rfl, rfl, by decide, by decide, by decide, by decide⟩ (by omega) rfl rfl rfl rfl (Nat.le_of_ble_eq_true rfl) dX7_cell_56 (fun r9 σ9 τ9 h9 => ?_)
        obtain ⟨rfl, rfl, rfl⟩ := h9
        refine go_topi (v := 1) (cif_f p9) ?_
        refine go_if_le X (tgt := 75) dX7_cell_59 (by decide) (fun h9 => absurd h9 (by decide)) (fun _ => ?_)
        refine go_aload_n X dX7_cell_62 0 rfl rfl ?_
        refine go_aload_n X dX7_cell_63 0 rfl rfl ?_
        refine go_iload_n X dX7_cell_64 1 rfl rfl ?_
        refine go_iload_n X dX7_cell_65 2 rfl rfl ?_
        refine go_callVI X (n := 38) (As := [.int (nI kk), .int i]) (rest := [.ref (ad (38))]) (kX7_noCell l D cs ad N kt (by omega) (up2 σ 38 0 0) τ kk i (σ 54 kk) ((up2_ne (by omega))) (by omega)) gX7_cell_X7_noCell rfl hdX7_noCell ⟨rfl, rfl, by decide, by decide, by decide, by decide⟩ (by omega) rfl rfl rfl rfl (Nat.le_of_ble_eq_true rfl) dX7_cell_66 (fun r9 σ9 τ9 h9 => ?_)
        obtain ⟨rfl, rfl, rfl⟩ := h9
        refine go_topi (v := 1) (cif_f p9) ?_
        refine go_callVL X (n := 38) (As := [.int 1]) (rest := []) (kX7_failedLong l D cs ad N kt (by omega) (up2 σ 38 0 0) τ 1) gX7_cell_X7_failedLong rfl hdX7_failedLong ⟨rfl, rfl, by decide, by decide, by decide, by decide⟩ (by omega) rfl rfl rfl rfl (Nat.le_of_ble_eq_true rfl) dX7_cell_69 (fun r9 σ9 τ9 h9 => ?_)
        obtain ⟨rfl, rfl, rfl⟩ := h9
        refine go_goto X (tgt := 87) dX7_cell_72 (by decide) ?_
        exact go_lreturn X hr hlk dX7_cell_87 ((have hE : cellS (thM σ) (σ 55) (σ 54) (fun z9 y9 => σ 56 (60 * z9 + y9)) (nI kk) i lane = (LOST9, 1) := (by unfold cellS; (try dsimp only); (try rw [toN_nI (k := kk) (by omega)]); exact (cif_t (Classical.not_not.mp c9)).trans ((cif_t c21).trans ((cif_f (by rw [f9]; decide)).trans ((by rw [f9]))))); ⟨by rw [hE], by rw [hE]; exact up2_up2.symm, rfl⟩))
    · skip
      refine go_callSL X (As := []) (rest := []) (kX7_lost l D cs ad N kt (by omega) (up2 σ 38 0 0) τ ) gX7_cell_X7_lost rfl hdX7_lost ⟨rfl, rfl, by decide, by decide, by decide, by decide⟩ rfl rfl (Nat.le_of_ble_eq_true rfl) dX7_cell_24 (fun r9 σ9 τ9 h9 => ?_)
      obtain ⟨rfl, rfl, rfl⟩ := h9
      exact go_lreturn X hr hlk dX7_cell_27 ((have hE : cellS (thM σ) (σ 55) (σ 54) (fun z9 y9 => σ 56 (60 * z9 + y9)) (nI kk) i lane = (LOST9, 0) := (by unfold cellS; (try dsimp only); (try rw [toN_nI (k := kk) (by omega)]); exact (cif_t (Classical.not_not.mp c9)).trans ((cif_f c21).trans (rfl))); ⟨by rw [hE], by rw [hE], rfl⟩))

def hndM (σ : vSg) (k i c : Nat) : vSg := fun a b => if a = 57 ∧ b < c then σ 56 (60 * k + i + b) else σ a b
theorem hndM_0 {σ : vSg} {k i : Nat} : hndM σ k i 0 = σ := by
  funext a b
  simp only [hndM]
  rw [if_neg (by omega)]
theorem hndM_1 {σ : vSg} {k i c : Nat} : up2 (hndM σ k i c) 57 c (σ 56 (60 * k + i + c)) = hndM σ k i (c + 1) := by
  funext a b
  simp only [up2, hndM]
  by_cases h : a = 57 ∧ b = c
  · rw [if_pos h, if_pos (by omega), h.2]
  · rw [if_neg h]
    by_cases h2 : a = 57 ∧ b < c
    · rw [if_pos h2, if_pos (by omega)]
    · rw [if_neg h2, if_neg (by omega)]
theorem hndM_56 {σ : vSg} {k i c b : Nat} : hndM σ k i c 56 b = σ 56 b := by simp [hndM]
theorem hndM_57 {σ : vSg} {k i c b : Nat} (h : b < c) : hndM σ k i c 57 b = σ 56 (60 * k + i + b) := by simp [hndM, h]
/-- c cells of the hands laid into a sheet -/
def layM (σ : vSg) (o j c : Nat) : vSg := fun a b => if a = 56 ∧ 60 * o + j ≤ b ∧ b < 60 * o + j + c then σ 57 (b - (60 * o + j)) else σ a b
theorem layM_0 {σ : vSg} {o j : Nat} : layM σ o j 0 = σ := by
  funext a b
  simp only [layM]
  rw [if_neg (by omega)]
theorem layM_1 {σ : vSg} {o j c : Nat} : up2 (layM σ o j c) 56 (60 * o + j + c) (σ 57 c) = layM σ o j (c + 1) := by
  funext a b
  simp only [up2, layM]
  by_cases h : a = 56 ∧ b = 60 * o + j + c
  · rw [if_pos h, if_pos (by omega), h.2, show 60 * o + j + c - (60 * o + j) = c by omega]
  · rw [if_neg h]
    by_cases h2 : a = 56 ∧ 60 * o + j ≤ b ∧ b < 60 * o + j + c
    · rw [if_pos h2, if_pos (by omega)]
    · rw [if_neg h2, if_neg (by omega)]
theorem layM_57 {σ : vSg} {o j c b : Nat} : layM σ o j c 57 b = σ 57 b := by simp [layM]
theorem hdX7_copy : yX7_copy.cls = RX7 ∧ yX7_copy.cls ≠ "java/lang/invoke/MethodHandle" ∧ yX7_copy.cls ≠ "java/lang/invoke/VarHandle" ∧ (parseMethodDescriptor yX7_copy.desc).map (fun d => d.parameters.length) = some 5 := by decide +kernel
set_option maxHeartbeats 4000000 in
set_option maxRecDepth 100000 in
theorem kX7_copy (l : Launch) (D : va_G) (cs : Nat → ClassId) (ad : Nat → Nat) (N kt : Nat) (hN : 58 ≤ N) (σ : vSg) (τ : vTa) (k : Int32) (i : Int32) (o : Int32) (j : Int32) (n : Int32) (nd : Nat) (ns : Nat) (nr : Nat)   (hI : IM σ nd ns nr) : CtI l yX7_copy wsX7_copy ({ frames := 2, cells := 0, slots := 0, locals := 45 }) D cs ad N (shP kt) [.ref (ad (38)), .int k, .int i, .int o, .int j, .int n] σ τ 0 0 (fun r9 σ9 τ9 => (copyS (thM σ) (σ 55) (σ 54) k i o j n).1 = r9 ∧ cif (isB k 4 ∧ isB o 4 ∧ ¬ thM σ (toN k) = 0 ∧ ¬ thM σ (toN o) = 0 ∧ σ 55 (toN k) = σ 55 (toN o) ∧ spanS (σ 54 (toN k)) i n ∧ spanS (σ 54 (toN o)) j n) (up2 (layM (hndM σ (toN k) (toN i) (toN n)) (toN o) (toN j) (toN n)) 38 0 0) (up2 σ 38 0 (copyS (thM σ) (σ 55) (σ 54) k i o j n).2) = σ9 ∧ τ = τ9) := by
  refine ct_I (cc := cX7_copy) (maxL := 7) (by decide) rfl (Nat.le_of_ble_eq_true rfl) rfl rfl ?_
  intro p e s m args below meth c A X hr hlk
  obtain ⟨⟨hnd, hnd5⟩, ⟨hns, hns4⟩, hdd, hkp, ⟨hnr, hnr8⟩, hrd, hsh, hpos⟩ := id hI
  refine go_iload_n X dX7_copy_0 1 rfl rfl ?_
  refine go_callSI X (As := [.int k]) (rest := []) (kX7_noSheet l D cs ad N kt (by omega) σ τ k) gX7_copy_X7_noSheet rfl hdX7_noSheet ⟨rfl, rfl, by decide, by decide, by decide, by decide⟩ rfl rfl (Nat.le_of_ble_eq_true rfl) dX7_copy_1 (fun r9 σ9 τ9 h9 => ?_)
  obtain ⟨rfl, rfl, rfl⟩ := h9
  refine go_ifb_ne X (tgt := 14) dX7_copy_4 (by decide) (fun c4 => ?_) (fun c4 => ?_)
  · skip
    refine go_aload_n X dX7_copy_14 0 rfl rfl ?_
    refine go_iconst X (v := (-1)) dX7_copy_15 (by decide) ?_
    refine go_callVI X (n := 38) (As := [.int (-1)]) (rest := []) (kX7_refused l D cs ad N kt (by omega) σ τ (-1)) gX7_copy_X7_refused rfl hdX7_refused ⟨rfl, rfl, by decide, by decide, by decide, by decide⟩ (by omega) rfl rfl rfl rfl (Nat.le_of_ble_eq_true rfl) dX7_copy_16 (fun r9 σ9 τ9 h9 => ?_)
    obtain ⟨rfl, rfl, rfl⟩ := h9
    exact go_ireturn X hr hlk dX7_copy_19 ((have hE : copyS (thM σ) (σ 55) (σ 54) k i o j n = ((-1), 0) := (by unfold copyS; (try dsimp only); exact (cif_f c4).trans (rfl)); ⟨by rw [hE], ((cif_f (fun q => c4 q.1)).trans (by rw [hE])), rfl⟩))
  · skip
    obtain ⟨kk, hkk, rfl⟩ := isB_nat (b := 4) (Classical.not_not.mp c4) (by omega)
    refine go_iload_n X dX7_copy_7 3 rfl rfl ?_
    refine go_callSI X (As := [.int o]) (rest := []) (kX7_noSheet l D cs ad N kt (by omega) σ τ o) gX7_copy_X7_noSheet rfl hdX7_noSheet ⟨rfl, rfl, by decide, by decide, by decide, by decide⟩ rfl rfl (Nat.le_of_ble_eq_true rfl) dX7_copy_8 (fun r9 σ9 τ9 h9 => ?_)
    obtain ⟨rfl, rfl, rfl⟩ := h9
    refine go_ifb_eq X (tgt := 20) dX7_copy_11 (by decide) (fun c11 => ?_) (fun c11 => ?_)
    · skip
      obtain ⟨oo, hoo, rfl⟩ := isB_nat (b := 4) (Classical.not_not.mp c11) (by omega)
      refine go_aload_n X dX7_copy_20 0 rfl rfl ?_
      refine go_getr X (n := 38) (j := 25) (by omega) rfl rfl (fun _ h9 => List.mem_cons_of_mem _ (List.mem_append_right _ h9)) (by decide) (List.mem_cons_of_mem _ (List.mem_append_left _ (List.mem_of_getElem? (i := 0) rfl))) rfl dX7_copy_21 ?_
      refine go_iload_n X dX7_copy_24 1 rfl rfl ?_
      refine go_iald X (n := 54) (k := kk) (by omega) rfl rfl (by omega) (by omega) dX7_copy_25 ?_
      refine go_if_lt X (tgt := 38) dX7_copy_26 (by decide) (fun c26 => ?_) (fun c26 => ?_)
      · skip
        refine go_aload_n X dX7_copy_38 0 rfl rfl ?_
        refine go_iconst X (v := 1) dX7_copy_39 (by decide) ?_
        refine go_callVI X (n := 38) (As := [.int 1]) (rest := []) (kX7_failed l D cs ad N kt (by omega) σ τ 1) gX7_copy_X7_failed rfl hdX7_failed ⟨rfl, rfl, by decide, by decide, by decide, by decide⟩ (by omega) rfl rfl rfl rfl (Nat.le_of_ble_eq_true rfl) dX7_copy_40 (fun r9 σ9 τ9 h9 => ?_)
        obtain ⟨rfl, rfl, rfl⟩ := h9
        exact go_ireturn X hr hlk dX7_copy_43 ((have hE : copyS (thM σ) (σ 55) (σ 54) (nI kk) i (nI oo) j n = ((-10) - 1, 1) := (by unfold copyS; (try dsimp only); (try rw [toN_nI (k := kk) (by omega)]); (try rw [toN_nI (k := oo) (by omega)]); exact (cif_t (Classical.not_not.mp c4)).trans ((cif_t (Classical.not_not.mp c11)).trans ((cif_t (thM_0.mpr (Int32.not_le.mpr c26))).trans (rfl)))); ⟨by rw [hE], (by rw [toN_nI (k := kk) (by omega)]; rw [toN_nI (k := oo) (by omega)]; exact (cif_f (fun q => q.2.2.1 (thM_0.mpr (Int32.not_le.mpr c26)))).trans (by rw [hE])), rfl⟩))
      · skip
        refine go_aload_n X dX7_copy_29 0 rfl rfl ?_
        refine go_getr X (n := 38) (j := 25) (by omega) rfl rfl (fun _ h9 => List.mem_cons_of_mem _ (List.mem_append_right _ h9)) (by decide) (List.mem_cons_of_mem _ (List.mem_append_left _ (List.mem_of_getElem? (i := 0) rfl))) rfl dX7_copy_30 ?_
        refine go_iload_n X dX7_copy_33 3 rfl rfl ?_
        refine go_iald X (n := 54) (k := oo) (by omega) rfl rfl (by omega) (by omega) dX7_copy_34 ?_
        refine go_if_ge X (tgt := 44) dX7_copy_35 (by decide) (fun c35 => ?_) (fun c35 => ?_)
        · skip
          refine go_aload_n X dX7_copy_44 0 rfl rfl ?_
          refine go_getr X (n := 38) (j := 26) (by omega) rfl rfl (fun _ h9 => List.mem_cons_of_mem _ (List.mem_append_right _ h9)) (by decide) (List.mem_cons_of_mem _ (List.mem_append_left _ (List.mem_of_getElem? (i := 1) rfl))) rfl dX7_copy_45 ?_
          refine go_iload_n X dX7_copy_48 1 rfl rfl ?_
          refine go_iald X (n := 55) (k := kk) (by omega) rfl rfl (by omega) (by omega) dX7_copy_49 ?_
          refine go_aload_n X dX7_copy_50 0 rfl rfl ?_
          refine go_getr X (n := 38) (j := 26) (by omega) rfl rfl (fun _ h9 => List.mem_cons_of_mem _ (List.mem_append_right _ h9)) (by decide) (List.mem_cons_of_mem _ (List.mem_append_left _ (List.mem_of_getElem? (i := 1) rfl))) rfl dX7_copy_51 ?_
          refine go_iload_n X dX7_copy_54 3 rfl rfl ?_
          refine go_iald X (n := 55) (k := oo) (by omega) rfl rfl (by omega) (by omega) dX7_copy_55 ?_
          refine go_icmp_eq X (tgt := 65) dX7_copy_56 (by decide) (fun c56 => ?_) (fun c56 => ?_)
          · skip
            have p26 := Int32.not_lt.mp c26
            obtain ⟨len, hlen, elen⟩ := isB_nat (b := 61) ((hsh kk (by omega)).resolve_left (fun q => by rw [q] at p26; exact absurd p26 (by decide))) (by omega)
            obtain ⟨len2, hlen2, elen2⟩ := isB_nat (b := 61) ((hsh oo (by omega)).resolve_left (fun q => by rw [q] at c35; exact absurd c35 (by decide))) (by omega)
            refine go_iload_n X dX7_copy_65 2 rfl rfl ?_
            refine go_iload X dX7_copy_66 5 rfl ?_
            refine go_i2l X (v := n.toInt64) dX7_copy_68 rfl ?_
            refine go_aload_n X dX7_copy_69 0 rfl rfl ?_
            refine go_getr X (n := 38) (j := 25) (by omega) rfl rfl (fun _ h9 => List.mem_cons_of_mem _ (List.mem_append_right _ h9)) (by decide) (List.mem_cons_of_mem _ (List.mem_append_left _ (List.mem_of_getElem? (i := 0) rfl))) rfl dX7_copy_70 ?_
            refine go_iload_n X dX7_copy_73 1 rfl rfl ?_
            refine go_iald X (n := 54) (k := kk) (by omega) rfl rfl (by omega) (by omega) dX7_copy_74 ?_
            refine go_topi (v := nI len) elen ?_
            refine go_callSI X (As := [.int i, .long n.toInt64, .int (nI len)]) (rest := []) (kX7_isBeyond l D cs ad N kt (by omega) σ τ i n len (by omega)) gX7_copy_X7_isBeyond rfl hdX7_isBeyond ⟨rfl, rfl, by decide, by decide, by decide, by decide⟩ rfl rfl (Nat.le_of_ble_eq_true rfl) dX7_copy_75 (fun r9 σ9 τ9 h9 => ?_)
            obtain ⟨rfl, rfl, rfl⟩ := h9
            refine go_ifb_ne X (tgt := 98) dX7_copy_78 (by decide) (fun c78 => ?_) (fun c78 => ?_)
            · skip
              refine go_aload_n X dX7_copy_98 0 rfl rfl ?_
              refine go_iconst X (v := 3) dX7_copy_99 (by decide) ?_
              refine go_callVI X (n := 38) (As := [.int 3]) (rest := []) (kX7_failed l D cs ad N kt (by omega) σ τ 3) gX7_copy_X7_failed rfl hdX7_failed ⟨rfl, rfl, by decide, by decide, by decide, by decide⟩ (by omega) rfl rfl rfl rfl (Nat.le_of_ble_eq_true rfl) dX7_copy_100 (fun r9 σ9 τ9 h9 => ?_)
              obtain ⟨rfl, rfl, rfl⟩ := h9
              exact go_ireturn X hr hlk dX7_copy_103 ((have hE : copyS (thM σ) (σ 55) (σ 54) (nI kk) i (nI oo) j n = ((-10) - 3, 3) := (by unfold copyS; (try dsimp only); (try rw [toN_nI (k := kk) (by omega)]); (try rw [toN_nI (k := oo) (by omega)]); exact (cif_t (Classical.not_not.mp c4)).trans ((cif_t (Classical.not_not.mp c11)).trans ((cif_f (fun q => thM_0.mp q (Int32.not_lt.mp c26))).trans ((cif_f (fun q => thM_0.mp q c35)).trans ((cif_t c56).trans ((cif_f (by rw [elen]; exact c78)).trans (rfl))))))); ⟨by rw [hE], (by rw [toN_nI (k := kk) (by omega)]; rw [toN_nI (k := oo) (by omega)]; exact (cif_f (fun q => absurd q.2.2.2.2.2.1 (by rw [elen]; exact c78))).trans (by rw [hE])), rfl⟩))
            · skip
              refine go_iload X dX7_copy_81 4 rfl ?_
              refine go_iload X dX7_copy_83 5 rfl ?_
              refine go_i2l X (v := n.toInt64) dX7_copy_85 rfl ?_
              refine go_aload_n X dX7_copy_86 0 rfl rfl ?_
              refine go_getr X (n := 38) (j := 25) (by omega) rfl rfl (fun _ h9 => List.mem_cons_of_mem _ (List.mem_append_right _ h9)) (by decide) (List.mem_cons_of_mem _ (List.mem_append_left _ (List.mem_of_getElem? (i := 0) rfl))) rfl dX7_copy_87 ?_
              refine go_iload_n X dX7_copy_90 3 rfl rfl ?_
              refine go_iald X (n := 54) (k := oo) (by omega) rfl rfl (by omega) (by omega) dX7_copy_91 ?_
              refine go_topi (v := nI len2) elen2 ?_
              refine go_callSI X (As := [.int j, .long n.toInt64, .int (nI len2)]) (rest := []) (kX7_isBeyond l D cs ad N kt (by omega) σ τ j n len2 (by omega)) gX7_copy_X7_isBeyond rfl hdX7_isBeyond ⟨rfl, rfl, by decide, by decide, by decide, by decide⟩ rfl rfl (Nat.le_of_ble_eq_true rfl) dX7_copy_92 (fun r9 σ9 τ9 h9 => ?_)
              obtain ⟨rfl, rfl, rfl⟩ := h9
              refine go_ifb_eq X (tgt := 104) dX7_copy_95 (by decide) (fun c95 => ?_) (fun c95 => ?_)
              · skip
                obtain ⟨ii, nn, rfl, rfl, hsp⟩ := spanS_nat (Classical.not_not.mp c78) (by omega)
                obtain ⟨jj, n2, rfl, hn2, hsp2⟩ := spanS_nat (Classical.not_not.mp c95) (by omega)
                have hn3 : nn = n2 := (nI_eq (by omega) (by omega)).mp hn2
                refine go_sg (σ2 := (hndM σ kk ii 0)) hndM_0.symm ?_
                refine go_iconst X (v := 0) dX7_copy_104 (by decide) ?_
                refine go_istore X (lv2 := [(6, .int 0), (0, .ref (ad (38))), (1, .int (nI kk)), (2, .int (nI ii)), (3, .int (nI oo)), (4, .int (nI jj)), (5, .int (nI nn))]) dX7_copy_105 (by decide) rfl ?_
                refine go_loop (ι := Nat) (fun i9 => (i9 ≤ nn)) (fun i9 => nn - i9) (fun i9 => (hndM σ kk ii i9)) (fun i9 => τ) (fun i9 => [(6, .int (nI i9)), (0, .ref (ad (38))), (1, .int (nI kk)), (2, .int (nI ii)), (3, .int (nI oo)), (4, .int (nI jj)), (5, .int (nI nn))]) (fun i9 => []) 0 (by (try dsimp only); exact (Nat.zero_le _)) ?_
                intro i9 hi9 ih107
                obtain ⟨x, hv9⟩ : ∃ z, z = i9 := ⟨_, rfl⟩; subst hv9
                (try dsimp only at hi9); (try dsimp only at ih107); (try dsimp only)
                have hx := hi9
                refine go_iload X dX7_copy_107 0 rfl ?_
                refine go_iload X dX7_copy_109 6 rfl ?_
                refine go_icmpn_ge X (tgt := 141) dX7_copy_111 (by decide) (a := x) (b := nn) rfl rfl (by omega) (by omega) (fun c111 => ?_) (fun c111 => ?_)
                · skip
                  refine go_sg (σ2 := (layM (hndM σ kk ii nn) oo jj 0)) (by rw [show x = nn by omega, layM_0]) ?_
                  refine go_iconst X (v := 0) dX7_copy_141 (by decide) ?_
                  refine go_istore X (lv2 := [(6, .int 0), (0, .ref (ad (38))), (1, .int (nI kk)), (2, .int (nI ii)), (3, .int (nI oo)), (4, .int (nI jj)), (5, .int (nI nn))]) dX7_copy_142 (by decide) rfl ?_
                  refine go_loop (ι := Nat) (fun i9 => (i9 ≤ nn)) (fun i9 => nn - i9) (fun i9 => (layM (hndM σ kk ii nn) oo jj i9)) (fun i9 => τ) (fun i9 => [(6, .int (nI i9)), (0, .ref (ad (38))), (1, .int (nI kk)), (2, .int (nI ii)), (3, .int (nI oo)), (4, .int (nI jj)), (5, .int (nI nn))]) (fun i9 => []) 0 (by (try dsimp only); exact (Nat.zero_le _)) ?_
                  intro i9 hi9 ih144
                  obtain ⟨y, hv9⟩ : ∃ z, z = i9 := ⟨_, rfl⟩; subst hv9
                  (try dsimp only at hi9); (try dsimp only at ih144); (try dsimp only)
                  have hy := hi9
                  refine go_iload X dX7_copy_144 0 rfl ?_
                  refine go_iload X dX7_copy_146 6 rfl ?_
                  refine go_icmpn_ge X (tgt := 179) dX7_copy_148 (by decide) (a := y) (b := nn) rfl rfl (by omega) (by omega) (fun c148 => ?_) (fun c148 => ?_)
                  · skip
                    refine go_sg (σ2 := (layM (hndM σ kk ii nn) oo jj nn)) (by rw [show y = nn by omega]) ?_
                    refine go_aload_n X dX7_copy_179 1 rfl rfl ?_
                    refine go_iload X dX7_copy_180 6 rfl ?_
                    refine go_callVI X (n := 38) (As := [.int (nI nn)]) (rest := []) (kX7_refused l D cs ad N kt (by omega) (layM (hndM σ kk ii nn) oo jj nn) τ (nI nn)) gX7_copy_X7_refused rfl hdX7_refused ⟨rfl, rfl, by decide, by decide, by decide, by decide⟩ (by omega) rfl rfl rfl rfl (Nat.le_of_ble_eq_true rfl) dX7_copy_182 (fun r9 σ9 τ9 h9 => ?_)
                    obtain ⟨rfl, rfl, rfl⟩ := h9
                    exact go_ireturn X hr hlk dX7_copy_185 ((have hE : copyS (thM σ) (σ 55) (σ 54) (nI kk) (nI ii) (nI oo) (nI jj) (nI nn) = (nI nn, 0) := (by unfold copyS; (try dsimp only); (try rw [toN_nI (k := kk) (by omega)]); (try rw [toN_nI (k := oo) (by omega)]); (try rw [toN_nI (k := ii) (by omega)]); (try rw [toN_nI (k := jj) (by omega)]); (try rw [toN_nI (k := nn) (by omega)]); exact (cif_t (Classical.not_not.mp c4)).trans ((cif_t (Classical.not_not.mp c11)).trans ((cif_f (fun q => thM_0.mp q (Int32.not_lt.mp c26))).trans ((cif_f (fun q => thM_0.mp q c35)).trans ((cif_t c56).trans ((cif_t (by rw [elen]; exact (Classical.not_not.mp c78))).trans ((cif_t (by rw [elen2]; exact (Classical.not_not.mp c95))).trans (rfl)))))))); ⟨by rw [hE], by (try rw [toN_nI (k := kk) (by omega)]); (try rw [toN_nI (k := oo) (by omega)]); (try rw [toN_nI (k := ii) (by omega)]); (try rw [toN_nI (k := jj) (by omega)]); (try rw [toN_nI (k := nn) (by omega)]); exact cif_t ⟨(Classical.not_not.mp c4), (Classical.not_not.mp c11), (fun q => thM_0.mp q (Int32.not_lt.mp c26)), (fun q => thM_0.mp q c35), c56, (by rw [elen]; exact (Classical.not_not.mp c78)), (by rw [elen2]; exact (Classical.not_not.mp c95))⟩, rfl⟩))
                  · skip
                    refine go_aload_n X dX7_copy_151 1 rfl rfl ?_
                    refine go_getr X (n := 38) (j := 27) (by omega) rfl rfl (fun _ h9 => List.mem_cons_of_mem _ (List.mem_append_right _ h9)) (by decide) (List.mem_cons_of_mem _ (List.mem_append_left _ (List.mem_of_getElem? (i := 3) rfl))) rfl dX7_copy_152 ?_
                    refine go_bipush X (v := 60) dX7_copy_155 (by decide) ?_
                    refine go_iload_n X dX7_copy_157 4 rfl rfl ?_
                    refine go_imul X dX7_copy_158 ?_
                    refine go_topi (v := nI (60 * oo)) (pk_mul 60 oo) ?_
                    refine go_iload X dX7_copy_159 5 rfl ?_
                    refine go_iadd X dX7_copy_161 ?_
                    refine go_topi (v := nI ((60 * oo) + jj)) (nI_add (60 * oo) jj) ?_
                    refine go_iload X dX7_copy_162 0 rfl ?_
                    refine go_iadd X dX7_copy_164 ?_
                    refine go_topi (v := nI (((60 * oo) + jj) + y)) (nI_add ((60 * oo) + jj) y) ?_
                    refine go_aload_n X dX7_copy_165 1 rfl rfl ?_
                    refine go_getr X (n := 38) (j := 28) (by omega) rfl rfl (fun _ h9 => List.mem_cons_of_mem _ (List.mem_append_right _ h9)) (by decide) (List.mem_cons_of_mem _ (List.mem_append_left _ (List.mem_of_getElem? (i := 2) rfl))) rfl dX7_copy_166 ?_
                    refine go_iload X dX7_copy_169 0 rfl ?_
                    refine go_iald X (n := 57) (k := y) (by omega) rfl rfl (by omega) (by omega) dX7_copy_171 ?_
                    refine go_topi (v := hndM σ kk ii nn 57 y) layM_57 ?_
                    refine go_iast X (n := 56) (k := ((60 * oo) + jj) + y) (by omega) rfl rfl (by omega) (by omega) dX7_copy_172 ?_
                    refine go_sg (σ2 := (layM (hndM σ kk ii nn) oo jj (y + 1))) layM_1 ?_
                    refine go_iinc X (v := nI (y + 1)) (lv2 := [(6, .int (nI (y + 1))), (0, .ref (ad (38))), (1, .int (nI kk)), (2, .int (nI ii)), (3, .int (nI oo)), (4, .int (nI jj)), (5, .int (nI nn))]) dX7_copy_173 (k := 0) rfl (nI_add y 1) (by decide) rfl ?_
                    refine go_goto X (tgt := 144) dX7_copy_176 (by decide) ?_
                    exact ih144 (y + 1) (by (try dsimp only); exact (by omega)) (by (try dsimp only); omega)
                · skip
                  refine go_aload_n X dX7_copy_114 1 rfl rfl ?_
                  refine go_getr X (n := 38) (j := 28) (by omega) rfl rfl (fun _ h9 => List.mem_cons_of_mem _ (List.mem_append_right _ h9)) (by decide) (List.mem_cons_of_mem _ (List.mem_append_left _ (List.mem_of_getElem? (i := 2) rfl))) rfl dX7_copy_115 ?_
                  refine go_iload X dX7_copy_118 0 rfl ?_
                  refine go_aload_n X dX7_copy_120 1 rfl rfl ?_
                  refine go_getr X (n := 38) (j := 27) (by omega) rfl rfl (fun _ h9 => List.mem_cons_of_mem _ (List.mem_append_right _ h9)) (by decide) (List.mem_cons_of_mem _ (List.mem_append_left _ (List.mem_of_getElem? (i := 3) rfl))) rfl dX7_copy_121 ?_
                  refine go_bipush X (v := 60) dX7_copy_124 (by decide) ?_
                  refine go_iload_n X dX7_copy_126 2 rfl rfl ?_
                  refine go_imul X dX7_copy_127 ?_
                  refine go_topi (v := nI (60 * kk)) (pk_mul 60 kk) ?_
                  refine go_iload_n X dX7_copy_128 3 rfl rfl ?_
                  refine go_iadd X dX7_copy_129 ?_
                  refine go_topi (v := nI ((60 * kk) + ii)) (nI_add (60 * kk) ii) ?_
                  refine go_iload X dX7_copy_130 0 rfl ?_
                  refine go_iadd X dX7_copy_132 ?_
                  refine go_topi (v := nI (((60 * kk) + ii) + x)) (nI_add ((60 * kk) + ii) x) ?_
                  refine go_iald X (n := 56) (k := ((60 * kk) + ii) + x) (by omega) rfl rfl (by omega) (by omega) dX7_copy_133 ?_
                  refine go_topi (v := σ 56 (60 * kk + ii + x)) hndM_56 ?_
                  refine go_iast X (n := 57) (k := x) (by omega) rfl rfl (by omega) (by omega) dX7_copy_134 ?_
                  refine go_sg (σ2 := (hndM σ kk ii (x + 1))) hndM_1 ?_
                  refine go_iinc X (v := nI (x + 1)) (lv2 := [(6, .int (nI (x + 1))), (0, .ref (ad (38))), (1, .int (nI kk)), (2, .int (nI ii)), (3, .int (nI oo)), (4, .int (nI jj)), (5, .int (nI nn))]) dX7_copy_135 (k := 0) rfl (nI_add x 1) (by decide) rfl ?_
                  refine go_goto X (tgt := 107) dX7_copy_138 (by decide) ?_
                  exact ih107 (x + 1) (by (try dsimp only); exact (by omega)) (by (try dsimp only); omega)
              · skip
                refine go_aload_n X dX7_copy_98 0 rfl rfl ?_
                refine go_iconst X (v := 3) dX7_copy_99 (by decide) ?_
                refine go_callVI X (n := 38) (As := [.int 3]) (rest := []) (kX7_failed l D cs ad N kt (by omega) σ τ 3) gX7_copy_X7_failed rfl hdX7_failed ⟨rfl, rfl, by decide, by decide, by decide, by decide⟩ (by omega) rfl rfl rfl rfl (Nat.le_of_ble_eq_true rfl) dX7_copy_100 (fun r9 σ9 τ9 h9 => ?_)
                obtain ⟨rfl, rfl, rfl⟩ := h9
                exact go_ireturn X hr hlk dX7_copy_103 ((have hE : copyS (thM σ) (σ 55) (σ 54) (nI kk) i (nI oo) j n = ((-10) - 3, 3) := (by unfold copyS; (try dsimp only); (try rw [toN_nI (k := kk) (by omega)]); (try rw [toN_nI (k := oo) (by omega)]); exact (cif_t (Classical.not_not.mp c4)).trans ((cif_t (Classical.not_not.mp c11)).trans ((cif_f (fun q => thM_0.mp q (Int32.not_lt.mp c26))).trans ((cif_f (fun q => thM_0.mp q c35)).trans ((cif_t c56).trans ((cif_t (by rw [elen]; exact (Classical.not_not.mp c78))).trans ((cif_f (by rw [elen2]; exact c95)).trans (rfl)))))))); ⟨by rw [hE], (by rw [toN_nI (k := kk) (by omega)]; rw [toN_nI (k := oo) (by omega)]; exact (cif_f (fun q => absurd q.2.2.2.2.2.2 (by rw [elen2]; exact c95))).trans (by rw [hE])), rfl⟩))
          · skip
            refine go_aload_n X dX7_copy_59 0 rfl rfl ?_
            refine go_iconst X (v := 2) dX7_copy_60 (by decide) ?_
            refine go_callVI X (n := 38) (As := [.int 2]) (rest := []) (kX7_failed l D cs ad N kt (by omega) σ τ 2) gX7_copy_X7_failed rfl hdX7_failed ⟨rfl, rfl, by decide, by decide, by decide, by decide⟩ (by omega) rfl rfl rfl rfl (Nat.le_of_ble_eq_true rfl) dX7_copy_61 (fun r9 σ9 τ9 h9 => ?_)
            obtain ⟨rfl, rfl, rfl⟩ := h9
            exact go_ireturn X hr hlk dX7_copy_64 ((have hE : copyS (thM σ) (σ 55) (σ 54) (nI kk) i (nI oo) j n = ((-10) - 2, 2) := (by unfold copyS; (try dsimp only); (try rw [toN_nI (k := kk) (by omega)]); (try rw [toN_nI (k := oo) (by omega)]); exact (cif_t (Classical.not_not.mp c4)).trans ((cif_t (Classical.not_not.mp c11)).trans ((cif_f (fun q => thM_0.mp q (Int32.not_lt.mp c26))).trans ((cif_f (fun q => thM_0.mp q c35)).trans ((cif_f c56).trans (rfl)))))); ⟨by rw [hE], (by rw [toN_nI (k := kk) (by omega)]; rw [toN_nI (k := oo) (by omega)]; exact (cif_f (fun q => c56 q.2.2.2.2.1)).trans (by rw [hE])), rfl⟩))
        · skip
          refine go_aload_n X dX7_copy_38 0 rfl rfl ?_
          refine go_iconst X (v := 1) dX7_copy_39 (by decide) ?_
          refine go_callVI X (n := 38) (As := [.int 1]) (rest := []) (kX7_failed l D cs ad N kt (by omega) σ τ 1) gX7_copy_X7_failed rfl hdX7_failed ⟨rfl, rfl, by decide, by decide, by decide, by decide⟩ (by omega) rfl rfl rfl rfl (Nat.le_of_ble_eq_true rfl) dX7_copy_40 (fun r9 σ9 τ9 h9 => ?_)
          obtain ⟨rfl, rfl, rfl⟩ := h9
          exact go_ireturn X hr hlk dX7_copy_43 ((have hE : copyS (thM σ) (σ 55) (σ 54) (nI kk) i (nI oo) j n = ((-10) - 1, 1) := (by unfold copyS; (try dsimp only); (try rw [toN_nI (k := kk) (by omega)]); (try rw [toN_nI (k := oo) (by omega)]); exact (cif_t (Classical.not_not.mp c4)).trans ((cif_t (Classical.not_not.mp c11)).trans ((cif_f (fun q => thM_0.mp q (Int32.not_lt.mp c26))).trans ((cif_t (thM_0.mpr c35)).trans (rfl))))); ⟨by rw [hE], (by rw [toN_nI (k := kk) (by omega)]; rw [toN_nI (k := oo) (by omega)]; exact (cif_f (fun q => q.2.2.2.1 (thM_0.mpr c35))).trans (by rw [hE])), rfl⟩))
    · skip
      refine go_aload_n X dX7_copy_14 0 rfl rfl ?_
      refine go_iconst X (v := (-1)) dX7_copy_15 (by decide) ?_
      refine go_callVI X (n := 38) (As := [.int (-1)]) (rest := []) (kX7_refused l D cs ad N kt (by omega) σ τ (-1)) gX7_copy_X7_refused rfl hdX7_refused ⟨rfl, rfl, by decide, by decide, by decide, by decide⟩ (by omega) rfl rfl rfl rfl (Nat.le_of_ble_eq_true rfl) dX7_copy_16 (fun r9 σ9 τ9 h9 => ?_)
      obtain ⟨rfl, rfl, rfl⟩ := h9
      exact go_ireturn X hr hlk dX7_copy_19 ((have hE : copyS (thM σ) (σ 55) (σ 54) (nI kk) i o j n = ((-1), 0) := (by unfold copyS; (try dsimp only); (try rw [toN_nI (k := kk) (by omega)]); exact (cif_t (Classical.not_not.mp c4)).trans ((cif_f c11).trans (rfl))); ⟨by rw [hE], ((cif_f (fun q => c11 q.2.1)).trans (by rw [hE])), rfl⟩))

