/-! the reference -/
theorem in_gen {v lo hi : Int32} {l h : Int64} (hl : l.toInt = lo.toInt) (hh : h.toInt = hi.toInt) : (l ≤ v.toInt64 ∧ v.toInt64 ≤ h) ↔ (lo ≤ v ∧ v ≤ hi) := by
  rw [Int64.le_iff_toInt_le, Int64.le_iff_toInt_le, Int32.le_iff_toInt_le, Int32.le_iff_toInt_le, Int32.toInt_toInt64, hl, hh]
def ddM (σ : vSg) (d j : Nat) : Int32 := if j = 0 then σ 39 d else if j = 1 then σ 40 d else σ 41 d
def uvM (σ : vSg) (a d : Nat) : Int32 := valS (σ 42 a) (σ 39 d) (σ 40 d) (σ 41 d)
def pvM (σ : vSg) (d : Nat) : Int32 := 10 * σ 39 d
def IM (σ : vSg) (nd ns nr : Nat) : Prop := (σ 38 1 = nI nd ∧ nd ≤ 5) ∧ (σ 38 5 = nI ns ∧ ns ≤ 4) ∧ (∀ d, d < nd → isB (σ 39 d) 10 ∧ isB (σ 40 d) 10 ∧ isB (σ 41 d) 10) ∧ (∀ a, a < ns → isB (σ 42 a) 3 ∧ isB (σ 43 a) 4) ∧ (σ 38 21 = nI nr ∧ nr ≤ 8) ∧ (∀ r, r < nr → isB (σ 51 r) (nI ns) ∧ isB (σ 52 r) (nI nd) ∧ (σ 53 r = 0 ∨ σ 53 r = 1)) ∧ (∀ k, k < 4 → σ 54 k = -1 ∨ isB (σ 54 k) 61) ∧ (0 < ns → 0 < nd)
theorem fearM {kd rk hu : Int32} (h : isB kd 3) (h0 : ¬ kd = 0) (h1 : ¬ kd = 1) : fearS kd rk hu = 2 * (rk * hu + 10) := by
  obtain ⟨k, hk, rfl⟩ := isB_nat (b := 3) h (by omega)
  rcases (show k = 0 ∨ k = 1 ∨ k = 2 by omega) with rfl | rfl | rfl
  · exact absurd rfl h0
  · exact absurd rfl h1
  · rfl
theorem or_0 (x : Int32) : x ||| 0 = x := by
  apply Int32.toBitVec_inj.mp
  simp
theorem bt_and : ∀ x, x < 16 → nI x &&& 1 = nI (x % 2) := by decide +kernel
theorem bt_shr : ∀ x, x < 16 → nI x >>> ((1 : Int32) &&& 31) = nI (x / 2) := by decide +kernel
theorem bt_pop : ∀ x, x < 16 → popN x = x % 2 + popN (x / 2) := by decide
theorem hdX7_in : yX7_in.cls ≠ "java/lang/invoke/MethodHandle" ∧ yX7_in.cls ≠ "java/lang/invoke/VarHandle" ∧ (parseMethodDescriptor yX7_in.desc).map (fun d => d.parameters.length) = some 3 := by decide +kernel
set_option maxHeartbeats 4000000 in
set_option maxRecDepth 100000 in
theorem kX7_in (l : Launch) (D : va_G) (cs : Nat → ClassId) (ad : Nat → Nat) (N kt : Nat) (hN : 58 ≤ N) (σ : vSg) (τ : vTa) (v : Int64) (lo : Int64) (hi : Int64)    : CtI l yX7_in wsX7_in ({ frames := 0, cells := 0, slots := 0, locals := 0 }) D cs ad N (shP kt) [.long v, .long lo, .long hi] σ τ 0 0 (fun r9 σ9 τ9 => b2i (lo ≤ v ∧ v ≤ hi) = r9 ∧ σ = σ9 ∧ τ = τ9) := by
  refine ct_I (cc := cX7_in) (maxL := 6) (by decide) rfl (Nat.le_of_ble_eq_true rfl) rfl rfl ?_
  intro p e s m args below meth c A X hr hlk
  refine go_lload_n X dX7_in_0 0 rfl rfl ?_
  refine go_lload_n X dX7_in_1 1 rfl rfl ?_
  refine go_lcmp X dX7_in_2 ?_
  refine go_lcmp_lt X (tgt := 17) dX7_in_3 (by decide) (fun c3 => ?_) (fun c3 => ?_)
  · skip
    refine go_iconst X (v := 0) dX7_in_17 (by decide) ?_
    exact go_zreturn X hr hlk dX7_in_18 (by first | exact Or.inl rfl | exact Or.inr rfl) (⟨b2i_f (fun q => absurd q.1 (Int64.not_le.mpr c3)), rfl, rfl⟩)
  · skip
    refine go_lload_n X dX7_in_6 0 rfl rfl ?_
    refine go_lload X dX7_in_7 2 rfl ?_
    refine go_lcmp X dX7_in_9 ?_
    refine go_lcmp_gt X (tgt := 17) dX7_in_10 (by decide) (fun c10 => ?_) (fun c10 => ?_)
    · skip
      refine go_iconst X (v := 0) dX7_in_17 (by decide) ?_
      exact go_zreturn X hr hlk dX7_in_18 (by first | exact Or.inl rfl | exact Or.inr rfl) (⟨b2i_f (fun q => absurd q.2 (Int64.not_le.mpr c10)), rfl, rfl⟩)
    · skip
      refine go_iconst X (v := 1) dX7_in_13 (by decide) ?_
      refine go_goto X (tgt := 18) dX7_in_14 (by decide) ?_
      exact go_zreturn X hr hlk dX7_in_18 (by first | exact Or.inl rfl | exact Or.inr rfl) (⟨b2i_t ⟨Int64.not_lt.mp c3, Int64.not_lt.mp c10⟩, rfl, rfl⟩)

theorem hdX7_lost : yX7_lost.cls ≠ "java/lang/invoke/MethodHandle" ∧ yX7_lost.cls ≠ "java/lang/invoke/VarHandle" ∧ (parseMethodDescriptor yX7_lost.desc).map (fun d => d.parameters.length) = some 0 := by decide +kernel
set_option maxHeartbeats 4000000 in
set_option maxRecDepth 100000 in
theorem kX7_lost (l : Launch) (D : va_G) (cs : Nat → ClassId) (ad : Nat → Nat) (N kt : Nat) (hN : 58 ≤ N) (σ : vSg) (τ : vTa)     : CtL l yX7_lost wsX7_lost ({ frames := 0, cells := 0, slots := 0, locals := 0 }) D cs ad N (shP kt) [] σ τ 0 0 (fun r9 σ9 τ9 => LOST9 = r9 ∧ σ = σ9 ∧ τ = τ9) := by
  refine ct_L (cc := cX7_lost) (maxL := 0) (by decide) rfl (Nat.le_of_ble_eq_true rfl) rfl rfl ?_
  intro p e s m args below meth c A X hr hlk
  refine go_ldc2 X (v := (-9223372036854775808)) (List.mem_cons_of_mem _ (List.mem_of_getElem? (i := 0) rfl)) dX7_lost_0 ?_
  exact go_lreturn X hr hlk dX7_lost_3 (⟨rfl, rfl, rfl⟩)

theorem hdX7_isIn : yX7_isIn.cls ≠ "java/lang/invoke/MethodHandle" ∧ yX7_isIn.cls ≠ "java/lang/invoke/VarHandle" ∧ (parseMethodDescriptor yX7_isIn.desc).map (fun d => d.parameters.length) = some 2 := by decide +kernel
set_option maxHeartbeats 4000000 in
set_option maxRecDepth 100000 in
theorem kX7_isIn (l : Launch) (D : va_G) (cs : Nat → ClassId) (ad : Nat → Nat) (N kt : Nat) (hN : 58 ≤ N) (σ : vSg) (τ : vTa) (set : Int32) (d : Nat)    : CtI l yX7_isIn wsX7_isIn ({ frames := 0, cells := 0, slots := 0, locals := 0 }) D cs ad N (shP kt) [.int set, .int (nI d)] σ τ 0 0 (fun r9 σ9 τ9 => b2i (inP set d) = r9 ∧ σ = σ9 ∧ τ = τ9) := by
  refine ct_I (cc := cX7_isIn) (maxL := 2) (by decide) rfl (Nat.le_of_ble_eq_true rfl) rfl rfl ?_
  intro p e s m args below meth c A X hr hlk
  refine go_iload_n X dX7_isIn_0 0 rfl rfl ?_
  refine go_iload_n X dX7_isIn_1 1 rfl rfl ?_
  refine go_ishr X dX7_isIn_2 ?_
  refine go_iconst X (v := 1) dX7_isIn_3 (by decide) ?_
  refine go_iand X dX7_isIn_4 ?_
  refine go_iconst X (v := 1) dX7_isIn_5 (by decide) ?_
  refine go_icmp_ne X (tgt := 13) dX7_isIn_6 (by decide) (fun c6 => ?_) (fun c6 => ?_)
  · skip
    refine go_iconst X (v := 0) dX7_isIn_13 (by decide) ?_
    exact go_zreturn X hr hlk dX7_isIn_14 (by first | exact Or.inl rfl | exact Or.inr rfl) (⟨b2i_f c6, rfl, rfl⟩)
  · skip
    refine go_iconst X (v := 1) dX7_isIn_9 (by decide) ?_
    refine go_goto X (tgt := 14) dX7_isIn_10 (by decide) ?_
    exact go_zreturn X hr hlk dX7_isIn_14 (by first | exact Or.inl rfl | exact Or.inr rfl) (⟨b2i_t c6, rfl, rfl⟩)

theorem hdX7_noSheet : yX7_noSheet.cls ≠ "java/lang/invoke/MethodHandle" ∧ yX7_noSheet.cls ≠ "java/lang/invoke/VarHandle" ∧ (parseMethodDescriptor yX7_noSheet.desc).map (fun d => d.parameters.length) = some 1 := by decide +kernel
set_option maxHeartbeats 4000000 in
set_option maxRecDepth 100000 in
theorem kX7_noSheet (l : Launch) (D : va_G) (cs : Nat → ClassId) (ad : Nat → Nat) (N kt : Nat) (hN : 58 ≤ N) (σ : vSg) (τ : vTa) (k : Int32)    : CtI l yX7_noSheet wsX7_noSheet ({ frames := 1, cells := 0, slots := 0, locals := 25 }) D cs ad N (shP kt) [.int k] σ τ 0 0 (fun r9 σ9 τ9 => b2i (¬ isB k 4) = r9 ∧ σ = σ9 ∧ τ = τ9) := by
  refine ct_I (cc := cX7_noSheet) (maxL := 1) (by decide) rfl (Nat.le_of_ble_eq_true rfl) rfl rfl ?_
  intro p e s m args below meth c A X hr hlk
  refine go_iload_n X dX7_noSheet_0 0 rfl rfl ?_
  refine go_i2l X (v := k.toInt64) dX7_noSheet_1 rfl ?_
  refine go_lconst X (v := 0) dX7_noSheet_2 (by decide) ?_
  refine go_ldc2 X (v := 3) (List.mem_cons_of_mem _ (List.mem_of_getElem? (i := 0) rfl)) dX7_noSheet_3 ?_
  refine go_callSI X (As := [.long k.toInt64, .long 0, .long 3]) (rest := []) (kX7_in l D cs ad N kt (by omega) σ τ k.toInt64 0 3) gX7_noSheet_X7_in rfl hdX7_in ⟨rfl, rfl, by decide, by decide, by decide, by decide⟩ rfl rfl (Nat.le_of_ble_eq_true rfl) dX7_noSheet_6 (fun r9 σ9 τ9 h9 => ?_)
  obtain ⟨rfl, rfl, rfl⟩ := h9
  refine go_topi (v := b2i (isB k 4)) (b2i_c (in_iff rfl rfl)) ?_
  refine go_ifb_ne X (tgt := 16) dX7_noSheet_9 (by decide) (fun c9 => ?_) (fun c9 => ?_)
  · skip
    refine go_iconst X (v := 0) dX7_noSheet_16 (by decide) ?_
    exact go_zreturn X hr hlk dX7_noSheet_17 (by first | exact Or.inl rfl | exact Or.inr rfl) (⟨b2i_f (fun q => q c9), rfl, rfl⟩)
  · skip
    refine go_iconst X (v := 1) dX7_noSheet_12 (by decide) ?_
    refine go_goto X (tgt := 17) dX7_noSheet_13 (by decide) ?_
    exact go_zreturn X hr hlk dX7_noSheet_17 (by first | exact Or.inl rfl | exact Or.inr rfl) (⟨b2i_t c9, rfl, rfl⟩)

theorem hdX7_noDeed : yX7_noDeed.cls = RX7 ∧ yX7_noDeed.cls ≠ "java/lang/invoke/MethodHandle" ∧ yX7_noDeed.cls ≠ "java/lang/invoke/VarHandle" ∧ (parseMethodDescriptor yX7_noDeed.desc).map (fun d => d.parameters.length) = some 1 := by decide +kernel
set_option maxHeartbeats 4000000 in
set_option maxRecDepth 100000 in
theorem kX7_noDeed (l : Launch) (D : va_G) (cs : Nat → ClassId) (ad : Nat → Nat) (N kt : Nat) (hN : 58 ≤ N) (σ : vSg) (τ : vTa) (d : Int32) (nd : Int32) (h_nd : σ 38 1 = nd)   : CtI l yX7_noDeed wsX7_noDeed ({ frames := 1, cells := 0, slots := 0, locals := 25 }) D cs ad N (shP kt) [.ref (ad (38)), .int d] σ τ 0 0 (fun r9 σ9 τ9 => b2i (¬ isB d nd) = r9 ∧ σ = σ9 ∧ τ = τ9) := by
  refine ct_I (cc := cX7_noDeed) (maxL := 2) (by decide) rfl (Nat.le_of_ble_eq_true rfl) rfl rfl ?_
  intro p e s m args below meth c A X hr hlk
  refine go_iload_n X dX7_noDeed_0 1 rfl rfl ?_
  refine go_i2l X (v := d.toInt64) dX7_noDeed_1 rfl ?_
  refine go_lconst X (v := 0) dX7_noDeed_2 (by decide) ?_
  refine go_aload_n X dX7_noDeed_3 0 rfl rfl ?_
  refine go_geti X (n := 38) (j := 1) (by omega) rfl rfl (fun _ h9 => List.mem_cons_of_mem _ (List.mem_append_right _ h9)) (by decide) (List.mem_cons_of_mem _ (List.mem_append_left _ (List.mem_of_getElem? (i := 0) rfl))) rfl dX7_noDeed_4 ?_
  refine go_topi (v := nd) (h_nd) ?_
  refine go_i2l X (v := nd.toInt64) dX7_noDeed_7 rfl ?_
  refine go_lconst X (v := 1) dX7_noDeed_8 (by decide) ?_
  refine go_lsub X dX7_noDeed_9 ?_
  refine go_callSI X (As := [.long d.toInt64, .long 0, .long (nd.toInt64 - 1)]) (rest := []) (kX7_in l D cs ad N kt (by omega) σ τ d.toInt64 0 (nd.toInt64 - 1)) gX7_noDeed_X7_in rfl hdX7_in ⟨rfl, rfl, by decide, by decide, by decide, by decide⟩ rfl rfl (Nat.le_of_ble_eq_true rfl) dX7_noDeed_10 (fun r9 σ9 τ9 h9 => ?_)
  obtain ⟨rfl, rfl, rfl⟩ := h9
  refine go_topi (v := b2i (isB d nd)) (b2i_c (in_iff rfl (i64_sub1 nd))) ?_
  refine go_ifb_ne X (tgt := 20) dX7_noDeed_13 (by decide) (fun c13 => ?_) (fun c13 => ?_)
  · skip
    refine go_iconst X (v := 0) dX7_noDeed_20 (by decide) ?_
    exact go_zreturn X hr hlk dX7_noDeed_21 (by first | exact Or.inl rfl | exact Or.inr rfl) (⟨b2i_f (fun q => q c13), rfl, rfl⟩)
  · skip
    refine go_iconst X (v := 1) dX7_noDeed_16 (by decide) ?_
    refine go_goto X (tgt := 21) dX7_noDeed_17 (by decide) ?_
    exact go_zreturn X hr hlk dX7_noDeed_21 (by first | exact Or.inl rfl | exact Or.inr rfl) (⟨b2i_t c13, rfl, rfl⟩)

theorem hdX7_noSubject : yX7_noSubject.cls = RX7 ∧ yX7_noSubject.cls ≠ "java/lang/invoke/MethodHandle" ∧ yX7_noSubject.cls ≠ "java/lang/invoke/VarHandle" ∧ (parseMethodDescriptor yX7_noSubject.desc).map (fun d => d.parameters.length) = some 1 := by decide +kernel
set_option maxHeartbeats 4000000 in
set_option maxRecDepth 100000 in
theorem kX7_noSubject (l : Launch) (D : va_G) (cs : Nat → ClassId) (ad : Nat → Nat) (N kt : Nat) (hN : 58 ≤ N) (σ : vSg) (τ : vTa) (a : Int32) (ns : Int32) (h_ns : σ 38 5 = ns)   : CtI l yX7_noSubject wsX7_noSubject ({ frames := 1, cells := 0, slots := 0, locals := 25 }) D cs ad N (shP kt) [.ref (ad (38)), .int a] σ τ 0 0 (fun r9 σ9 τ9 => b2i (¬ isB a ns) = r9 ∧ σ = σ9 ∧ τ = τ9) := by
  refine ct_I (cc := cX7_noSubject) (maxL := 2) (by decide) rfl (Nat.le_of_ble_eq_true rfl) rfl rfl ?_
  intro p e s m args below meth c A X hr hlk
  refine go_iload_n X dX7_noSubject_0 1 rfl rfl ?_
  refine go_i2l X (v := a.toInt64) dX7_noSubject_1 rfl ?_
  refine go_lconst X (v := 0) dX7_noSubject_2 (by decide) ?_
  refine go_aload_n X dX7_noSubject_3 0 rfl rfl ?_
  refine go_geti X (n := 38) (j := 5) (by omega) rfl rfl (fun _ h9 => List.mem_cons_of_mem _ (List.mem_append_right _ h9)) (by decide) (List.mem_cons_of_mem _ (List.mem_append_left _ (List.mem_of_getElem? (i := 0) rfl))) rfl dX7_noSubject_4 ?_
  refine go_topi (v := ns) (h_ns) ?_
  refine go_i2l X (v := ns.toInt64) dX7_noSubject_7 rfl ?_
  refine go_lconst X (v := 1) dX7_noSubject_8 (by decide) ?_
  refine go_lsub X dX7_noSubject_9 ?_
  refine go_callSI X (As := [.long a.toInt64, .long 0, .long (ns.toInt64 - 1)]) (rest := []) (kX7_in l D cs ad N kt (by omega) σ τ a.toInt64 0 (ns.toInt64 - 1)) gX7_noSubject_X7_in rfl hdX7_in ⟨rfl, rfl, by decide, by decide, by decide, by decide⟩ rfl rfl (Nat.le_of_ble_eq_true rfl) dX7_noSubject_10 (fun r9 σ9 τ9 h9 => ?_)
  obtain ⟨rfl, rfl, rfl⟩ := h9
  refine go_topi (v := b2i (isB a ns)) (b2i_c (in_iff rfl (i64_sub1 ns))) ?_
  refine go_ifb_ne X (tgt := 20) dX7_noSubject_13 (by decide) (fun c13 => ?_) (fun c13 => ?_)
  · skip
    refine go_iconst X (v := 0) dX7_noSubject_20 (by decide) ?_
    exact go_zreturn X hr hlk dX7_noSubject_21 (by first | exact Or.inl rfl | exact Or.inr rfl) (⟨b2i_f (fun q => q c13), rfl, rfl⟩)
  · skip
    refine go_iconst X (v := 1) dX7_noSubject_16 (by decide) ?_
    refine go_goto X (tgt := 21) dX7_noSubject_17 (by decide) ?_
    exact go_zreturn X hr hlk dX7_noSubject_21 (by first | exact Or.inl rfl | exact Or.inr rfl) (⟨b2i_t c13, rfl, rfl⟩)

theorem hdX7_refused : yX7_refused.cls = RX7 ∧ yX7_refused.cls ≠ "java/lang/invoke/MethodHandle" ∧ yX7_refused.cls ≠ "java/lang/invoke/VarHandle" ∧ (parseMethodDescriptor yX7_refused.desc).map (fun d => d.parameters.length) = some 1 := by decide +kernel
set_option maxHeartbeats 4000000 in
set_option maxRecDepth 100000 in
theorem kX7_refused (l : Launch) (D : va_G) (cs : Nat → ClassId) (ad : Nat → Nat) (N kt : Nat) (hN : 58 ≤ N) (σ : vSg) (τ : vTa) (co : Int32)    : CtI l yX7_refused wsX7_refused ({ frames := 0, cells := 0, slots := 0, locals := 0 }) D cs ad N (shP kt) [.ref (ad (38)), .int co] σ τ 0 0 (fun r9 σ9 τ9 => co = r9 ∧ (up2 σ 38 0 0) = σ9 ∧ τ = τ9) := by
  refine ct_I (cc := cX7_refused) (maxL := 2) (by decide) rfl (Nat.le_of_ble_eq_true rfl) rfl rfl ?_
  intro p e s m args below meth c A X hr hlk
  refine go_aload_n X dX7_refused_0 0 rfl rfl ?_
  refine go_iconst X (v := 0) dX7_refused_1 (by decide) ?_
  refine go_puti X (n := 38) (j := 0) (ty := .int) (by omega) rfl rfl (fun _ h9 => List.mem_cons_of_mem _ (List.mem_append_right _ h9)) (by decide) (List.mem_cons_of_mem _ (List.mem_append_left _ (List.mem_of_getElem? (i := 0) rfl))) rfl tyX7 tyX7_ok nmX7 rfl (by decide +kernel) rfl rfl dX7_refused_2 ?_
  refine go_iload_n X dX7_refused_5 1 rfl rfl ?_
  exact go_ireturn X hr hlk dX7_refused_6 (⟨rfl, rfl, rfl⟩)

theorem hdX7_failed : yX7_failed.cls = RX7 ∧ yX7_failed.cls ≠ "java/lang/invoke/MethodHandle" ∧ yX7_failed.cls ≠ "java/lang/invoke/VarHandle" ∧ (parseMethodDescriptor yX7_failed.desc).map (fun d => d.parameters.length) = some 1 := by decide +kernel
set_option maxHeartbeats 4000000 in
set_option maxRecDepth 100000 in
theorem kX7_failed (l : Launch) (D : va_G) (cs : Nat → ClassId) (ad : Nat → Nat) (N kt : Nat) (hN : 58 ≤ N) (σ : vSg) (τ : vTa) (f : Int32)    : CtI l yX7_failed wsX7_failed ({ frames := 0, cells := 0, slots := 0, locals := 0 }) D cs ad N (shP kt) [.ref (ad (38)), .int f] σ τ 0 0 (fun r9 σ9 τ9 => (-10) - f = r9 ∧ (up2 σ 38 0 f) = σ9 ∧ τ = τ9) := by
  refine ct_I (cc := cX7_failed) (maxL := 2) (by decide) rfl (Nat.le_of_ble_eq_true rfl) rfl rfl ?_
  intro p e s m args below meth c A X hr hlk
  refine go_aload_n X dX7_failed_0 0 rfl rfl ?_
  refine go_iload_n X dX7_failed_1 1 rfl rfl ?_
  refine go_puti X (n := 38) (j := 0) (ty := .int) (by omega) rfl rfl (fun _ h9 => List.mem_cons_of_mem _ (List.mem_append_right _ h9)) (by decide) (List.mem_cons_of_mem _ (List.mem_append_left _ (List.mem_of_getElem? (i := 0) rfl))) rfl tyX7 tyX7_ok nmX7 rfl (by decide +kernel) rfl rfl dX7_failed_2 ?_
  refine go_bipush X (v := (-10)) dX7_failed_5 (by decide) ?_
  refine go_iload_n X dX7_failed_7 1 rfl rfl ?_
  refine go_isub X dX7_failed_8 ?_
  exact go_ireturn X hr hlk dX7_failed_9 (⟨rfl, rfl, rfl⟩)

theorem hdX7_failedLong : yX7_failedLong.cls = RX7 ∧ yX7_failedLong.cls ≠ "java/lang/invoke/MethodHandle" ∧ yX7_failedLong.cls ≠ "java/lang/invoke/VarHandle" ∧ (parseMethodDescriptor yX7_failedLong.desc).map (fun d => d.parameters.length) = some 1 := by decide +kernel
set_option maxHeartbeats 4000000 in
set_option maxRecDepth 100000 in
theorem kX7_failedLong (l : Launch) (D : va_G) (cs : Nat → ClassId) (ad : Nat → Nat) (N kt : Nat) (hN : 58 ≤ N) (σ : vSg) (τ : vTa) (f : Int32)    : CtL l yX7_failedLong wsX7_failedLong ({ frames := 1, cells := 0, slots := 0, locals := 19 }) D cs ad N (shP kt) [.ref (ad (38)), .int f] σ τ 0 0 (fun r9 σ9 τ9 => LOST9 = r9 ∧ (up2 σ 38 0 f) = σ9 ∧ τ = τ9) := by
  refine ct_L (cc := cX7_failedLong) (maxL := 2) (by decide) rfl (Nat.le_of_ble_eq_true rfl) rfl rfl ?_
  intro p e s m args below meth c A X hr hlk
  refine go_aload_n X dX7_failedLong_0 0 rfl rfl ?_
  refine go_iload_n X dX7_failedLong_1 1 rfl rfl ?_
  refine go_puti X (n := 38) (j := 0) (ty := .int) (by omega) rfl rfl (fun _ h9 => List.mem_cons_of_mem _ (List.mem_append_right _ h9)) (by decide) (List.mem_cons_of_mem _ (List.mem_append_left _ (List.mem_of_getElem? (i := 0) rfl))) rfl tyX7 tyX7_ok nmX7 rfl (by decide +kernel) rfl rfl dX7_failedLong_2 ?_
  refine go_callSL X (As := []) (rest := []) (kX7_lost l D cs ad N kt (by omega) (up2 σ 38 0 f) τ ) gX7_failedLong_X7_lost rfl hdX7_lost ⟨rfl, rfl, by decide, by decide, by decide, by decide⟩ rfl rfl (Nat.le_of_ble_eq_true rfl) dX7_failedLong_5 (fun r9 σ9 τ9 h9 => ?_)
  obtain ⟨rfl, rfl, rfl⟩ := h9
  exact go_lreturn X hr hlk dX7_failedLong_8 (⟨rfl, rfl, rfl⟩)

theorem hdX7_traced : yX7_traced.cls = RX7 ∧ yX7_traced.cls ≠ "java/lang/invoke/MethodHandle" ∧ yX7_traced.cls ≠ "java/lang/invoke/VarHandle" ∧ (parseMethodDescriptor yX7_traced.desc).map (fun d => d.parameters.length) = some 1 := by decide +kernel
set_option maxHeartbeats 4000000 in
set_option maxRecDepth 100000 in
theorem kX7_traced (l : Launch) (D : va_G) (cs : Nat → ClassId) (ad : Nat → Nat) (N kt : Nat) (hN : 58 ≤ N) (σ : vSg) (τ : vTa) (b : Int32) (tr : Int32) (h_tr : σ 38 29 = tr)   : CtV l yX7_traced wsX7_traced ({ frames := 0, cells := 0, slots := 0, locals := 0 }) D cs ad N (shP kt) [.ref (ad (38)), .int b] σ τ 0 0 (fun σ9 τ9 => (up2 σ 38 29 (31 * tr + b)) = σ9 ∧ τ = τ9) := by
  refine ct_V (cc := cX7_traced) (maxL := 2) (by decide) rfl (Nat.le_of_ble_eq_true rfl) rfl rfl ?_
  intro p e s m args below meth c A X hr hlk
  refine go_aload_n X dX7_traced_0 0 rfl rfl ?_
  refine go_bipush X (v := 31) dX7_traced_1 (by decide) ?_
  refine go_aload_n X dX7_traced_3 0 rfl rfl ?_
  refine go_geti X (n := 38) (j := 29) (by omega) rfl rfl (fun _ h9 => List.mem_cons_of_mem _ (List.mem_append_right _ h9)) (by decide) (List.mem_cons_of_mem _ (List.mem_append_left _ (List.mem_of_getElem? (i := 0) rfl))) rfl dX7_traced_4 ?_
  refine go_topi (v := tr) (h_tr) ?_
  refine go_imul X dX7_traced_7 ?_
  refine go_iload_n X dX7_traced_8 1 rfl rfl ?_
  refine go_iadd X dX7_traced_9 ?_
  refine go_puti X (n := 38) (j := 29) (ty := .int) (by omega) rfl rfl (fun _ h9 => List.mem_cons_of_mem _ (List.mem_append_right _ h9)) (by decide) (List.mem_cons_of_mem _ (List.mem_append_left _ (List.mem_of_getElem? (i := 0) rfl))) rfl tyX7 tyX7_ok nmX7 rfl (by decide +kernel) rfl rfl dX7_traced_10 ?_
  exact go_return X hr hlk dX7_traced_13 (⟨rfl, rfl⟩)

theorem hdX7_bits : yX7_bits.cls ≠ "java/lang/invoke/MethodHandle" ∧ yX7_bits.cls ≠ "java/lang/invoke/VarHandle" ∧ (parseMethodDescriptor yX7_bits.desc).map (fun d => d.parameters.length) = some 1 := by decide +kernel
set_option maxHeartbeats 4000000 in
set_option maxRecDepth 100000 in
theorem kX7_bits (l : Launch) (D : va_G) (cs : Nat → ClassId) (ad : Nat → Nat) (N kt : Nat) (hN : 58 ≤ N) (σ : vSg) (τ : vTa) (k : Nat)   (hk : k < 16) : CtI l yX7_bits wsX7_bits ({ frames := 0, cells := 0, slots := 0, locals := 0 }) D cs ad N (shP kt) [.int (nI k)] σ τ 0 0 (fun r9 σ9 τ9 => nI (popN k) = r9 ∧ σ = σ9 ∧ τ = τ9) := by
  refine ct_I (cc := cX7_bits) (maxL := 3) (by decide) rfl (Nat.le_of_ble_eq_true rfl) rfl rfl ?_
  intro p e s m args below meth c A X hr hlk
  refine go_iconst X (v := 0) dX7_bits_0 (by decide) ?_
  refine go_istore_n X (lv2 := [(1, .int 0), (0, .int (nI k))]) dX7_bits_1 rfl (by decide) rfl ?_
  refine go_iload_n X dX7_bits_2 1 rfl rfl ?_
  refine go_istore_n X (lv2 := [(2, .int (nI k)), (1, .int 0), (0, .int (nI k))]) dX7_bits_3 rfl (by decide) rfl ?_
  refine go_loop (ι := Nat × Nat) (fun i9 => (i9.1 < 16) ∧ (i9.2 + popN i9.1 = popN k)) (fun i9 => i9.1) (fun i9 => σ) (fun i9 => τ) (fun i9 => [(2, .int (nI i9.1)), (1, .int (nI i9.2)), (0, .int (nI k))]) (fun i9 => []) (k, 0) (by (try dsimp only); exact ⟨hk, Nat.zero_add _⟩) ?_
  intro i9 hi9 ih4
  obtain ⟨x, y⟩ := i9
  (try dsimp only at hi9); (try dsimp only at ih4); (try dsimp only)
  obtain ⟨hx, hy⟩ := hi9
  refine go_iload_n X dX7_bits_4 0 rfl rfl ?_
  refine go_ifn_le X (tgt := 21) dX7_bits_5 (by decide) (a := x) rfl (by omega) (fun c5 => ?_) (fun c5 => ?_)
  · skip
    refine go_iload_n X dX7_bits_21 1 rfl rfl ?_
    exact go_ireturn X hr hlk dX7_bits_22 (⟨by rw [← hy, c5]; rfl, rfl, rfl⟩)
  · skip
    refine go_iload_n X dX7_bits_8 1 rfl rfl ?_
    refine go_iload_n X dX7_bits_9 0 rfl rfl ?_
    refine go_iconst X (v := 1) dX7_bits_10 (by decide) ?_
    refine go_iand X dX7_bits_11 ?_
    refine go_topi (v := nI (x % 2)) (bt_and x hx) ?_
    refine go_iadd X dX7_bits_12 ?_
    refine go_topi (v := nI (y + (x % 2))) (nI_add y (x % 2)) ?_
    refine go_istore_n X (lv2 := [(1, .int (nI (y + (x % 2)))), (2, .int (nI x)), (0, .int (nI k))]) dX7_bits_13 rfl (by decide) rfl ?_
    refine go_iload_n X dX7_bits_14 1 rfl rfl ?_
    refine go_iconst X (v := 1) dX7_bits_15 (by decide) ?_
    refine go_ishr X dX7_bits_16 ?_
    refine go_topi (v := nI (x / 2)) (bt_shr x hx) ?_
    refine go_istore_n X (lv2 := [(2, .int (nI (x / 2))), (1, .int (nI (y + (x % 2)))), (0, .int (nI k))]) dX7_bits_17 rfl (by decide) rfl ?_
    refine go_goto X (tgt := 4) dX7_bits_18 (by decide) ?_
    exact ih4 (x / 2, y + (x % 2)) (by (try dsimp only); exact ⟨by omega, by rw [← hy, bt_pop x hx]; omega⟩) (by (try dsimp only); omega)

theorem hdX7_share : yX7_share.cls ≠ "java/lang/invoke/MethodHandle" ∧ yX7_share.cls ≠ "java/lang/invoke/VarHandle" ∧ (parseMethodDescriptor yX7_share.desc).map (fun d => d.parameters.length) = some 3 := by decide +kernel
set_option maxHeartbeats 4000000 in
set_option maxRecDepth 100000 in
theorem kX7_share (l : Launch) (D : va_G) (cs : Nat → ClassId) (ad : Nat → Nat) (N kt : Nat) (hN : 58 ≤ N) (σ : vSg) (τ : vTa) (a : Nat) (b : Nat) (which : Int32)   (ha : a < 2 ^ 62) (hb : b < 2 ^ 62) (hb0 : 0 < b) : CtL l yX7_share wsX7_share ({ frames := 0, cells := 0, slots := 0, locals := 0 }) D cs ad N (shP kt) [.long (lN a), .long (lN b), .int which] σ τ 0 0 (fun r9 σ9 τ9 => lN (shN a b which) = r9 ∧ σ = σ9 ∧ τ = τ9) := by
  refine ct_L (cc := cX7_share) (maxL := 11) (by decide) rfl (Nat.le_of_ble_eq_true rfl) rfl rfl ?_
  intro p e s m args below meth c A X hr hlk
  have hg0 : 0 < Nat.gcd a b := Nat.gcd_pos_of_pos_right a hb0
  refine go_lload_n X dX7_share_0 0 rfl rfl ?_
  refine go_lstore X (lv2 := [(5, .long (lN a)), (0, .long (lN a)), (2, .long (lN b)), (4, .int which)]) dX7_share_1 (by decide) rfl ?_
  refine go_lload_n X dX7_share_3 2 rfl rfl ?_
  refine go_lstore X (lv2 := [(7, .long (lN b)), (5, .long (lN a)), (0, .long (lN a)), (2, .long (lN b)), (4, .int which)]) dX7_share_4 (by decide) rfl ?_
  refine go_loop (ι := Nat × Nat) (fun i9 => (i9.1 < 2 ^ 62) ∧ (i9.2 < 2 ^ 62) ∧ (Nat.gcd i9.1 i9.2 = Nat.gcd a b)) (fun i9 => i9.2) (fun i9 => σ) (fun i9 => τ) (fun i9 => [(7, .long (lN i9.2)), (5, .long (lN i9.1)), (0, .long (lN a)), (2, .long (lN b)), (4, .int which)]) (fun i9 => []) (a, b) (by (try dsimp only); exact ⟨ha, hb, rfl⟩) ?_
  intro i9 hi9 ih6
  obtain ⟨x, y⟩ := i9
  (try dsimp only at hi9); (try dsimp only at ih6); (try dsimp only)
  obtain ⟨hx, hy, hg⟩ := hi9
  refine go_lload X dX7_share_6 0 rfl ?_
  refine go_lconst X (v := 0) dX7_share_8 (by decide) ?_
  refine go_lcmp X dX7_share_9 ?_
  refine go_lcmp_eq X (tgt := 31) dX7_share_10 (by decide) (fun c10 => ?_) (fun c10 => ?_)
  · skip
    have hy0 := (lN_eq0 (by omega)).mp c10
    have hxg : x = Nat.gcd a b := by rw [← hg, hy0, Nat.gcd_zero_right]
    refine go_iload X dX7_share_31 4 rfl ?_
    refine go_if_ne X (tgt := 40) dX7_share_33 (by decide) (fun c33 => ?_) (fun c33 => ?_)
    · skip
      refine go_lload_n X dX7_share_40 3 rfl rfl ?_
      refine go_lload X dX7_share_41 1 rfl ?_
      refine go_ldiv X dX7_share_43 (fun q => by have := (lN_eq0 (by omega)).mp q; omega) ?_
      exact go_lreturn X hr hlk dX7_share_44 (⟨by rw [hxg]; unfold shN; rw [if_neg c33]; exact (pk_lDiv (by omega) hg0 (by omega)).symm, rfl, rfl⟩)
    · skip
      refine go_lload_n X dX7_share_36 2 rfl rfl ?_
      refine go_goto X (tgt := 41) dX7_share_37 (by decide) ?_
      refine go_lload X dX7_share_41 1 rfl ?_
      refine go_ldiv X dX7_share_43 (fun q => by have := (lN_eq0 (by omega)).mp q; omega) ?_
      exact go_lreturn X hr hlk dX7_share_44 (⟨by rw [hxg]; unfold shN; rw [if_pos c33]; exact (pk_lDiv (by omega) hg0 (by omega)).symm, rfl, rfl⟩)
  · skip
    refine go_lload X dX7_share_13 1 rfl ?_
    refine go_lload X dX7_share_15 0 rfl ?_
    refine go_lrem X dX7_share_17 c10 ?_
    refine go_topl (v := lN (x % y)) (pk_lRem (by omega) (lN_ne0 (by omega) c10) (by omega)) ?_
    refine go_lstore X (lv2 := [(9, .long (lN (x % y))), (7, .long (lN y)), (5, .long (lN x)), (0, .long (lN a)), (2, .long (lN b)), (4, .int which)]) dX7_share_18 (by decide) rfl ?_
    refine go_lload X dX7_share_20 1 rfl ?_
    refine go_lstore X (lv2 := [(5, .long (lN y)), (9, .long (lN (x % y))), (7, .long (lN y)), (0, .long (lN a)), (2, .long (lN b)), (4, .int which)]) dX7_share_22 (by decide) rfl ?_
    refine go_lload X dX7_share_24 1 rfl ?_
    refine go_lstore X (lv2 := [(7, .long (lN (x % y))), (5, .long (lN y)), (9, .long (lN (x % y))), (0, .long (lN a)), (2, .long (lN b)), (4, .int which)]) dX7_share_26 (by decide) rfl ?_
    refine go_goto X (tgt := 6) dX7_share_28 (by decide) ?_
    refine go_lvsub [0, 1, 3, 4, 5] rfl ?_
    exact ih6 (y, x % y) (by (try dsimp only); exact ⟨hy, Nat.lt_of_le_of_lt (Nat.mod_le _ _) hx, by rw [← hg, Nat.gcd_comm x y, Nat.gcd_rec y x, Nat.gcd_comm]⟩) (by (try dsimp only); exact Nat.mod_lt x (lN_ne0 (by omega) c10))

theorem hdX7_fearOf : yX7_fearOf.cls = RX7 ∧ yX7_fearOf.cls ≠ "java/lang/invoke/MethodHandle" ∧ yX7_fearOf.cls ≠ "java/lang/invoke/VarHandle" ∧ (parseMethodDescriptor yX7_fearOf.desc).map (fun d => d.parameters.length) = some 2 := by decide +kernel
set_option maxHeartbeats 4000000 in
set_option maxRecDepth 100000 in
theorem kX7_fearOf (l : Launch) (D : va_G) (cs : Nat → ClassId) (ad : Nat → Nat) (N kt : Nat) (hN : 58 ≤ N) (σ : vSg) (τ : vTa) (i : Nat) (j : Nat) (kd : Int32) (h_kd : σ 42 i = kd) (rk : Int32) (h_rk : σ 40 j = rk) (hu : Int32) (h_hu : σ 41 j = hu)  (hi : i < 4) (hj : j < 5) (hkd : isB kd 3) : CtI l yX7_fearOf wsX7_fearOf ({ frames := 0, cells := 0, slots := 0, locals := 0 }) D cs ad N (shP kt) [.ref (ad (38)), .int (nI i), .int (nI j)] σ τ 0 0 (fun r9 σ9 τ9 => fearS kd rk hu = r9 ∧ σ = σ9 ∧ τ = τ9) := by
  refine ct_I (cc := cX7_fearOf) (maxL := 4) (by decide) rfl (Nat.le_of_ble_eq_true rfl) rfl rfl ?_
  intro p e s m args below meth c A X hr hlk
  refine go_aload_n X dX7_fearOf_0 0 rfl rfl ?_
  refine go_getr X (n := 38) (j := 3) (by omega) rfl rfl (fun _ h9 => List.mem_cons_of_mem _ (List.mem_append_right _ h9)) (by decide) (List.mem_cons_of_mem _ (List.mem_append_left _ (List.mem_of_getElem? (i := 0) rfl))) rfl dX7_fearOf_1 ?_
  refine go_iload_n X dX7_fearOf_4 2 rfl rfl ?_
  refine go_iald X (n := 40) (k := j) (by omega) rfl rfl (by omega) (by omega) dX7_fearOf_5 ?_
  refine go_topi (v := rk) (h_rk) ?_
  refine go_aload_n X dX7_fearOf_6 0 rfl rfl ?_
  refine go_getr X (n := 38) (j := 4) (by omega) rfl rfl (fun _ h9 => List.mem_cons_of_mem _ (List.mem_append_right _ h9)) (by decide) (List.mem_cons_of_mem _ (List.mem_append_left _ (List.mem_of_getElem? (i := 1) rfl))) rfl dX7_fearOf_7 ?_
  refine go_iload_n X dX7_fearOf_10 2 rfl rfl ?_
  refine go_iald X (n := 41) (k := j) (by omega) rfl rfl (by omega) (by omega) dX7_fearOf_11 ?_
  refine go_topi (v := hu) (h_hu) ?_
  refine go_imul X dX7_fearOf_12 ?_
  refine go_istore_n X (lv2 := [(3, .int (rk * hu)), (0, .ref (ad (38))), (1, .int (nI i)), (2, .int (nI j))]) dX7_fearOf_13 rfl (by decide) rfl ?_
  refine go_aload_n X dX7_fearOf_14 1 rfl rfl ?_
  refine go_getr X (n := 38) (j := 6) (by omega) rfl rfl (fun _ h9 => List.mem_cons_of_mem _ (List.mem_append_right _ h9)) (by decide) (List.mem_cons_of_mem _ (List.mem_append_left _ (List.mem_of_getElem? (i := 2) rfl))) rfl dX7_fearOf_15 ?_
  refine go_iload_n X dX7_fearOf_18 2 rfl rfl ?_
  refine go_iald X (n := 42) (k := i) (by omega) rfl rfl (by omega) (by omega) dX7_fearOf_19 ?_
  refine go_topi (v := kd) (h_kd) ?_
  refine go_if_ne X (tgt := 27) dX7_fearOf_20 (by decide) (fun c20 => ?_) (fun c20 => ?_)
  · skip
    refine go_aload_n X dX7_fearOf_27 1 rfl rfl ?_
    refine go_getr X (n := 38) (j := 6) (by omega) rfl rfl (fun _ h9 => List.mem_cons_of_mem _ (List.mem_append_right _ h9)) (by decide) (List.mem_cons_of_mem _ (List.mem_append_left _ (List.mem_of_getElem? (i := 2) rfl))) rfl dX7_fearOf_28 ?_
    refine go_iload_n X dX7_fearOf_31 2 rfl rfl ?_
    refine go_iald X (n := 42) (k := i) (by omega) rfl rfl (by omega) (by omega) dX7_fearOf_32 ?_
    refine go_topi (v := kd) (h_kd) ?_
    refine go_iconst X (v := 1) dX7_fearOf_33 (by decide) ?_
    refine go_icmp_ne X (tgt := 44) dX7_fearOf_34 (by decide) (fun c34 => ?_) (fun c34 => ?_)
    · skip
      refine go_iconst X (v := 2) dX7_fearOf_44 (by decide) ?_
      refine go_iload_n X dX7_fearOf_45 0 rfl rfl ?_
      refine go_bipush X (v := 10) dX7_fearOf_46 (by decide) ?_
      refine go_iadd X dX7_fearOf_48 ?_
      refine go_imul X dX7_fearOf_49 ?_
      exact go_ireturn X hr hlk dX7_fearOf_50 (⟨fearM hkd c20 c34, rfl, rfl⟩)
    · skip
      refine go_iload_n X dX7_fearOf_37 0 rfl rfl ?_
      refine go_bipush X (v := 10) dX7_fearOf_38 (by decide) ?_
      refine go_iadd X dX7_fearOf_40 ?_
      refine go_goto X (tgt := 50) dX7_fearOf_41 (by decide) ?_
      exact go_ireturn X hr hlk dX7_fearOf_50 (⟨by rw [c34]; rfl, rfl, rfl⟩)
  · skip
    refine go_iload_n X dX7_fearOf_23 0 rfl rfl ?_
    refine go_goto X (tgt := 50) dX7_fearOf_24 (by decide) ?_
    exact go_ireturn X hr hlk dX7_fearOf_50 (⟨by rw [c20]; rfl, rfl, rfl⟩)

theorem hdX7_valueOf : yX7_valueOf.cls = RX7 ∧ yX7_valueOf.cls ≠ "java/lang/invoke/MethodHandle" ∧ yX7_valueOf.cls ≠ "java/lang/invoke/VarHandle" ∧ (parseMethodDescriptor yX7_valueOf.desc).map (fun d => d.parameters.length) = some 2 := by decide +kernel
set_option maxHeartbeats 4000000 in
set_option maxRecDepth 100000 in
theorem kX7_valueOf (l : Launch) (D : va_G) (cs : Nat → ClassId) (ad : Nat → Nat) (N kt : Nat) (hN : 58 ≤ N) (σ : vSg) (τ : vTa) (i : Nat) (j : Nat) (kd : Int32) (h_kd : σ 42 i = kd) (wo : Int32) (h_wo : σ 39 j = wo) (rk : Int32) (h_rk : σ 40 j = rk) (hu : Int32) (h_hu : σ 41 j = hu)  (hi : i < 4) (hj : j < 5) (hkd : isB kd 3) : CtI l yX7_valueOf wsX7_valueOf ({ frames := 1, cells := 0, slots := 0, locals := 23 }) D cs ad N (shP kt) [.ref (ad (38)), .int (nI i), .int (nI j)] σ τ 0 0 (fun r9 σ9 τ9 => valS kd wo rk hu = r9 ∧ σ = σ9 ∧ τ = τ9) := by
  refine ct_I (cc := cX7_valueOf) (maxL := 3) (by decide) rfl (Nat.le_of_ble_eq_true rfl) rfl rfl ?_
  intro p e s m args below meth c A X hr hlk
  refine go_bipush X (v := 10) dX7_valueOf_0 (by decide) ?_
  refine go_aload_n X dX7_valueOf_2 0 rfl rfl ?_
  refine go_getr X (n := 38) (j := 2) (by omega) rfl rfl (fun _ h9 => List.mem_cons_of_mem _ (List.mem_append_right _ h9)) (by decide) (List.mem_cons_of_mem _ (List.mem_append_left _ (List.mem_of_getElem? (i := 0) rfl))) rfl dX7_valueOf_3 ?_
  refine go_iload_n X dX7_valueOf_6 2 rfl rfl ?_
  refine go_iald X (n := 39) (k := j) (by omega) rfl rfl (by omega) (by omega) dX7_valueOf_7 ?_
  refine go_topi (v := wo) (h_wo) ?_
  refine go_imul X dX7_valueOf_8 ?_
  refine go_aload_n X dX7_valueOf_9 0 rfl rfl ?_
  refine go_iload_n X dX7_valueOf_10 1 rfl rfl ?_
  refine go_iload_n X dX7_valueOf_11 2 rfl rfl ?_
  refine go_callVI X (n := 38) (As := [.int (nI i), .int (nI j)]) (rest := [.int (10 * wo)]) (kX7_fearOf l D cs ad N kt (by omega) σ τ i j kd (h_kd) rk (h_rk) hu (h_hu) (by omega) (by omega) hkd) gX7_valueOf_X7_fearOf rfl hdX7_fearOf ⟨rfl, rfl, by decide, by decide, by decide, by decide⟩ (by omega) rfl rfl rfl rfl (Nat.le_of_ble_eq_true rfl) dX7_valueOf_12 (fun r9 σ9 τ9 h9 => ?_)
  obtain ⟨rfl, rfl, rfl⟩ := h9
  refine go_isub X dX7_valueOf_15 ?_
  exact go_ireturn X hr hlk dX7_valueOf_16 (⟨rfl, rfl, rfl⟩)

theorem hdX7_doneBy : yX7_doneBy.cls = RX7 ∧ yX7_doneBy.cls ≠ "java/lang/invoke/MethodHandle" ∧ yX7_doneBy.cls ≠ "java/lang/invoke/VarHandle" ∧ (parseMethodDescriptor yX7_doneBy.desc).map (fun d => d.parameters.length) = some 1 := by decide +kernel
set_option maxHeartbeats 4000000 in
set_option maxRecDepth 100000 in
theorem kX7_doneBy (l : Launch) (D : va_G) (cs : Nat → ClassId) (ad : Nat → Nat) (N kt : Nat) (hN : 58 ≤ N) (σ : vSg) (τ : vTa) (i : Nat) (nd : Nat)   (hnd : σ 38 1 = nI nd) (hle : nd ≤ 5) (hi : i < 4) (hkd : isB (σ 42 i) 3) : CtI l yX7_doneBy wsX7_doneBy ({ frames := 2, cells := 0, slots := 0, locals := 45 }) D cs ad N (shP kt) [.ref (ad (38)), .int (nI i)] σ τ 0 0 (fun r9 σ9 τ9 => setS (doM σ i) nd = r9 ∧ σ = σ9 ∧ τ = τ9) := by
  refine ct_I (cc := cX7_doneBy) (maxL := 4) (by decide) rfl (Nat.le_of_ble_eq_true rfl) rfl rfl ?_
  intro p e s m args below meth c A X hr hlk
  refine go_iconst X (v := 0) dX7_doneBy_0 (by decide) ?_
  refine go_istore_n X (lv2 := [(2, .int 0), (0, .ref (ad (38))), (1, .int (nI i))]) dX7_doneBy_1 rfl (by decide) rfl ?_
  refine go_iconst X (v := 0) dX7_doneBy_2 (by decide) ?_
  refine go_istore_n X (lv2 := [(3, .int 0), (2, .int 0), (0, .ref (ad (38))), (1, .int (nI i))]) dX7_doneBy_3 rfl (by decide) rfl ?_
  refine go_loop (ι := Nat) (fun i9 => (i9 ≤ nd)) (fun i9 => nd - i9) (fun i9 => σ) (fun i9 => τ) (fun i9 => [(3, .int (nI i9)), (2, .int (setS (doM σ i) i9)), (0, .ref (ad (38))), (1, .int (nI i))]) (fun i9 => []) 0 (by (try dsimp only); exact (Nat.zero_le _)) ?_
  intro i9 hi9 ih4
  obtain ⟨d, hv9⟩ : ∃ z, z = i9 := ⟨_, rfl⟩; subst hv9
  (try dsimp only at hi9); (try dsimp only at ih4); (try dsimp only)
  have hd := hi9
  refine go_iload_n X dX7_doneBy_4 0 rfl rfl ?_
  refine go_aload_n X dX7_doneBy_5 2 rfl rfl ?_
  refine go_geti X (n := 38) (j := 1) (by omega) rfl rfl (fun _ h9 => List.mem_cons_of_mem _ (List.mem_append_right _ h9)) (by decide) (List.mem_cons_of_mem _ (List.mem_append_left _ (List.mem_of_getElem? (i := 0) rfl))) rfl dX7_doneBy_6 ?_
  refine go_topi (v := nI nd) (hnd) ?_
  refine go_icmpn_ge X (tgt := 37) dX7_doneBy_9 (by decide) (a := d) (b := nd) rfl rfl (by omega) (by omega) (fun c9 => ?_) (fun c9 => ?_)
  · skip
    refine go_iload_n X dX7_doneBy_37 1 rfl rfl ?_
    exact go_ireturn X hr hlk dX7_doneBy_38 (⟨by rw [show d = nd by omega], rfl, rfl⟩)
  · skip
    refine go_iload_n X dX7_doneBy_12 1 rfl rfl ?_
    refine go_aload_n X dX7_doneBy_13 2 rfl rfl ?_
    refine go_iload_n X dX7_doneBy_14 3 rfl rfl ?_
    refine go_iload_n X dX7_doneBy_15 0 rfl rfl ?_
    refine go_callVI X (n := 38) (As := [.int (nI i), .int (nI d)]) (rest := [.int (setS (doM σ i) d)]) (kX7_valueOf l D cs ad N kt (by omega) σ τ i d (σ 42 i) (rfl) (σ 39 d) (rfl) (σ 40 d) (rfl) (σ 41 d) (rfl) (by omega) (by omega) hkd) gX7_doneBy_X7_valueOf rfl hdX7_valueOf ⟨rfl, rfl, by decide, by decide, by decide, by decide⟩ (by omega) rfl rfl rfl rfl (Nat.le_of_ble_eq_true rfl) dX7_doneBy_16 (fun r9 σ9 τ9 h9 => ?_)
    obtain ⟨rfl, rfl, rfl⟩ := h9
    refine go_if_le X (tgt := 28) dX7_doneBy_19 (by decide) (fun c19 => ?_) (fun c19 => ?_)
    · skip
      refine go_iconst X (v := 0) dX7_doneBy_28 (by decide) ?_
      refine go_ior X dX7_doneBy_29 ?_
      refine go_topi (v := setS (doM σ i) (d + 1)) (by rw [setS_f (P := doM σ i) (n := d) (Int32.not_lt.mpr c19), or_0]) ?_
      refine go_istore_n X (lv2 := [(2, .int (setS (doM σ i) (d + 1))), (3, .int (nI d)), (0, .ref (ad (38))), (1, .int (nI i))]) dX7_doneBy_30 rfl (by decide) rfl ?_
      refine go_iinc X (v := nI (d + 1)) (lv2 := [(3, .int (nI (d + 1))), (2, .int (setS (doM σ i) (d + 1))), (0, .ref (ad (38))), (1, .int (nI i))]) dX7_doneBy_31 (k := 1) rfl (nI_add d 1) (by decide) rfl ?_
      refine go_goto X (tgt := 4) dX7_doneBy_34 (by decide) ?_
      exact ih4 (d + 1) (by (try dsimp only); exact (by omega)) (by (try dsimp only); omega)
    · skip
      refine go_iconst X (v := 1) dX7_doneBy_22 (by decide) ?_
      refine go_iload_n X dX7_doneBy_23 0 rfl rfl ?_
      refine go_ishl X dX7_doneBy_24 ?_
      refine go_goto X (tgt := 29) dX7_doneBy_25 (by decide) ?_
      refine go_ior X dX7_doneBy_29 ?_
      refine go_topi (v := setS (doM σ i) (d + 1)) (by rw [setS_t (P := doM σ i) (n := d) (Int32.not_le.mp c19)]) ?_
      refine go_istore_n X (lv2 := [(2, .int (setS (doM σ i) (d + 1))), (3, .int (nI d)), (0, .ref (ad (38))), (1, .int (nI i))]) dX7_doneBy_30 rfl (by decide) rfl ?_
      refine go_iinc X (v := nI (d + 1)) (lv2 := [(3, .int (nI (d + 1))), (2, .int (setS (doM σ i) (d + 1))), (0, .ref (ad (38))), (1, .int (nI i))]) dX7_doneBy_31 (k := 1) rfl (nI_add d 1) (by decide) rfl ?_
      refine go_goto X (tgt := 4) dX7_doneBy_34 (by decide) ?_
      exact ih4 (d + 1) (by (try dsimp only); exact (by omega)) (by (try dsimp only); omega)

theorem hdX7_ofDeedBy : yX7_ofDeedBy.cls = RX7 ∧ yX7_ofDeedBy.cls ≠ "java/lang/invoke/MethodHandle" ∧ yX7_ofDeedBy.cls ≠ "java/lang/invoke/VarHandle" ∧ (parseMethodDescriptor yX7_ofDeedBy.desc).map (fun d => d.parameters.length) = some 2 := by decide +kernel
set_option maxHeartbeats 4000000 in
set_option maxRecDepth 100000 in
theorem kX7_ofDeedBy (l : Launch) (D : va_G) (cs : Nat → ClassId) (ad : Nat → Nat) (N kt : Nat) (hN : 58 ≤ N) (σ : vSg) (τ : vTa) (i : Nat) (j : Nat)   (hi : i < 5) (hj : j < 3) : CtI l yX7_ofDeedBy wsX7_ofDeedBy ({ frames := 0, cells := 0, slots := 0, locals := 0 }) D cs ad N (shP kt) [.ref (ad (38)), .int (nI i), .int (nI j)] σ τ 0 0 (fun r9 σ9 τ9 => ddM σ i j = r9 ∧ σ = σ9 ∧ τ = τ9) := by
  refine ct_I (cc := cX7_ofDeedBy) (maxL := 3) (by decide) rfl (Nat.le_of_ble_eq_true rfl) rfl rfl ?_
  intro p e s m args below meth c A X hr hlk
  refine go_iload_n X dX7_ofDeedBy_0 2 rfl rfl ?_
  refine go_ifn_ne X (tgt := 13) dX7_ofDeedBy_1 (by decide) (a := j) rfl (by omega) (fun c1 => ?_) (fun c1 => ?_)
  · skip
    refine go_iload_n X dX7_ofDeedBy_13 2 rfl rfl ?_
    refine go_iconst X (v := 1) dX7_ofDeedBy_14 (by decide) ?_
    refine go_icmpn_ne X (tgt := 27) dX7_ofDeedBy_15 (by decide) (a := j) (b := 1) rfl rfl (by omega) (by omega) (fun c15 => ?_) (fun c15 => ?_)
    · skip
      refine go_aload_n X dX7_ofDeedBy_27 0 rfl rfl ?_
      refine go_getr X (n := 38) (j := 4) (by omega) rfl rfl (fun _ h9 => List.mem_cons_of_mem _ (List.mem_append_right _ h9)) (by decide) (List.mem_cons_of_mem _ (List.mem_append_left _ (List.mem_of_getElem? (i := 2) rfl))) rfl dX7_ofDeedBy_28 ?_
      refine go_iload_n X dX7_ofDeedBy_31 1 rfl rfl ?_
      refine go_iald X (n := 41) (k := i) (by omega) rfl rfl (by omega) (by omega) dX7_ofDeedBy_32 ?_
      exact go_ireturn X hr hlk dX7_ofDeedBy_33 (⟨(if_neg c1).trans (if_neg c15), rfl, rfl⟩)
    · skip
      refine go_aload_n X dX7_ofDeedBy_18 0 rfl rfl ?_
      refine go_getr X (n := 38) (j := 3) (by omega) rfl rfl (fun _ h9 => List.mem_cons_of_mem _ (List.mem_append_right _ h9)) (by decide) (List.mem_cons_of_mem _ (List.mem_append_left _ (List.mem_of_getElem? (i := 1) rfl))) rfl dX7_ofDeedBy_19 ?_
      refine go_iload_n X dX7_ofDeedBy_22 1 rfl rfl ?_
      refine go_iald X (n := 40) (k := i) (by omega) rfl rfl (by omega) (by omega) dX7_ofDeedBy_23 ?_
      refine go_goto X (tgt := 33) dX7_ofDeedBy_24 (by decide) ?_
      exact go_ireturn X hr hlk dX7_ofDeedBy_33 (⟨(if_neg c1).trans (if_pos c15), rfl, rfl⟩)
  · skip
    refine go_aload_n X dX7_ofDeedBy_4 0 rfl rfl ?_
    refine go_getr X (n := 38) (j := 2) (by omega) rfl rfl (fun _ h9 => List.mem_cons_of_mem _ (List.mem_append_right _ h9)) (by decide) (List.mem_cons_of_mem _ (List.mem_append_left _ (List.mem_of_getElem? (i := 0) rfl))) rfl dX7_ofDeedBy_5 ?_
    refine go_iload_n X dX7_ofDeedBy_8 1 rfl rfl ?_
    refine go_iald X (n := 39) (k := i) (by omega) rfl rfl (by omega) (by omega) dX7_ofDeedBy_9 ?_
    refine go_goto X (tgt := 33) dX7_ofDeedBy_10 (by decide) ?_
    exact go_ireturn X hr hlk dX7_ofDeedBy_33 (⟨if_pos c1, rfl, rfl⟩)

theorem hdX7_areSo : yX7_areSo.cls = RX7 ∧ yX7_areSo.cls ≠ "java/lang/invoke/MethodHandle" ∧ yX7_areSo.cls ≠ "java/lang/invoke/VarHandle" ∧ (parseMethodDescriptor yX7_areSo.desc).map (fun d => d.parameters.length) = some 0 := by decide +kernel
set_option maxHeartbeats 4000000 in
set_option maxRecDepth 100000 in
theorem kX7_areSo (l : Launch) (D : va_G) (cs : Nat → ClassId) (ad : Nat → Nat) (N kt : Nat) (hN : 58 ≤ N) (σ : vSg) (τ : vTa) (nr : Nat) (ra : Nat → Nat) (rd : Nat → Nat)   (hnr : σ 38 21 = nI nr) (hle : nr ≤ 8) (hR : ∀ r, r < nr → σ 51 r = nI (ra r) ∧ ra r < 4 ∧ σ 52 r = nI (rd r) ∧ rd r < 5 ∧ isB (σ 42 (ra r)) 3) : CtI l yX7_areSo wsX7_areSo ({ frames := 2, cells := 0, slots := 0, locals := 45 }) D cs ad N (shP kt) [.ref (ad (38))] σ τ 0 0 (fun r9 σ9 τ9 => b2i (allM σ ra rd nr) = r9 ∧ σ = σ9 ∧ τ = τ9) := by
  refine ct_I (cc := cX7_areSo) (maxL := 3) (by decide) rfl (Nat.le_of_ble_eq_true rfl) rfl rfl ?_
  intro p e s m args below meth c A X hr hlk
  refine go_iconst X (v := 1) dX7_areSo_0 (by decide) ?_
  refine go_istore_n X (lv2 := [(1, .int 1), (0, .ref (ad (38)))]) dX7_areSo_1 rfl (by decide) rfl ?_
  refine go_lv (lv2 := [(1, .int (b2i (allM σ ra rd 0))), (0, .ref (ad (38)))]) (by rw [b2i_t (P := allM σ ra rd 0) (fun _ h => absurd h (Nat.not_lt_zero _))]) ?_
  refine go_iconst X (v := 0) dX7_areSo_2 (by decide) ?_
  refine go_istore_n X (lv2 := [(2, .int 0), (1, .int (b2i (allM σ ra rd 0))), (0, .ref (ad (38)))]) dX7_areSo_3 rfl (by decide) rfl ?_
  refine go_loop (ι := Nat) (fun i9 => (i9 ≤ nr)) (fun i9 => nr - i9) (fun i9 => σ) (fun i9 => τ) (fun i9 => [(2, .int (nI i9)), (1, .int (b2i (allM σ ra rd i9))), (0, .ref (ad (38)))]) (fun i9 => []) 0 (by (try dsimp only); exact (Nat.zero_le _)) ?_
  intro i9 hi9 ih4
  obtain ⟨r, hv9⟩ : ∃ z, z = i9 := ⟨_, rfl⟩; subst hv9
  (try dsimp only at hi9); (try dsimp only at ih4); (try dsimp only)
  have hr0 := hi9
  refine go_iload_n X dX7_areSo_4 0 rfl rfl ?_
  refine go_aload_n X dX7_areSo_5 2 rfl rfl ?_
  refine go_geti X (n := 38) (j := 21) (by omega) rfl rfl (fun _ h9 => List.mem_cons_of_mem _ (List.mem_append_right _ h9)) (by decide) (List.mem_cons_of_mem _ (List.mem_append_left _ (List.mem_of_getElem? (i := 0) rfl))) rfl dX7_areSo_6 ?_
  refine go_topi (v := nI nr) (hnr) ?_
  refine go_icmpn_ge X (tgt := 61) dX7_areSo_9 (by decide) (a := r) (b := nr) rfl rfl (by omega) (by omega) (fun c9 => ?_) (fun c9 => ?_)
  · skip
    refine go_iload_n X dX7_areSo_61 1 rfl rfl ?_
    exact go_zreturn X hr hlk dX7_areSo_62 (b2i_z _) (⟨by rw [show nr = r by omega], rfl, rfl⟩)
  · skip
    refine go_iload_n X dX7_areSo_12 1 rfl rfl ?_
    refine go_ifb_eq X (tgt := 53) dX7_areSo_13 (by decide) (fun c13 => ?_) (fun c13 => ?_)
    · skip
      refine go_iconst X (v := 0) dX7_areSo_53 (by decide) ?_
      refine go_topi (v := b2i (allM σ ra rd (r + 1))) ((b2i_f (fun q => c13 (fun x hx => q x (by omega)))).symm) ?_
      refine go_istore_n X (lv2 := [(1, .int (b2i (allM σ ra rd (r + 1)))), (2, .int (nI r)), (0, .ref (ad (38)))]) dX7_areSo_54 rfl (by decide) rfl ?_
      refine go_iinc X (v := nI (r + 1)) (lv2 := [(2, .int (nI (r + 1))), (1, .int (b2i (allM σ ra rd (r + 1)))), (0, .ref (ad (38)))]) dX7_areSo_55 (k := 1) rfl (nI_add r 1) (by decide) rfl ?_
      refine go_goto X (tgt := 4) dX7_areSo_58 (by decide) ?_
      exact ih4 (r + 1) (by (try dsimp only); exact (by omega)) (by (try dsimp only); omega)
    · skip
      refine go_aload_n X dX7_areSo_16 2 rfl rfl ?_
      refine go_aload_n X dX7_areSo_17 2 rfl rfl ?_
      refine go_getr X (n := 38) (j := 22) (by omega) rfl rfl (fun _ h9 => List.mem_cons_of_mem _ (List.mem_append_right _ h9)) (by decide) (List.mem_cons_of_mem _ (List.mem_append_left _ (List.mem_of_getElem? (i := 1) rfl))) rfl dX7_areSo_18 ?_
      refine go_iload_n X dX7_areSo_21 0 rfl rfl ?_
      refine go_iald X (n := 51) (k := r) (by omega) rfl rfl (by omega) (by omega) dX7_areSo_22 ?_
      obtain ⟨ha1, ha2, hd1, hd2, hk3⟩ := hR r (by omega)
      refine go_topi (v := nI (ra r)) ha1 ?_
      refine go_aload_n X dX7_areSo_23 2 rfl rfl ?_
      refine go_getr X (n := 38) (j := 23) (by omega) rfl rfl (fun _ h9 => List.mem_cons_of_mem _ (List.mem_append_right _ h9)) (by decide) (List.mem_cons_of_mem _ (List.mem_append_left _ (List.mem_of_getElem? (i := 2) rfl))) rfl dX7_areSo_24 ?_
      refine go_iload_n X dX7_areSo_27 0 rfl rfl ?_
      refine go_iald X (n := 52) (k := r) (by omega) rfl rfl (by omega) (by omega) dX7_areSo_28 ?_
      refine go_topi (v := nI (rd r)) hd1 ?_
      refine go_callVI X (n := 38) (As := [.int (nI (ra r)), .int (nI (rd r))]) (rest := []) (kX7_valueOf l D cs ad N kt (by omega) σ τ (ra r) (rd r) (σ 42 (ra r)) (rfl) (σ 39 (rd r)) (rfl) (σ 40 (rd r)) (rfl) (σ 41 (rd r)) (rfl) (by omega) (by omega) hk3) gX7_areSo_X7_valueOf rfl hdX7_valueOf ⟨rfl, rfl, by decide, by decide, by decide, by decide⟩ (by omega) rfl rfl rfl rfl (Nat.le_of_ble_eq_true rfl) dX7_areSo_29 (fun r9 σ9 τ9 h9 => ?_)
      obtain ⟨rfl, rfl, rfl⟩ := h9
      refine go_if_le X (tgt := 39) dX7_areSo_32 (by decide) (fun c32 => ?_) (fun c32 => ?_)
      · skip
        refine go_iconst X (v := 0) dX7_areSo_39 (by decide) ?_
        refine go_topi (v := b2i (doM σ (ra r) (rd r))) ((b2i_f (Int32.not_lt.mpr c32)).symm) ?_
        refine go_aload_n X dX7_areSo_40 2 rfl rfl ?_
        refine go_getr X (n := 38) (j := 24) (by omega) rfl rfl (fun _ h9 => List.mem_cons_of_mem _ (List.mem_append_right _ h9)) (by decide) (List.mem_cons_of_mem _ (List.mem_append_left _ (List.mem_of_getElem? (i := 3) rfl))) rfl dX7_areSo_41 ?_
        refine go_iload_n X dX7_areSo_44 0 rfl rfl ?_
        refine go_zald X (n := 53) (k := r) (by omega) rfl rfl (by omega) (by omega) dX7_areSo_45 ?_
        refine go_icmp_ne X (tgt := 53) dX7_areSo_46 (by decide) (fun c46 => ?_) (fun c46 => ?_)
        · skip
          refine go_iconst X (v := 0) dX7_areSo_53 (by decide) ?_
          refine go_topi (v := b2i (allM σ ra rd (r + 1))) ((b2i_f (fun q => c46 (q r (by omega)))).symm) ?_
          refine go_istore_n X (lv2 := [(1, .int (b2i (allM σ ra rd (r + 1)))), (2, .int (nI r)), (0, .ref (ad (38)))]) dX7_areSo_54 rfl (by decide) rfl ?_
          refine go_iinc X (v := nI (r + 1)) (lv2 := [(2, .int (nI (r + 1))), (1, .int (b2i (allM σ ra rd (r + 1)))), (0, .ref (ad (38)))]) dX7_areSo_55 (k := 1) rfl (nI_add r 1) (by decide) rfl ?_
          refine go_goto X (tgt := 4) dX7_areSo_58 (by decide) ?_
          exact ih4 (r + 1) (by (try dsimp only); exact (by omega)) (by (try dsimp only); omega)
        · skip
          refine go_iconst X (v := 1) dX7_areSo_49 (by decide) ?_
          refine go_goto X (tgt := 54) dX7_areSo_50 (by decide) ?_
          refine go_topi (v := b2i (allM σ ra rd (r + 1))) ((b2i_t (fun q hq => by rcases Nat.lt_succ_iff_lt_or_eq.mp hq with h | h; exact c13 q h; rw [h]; exact c46)).symm) ?_
          refine go_istore_n X (lv2 := [(1, .int (b2i (allM σ ra rd (r + 1)))), (2, .int (nI r)), (0, .ref (ad (38)))]) dX7_areSo_54 rfl (by decide) rfl ?_
          refine go_iinc X (v := nI (r + 1)) (lv2 := [(2, .int (nI (r + 1))), (1, .int (b2i (allM σ ra rd (r + 1)))), (0, .ref (ad (38)))]) dX7_areSo_55 (k := 1) rfl (nI_add r 1) (by decide) rfl ?_
          refine go_goto X (tgt := 4) dX7_areSo_58 (by decide) ?_
          exact ih4 (r + 1) (by (try dsimp only); exact (by omega)) (by (try dsimp only); omega)
      · skip
        refine go_iconst X (v := 1) dX7_areSo_35 (by decide) ?_
        refine go_goto X (tgt := 40) dX7_areSo_36 (by decide) ?_
        refine go_topi (v := b2i (doM σ (ra r) (rd r))) ((b2i_t (Int32.not_le.mp c32)).symm) ?_
        refine go_aload_n X dX7_areSo_40 2 rfl rfl ?_
        refine go_getr X (n := 38) (j := 24) (by omega) rfl rfl (fun _ h9 => List.mem_cons_of_mem _ (List.mem_append_right _ h9)) (by decide) (List.mem_cons_of_mem _ (List.mem_append_left _ (List.mem_of_getElem? (i := 3) rfl))) rfl dX7_areSo_41 ?_
        refine go_iload_n X dX7_areSo_44 0 rfl rfl ?_
        refine go_zald X (n := 53) (k := r) (by omega) rfl rfl (by omega) (by omega) dX7_areSo_45 ?_
        refine go_icmp_ne X (tgt := 53) dX7_areSo_46 (by decide) (fun c46 => ?_) (fun c46 => ?_)
        · skip
          refine go_iconst X (v := 0) dX7_areSo_53 (by decide) ?_
          refine go_topi (v := b2i (allM σ ra rd (r + 1))) ((b2i_f (fun q => c46 (q r (by omega)))).symm) ?_
          refine go_istore_n X (lv2 := [(1, .int (b2i (allM σ ra rd (r + 1)))), (2, .int (nI r)), (0, .ref (ad (38)))]) dX7_areSo_54 rfl (by decide) rfl ?_
          refine go_iinc X (v := nI (r + 1)) (lv2 := [(2, .int (nI (r + 1))), (1, .int (b2i (allM σ ra rd (r + 1)))), (0, .ref (ad (38)))]) dX7_areSo_55 (k := 1) rfl (nI_add r 1) (by decide) rfl ?_
          refine go_goto X (tgt := 4) dX7_areSo_58 (by decide) ?_
          exact ih4 (r + 1) (by (try dsimp only); exact (by omega)) (by (try dsimp only); omega)
        · skip
          refine go_iconst X (v := 1) dX7_areSo_49 (by decide) ?_
          refine go_goto X (tgt := 54) dX7_areSo_50 (by decide) ?_
          refine go_topi (v := b2i (allM σ ra rd (r + 1))) ((b2i_t (fun q hq => by rcases Nat.lt_succ_iff_lt_or_eq.mp hq with h | h; exact c13 q h; rw [h]; exact c46)).symm) ?_
          refine go_istore_n X (lv2 := [(1, .int (b2i (allM σ ra rd (r + 1)))), (2, .int (nI r)), (0, .ref (ad (38)))]) dX7_areSo_54 rfl (by decide) rfl ?_
          refine go_iinc X (v := nI (r + 1)) (lv2 := [(2, .int (nI (r + 1))), (1, .int (b2i (allM σ ra rd (r + 1)))), (0, .ref (ad (38)))]) dX7_areSo_55 (k := 1) rfl (nI_add r 1) (by decide) rfl ?_
          refine go_goto X (tgt := 4) dX7_areSo_58 (by decide) ?_
          exact ih4 (r + 1) (by (try dsimp only); exact (by omega)) (by (try dsimp only); omega)

theorem hdX7_papersNow : yX7_papersNow.cls = RX7 ∧ yX7_papersNow.cls ≠ "java/lang/invoke/MethodHandle" ∧ yX7_papersNow.cls ≠ "java/lang/invoke/VarHandle" ∧ (parseMethodDescriptor yX7_papersNow.desc).map (fun d => d.parameters.length) = some 0 := by decide +kernel
set_option maxHeartbeats 4000000 in
set_option maxRecDepth 100000 in
theorem kX7_papersNow (l : Launch) (D : va_G) (cs : Nat → ClassId) (ad : Nat → Nat) (N kt : Nat) (hN : 58 ≤ N) (σ : vSg) (τ : vTa) (ns : Nat)   (hns : σ 38 5 = nI ns) (hle : ns ≤ 4) : CtI l yX7_papersNow wsX7_papersNow ({ frames := 0, cells := 0, slots := 0, locals := 0 }) D cs ad N (shP kt) [.ref (ad (38))] σ τ 0 0 (fun r9 σ9 τ9 => sumS (σ 43) ns = r9 ∧ σ = σ9 ∧ τ = τ9) := by
  refine ct_I (cc := cX7_papersNow) (maxL := 3) (by decide) rfl (Nat.le_of_ble_eq_true rfl) rfl rfl ?_
  intro p e s m args below meth c A X hr hlk
  refine go_iconst X (v := 0) dX7_papersNow_0 (by decide) ?_
  refine go_istore_n X (lv2 := [(1, .int 0), (0, .ref (ad (38)))]) dX7_papersNow_1 rfl (by decide) rfl ?_
  refine go_iconst X (v := 0) dX7_papersNow_2 (by decide) ?_
  refine go_istore_n X (lv2 := [(2, .int 0), (1, .int 0), (0, .ref (ad (38)))]) dX7_papersNow_3 rfl (by decide) rfl ?_
  refine go_loop (ι := Nat) (fun i9 => (i9 ≤ ns)) (fun i9 => ns - i9) (fun i9 => σ) (fun i9 => τ) (fun i9 => [(2, .int (nI i9)), (1, .int (sumS (σ 43) i9)), (0, .ref (ad (38)))]) (fun i9 => []) 0 (by (try dsimp only); exact (Nat.zero_le _)) ?_
  intro i9 hi9 ih4
  obtain ⟨a, hv9⟩ : ∃ z, z = i9 := ⟨_, rfl⟩; subst hv9
  (try dsimp only at hi9); (try dsimp only at ih4); (try dsimp only)
  have ha := hi9
  refine go_iload_n X dX7_papersNow_4 0 rfl rfl ?_
  refine go_aload_n X dX7_papersNow_5 2 rfl rfl ?_
  refine go_geti X (n := 38) (j := 5) (by omega) rfl rfl (fun _ h9 => List.mem_cons_of_mem _ (List.mem_append_right _ h9)) (by decide) (List.mem_cons_of_mem _ (List.mem_append_left _ (List.mem_of_getElem? (i := 0) rfl))) rfl dX7_papersNow_6 ?_
  refine go_topi (v := nI ns) (hns) ?_
  refine go_icmpn_ge X (tgt := 27) dX7_papersNow_9 (by decide) (a := a) (b := ns) rfl rfl (by omega) (by omega) (fun c9 => ?_) (fun c9 => ?_)
  · skip
    refine go_iload_n X dX7_papersNow_27 1 rfl rfl ?_
    exact go_ireturn X hr hlk dX7_papersNow_28 (⟨by rw [show a = ns by omega], rfl, rfl⟩)
  · skip
    refine go_iload_n X dX7_papersNow_12 1 rfl rfl ?_
    refine go_aload_n X dX7_papersNow_13 2 rfl rfl ?_
    refine go_getr X (n := 38) (j := 7) (by omega) rfl rfl (fun _ h9 => List.mem_cons_of_mem _ (List.mem_append_right _ h9)) (by decide) (List.mem_cons_of_mem _ (List.mem_append_left _ (List.mem_of_getElem? (i := 1) rfl))) rfl dX7_papersNow_14 ?_
    refine go_iload_n X dX7_papersNow_17 0 rfl rfl ?_
    refine go_iald X (n := 43) (k := a) (by omega) rfl rfl (by omega) (by omega) dX7_papersNow_18 ?_
    refine go_iadd X dX7_papersNow_19 ?_
    refine go_topi (v := sumS (σ 43) (a + 1)) rfl ?_
    refine go_istore_n X (lv2 := [(1, .int (sumS (σ 43) (a + 1))), (2, .int (nI a)), (0, .ref (ad (38)))]) dX7_papersNow_20 rfl (by decide) rfl ?_
    refine go_iinc X (v := nI (a + 1)) (lv2 := [(2, .int (nI (a + 1))), (1, .int (sumS (σ 43) (a + 1))), (0, .ref (ad (38)))]) dX7_papersNow_21 (k := 1) rfl (nI_add a 1) (by decide) rfl ?_
    refine go_goto X (tgt := 4) dX7_papersNow_24 (by decide) ?_
    exact ih4 (a + 1) (by (try dsimp only); exact (by omega)) (by (try dsimp only); omega)

