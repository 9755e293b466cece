/-! numbers -/
theorem in_iff {v : Int32} {l h : Int64} {b : Int32} (hl : l.toInt = 0) (hh : h.toInt + 1 = b.toInt) : (l ≤ v.toInt64 ∧ v.toInt64 ≤ h) ↔ isB v b := by
  show _ ↔ (0 ≤ v ∧ v < b)
  rw [Int64.le_iff_toInt_le, Int64.le_iff_toInt_le, Int32.le_iff_toInt_le, Int32.lt_iff_toInt_lt, Int32.toInt_toInt64, hl]
  have h0 : (0 : Int32).toInt = 0 := rfl
  rw [h0]
  omega
theorem i64_sub1 (n : Int32) : (n.toInt64 - 1).toInt + 1 = n.toInt := by
  have h1 := Int32.toInt_lt n
  have h2 := Int32.le_toInt n
  rw [Int64.toInt_sub, Int32.toInt_toInt64, show (1 : Int64).toInt = 1 from rfl]
  rw [Int.bmod_eq_of_le (by omega) (by omega)]
  omega
/-- what is feared of a deed of this risk and hurt by one of kind k -/
def fearS (k r h : Int32) : Int32 := if k = 2 then 2 * (r * h + 10) else if k = 1 then r * h + 10 else r * h
def valS (k w r h : Int32) : Int32 := 10 * w - fearS k r h
def cutS (lane v : Int32) : Int32 := if lane = 0 then v.toInt8.toInt32 else if lane = 1 then v.toInt16.toInt32 else v

theorem hdX6_isBelow : yX6_isBelow.cls ≠ "java/lang/invoke/MethodHandle" ∧ yX6_isBelow.cls ≠ "java/lang/invoke/VarHandle" ∧ (parseMethodDescriptor yX6_isBelow.desc).map (fun d => d.parameters.length) = some 2 := by decide +kernel
set_option maxHeartbeats 4000000 in
set_option maxRecDepth 100000 in
theorem kX6_isBelow (l : Launch) (D : va_G) (cs : Nat → ClassId) (ad : Nat → Nat) (N kt : Nat) (hN : 58 ≤ N) (σ : vSg) (τ : vTa) (v : Int32) (b : Int32)    : CtI l yX6_isBelow wsX6_isBelow ({ frames := 0, cells := 0, slots := 0, locals := 0 }) D cs ad N (shP kt) [.int v, .int b] σ τ 0 0 (fun r9 σ9 τ9 => b2i (isB v b) = r9 ∧ σ = σ9 ∧ τ = τ9) := by
  refine ct_I (cc := cX6_isBelow) (maxL := 2) (by decide) rfl (Nat.le_of_ble_eq_true rfl) rfl rfl ?_
  intro p e s m args below meth c A X hr hlk
  refine go_iload_n X dX6_isBelow_0 0 rfl rfl ?_
  refine go_if_lt X (tgt := 13) dX6_isBelow_1 (by decide) (fun c1 => ?_) (fun c1 => ?_)
  · skip
    refine go_iconst X (v := 0) dX6_isBelow_13 (by decide) ?_
    exact go_zreturn X hr hlk dX6_isBelow_14 (by first | exact Or.inl rfl | exact Or.inr rfl) (⟨(b2i_f (fun q => absurd q.1 (Int32.not_le.mpr c1))), rfl, rfl⟩)
  · skip
    refine go_iload_n X dX6_isBelow_4 0 rfl rfl ?_
    refine go_iload_n X dX6_isBelow_5 1 rfl rfl ?_
    refine go_icmp_ge X (tgt := 13) dX6_isBelow_6 (by decide) (fun c6 => ?_) (fun c6 => ?_)
    · skip
      refine go_iconst X (v := 0) dX6_isBelow_13 (by decide) ?_
      exact go_zreturn X hr hlk dX6_isBelow_14 (by first | exact Or.inl rfl | exact Or.inr rfl) (⟨(b2i_f (fun q => absurd q.2 (Int32.not_lt.mpr c6))), rfl, rfl⟩)
    · skip
      refine go_iconst X (v := 1) dX6_isBelow_9 (by decide) ?_
      refine go_goto X (tgt := 14) dX6_isBelow_10 (by decide) ?_
      exact go_zreturn X hr hlk dX6_isBelow_14 (by first | exact Or.inl rfl | exact Or.inr rfl) (⟨(b2i_t ⟨Int32.not_lt.mp c1, Int32.not_le.mp c6⟩), rfl, rfl⟩)

theorem hdX6_isSheet : yX6_isSheet.cls ≠ "java/lang/invoke/MethodHandle" ∧ yX6_isSheet.cls ≠ "java/lang/invoke/VarHandle" ∧ (parseMethodDescriptor yX6_isSheet.desc).map (fun d => d.parameters.length) = some 1 := by decide +kernel
set_option maxHeartbeats 4000000 in
set_option maxRecDepth 100000 in
theorem kX6_isSheet (l : Launch) (D : va_G) (cs : Nat → ClassId) (ad : Nat → Nat) (N kt : Nat) (hN : 58 ≤ N) (σ : vSg) (τ : vTa) (k : Int32)    : CtI l yX6_isSheet wsX6_isSheet ({ frames := 1, cells := 0, slots := 0, locals := 21 }) D cs ad N (shP kt) [.int k] σ τ 0 0 (fun r9 σ9 τ9 => b2i (isB k 4) = r9 ∧ σ = σ9 ∧ τ = τ9) := by
  refine ct_I (cc := cX6_isSheet) (maxL := 1) (by decide) rfl (Nat.le_of_ble_eq_true rfl) rfl rfl ?_
  intro p e s m args below meth c A X hr hlk
  refine go_iload_n X dX6_isSheet_0 0 rfl rfl ?_
  refine go_iconst X (v := 4) dX6_isSheet_1 (by decide) ?_
  refine go_callSI X (As := [.int k, .int 4]) (rest := []) (kX6_isBelow l D cs ad N kt (by omega) σ τ k 4) gX6_isSheet_X6_isBelow rfl hdX6_isBelow ⟨rfl, rfl, by decide, by decide, by decide, by decide⟩ rfl rfl (Nat.le_of_ble_eq_true rfl) dX6_isSheet_2 (fun r9 σ9 τ9 h9 => ?_)
  obtain ⟨rfl, rfl, rfl⟩ := h9
  exact go_zreturn X hr hlk dX6_isSheet_5 (b2i_z _) (⟨rfl, rfl, rfl⟩)

theorem hdX6_failed : yX6_failed.cls = RX6 ∧ yX6_failed.cls ≠ "java/lang/invoke/MethodHandle" ∧ yX6_failed.cls ≠ "java/lang/invoke/VarHandle" ∧ (parseMethodDescriptor yX6_failed.desc).map (fun d => d.parameters.length) = some 1 := by decide +kernel
set_option maxHeartbeats 4000000 in
set_option maxRecDepth 100000 in
theorem kX6_failed (l : Launch) (D : va_G) (cs : Nat → ClassId) (ad : Nat → Nat) (N kt : Nat) (hN : 58 ≤ N) (σ : vSg) (τ : vTa) (f : Int32)    : CtI l yX6_failed wsX6_failed ({ frames := 0, cells := 0, slots := 0, locals := 0 }) D cs ad N (shP kt) [.ref (ad (0)), .int f] σ τ 0 0 (fun r9 σ9 τ9 => (-10) - f = r9 ∧ (up2 σ 0 7 f) = σ9 ∧ τ = τ9) := by
  refine ct_I (cc := cX6_failed) (maxL := 2) (by decide) rfl (Nat.le_of_ble_eq_true rfl) rfl rfl ?_
  intro p e s m args below meth c A X hr hlk
  refine go_aload_n X dX6_failed_0 0 rfl rfl ?_
  refine go_iload_n X dX6_failed_1 1 rfl rfl ?_
  refine go_puti X (n := 0) (j := 7) (ty := .int) (by omega) rfl rfl (fun _ h9 => List.mem_cons_of_mem _ (List.mem_append_right _ h9)) (by decide) (List.mem_cons_of_mem _ (List.mem_append_left _ (List.mem_of_getElem? (i := 0) rfl))) rfl tyX6 tyX6_ok nmX6 rfl (by decide +kernel) rfl rfl dX6_failed_2 ?_
  refine go_bipush X (v := (-10)) dX6_failed_5 (by decide) ?_
  refine go_iload_n X dX6_failed_7 1 rfl rfl ?_
  refine go_isub X dX6_failed_8 ?_
  exact go_ireturn X hr hlk dX6_failed_9 (⟨rfl, rfl, rfl⟩)

theorem hdX6_leave : yX6_leave.cls = RX6 ∧ yX6_leave.cls ≠ "java/lang/invoke/MethodHandle" ∧ yX6_leave.cls ≠ "java/lang/invoke/VarHandle" ∧ (parseMethodDescriptor yX6_leave.desc).map (fun d => d.parameters.length) = some 1 := by decide +kernel
set_option maxHeartbeats 4000000 in
set_option maxRecDepth 100000 in
theorem kX6_leave (l : Launch) (D : va_G) (cs : Nat → ClassId) (ad : Nat → Nat) (N kt : Nat) (hN : 58 ≤ N) (σ : vSg) (τ : vTa) (b : Int32) (tr : Int32) (h_tr : σ 0 6 = tr)   : CtV l yX6_leave wsX6_leave ({ frames := 0, cells := 0, slots := 0, locals := 0 }) D cs ad N (shP kt) [.ref (ad (0)), .int b] σ τ 0 0 (fun σ9 τ9 => (up2 σ 0 6 (31 * tr + b)) = σ9 ∧ τ = τ9) := by
  refine ct_V (cc := cX6_leave) (maxL := 2) (by decide) rfl (Nat.le_of_ble_eq_true rfl) rfl rfl ?_
  intro p e s m args below meth c A X hr hlk
  refine go_aload_n X dX6_leave_0 0 rfl rfl ?_
  refine go_bipush X (v := 31) dX6_leave_1 (by decide) ?_
  refine go_aload_n X dX6_leave_3 0 rfl rfl ?_
  refine go_geti X (n := 0) (j := 6) (by omega) rfl rfl (fun _ h9 => List.mem_cons_of_mem _ (List.mem_append_right _ h9)) (by decide) (List.mem_cons_of_mem _ (List.mem_append_left _ (List.mem_of_getElem? (i := 0) rfl))) rfl dX6_leave_4 ?_
  refine go_topi (v := tr) (h_tr) ?_
  refine go_imul X dX6_leave_7 ?_
  refine go_iload_n X dX6_leave_8 1 rfl rfl ?_
  refine go_iadd X dX6_leave_9 ?_
  refine go_puti X (n := 0) (j := 6) (ty := .int) (by omega) rfl rfl (fun _ h9 => List.mem_cons_of_mem _ (List.mem_append_right _ h9)) (by decide) (List.mem_cons_of_mem _ (List.mem_append_left _ (List.mem_of_getElem? (i := 0) rfl))) rfl tyX6 tyX6_ok nmX6 rfl (by decide +kernel) rfl rfl dX6_leave_10 ?_
  exact go_return X hr hlk dX6_leave_13 (⟨rfl, rfl⟩)

theorem hdX2_hasDeed : yX2_hasDeed.cls = RX2 ∧ yX2_hasDeed.cls ≠ "java/lang/invoke/MethodHandle" ∧ yX2_hasDeed.cls ≠ "java/lang/invoke/VarHandle" ∧ (parseMethodDescriptor yX2_hasDeed.desc).map (fun d => d.parameters.length) = some 1 := by decide +kernel
set_option maxHeartbeats 4000000 in
set_option maxRecDepth 100000 in
theorem kX2_hasDeed (l : Launch) (D : va_G) (cs : Nat → ClassId) (ad : Nat → Nat) (N kt : Nat) (hN : 58 ≤ N) (σ : vSg) (τ : vTa) (d : Int32) (nd : Int32) (h_nd : σ 2 3 = nd)   : CtI l yX2_hasDeed wsX2_hasDeed ({ frames := 1, cells := 0, slots := 0, locals := 21 }) D cs ad N (shP kt) [.ref (ad (2)), .int d] σ τ 0 0 (fun r9 σ9 τ9 => b2i (isB d nd) = r9 ∧ σ = σ9 ∧ τ = τ9) := by
  refine ct_I (cc := cX2_hasDeed) (maxL := 2) (by decide) rfl (Nat.le_of_ble_eq_true rfl) rfl rfl ?_
  intro p e s m args below meth c A X hr hlk
  refine go_iload_n X dX2_hasDeed_0 1 rfl rfl ?_
  refine go_aload_n X dX2_hasDeed_1 0 rfl rfl ?_
  refine go_geti X (n := 2) (j := 3) (by omega) rfl rfl (fun _ h9 => List.mem_cons_of_mem _ (List.mem_append_right _ h9)) (by decide) (List.mem_cons_of_mem _ (List.mem_append_left _ (List.mem_of_getElem? (i := 0) rfl))) rfl dX2_hasDeed_2 ?_
  refine go_topi (v := nd) (h_nd) ?_
  refine go_callNI X (As := [.int d, .int nd]) (rest := []) (kX6_isBelow l D cs ad N kt (by omega) σ τ d nd) gX2_hasDeed_X6_isBelow_n48 rfl X.2.2.2.2.1 (List.mem_cons_of_mem _ (List.mem_append_left _ (List.mem_of_getElem? (i := 2) rfl))) (List.mem_cons_of_mem _ (List.mem_append_left _ (List.mem_of_getElem? (i := 1) rfl))) hdX6_isBelow ⟨rfl, rfl, by decide, by decide, by decide, by decide⟩ rfl rfl (Nat.le_of_ble_eq_true rfl) dX2_hasDeed_5 (fun r9 σ9 τ9 h9 => ?_)
  obtain ⟨rfl, rfl, rfl⟩ := h9
  exact go_zreturn X hr hlk dX2_hasDeed_8 (b2i_z _) (⟨rfl, rfl, rfl⟩)

theorem hdX2_hasSubject : yX2_hasSubject.cls = RX2 ∧ yX2_hasSubject.cls ≠ "java/lang/invoke/MethodHandle" ∧ yX2_hasSubject.cls ≠ "java/lang/invoke/VarHandle" ∧ (parseMethodDescriptor yX2_hasSubject.desc).map (fun d => d.parameters.length) = some 1 := by decide +kernel
set_option maxHeartbeats 4000000 in
set_option maxRecDepth 100000 in
theorem kX2_hasSubject (l : Launch) (D : va_G) (cs : Nat → ClassId) (ad : Nat → Nat) (N kt : Nat) (hN : 58 ≤ N) (σ : vSg) (τ : vTa) (a : Int32) (ns : Int32) (h_ns : σ 2 4 = ns)   : CtI l yX2_hasSubject wsX2_hasSubject ({ frames := 1, cells := 0, slots := 0, locals := 21 }) D cs ad N (shP kt) [.ref (ad (2)), .int a] σ τ 0 0 (fun r9 σ9 τ9 => b2i (isB a ns) = r9 ∧ σ = σ9 ∧ τ = τ9) := by
  refine ct_I (cc := cX2_hasSubject) (maxL := 2) (by decide) rfl (Nat.le_of_ble_eq_true rfl) rfl rfl ?_
  intro p e s m args below meth c A X hr hlk
  refine go_iload_n X dX2_hasSubject_0 1 rfl rfl ?_
  refine go_aload_n X dX2_hasSubject_1 0 rfl rfl ?_
  refine go_geti X (n := 2) (j := 4) (by omega) rfl rfl (fun _ h9 => List.mem_cons_of_mem _ (List.mem_append_right _ h9)) (by decide) (List.mem_cons_of_mem _ (List.mem_append_left _ (List.mem_of_getElem? (i := 0) rfl))) rfl dX2_hasSubject_2 ?_
  refine go_topi (v := ns) (h_ns) ?_
  refine go_callNI X (As := [.int a, .int ns]) (rest := []) (kX6_isBelow l D cs ad N kt (by omega) σ τ a ns) gX2_hasSubject_X6_isBelow_n48 rfl X.2.2.2.2.1 (List.mem_cons_of_mem _ (List.mem_append_left _ (List.mem_of_getElem? (i := 2) rfl))) (List.mem_cons_of_mem _ (List.mem_append_left _ (List.mem_of_getElem? (i := 1) rfl))) hdX6_isBelow ⟨rfl, rfl, by decide, by decide, by decide, by decide⟩ rfl rfl (Nat.le_of_ble_eq_true rfl) dX2_hasSubject_5 (fun r9 σ9 τ9 h9 => ?_)
  obtain ⟨rfl, rfl, rfl⟩ := h9
  exact go_zreturn X hr hlk dX2_hasSubject_8 (b2i_z _) (⟨rfl, rfl, rfl⟩)

theorem hdX2_isThere : yX2_isThere.cls = RX2 ∧ yX2_isThere.cls ≠ "java/lang/invoke/MethodHandle" ∧ yX2_isThere.cls ≠ "java/lang/invoke/VarHandle" ∧ (parseMethodDescriptor yX2_isThere.desc).map (fun d => d.parameters.length) = some 0 := by decide +kernel
set_option maxHeartbeats 4000000 in
set_option maxRecDepth 100000 in
theorem kX2_isThere (l : Launch) (D : va_G) (cs : Nat → ClassId) (ad : Nat → Nat) (N kt : Nat) (hN : 58 ≤ N) (σ : vSg) (τ : vTa)  (ns : Int32) (h_ns : σ 2 4 = ns)   : CtI l yX2_isThere wsX2_isThere ({ frames := 0, cells := 0, slots := 0, locals := 0 }) D cs ad N (shP kt) [.ref (ad (2))] σ τ 0 0 (fun r9 σ9 τ9 => b2i (0 < ns) = r9 ∧ σ = σ9 ∧ τ = τ9) := by
  refine ct_I (cc := cX2_isThere) (maxL := 1) (by decide) rfl (Nat.le_of_ble_eq_true rfl) rfl rfl ?_
  intro p e s m args below meth c A X hr hlk
  refine go_aload_n X dX2_isThere_0 0 rfl rfl ?_
  refine go_geti X (n := 2) (j := 4) (by omega) rfl rfl (fun _ h9 => List.mem_cons_of_mem _ (List.mem_append_right _ h9)) (by decide) (List.mem_cons_of_mem _ (List.mem_append_left _ (List.mem_of_getElem? (i := 0) rfl))) rfl dX2_isThere_1 ?_
  refine go_topi (v := ns) (h_ns) ?_
  refine go_if_le X (tgt := 11) dX2_isThere_4 (by decide) (fun c4 => ?_) (fun c4 => ?_)
  · skip
    refine go_iconst X (v := 0) dX2_isThere_11 (by decide) ?_
    exact go_zreturn X hr hlk dX2_isThere_12 (by first | exact Or.inl rfl | exact Or.inr rfl) (⟨(b2i_f (Int32.not_lt.mpr c4)), rfl, rfl⟩)
  · skip
    refine go_iconst X (v := 1) dX2_isThere_7 (by decide) ?_
    refine go_goto X (tgt := 12) dX2_isThere_8 (by decide) ?_
    exact go_zreturn X hr hlk dX2_isThere_12 (by first | exact Or.inl rfl | exact Or.inr rfl) (⟨(b2i_t (Int32.not_le.mp c4)), rfl, rfl⟩)

