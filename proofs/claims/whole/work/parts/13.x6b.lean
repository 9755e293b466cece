noncomputable def asS (ns : Int32) (kd : Nat → Int32) (a kind : Int32) : Int32 × Int32 := cif (isB a ns) (cif (isB kind 3) (cif (kd (toN a) < kind) (-12, 2) (1, 0)) (-2, 0)) (-1, 0)
noncomputable def nameS (ns : Int32) (kd : Nat → Int32) (tr a : Int32) : Int32 × Int32 := cif (isB a ns) (cif (kd (toN a) = 2) (70, 31 * tr + 5) (a, 31 * tr + 4)) (-1, tr)
noncomputable def tellS (ns : Int32) (kd pa : Nat → Int32) (tr a : Int32) : Int32 × Int32 := cif (isB a ns) (cif (kd (toN a) = 1) (pa (toN a) + 100, 31 * (31 * tr + 2) + 1) (cif (kd (toN a) = 2) (pa (toN a) + 100 + pa (toN a), 31 * (31 * (31 * (31 * tr + 3) + 2) + 1) + 1) (pa (toN a), 31 * tr + 1))) (-1, tr)
noncomputable def manyS (ns nd al nr what : Int32) : Int32 := cif (what = 0) ns (cif (what = 1) nd (cif (what = 2) al (cif (what = 3) nr (-2))))
noncomputable def readS (ns nd : Int32) (nr : Nat) (a d : Int32) : Int32 := cif (isB a ns) (cif (isB d nd) (cif (nr < 8) (nI nr) (-4)) (-1)) (-1)
noncomputable def backS (nr k : Int32) : Int32 := cif (k < 0) (-2) (cif (k ≤ nr) (nr - k) (-2))
noncomputable def fitS (b : Int32) (f : Nat → Int32) (x : Int32) : Int32 := cif (isB x b) (f (toN x)) (-1)
noncomputable def sheetS (k lane n : Int32) : Int32 × Int32 := cif (isB k 4) (cif (isB lane 3) (cif (n ≤ 60) (cif (0 ≤ n) (1, 0) (-14, 4)) (-2, 0)) (-2, 0)) (-1, 0)
noncomputable def loseS (th : Nat → Int32) (k : Int32) : Int32 := cif (isB k 4) (cif (th (toN k) = 0) 0 1) (-1)
noncomputable def putS (th le : Nat → Int32) (k i : Int32) : Int32 × Int32 := cif (isB k 4) (cif (th (toN k) = 0) (-11, 1) (cif (isB i (le (toN k))) (1, 0) (-13, 3))) (-1, 0)
abbrev LOST9 : Int64 := -9223372036854775808
noncomputable def cellS (th la le : Nat → Int32) (ce : Nat → Nat → Int32) (k i lane : Int32) : Int64 × Int32 := cif (isB k 4) (cif (isB lane 3) (cif (fAsS (th (toN k)) (la (toN k)) lane = 0) (cif (isB i (le (toN k))) ((ce (toN k) (toN i)).toInt64, 0) (LOST9, 3)) (LOST9, fAsS (th (toN k)) (la (toN k)) lane)) (LOST9, 0)) (LOST9, 0)
noncomputable def copyS (th la le : Nat → Int32) (k i o j n : Int32) : Int32 × Int32 := cif (isB k 4) (cif (isB o 4) (cif (th (toN k) = 0) (-11, 1) (cif (th (toN o) = 0) (-11, 1) (cif (la (toN k) = la (toN o)) (cif (spanS (le (toN k)) i n) (cif (spanS (le (toN o)) j n) (n, 0) (-13, 3)) (-13, 3)) (-12, 2)))) (-1, 0)) (-1, 0)
theorem IX_R {σ : vSg} {nd ns nr : Nat} (h : IX σ nd ns nr) : ∀ r, r < nr → σ 10 r = nI (toN (σ 10 r)) ∧ toN (σ 10 r) < 4 ∧ σ 11 r = nI (toN (σ 11 r)) ∧ toN (σ 11 r) < 5 := by
  obtain ⟨⟨-, hnd5⟩, ⟨-, hns4⟩, -, -, -, hrd, -, -⟩ := h
  intro r hr
  obtain ⟨h1, h2, -⟩ := hrd r hr
  have a1 := isB_toN h1 (by omega)
  have a2 := isB_toN h2 (by omega)
  exact ⟨a1.2, by omega, a2.2, by omega⟩
theorem hdX2_allPapers : yX2_allPapers.cls = RX2 ∧ yX2_allPapers.cls ≠ "java/lang/invoke/MethodHandle" ∧ yX2_allPapers.cls ≠ "java/lang/invoke/VarHandle" ∧ (parseMethodDescriptor yX2_allPapers.desc).map (fun d => d.parameters.length) = some 0 := by decide +kernel
set_option maxHeartbeats 4000000 in
set_option maxRecDepth 100000 in
theorem kX2_allPapers (l : Launch) (D : va_G) (cs : Nat → ClassId) (ad : Nat → Nat) (N kt : Nat) (hN : 58 ≤ N) (σ : vSg) (τ : vTa) (ns : Nat)   (hns : σ 2 4 = nI ns) (hle : ns ≤ 4) : CtI l yX2_allPapers wsX2_allPapers ({ frames := 0, cells := 0, slots := 0, locals := 0 }) D cs ad N (shP kt) [.ref (ad (2))] σ τ 0 0 (fun r9 σ9 τ9 => sumS (σ 9) ns = r9 ∧ σ = σ9 ∧ τ = τ9) := by
  refine ct_I (cc := cX2_allPapers) (maxL := 3) (by decide) rfl (Nat.le_of_ble_eq_true rfl) rfl rfl ?_
  intro p e s m args below meth c A X hr hlk
  refine go_iconst X (v := 0) dX2_allPapers_0 (by decide) ?_
  refine go_istore_n X (lv2 := [(1, .int 0), (0, .ref (ad (2)))]) dX2_allPapers_1 rfl (by decide) rfl ?_
  refine go_iconst X (v := 0) dX2_allPapers_2 (by decide) ?_
  refine go_istore_n X (lv2 := [(2, .int 0), (1, .int 0), (0, .ref (ad (2)))]) dX2_allPapers_3 rfl (by decide) rfl ?_
  refine go_loop (ι := Nat) (fun i9 => (i9 ≤ ns)) (fun i9 => ns - i9) (fun i9 => σ) (fun i9 => τ) (fun i9 => [(2, .int (nI i9)), (1, .int (sumS (σ 9) i9)), (0, .ref (ad (2)))]) (fun i9 => []) 0 (by (try dsimp only); exact (Nat.zero_le _)) ?_
  intro i9 hi9 ih4
  obtain ⟨a, hv9⟩ : ∃ z, z = i9 := ⟨_, rfl⟩; subst hv9
  (try dsimp only at hi9); (try dsimp only at ih4); (try dsimp only)
  have ha := hi9
  refine go_iload_n X dX2_allPapers_4 0 rfl rfl ?_
  refine go_aload_n X dX2_allPapers_5 2 rfl rfl ?_
  refine go_geti X (n := 2) (j := 4) (by omega) rfl rfl (fun _ h9 => List.mem_cons_of_mem _ (List.mem_append_right _ h9)) (by decide) (List.mem_cons_of_mem _ (List.mem_append_left _ (List.mem_of_getElem? (i := 0) rfl))) rfl dX2_allPapers_6 ?_
  refine go_topi (v := nI ns) (hns) ?_
  refine go_icmpn_ge X (tgt := 27) dX2_allPapers_9 (by decide) (a := a) (b := ns) rfl rfl (by omega) (by omega) (fun c9 => ?_) (fun c9 => ?_)
  · skip
    refine go_iload_n X dX2_allPapers_27 1 rfl rfl ?_
    exact go_ireturn X hr hlk dX2_allPapers_28 (⟨by rw [show a = ns by omega], rfl, rfl⟩)
  · skip
    refine go_iload_n X dX2_allPapers_12 1 rfl rfl ?_
    refine go_aload_n X dX2_allPapers_13 2 rfl rfl ?_
    refine go_getr X (n := 2) (j := 2) (by omega) rfl rfl (fun _ h9 => List.mem_cons_of_mem _ (List.mem_append_right _ h9)) (by decide) (List.mem_cons_of_mem _ (List.mem_append_left _ (List.mem_of_getElem? (i := 1) rfl))) rfl dX2_allPapers_14 ?_
    refine go_iload_n X dX2_allPapers_17 0 rfl rfl ?_
    refine go_iald X (n := 9) (k := a) (by omega) rfl rfl (by omega) (by omega) dX2_allPapers_18 ?_
    refine go_iadd X dX2_allPapers_19 ?_
    refine go_topi (v := sumS (σ 9) (a + 1)) rfl ?_
    refine go_istore_n X (lv2 := [(1, .int (sumS (σ 9) (a + 1))), (2, .int (nI a)), (0, .ref (ad (2)))]) dX2_allPapers_20 rfl (by decide) rfl ?_
    refine go_iinc X (v := nI (a + 1)) (lv2 := [(2, .int (nI (a + 1))), (1, .int (sumS (σ 9) (a + 1))), (0, .ref (ad (2)))]) dX2_allPapers_21 (k := 1) rfl (nI_add a 1) (by decide) rfl ?_
    refine go_goto X (tgt := 4) dX2_allPapers_24 (by decide) ?_
    exact ih4 (a + 1) (by (try dsimp only); exact (by omega)) (by (try dsimp only); omega)

theorem hdX6_tellSubject : yX6_tellSubject.cls = RX6 ∧ yX6_tellSubject.cls ≠ "java/lang/invoke/MethodHandle" ∧ yX6_tellSubject.cls ≠ "java/lang/invoke/VarHandle" ∧ (parseMethodDescriptor yX6_tellSubject.desc).map (fun d => d.parameters.length) = some 1 := by decide +kernel
set_option maxHeartbeats 4000000 in
set_option maxRecDepth 100000 in
theorem kX6_tellSubject (l : Launch) (D : va_G) (cs : Nat → ClassId) (ad : Nat → Nat) (N kt : Nat) (hN : 58 ≤ N) (σ : vSg) (τ : vTa) (i : Nat) (pa : Int32) (h_pa : σ 9 i = pa) (tr : Int32) (h_tr : σ 0 6 = tr)  (hi : i < 4) : CtI l yX6_tellSubject wsX6_tellSubject ({ frames := 1, cells := 0, slots := 0, locals := 21 }) D cs ad N (shP kt) [.ref (ad (0)), .int (nI i)] σ τ 0 0 (fun r9 σ9 τ9 => pa = r9 ∧ (up2 σ 0 6 (31 * tr + 1)) = σ9 ∧ τ = τ9) := by
  refine ct_I (cc := cX6_tellSubject) (maxL := 2) (by decide) rfl (Nat.le_of_ble_eq_true rfl) rfl rfl ?_
  intro p e s m args below meth c A X hr hlk
  refine go_aload_n X dX6_tellSubject_0 0 rfl rfl ?_
  refine go_iconst X (v := 1) dX6_tellSubject_1 (by decide) ?_
  refine go_callVV X (n := 0) (As := [.int 1]) (rest := []) (kX6_leave l D cs ad N kt (by omega) σ τ 1 tr (h_tr)) gX6_tellSubject_X6_leave rfl hdX6_leave ⟨rfl, rfl, by decide, by decide, by decide, by decide⟩ (by omega) rfl rfl rfl rfl (Nat.le_of_ble_eq_true rfl) dX6_tellSubject_2 (fun σ9 τ9 h9 => ?_)
  obtain ⟨rfl, rfl⟩ := h9
  refine go_aload_n X dX6_tellSubject_5 0 rfl rfl ?_
  refine go_getr X (n := 0) (j := 1) (by omega) rfl rfl (fun _ h9 => List.mem_cons_of_mem _ (List.mem_append_left _ (List.mem_append_right _ h9))) (by decide) (List.mem_cons_of_mem _ (List.mem_append_left _ (List.mem_append_left _ (List.mem_of_getElem? (i := 0) rfl)))) rfl dX6_tellSubject_6 ?_
  refine go_getr X (n := 2) (j := 2) (by omega) rfl rfl (fun _ h9 => List.mem_cons_of_mem _ (List.mem_append_right _ h9)) (by decide) (List.mem_cons_of_mem _ (List.mem_append_left _ (List.mem_append_left _ (List.mem_of_getElem? (i := 1) rfl)))) rfl dX6_tellSubject_9 ?_
  refine go_iload_n X dX6_tellSubject_12 1 rfl rfl ?_
  refine go_iald X (n := 9) (k := i) (by omega) rfl rfl (by omega) (by omega) dX6_tellSubject_13 ?_
  refine go_topi (v := pa) ((up2_ne (by omega)).trans h_pa) ?_
  exact go_ireturn X hr hlk dX6_tellSubject_14 (⟨rfl, rfl, rfl⟩)

theorem hdX6_tellMeek : yX6_tellMeek.cls = RX6 ∧ yX6_tellMeek.cls ≠ "java/lang/invoke/MethodHandle" ∧ yX6_tellMeek.cls ≠ "java/lang/invoke/VarHandle" ∧ (parseMethodDescriptor yX6_tellMeek.desc).map (fun d => d.parameters.length) = some 1 := by decide +kernel
set_option maxHeartbeats 4000000 in
set_option maxRecDepth 100000 in
theorem kX6_tellMeek (l : Launch) (D : va_G) (cs : Nat → ClassId) (ad : Nat → Nat) (N kt : Nat) (hN : 58 ≤ N) (σ : vSg) (τ : vTa) (i : Nat) (pa : Int32) (h_pa : σ 9 i = pa) (tr : Int32) (h_tr : σ 0 6 = tr)  (hi : i < 4) : CtI l yX6_tellMeek wsX6_tellMeek ({ frames := 2, cells := 0, slots := 0, locals := 42 }) D cs ad N (shP kt) [.ref (ad (0)), .int (nI i)] σ τ 0 0 (fun r9 σ9 τ9 => pa + 100 = r9 ∧ (up2 σ 0 6 (31 * (31 * tr + 2) + 1)) = σ9 ∧ τ = τ9) := by
  refine ct_I (cc := cX6_tellMeek) (maxL := 2) (by decide) rfl (Nat.le_of_ble_eq_true rfl) rfl rfl ?_
  intro p e s m args below meth c A X hr hlk
  refine go_aload_n X dX6_tellMeek_0 0 rfl rfl ?_
  refine go_iconst X (v := 2) dX6_tellMeek_1 (by decide) ?_
  refine go_callVV X (n := 0) (As := [.int 2]) (rest := []) (kX6_leave l D cs ad N kt (by omega) σ τ 2 tr (h_tr)) gX6_tellMeek_X6_leave rfl hdX6_leave ⟨rfl, rfl, by decide, by decide, by decide, by decide⟩ (by omega) rfl rfl rfl rfl (Nat.le_of_ble_eq_true rfl) dX6_tellMeek_2 (fun σ9 τ9 h9 => ?_)
  obtain ⟨rfl, rfl⟩ := h9
  refine go_aload_n X dX6_tellMeek_5 0 rfl rfl ?_
  refine go_iload_n X dX6_tellMeek_6 1 rfl rfl ?_
  refine go_callVI X (n := 0) (As := [.int (nI i)]) (rest := []) (kX6_tellSubject l D cs ad N kt (by omega) (up2 σ 0 6 (31 * tr + 2)) τ i pa ((up2_ne (by omega)).trans h_pa) (31 * tr + 2) (up2_self) (by omega)) gX6_tellMeek_X6_tellSubject rfl hdX6_tellSubject ⟨rfl, rfl, by decide, by decide, by decide, by decide⟩ (by omega) rfl rfl rfl rfl (Nat.le_of_ble_eq_true rfl) dX6_tellMeek_7 (fun r9 σ9 τ9 h9 => ?_)
  obtain ⟨rfl, rfl, rfl⟩ := h9
  refine go_bipush X (v := 100) dX6_tellMeek_10 (by decide) ?_
  refine go_iadd X dX6_tellMeek_12 ?_
  exact go_ireturn X hr hlk dX6_tellMeek_13 (⟨rfl, up2_up2.symm, rfl⟩)

theorem hdX6_tellHoly : yX6_tellHoly.cls = RX6 ∧ yX6_tellHoly.cls ≠ "java/lang/invoke/MethodHandle" ∧ yX6_tellHoly.cls ≠ "java/lang/invoke/VarHandle" ∧ (parseMethodDescriptor yX6_tellHoly.desc).map (fun d => d.parameters.length) = some 1 := by decide +kernel
set_option maxHeartbeats 4000000 in
set_option maxRecDepth 100000 in
theorem kX6_tellHoly (l : Launch) (D : va_G) (cs : Nat → ClassId) (ad : Nat → Nat) (N kt : Nat) (hN : 58 ≤ N) (σ : vSg) (τ : vTa) (i : Nat) (pa : Int32) (h_pa : σ 9 i = pa) (tr : Int32) (h_tr : σ 0 6 = tr)  (hi : i < 4) : CtI l yX6_tellHoly wsX6_tellHoly ({ frames := 3, cells := 0, slots := 0, locals := 63 }) D cs ad N (shP kt) [.ref (ad (0)), .int (nI i)] σ τ 0 0 (fun r9 σ9 τ9 => pa + 100 + pa = r9 ∧ (up2 σ 0 6 (31 * (31 * (31 * (31 * tr + 3) + 2) + 1) + 1)) = σ9 ∧ τ = τ9) := by
  refine ct_I (cc := cX6_tellHoly) (maxL := 3) (by decide) rfl (Nat.le_of_ble_eq_true rfl) rfl rfl ?_
  intro p e s m args below meth c A X hr hlk
  refine go_aload_n X dX6_tellHoly_0 0 rfl rfl ?_
  refine go_iconst X (v := 3) dX6_tellHoly_1 (by decide) ?_
  refine go_callVV X (n := 0) (As := [.int 3]) (rest := []) (kX6_leave l D cs ad N kt (by omega) σ τ 3 tr (h_tr)) gX6_tellHoly_X6_leave rfl hdX6_leave ⟨rfl, rfl, by decide, by decide, by decide, by decide⟩ (by omega) rfl rfl rfl rfl (Nat.le_of_ble_eq_true rfl) dX6_tellHoly_2 (fun σ9 τ9 h9 => ?_)
  obtain ⟨rfl, rfl⟩ := h9
  refine go_aload_n X dX6_tellHoly_5 0 rfl rfl ?_
  refine go_iload_n X dX6_tellHoly_6 1 rfl rfl ?_
  refine go_callVI X (n := 0) (As := [.int (nI i)]) (rest := []) (kX6_tellMeek l D cs ad N kt (by omega) (up2 σ 0 6 (31 * tr + 3)) τ i pa ((up2_ne (by omega)).trans h_pa) (31 * tr + 3) (up2_self) (by omega)) gX6_tellHoly_X6_tellMeek rfl hdX6_tellMeek ⟨rfl, rfl, by decide, by decide, by decide, by decide⟩ (by omega) rfl rfl rfl rfl (Nat.le_of_ble_eq_true rfl) dX6_tellHoly_7 (fun r9 σ9 τ9 h9 => ?_)
  obtain ⟨rfl, rfl, rfl⟩ := h9
  refine go_istore_n X (lv2 := [(2, .int (pa + 100)), (0, .ref (ad (0))), (1, .int (nI i))]) dX6_tellHoly_10 rfl (by decide) rfl ?_
  refine go_iload_n X dX6_tellHoly_11 0 rfl rfl ?_
  refine go_aload_n X dX6_tellHoly_12 1 rfl rfl ?_
  refine go_iload_n X dX6_tellHoly_13 2 rfl rfl ?_
  refine go_callVI X (n := 0) (As := [.int (nI i)]) (rest := [.int (pa + 100)]) (kX6_tellSubject l D cs ad N kt (by omega) (up2 (up2 σ 0 6 (31 * tr + 3)) 0 6 (31 * (31 * (31 * tr + 3) + 2) + 1)) τ i pa ((up2_ne (by omega)).trans ((up2_ne (by omega)).trans h_pa)) (31 * (31 * (31 * tr + 3) + 2) + 1) (up2_self) (by omega)) gX6_tellHoly_X6_tellSubject rfl hdX6_tellSubject ⟨rfl, rfl, by decide, by decide, by decide, by decide⟩ (by omega) rfl rfl rfl rfl (Nat.le_of_ble_eq_true rfl) dX6_tellHoly_14 (fun r9 σ9 τ9 h9 => ?_)
  obtain ⟨rfl, rfl, rfl⟩ := h9
  refine go_iadd X dX6_tellHoly_17 ?_
  exact go_ireturn X hr hlk dX6_tellHoly_18 (⟨rfl, by rw [up2_up2, up2_up2], rfl⟩)

theorem hdX6_trace : yX6_trace.cls = RX6 ∧ yX6_trace.cls ≠ "java/lang/invoke/MethodHandle" ∧ yX6_trace.cls ≠ "java/lang/invoke/VarHandle" ∧ (parseMethodDescriptor yX6_trace.desc).map (fun d => d.parameters.length) = some 0 := by decide +kernel
set_option maxHeartbeats 4000000 in
set_option maxRecDepth 100000 in
theorem kX6_trace (l : Launch) (D : va_G) (cs : Nat → ClassId) (ad : Nat → Nat) (N kt : Nat) (hN : 58 ≤ N) (σ : vSg) (τ : vTa)  (tr : Int32) (h_tr : σ 0 6 = tr)   : CtI l yX6_trace wsX6_trace ({ frames := 0, cells := 0, slots := 0, locals := 0 }) D cs ad N (shP kt) [.ref (ad (0))] σ τ 0 0 (fun r9 σ9 τ9 => tr = r9 ∧ σ = σ9 ∧ τ = τ9) := by
  refine ct_I (cc := cX6_trace) (maxL := 1) (by decide) rfl (Nat.le_of_ble_eq_true rfl) rfl rfl ?_
  intro p e s m args below meth c A X hr hlk
  refine go_aload_n X dX6_trace_0 0 rfl rfl ?_
  refine go_geti X (n := 0) (j := 6) (by omega) rfl rfl (fun _ h9 => List.mem_cons_of_mem _ (List.mem_append_right _ h9)) (by decide) (List.mem_cons_of_mem _ (List.mem_append_left _ (List.mem_of_getElem? (i := 0) rfl))) rfl dX6_trace_1 ?_
  refine go_topi (v := tr) (h_tr) ?_
  exact go_ireturn X hr hlk dX6_trace_4 (⟨rfl, rfl, rfl⟩)

theorem hdX6_fault : yX6_fault.cls = RX6 ∧ yX6_fault.cls ≠ "java/lang/invoke/MethodHandle" ∧ yX6_fault.cls ≠ "java/lang/invoke/VarHandle" ∧ (parseMethodDescriptor yX6_fault.desc).map (fun d => d.parameters.length) = some 0 := by decide +kernel
set_option maxHeartbeats 4000000 in
set_option maxRecDepth 100000 in
theorem kX6_fault (l : Launch) (D : va_G) (cs : Nat → ClassId) (ad : Nat → Nat) (N kt : Nat) (hN : 58 ≤ N) (σ : vSg) (τ : vTa)  (fa : Int32) (h_fa : σ 0 7 = fa)   : CtI l yX6_fault wsX6_fault ({ frames := 0, cells := 0, slots := 0, locals := 0 }) D cs ad N (shP kt) [.ref (ad (0))] σ τ 0 0 (fun r9 σ9 τ9 => fa = r9 ∧ σ = σ9 ∧ τ = τ9) := by
  refine ct_I (cc := cX6_fault) (maxL := 1) (by decide) rfl (Nat.le_of_ble_eq_true rfl) rfl rfl ?_
  intro p e s m args below meth c A X hr hlk
  refine go_aload_n X dX6_fault_0 0 rfl rfl ?_
  refine go_geti X (n := 0) (j := 7) (by omega) rfl rfl (fun _ h9 => List.mem_cons_of_mem _ (List.mem_append_right _ h9)) (by decide) (List.mem_cons_of_mem _ (List.mem_append_left _ (List.mem_of_getElem? (i := 0) rfl))) rfl dX6_fault_1 ?_
  refine go_topi (v := fa) (h_fa) ?_
  exact go_ireturn X hr hlk dX6_fault_4 (⟨rfl, rfl, rfl⟩)

theorem hdX6_as : yX6_as.cls = RX6 ∧ yX6_as.cls ≠ "java/lang/invoke/MethodHandle" ∧ yX6_as.cls ≠ "java/lang/invoke/VarHandle" ∧ (parseMethodDescriptor yX6_as.desc).map (fun d => d.parameters.length) = some 2 := by decide +kernel
set_option maxHeartbeats 4000000 in
set_option maxRecDepth 100000 in
theorem kX6_as (l : Launch) (D : va_G) (cs : Nat → ClassId) (ad : Nat → Nat) (N kt : Nat) (hN : 58 ≤ N) (σ : vSg) (τ : vTa) (a : Int32) (kind : Int32) (nd : Nat) (ns : Nat) (nr : Nat)   (hI : IX σ nd ns nr) : CtI l yX6_as wsX6_as ({ frames := 2, cells := 0, slots := 0, locals := 42 }) D cs ad N (shP kt) [.ref (ad (0)), .int a, .int kind] σ τ 0 0 (fun r9 σ9 τ9 => (asS (nI ns) (σ 8) a kind).1 = r9 ∧ (up2 σ 0 7 ((asS (nI ns) (σ 8) a kind).2)) = σ9 ∧ τ = τ9) := by
  refine ct_I (cc := cX6_as) (maxL := 3) (by decide) rfl (Nat.le_of_ble_eq_true rfl) rfl rfl ?_
  intro p e s m args below meth c A X hr hlk
  obtain ⟨⟨hnd, hnd5⟩, ⟨hns, hns4⟩, hdd, hkp, ⟨hnr, hnr8⟩, hrd, hrw, hpos⟩ := id hI
  refine go_aload_n X dX6_as_0 0 rfl rfl ?_
  refine go_iconst X (v := 0) dX6_as_1 (by decide) ?_
  refine go_puti X (n := 0) (j := 7) (ty := .int) (by omega) rfl rfl (fun _ h9 => List.mem_cons_of_mem _ (List.mem_append_left _ (List.mem_append_right _ h9))) (by decide) (List.mem_cons_of_mem _ (List.mem_append_left _ (List.mem_append_left _ (List.mem_of_getElem? (i := 0) rfl)))) rfl tyX6 tyX6_ok nmX6 rfl (by decide +kernel) rfl rfl dX6_as_2 ?_
  refine go_aload_n X dX6_as_5 0 rfl rfl ?_
  refine go_getr X (n := 0) (j := 1) (by omega) rfl rfl (fun _ h9 => List.mem_cons_of_mem _ (List.mem_append_left _ (List.mem_append_right _ h9))) (by decide) (List.mem_cons_of_mem _ (List.mem_append_left _ (List.mem_append_left _ (List.mem_of_getElem? (i := 1) rfl)))) rfl dX6_as_6 ?_
  refine go_iload_n X dX6_as_9 1 rfl rfl ?_
  refine go_callVI X (n := 2) (As := [.int a]) (rest := []) (kX2_hasSubject l D cs ad N kt (by omega) (up2 σ 0 7 0) τ a (nI ns) ((up2_ne (by omega)).trans hns)) gX6_as_X2_hasSubject rfl hdX2_hasSubject ⟨rfl, rfl, by decide, by decide, by decide, by decide⟩ (by omega) rfl rfl rfl rfl (Nat.le_of_ble_eq_true rfl) dX6_as_10 (fun r9 σ9 τ9 h9 => ?_)
  obtain ⟨rfl, rfl, rfl⟩ := h9
  refine go_ifb_ne X (tgt := 18) dX6_as_13 (by decide) (fun c13 => ?_) (fun c13 => ?_)
  · skip
    obtain ⟨i, hi, rfl⟩ := isB_nat c13 (by omega)
    refine go_iload_n X dX6_as_18 2 rfl rfl ?_
    refine go_iconst X (v := 3) dX6_as_19 (by decide) ?_
    refine go_callSI X (As := [.int kind, .int 3]) (rest := []) (kX6_isBelow l D cs ad N kt (by omega) (up2 σ 0 7 0) τ kind 3) gX6_as_X6_isBelow rfl hdX6_isBelow ⟨rfl, rfl, by decide, by decide, by decide, by decide⟩ rfl rfl (Nat.le_of_ble_eq_true rfl) dX6_as_20 (fun r9 σ9 τ9 h9 => ?_)
    obtain ⟨rfl, rfl, rfl⟩ := h9
    refine go_ifb_ne X (tgt := 29) dX6_as_23 (by decide) (fun c23 => ?_) (fun c23 => ?_)
    · skip
      refine go_aload_n X dX6_as_29 0 rfl rfl ?_
      refine go_getr X (n := 0) (j := 1) (by omega) rfl rfl (fun _ h9 => List.mem_cons_of_mem _ (List.mem_append_left _ (List.mem_append_right _ h9))) (by decide) (List.mem_cons_of_mem _ (List.mem_append_left _ (List.mem_append_left _ (List.mem_of_getElem? (i := 1) rfl)))) rfl dX6_as_30 ?_
      refine go_getr X (n := 2) (j := 1) (by omega) rfl rfl (fun _ h9 => List.mem_cons_of_mem _ (List.mem_append_right _ h9)) (by decide) (List.mem_cons_of_mem _ (List.mem_append_left _ (List.mem_append_left _ (List.mem_of_getElem? (i := 2) rfl)))) rfl dX6_as_33 ?_
      refine go_iload_n X dX6_as_36 1 rfl rfl ?_
      refine go_iald X (n := 8) (k := i) (by omega) rfl rfl (by omega) (by omega) dX6_as_37 ?_
      refine go_topi (v := σ 8 i) ((up2_ne (by omega))) ?_
      refine go_iload_n X dX6_as_38 2 rfl rfl ?_
      refine go_icmp_lt X (tgt := 46) dX6_as_39 (by decide) (fun c39 => ?_) (fun c39 => ?_)
      · skip
        refine go_aload_n X dX6_as_46 0 rfl rfl ?_
        refine go_iconst X (v := 2) dX6_as_47 (by decide) ?_
        refine go_callVI X (n := 0) (As := [.int 2]) (rest := []) (kX6_failed l D cs ad N kt (by omega) (up2 σ 0 7 0) τ 2) gX6_as_X6_failed rfl hdX6_failed ⟨rfl, rfl, by decide, by decide, by decide, by decide⟩ (by omega) rfl rfl rfl rfl (Nat.le_of_ble_eq_true rfl) dX6_as_48 (fun r9 σ9 τ9 h9 => ?_)
        obtain ⟨rfl, rfl, rfl⟩ := h9
        exact go_ireturn X hr hlk dX6_as_51 ((have hE : asS (nI ns) (σ 8) (nI i) kind = ((-10) - 2, 2) := (by unfold asS; (try dsimp only); (try rw [toN_nI (k := i) (by omega)]); exact (cif_t c13).trans ((cif_t c23).trans ((cif_t c39).trans (rfl)))); ⟨by rw [hE], by rw [hE]; exact up2_up2.symm, rfl⟩))
      · skip
        refine go_iconst X (v := 1) dX6_as_42 (by decide) ?_
        refine go_goto X (tgt := 51) dX6_as_43 (by decide) ?_
        exact go_ireturn X hr hlk dX6_as_51 ((have hE : asS (nI ns) (σ 8) (nI i) kind = (1, 0) := (by unfold asS; (try dsimp only); (try rw [toN_nI (k := i) (by omega)]); exact (cif_t c13).trans ((cif_t c23).trans ((cif_f c39).trans (rfl)))); ⟨by rw [hE], by rw [hE], rfl⟩))
    · skip
      refine go_bipush X (v := (-2)) dX6_as_26 (by decide) ?_
      exact go_ireturn X hr hlk dX6_as_28 ((have hE : asS (nI ns) (σ 8) (nI i) kind = ((-2), 0) := (by unfold asS; (try dsimp only); (try rw [toN_nI (k := i) (by omega)]); exact (cif_t c13).trans ((cif_f c23).trans (rfl))); ⟨by rw [hE], by rw [hE], rfl⟩))
  · skip
    refine go_iconst X (v := (-1)) dX6_as_16 (by decide) ?_
    exact go_ireturn X hr hlk dX6_as_17 ((have hE : asS (nI ns) (σ 8) a kind = ((-1), 0) := (by unfold asS; (try dsimp only); exact (cif_f c13).trans (rfl)); ⟨by rw [hE], by rw [hE], rfl⟩))

theorem hdX6_name : yX6_name.cls = RX6 ∧ yX6_name.cls ≠ "java/lang/invoke/MethodHandle" ∧ yX6_name.cls ≠ "java/lang/invoke/VarHandle" ∧ (parseMethodDescriptor yX6_name.desc).map (fun d => d.parameters.length) = some 1 := by decide +kernel
set_option maxHeartbeats 4000000 in
set_option maxRecDepth 100000 in
theorem kX6_name (l : Launch) (D : va_G) (cs : Nat → ClassId) (ad : Nat → Nat) (N kt : Nat) (hN : 58 ≤ N) (σ : vSg) (τ : vTa) (a : Int32) (nd : Nat) (ns : Nat) (nr : Nat)   (hI : IX σ nd ns nr) : CtI l yX6_name wsX6_name ({ frames := 2, cells := 0, slots := 0, locals := 42 }) D cs ad N (shP kt) [.ref (ad (0)), .int a] σ τ 0 0 (fun r9 σ9 τ9 => (nameS (nI ns) (σ 8) (σ 0 6) a).1 = r9 ∧ (up2 σ 0 6 ((nameS (nI ns) (σ 8) (σ 0 6) a).2)) = σ9 ∧ τ = τ9) := by
  refine ct_I (cc := cX6_name) (maxL := 2) (by decide) rfl (Nat.le_of_ble_eq_true rfl) rfl rfl ?_
  intro p e s m args below meth c A X hr hlk
  obtain ⟨⟨hnd, hnd5⟩, ⟨hns, hns4⟩, hdd, hkp, ⟨hnr, hnr8⟩, hrd, hrw, hpos⟩ := id hI
  refine go_aload_n X dX6_name_0 0 rfl rfl ?_
  refine go_getr X (n := 0) (j := 1) (by omega) rfl rfl (fun _ h9 => List.mem_cons_of_mem _ (List.mem_append_left _ (List.mem_append_right _ h9))) (by decide) (List.mem_cons_of_mem _ (List.mem_append_left _ (List.mem_append_left _ (List.mem_of_getElem? (i := 0) rfl)))) rfl dX6_name_1 ?_
  refine go_iload_n X dX6_name_4 1 rfl rfl ?_
  refine go_callVI X (n := 2) (As := [.int a]) (rest := []) (kX2_hasSubject l D cs ad N kt (by omega) σ τ a (nI ns) (hns)) gX6_name_X2_hasSubject rfl hdX2_hasSubject ⟨rfl, rfl, by decide, by decide, by decide, by decide⟩ (by omega) rfl rfl rfl rfl (Nat.le_of_ble_eq_true rfl) dX6_name_5 (fun r9 σ9 τ9 h9 => ?_)
  obtain ⟨rfl, rfl, rfl⟩ := h9
  refine go_ifb_ne X (tgt := 13) dX6_name_8 (by decide) (fun c8 => ?_) (fun c8 => ?_)
  · skip
    obtain ⟨i, hi, rfl⟩ := isB_nat c8 (by omega)
    refine go_aload_n X dX6_name_13 0 rfl rfl ?_
    refine go_getr X (n := 0) (j := 1) (by omega) rfl rfl (fun _ h9 => List.mem_cons_of_mem _ (List.mem_append_left _ (List.mem_append_right _ h9))) (by decide) (List.mem_cons_of_mem _ (List.mem_append_left _ (List.mem_append_left _ (List.mem_of_getElem? (i := 0) rfl)))) rfl dX6_name_14 ?_
    refine go_getr X (n := 2) (j := 1) (by omega) rfl rfl (fun _ h9 => List.mem_cons_of_mem _ (List.mem_append_right _ h9)) (by decide) (List.mem_cons_of_mem _ (List.mem_append_left _ (List.mem_append_left _ (List.mem_of_getElem? (i := 1) rfl)))) rfl dX6_name_17 ?_
    refine go_iload_n X dX6_name_20 1 rfl rfl ?_
    refine go_iald X (n := 8) (k := i) (by omega) rfl rfl (by omega) (by omega) dX6_name_21 ?_
    refine go_iconst X (v := 2) dX6_name_22 (by decide) ?_
    refine go_icmp_ne X (tgt := 34) dX6_name_23 (by decide) (fun c23 => ?_) (fun c23 => ?_)
    · skip
      refine go_aload_n X dX6_name_34 0 rfl rfl ?_
      refine go_iconst X (v := 4) dX6_name_35 (by decide) ?_
      refine go_callVV X (n := 0) (As := [.int 4]) (rest := []) (kX6_leave l D cs ad N kt (by omega) σ τ 4 (σ 0 6) (rfl)) gX6_name_X6_leave rfl hdX6_leave ⟨rfl, rfl, by decide, by decide, by decide, by decide⟩ (by omega) rfl rfl rfl rfl (Nat.le_of_ble_eq_true rfl) dX6_name_36 (fun σ9 τ9 h9 => ?_)
      obtain ⟨rfl, rfl⟩ := h9
      refine go_iload_n X dX6_name_39 1 rfl rfl ?_
      exact go_ireturn X hr hlk dX6_name_40 ((have hE : nameS (nI ns) (σ 8) (σ 0 6) (nI i) = (nI i, 31 * (σ 0 6) + 4) := (by unfold nameS; (try dsimp only); (try rw [toN_nI (k := i) (by omega)]); exact (cif_t c8).trans ((cif_f c23).trans (rfl))); ⟨by rw [hE], by rw [hE], rfl⟩))
    · skip
      refine go_aload_n X dX6_name_26 0 rfl rfl ?_
      refine go_iconst X (v := 5) dX6_name_27 (by decide) ?_
      refine go_callVV X (n := 0) (As := [.int 5]) (rest := []) (kX6_leave l D cs ad N kt (by omega) σ τ 5 (σ 0 6) (rfl)) gX6_name_X6_leave rfl hdX6_leave ⟨rfl, rfl, by decide, by decide, by decide, by decide⟩ (by omega) rfl rfl rfl rfl (Nat.le_of_ble_eq_true rfl) dX6_name_28 (fun σ9 τ9 h9 => ?_)
      obtain ⟨rfl, rfl⟩ := h9
      refine go_bipush X (v := 70) dX6_name_31 (by decide) ?_
      exact go_ireturn X hr hlk dX6_name_33 ((have hE : nameS (nI ns) (σ 8) (σ 0 6) (nI i) = (70, 31 * (σ 0 6) + 5) := (by unfold nameS; (try dsimp only); (try rw [toN_nI (k := i) (by omega)]); exact (cif_t c8).trans ((cif_t c23).trans (rfl))); ⟨by rw [hE], by rw [hE], rfl⟩))
  · skip
    refine go_iconst X (v := (-1)) dX6_name_11 (by decide) ?_
    exact go_ireturn X hr hlk dX6_name_12 ((have hE : nameS (nI ns) (σ 8) (σ 0 6) a = ((-1), σ 0 6) := (by unfold nameS; (try dsimp only); exact (cif_f c8).trans (rfl)); ⟨by rw [hE], by rw [hE]; exact up2_id2 rfl, rfl⟩))

theorem hdX6_tell : yX6_tell.cls = RX6 ∧ yX6_tell.cls ≠ "java/lang/invoke/MethodHandle" ∧ yX6_tell.cls ≠ "java/lang/invoke/VarHandle" ∧ (parseMethodDescriptor yX6_tell.desc).map (fun d => d.parameters.length) = some 1 := by decide +kernel
set_option maxHeartbeats 4000000 in
set_option maxRecDepth 100000 in
theorem kX6_tell (l : Launch) (D : va_G) (cs : Nat → ClassId) (ad : Nat → Nat) (N kt : Nat) (hN : 58 ≤ N) (σ : vSg) (τ : vTa) (a : Int32) (nd : Nat) (ns : Nat) (nr : Nat)   (hI : IX σ nd ns nr) : CtI l yX6_tell wsX6_tell ({ frames := 4, cells := 0, slots := 0, locals := 85 }) D cs ad N (shP kt) [.ref (ad (0)), .int a] σ τ 0 0 (fun r9 σ9 τ9 => (tellS (nI ns) (σ 8) (σ 9) (σ 0 6) a).1 = r9 ∧ (up2 σ 0 6 ((tellS (nI ns) (σ 8) (σ 9) (σ 0 6) a).2)) = σ9 ∧ τ = τ9) := by
  refine ct_I (cc := cX6_tell) (maxL := 2) (by decide) rfl (Nat.le_of_ble_eq_true rfl) rfl rfl ?_
  intro p e s m args below meth c A X hr hlk
  obtain ⟨⟨hnd, hnd5⟩, ⟨hns, hns4⟩, hdd, hkp, ⟨hnr, hnr8⟩, hrd, hrw, hpos⟩ := id hI
  refine go_aload_n X dX6_tell_0 0 rfl rfl ?_
  refine go_getr X (n := 0) (j := 1) (by omega) rfl rfl (fun _ h9 => List.mem_cons_of_mem _ (List.mem_append_left _ (List.mem_append_right _ h9))) (by decide) (List.mem_cons_of_mem _ (List.mem_append_left _ (List.mem_append_left _ (List.mem_append_left _ (List.mem_of_getElem? (i := 0) rfl))))) rfl dX6_tell_1 ?_
  refine go_iload_n X dX6_tell_4 1 rfl rfl ?_
  refine go_callVI X (n := 2) (As := [.int a]) (rest := []) (kX2_hasSubject l D cs ad N kt (by omega) σ τ a (nI ns) (hns)) gX6_tell_X2_hasSubject rfl hdX2_hasSubject ⟨rfl, rfl, by decide, by decide, by decide, by decide⟩ (by omega) rfl rfl rfl rfl (Nat.le_of_ble_eq_true rfl) dX6_tell_5 (fun r9 σ9 τ9 h9 => ?_)
  obtain ⟨rfl, rfl, rfl⟩ := h9
  refine go_ifb_ne X (tgt := 13) dX6_tell_8 (by decide) (fun c8 => ?_) (fun c8 => ?_)
  · skip
    obtain ⟨i, hi, rfl⟩ := isB_nat c8 (by omega)
    refine go_aload_n X dX6_tell_13 0 rfl rfl ?_
    refine go_getr X (n := 0) (j := 1) (by omega) rfl rfl (fun _ h9 => List.mem_cons_of_mem _ (List.mem_append_left _ (List.mem_append_right _ h9))) (by decide) (List.mem_cons_of_mem _ (List.mem_append_left _ (List.mem_append_left _ (List.mem_append_left _ (List.mem_of_getElem? (i := 0) rfl))))) rfl dX6_tell_14 ?_
    refine go_getr X (n := 2) (j := 1) (by omega) rfl rfl (fun _ h9 => List.mem_cons_of_mem _ (List.mem_append_right _ h9)) (by decide) (List.mem_cons_of_mem _ (List.mem_append_left _ (List.mem_append_left _ (List.mem_append_left _ (List.mem_of_getElem? (i := 1) rfl))))) rfl dX6_tell_17 ?_
    refine go_iload_n X dX6_tell_20 1 rfl rfl ?_
    refine go_iald X (n := 8) (k := i) (by omega) rfl rfl (by omega) (by omega) dX6_tell_21 ?_
    rcases Classical.em (σ 8 i = 1) with e22_1 | n22_1
    · skip
      refine go_lookup X (tgt := 54) (off := 32) dX6_tell_22 (by decide) (by rw [e22_1]; decide) (by decide) ?_
      refine go_aload_n X dX6_tell_54 0 rfl rfl ?_
      refine go_iload_n X dX6_tell_55 1 rfl rfl ?_
      refine go_callVI X (n := 0) (As := [.int (nI i)]) (rest := []) (kX6_tellMeek l D cs ad N kt (by omega) σ τ i (σ 9 i) (rfl) (σ 0 6) (rfl) (by omega)) gX6_tell_X6_tellMeek rfl hdX6_tellMeek ⟨rfl, rfl, by decide, by decide, by decide, by decide⟩ (by omega) rfl rfl rfl rfl (Nat.le_of_ble_eq_true rfl) dX6_tell_56 (fun r9 σ9 τ9 h9 => ?_)
      obtain ⟨rfl, rfl, rfl⟩ := h9
      exact go_ireturn X hr hlk dX6_tell_59 ((have hE : tellS (nI ns) (σ 8) (σ 9) (σ 0 6) (nI i) = ((σ 9 i) + 100, 31 * (31 * (σ 0 6) + 2) + 1) := (by unfold tellS; (try dsimp only); (try rw [toN_nI (k := i) (by omega)]); exact (cif_t c8).trans ((cif_t e22_1).trans (rfl))); ⟨by rw [hE], by rw [hE], rfl⟩))
    · skip
      rcases Classical.em (σ 8 i = 2) with e22_2 | n22_2
      · skip
        refine go_lookup X (tgt := 48) (off := 26) dX6_tell_22 (by decide) (by rw [e22_2]; decide) (by decide) ?_
        refine go_aload_n X dX6_tell_48 0 rfl rfl ?_
        refine go_iload_n X dX6_tell_49 1 rfl rfl ?_
        refine go_callVI X (n := 0) (As := [.int (nI i)]) (rest := []) (kX6_tellHoly l D cs ad N kt (by omega) σ τ i (σ 9 i) (rfl) (σ 0 6) (rfl) (by omega)) gX6_tell_X6_tellHoly rfl hdX6_tellHoly ⟨rfl, rfl, by decide, by decide, by decide, by decide⟩ (by omega) rfl rfl rfl rfl (Nat.le_of_ble_eq_true rfl) dX6_tell_50 (fun r9 σ9 τ9 h9 => ?_)
        obtain ⟨rfl, rfl, rfl⟩ := h9
        exact go_ireturn X hr hlk dX6_tell_53 ((have hE : tellS (nI ns) (σ 8) (σ 9) (σ 0 6) (nI i) = ((σ 9 i) + 100 + (σ 9 i), 31 * (31 * (31 * (31 * (σ 0 6) + 3) + 2) + 1) + 1) := (by unfold tellS; (try dsimp only); (try rw [toN_nI (k := i) (by omega)]); exact (cif_t c8).trans ((cif_f n22_1).trans ((cif_t e22_2).trans (rfl)))); ⟨by rw [hE], by rw [hE], rfl⟩))
      · skip
        refine go_lookup X (tgt := 60) (off := 38) dX6_tell_22 (by decide) ((lv_osw n22_1 (by decide)).trans ((lv_osw n22_2 (by decide)).trans (rfl))) (by decide) ?_
        refine go_aload_n X dX6_tell_60 0 rfl rfl ?_
        refine go_iload_n X dX6_tell_61 1 rfl rfl ?_
        refine go_callVI X (n := 0) (As := [.int (nI i)]) (rest := []) (kX6_tellSubject l D cs ad N kt (by omega) σ τ i (σ 9 i) (rfl) (σ 0 6) (rfl) (by omega)) gX6_tell_X6_tellSubject rfl hdX6_tellSubject ⟨rfl, rfl, by decide, by decide, by decide, by decide⟩ (by omega) rfl rfl rfl rfl (Nat.le_of_ble_eq_true rfl) dX6_tell_62 (fun r9 σ9 τ9 h9 => ?_)
        obtain ⟨rfl, rfl, rfl⟩ := h9
        exact go_ireturn X hr hlk dX6_tell_65 ((have hE : tellS (nI ns) (σ 8) (σ 9) (σ 0 6) (nI i) = ((σ 9 i), 31 * (σ 0 6) + 1) := (by unfold tellS; (try dsimp only); (try rw [toN_nI (k := i) (by omega)]); exact (cif_t c8).trans ((cif_f n22_1).trans ((cif_f n22_2).trans (rfl)))); ⟨by rw [hE], by rw [hE], rfl⟩))
  · skip
    refine go_iconst X (v := (-1)) dX6_tell_11 (by decide) ?_
    exact go_ireturn X hr hlk dX6_tell_12 ((have hE : tellS (nI ns) (σ 8) (σ 9) (σ 0 6) a = ((-1), σ 0 6) := (by unfold tellS; (try dsimp only); exact (cif_f c8).trans (rfl)); ⟨by rw [hE], by rw [hE]; exact up2_id2 rfl, rfl⟩))

theorem hdX6_many : yX6_many.cls = RX6 ∧ yX6_many.cls ≠ "java/lang/invoke/MethodHandle" ∧ yX6_many.cls ≠ "java/lang/invoke/VarHandle" ∧ (parseMethodDescriptor yX6_many.desc).map (fun d => d.parameters.length) = some 1 := by decide +kernel
set_option maxHeartbeats 4000000 in
set_option maxRecDepth 100000 in
theorem kX6_many (l : Launch) (D : va_G) (cs : Nat → ClassId) (ad : Nat → Nat) (N kt : Nat) (hN : 58 ≤ N) (σ : vSg) (τ : vTa) (what : Int32) (nd : Nat) (ns : Nat) (nr : Nat)   (hI : IX σ nd ns nr) : CtI l yX6_many wsX6_many ({ frames := 1, cells := 0, slots := 0, locals := 22 }) D cs ad N (shP kt) [.ref (ad (0)), .int what] σ τ 0 0 (fun r9 σ9 τ9 => manyS (nI ns) (nI nd) (sumS (σ 9) ns) (nI nr) what = r9 ∧ σ = σ9 ∧ τ = τ9) := by
  refine ct_I (cc := cX6_many) (maxL := 2) (by decide) rfl (Nat.le_of_ble_eq_true rfl) rfl rfl ?_
  intro p e s m args below meth c A X hr hlk
  obtain ⟨⟨hnd, hnd5⟩, ⟨hns, hns4⟩, hdd, hkp, ⟨hnr, hnr8⟩, hrd, hrw, hpos⟩ := id hI
  refine go_iload_n X dX6_many_0 1 rfl rfl ?_
  rcases Classical.em (what = 0) with e1_0 | n1_0
  · skip
    refine go_tableIn X (tgt := 32) (off := 31) dX6_many_1 (by rw [e1_0]; decide) (by rw [e1_0]; decide) (by rw [e1_0]; decide) (by decide) ?_
    refine go_aload_n X dX6_many_32 0 rfl rfl ?_
    refine go_getr X (n := 0) (j := 1) (by omega) rfl rfl (fun _ h9 => List.mem_cons_of_mem _ (List.mem_append_left _ (List.mem_append_left _ (List.mem_append_right _ h9)))) (by decide) (List.mem_cons_of_mem _ (List.mem_append_left _ (List.mem_append_left _ (List.mem_append_left _ (List.mem_of_getElem? (i := 0) rfl))))) rfl dX6_many_33 ?_
    refine go_geti X (n := 2) (j := 4) (by omega) rfl rfl (fun _ h9 => List.mem_cons_of_mem _ (List.mem_append_left _ (List.mem_append_right _ h9))) (by decide) (List.mem_cons_of_mem _ (List.mem_append_left _ (List.mem_append_left _ (List.mem_append_left _ (List.mem_of_getElem? (i := 1) rfl))))) rfl dX6_many_36 ?_
    refine go_topi (v := nI ns) (hns) ?_
    exact go_ireturn X hr hlk dX6_many_39 ((have hE : manyS (nI ns) (nI nd) (sumS (σ 9) ns) (nI nr) what = nI ns := (by unfold manyS; (try dsimp only); exact (cif_t e1_0).trans (rfl)); ⟨hE, rfl, rfl⟩))
  · skip
    rcases Classical.em (what = 1) with e1_1 | n1_1
    · skip
      refine go_tableIn X (tgt := 40) (off := 39) dX6_many_1 (by rw [e1_1]; decide) (by rw [e1_1]; decide) (by rw [e1_1]; decide) (by decide) ?_
      refine go_aload_n X dX6_many_40 0 rfl rfl ?_
      refine go_getr X (n := 0) (j := 1) (by omega) rfl rfl (fun _ h9 => List.mem_cons_of_mem _ (List.mem_append_left _ (List.mem_append_left _ (List.mem_append_right _ h9)))) (by decide) (List.mem_cons_of_mem _ (List.mem_append_left _ (List.mem_append_left _ (List.mem_append_left _ (List.mem_of_getElem? (i := 0) rfl))))) rfl dX6_many_41 ?_
      refine go_geti X (n := 2) (j := 3) (by omega) rfl rfl (fun _ h9 => List.mem_cons_of_mem _ (List.mem_append_left _ (List.mem_append_right _ h9))) (by decide) (List.mem_cons_of_mem _ (List.mem_append_left _ (List.mem_append_left _ (List.mem_append_left _ (List.mem_of_getElem? (i := 2) rfl))))) rfl dX6_many_44 ?_
      refine go_topi (v := nI nd) (hnd) ?_
      exact go_ireturn X hr hlk dX6_many_47 ((have hE : manyS (nI ns) (nI nd) (sumS (σ 9) ns) (nI nr) what = nI nd := (by unfold manyS; (try dsimp only); exact (cif_f n1_0).trans ((cif_t e1_1).trans (rfl))); ⟨hE, rfl, rfl⟩))
    · skip
      rcases Classical.em (what = 2) with e1_2 | n1_2
      · skip
        refine go_tableIn X (tgt := 48) (off := 47) dX6_many_1 (by rw [e1_2]; decide) (by rw [e1_2]; decide) (by rw [e1_2]; decide) (by decide) ?_
        refine go_aload_n X dX6_many_48 0 rfl rfl ?_
        refine go_getr X (n := 0) (j := 1) (by omega) rfl rfl (fun _ h9 => List.mem_cons_of_mem _ (List.mem_append_left _ (List.mem_append_left _ (List.mem_append_right _ h9)))) (by decide) (List.mem_cons_of_mem _ (List.mem_append_left _ (List.mem_append_left _ (List.mem_append_left _ (List.mem_of_getElem? (i := 0) rfl))))) rfl dX6_many_49 ?_
        refine go_callVI X (n := 2) (As := []) (rest := []) (kX2_allPapers l D cs ad N kt (by omega) σ τ ns (by omega) (by omega)) gX6_many_X2_allPapers rfl hdX2_allPapers ⟨rfl, rfl, by decide, by decide, by decide, by decide⟩ (by omega) rfl rfl rfl rfl (Nat.le_of_ble_eq_true rfl) dX6_many_52 (fun r9 σ9 τ9 h9 => ?_)
        obtain ⟨rfl, rfl, rfl⟩ := h9
        exact go_ireturn X hr hlk dX6_many_55 ((have hE : manyS (nI ns) (nI nd) (sumS (σ 9) ns) (nI nr) what = sumS (σ 9) ns := (by unfold manyS; (try dsimp only); exact (cif_f n1_0).trans ((cif_f n1_1).trans ((cif_t e1_2).trans (rfl)))); ⟨hE, rfl, rfl⟩))
      · skip
        rcases Classical.em (what = 3) with e1_3 | n1_3
        · skip
          refine go_tableIn X (tgt := 56) (off := 55) dX6_many_1 (by rw [e1_3]; decide) (by rw [e1_3]; decide) (by rw [e1_3]; decide) (by decide) ?_
          refine go_aload_n X dX6_many_56 0 rfl rfl ?_
          refine go_getr X (n := 0) (j := 2) (by omega) rfl rfl (fun _ h9 => List.mem_cons_of_mem _ (List.mem_append_left _ (List.mem_append_left _ (List.mem_append_right _ h9)))) (by decide) (List.mem_cons_of_mem _ (List.mem_append_left _ (List.mem_append_left _ (List.mem_append_left _ (List.mem_of_getElem? (i := 3) rfl))))) rfl dX6_many_57 ?_
          refine go_geti X (n := 3) (j := 3) (by omega) rfl rfl (fun _ h9 => List.mem_cons_of_mem _ (List.mem_append_right _ h9)) (by decide) (List.mem_cons_of_mem _ (List.mem_append_left _ (List.mem_append_left _ (List.mem_append_left _ (List.mem_of_getElem? (i := 4) rfl))))) rfl dX6_many_60 ?_
          refine go_topi (v := nI nr) (hnr) ?_
          exact go_ireturn X hr hlk dX6_many_63 ((have hE : manyS (nI ns) (nI nd) (sumS (σ 9) ns) (nI nr) what = nI nr := (by unfold manyS; (try dsimp only); exact (cif_f n1_0).trans ((cif_f n1_1).trans ((cif_f n1_2).trans ((cif_t e1_3).trans (rfl))))); ⟨hE, rfl, rfl⟩))
        · skip
          refine go_tableOut X (tgt := 64) dX6_many_1 (by have k0 := lv_neT (a := 0) n1_0 (by decide); have k1 := lv_neT (a := 1) n1_1 (by decide); have k2 := lv_neT (a := 2) n1_2 (by decide); have k3 := lv_neT (a := 3) n1_3 (by decide); omega) (by decide) ?_
          refine go_bipush X (v := (-2)) dX6_many_64 (by decide) ?_
          exact go_ireturn X hr hlk dX6_many_66 ((have hE : manyS (nI ns) (nI nd) (sumS (σ 9) ns) (nI nr) what = (-2) := (by unfold manyS; (try dsimp only); exact (cif_f n1_0).trans ((cif_f n1_1).trans ((cif_f n1_2).trans ((cif_f n1_3).trans (rfl))))); ⟨hE, rfl, rfl⟩))

theorem hdX6_reading : yX6_reading.cls = RX6 ∧ yX6_reading.cls ≠ "java/lang/invoke/MethodHandle" ∧ yX6_reading.cls ≠ "java/lang/invoke/VarHandle" ∧ (parseMethodDescriptor yX6_reading.desc).map (fun d => d.parameters.length) = some 3 := by decide +kernel
set_option maxHeartbeats 4000000 in
set_option maxRecDepth 100000 in
theorem kX6_reading (l : Launch) (D : va_G) (cs : Nat → ClassId) (ad : Nat → Nat) (N kt : Nat) (hN : 58 ≤ N) (σ : vSg) (τ : vTa) (a : Int32) (d : Int32) (bo : Int32) (nd : Nat) (ns : Nat) (nr : Nat)   (hI : IX σ nd ns nr) (hz : bo = 0 ∨ bo = 1) : CtI l yX6_reading wsX6_reading ({ frames := 2, cells := 0, slots := 0, locals := 42 }) D cs ad N (shP kt) [.ref (ad (0)), .int a, .int d, .int bo] σ τ 0 0 (fun r9 σ9 τ9 => readS (nI ns) (nI nd) nr a d = r9 ∧ cif (isB a (nI ns) ∧ isB d (nI nd) ∧ nr < 8) (up2 (up2 (up2 (up2 σ 10 nr a) 11 nr d) 34 nr bo) 3 3 (nI (nr + 1))) σ = σ9 ∧ τ = τ9) := by
  refine ct_I (cc := cX6_reading) (maxL := 4) (by decide) rfl (Nat.le_of_ble_eq_true rfl) rfl rfl ?_
  intro p e s m args below meth c A X hr hlk
  obtain ⟨⟨hnd, hnd5⟩, ⟨hns, hns4⟩, hdd, hkp, ⟨hnr, hnr8⟩, hrd, hrw, hpos⟩ := id hI
  refine go_aload_n X dX6_reading_0 0 rfl rfl ?_
  refine go_getr X (n := 0) (j := 1) (by omega) rfl rfl (fun _ h9 => List.mem_cons_of_mem _ (List.mem_append_left _ (List.mem_append_left _ (List.mem_append_right _ h9)))) (by decide) (List.mem_cons_of_mem _ (List.mem_append_left _ (List.mem_append_left _ (List.mem_append_left _ (List.mem_append_left _ (List.mem_of_getElem? (i := 0) rfl)))))) rfl dX6_reading_1 ?_
  refine go_iload_n X dX6_reading_4 1 rfl rfl ?_
  refine go_callVI X (n := 2) (As := [.int a]) (rest := []) (kX2_hasSubject l D cs ad N kt (by omega) σ τ a (nI ns) (hns)) gX6_reading_X2_hasSubject rfl hdX2_hasSubject ⟨rfl, rfl, by decide, by decide, by decide, by decide⟩ (by omega) rfl rfl rfl rfl (Nat.le_of_ble_eq_true rfl) dX6_reading_5 (fun r9 σ9 τ9 h9 => ?_)
  obtain ⟨rfl, rfl, rfl⟩ := h9
  refine go_ifb_eq X (tgt := 22) dX6_reading_8 (by decide) (fun c8 => ?_) (fun c8 => ?_)
  · skip
    refine go_iconst X (v := (-1)) dX6_reading_22 (by decide) ?_
    exact go_ireturn X hr hlk dX6_reading_23 ((have hE : readS (nI ns) (nI nd) nr a d = (-1) := (by unfold readS; (try dsimp only); exact (cif_f c8).trans (rfl)); ⟨hE, cif_f (fun q => c8 q.1), rfl⟩))
  · skip
    refine go_aload_n X dX6_reading_11 0 rfl rfl ?_
    refine go_getr X (n := 0) (j := 1) (by omega) rfl rfl (fun _ h9 => List.mem_cons_of_mem _ (List.mem_append_left _ (List.mem_append_left _ (List.mem_append_right _ h9)))) (by decide) (List.mem_cons_of_mem _ (List.mem_append_left _ (List.mem_append_left _ (List.mem_append_left _ (List.mem_append_left _ (List.mem_of_getElem? (i := 0) rfl)))))) rfl dX6_reading_12 ?_
    refine go_iload_n X dX6_reading_15 2 rfl rfl ?_
    refine go_callVI X (n := 2) (As := [.int d]) (rest := []) (kX2_hasDeed l D cs ad N kt (by omega) σ τ d (nI nd) (hnd)) gX6_reading_X2_hasDeed rfl hdX2_hasDeed ⟨rfl, rfl, by decide, by decide, by decide, by decide⟩ (by omega) rfl rfl rfl rfl (Nat.le_of_ble_eq_true rfl) dX6_reading_16 (fun r9 σ9 τ9 h9 => ?_)
    obtain ⟨rfl, rfl, rfl⟩ := h9
    refine go_ifb_ne X (tgt := 24) dX6_reading_19 (by decide) (fun c19 => ?_) (fun c19 => ?_)
    · skip
      refine go_aload_n X dX6_reading_24 0 rfl rfl ?_
      refine go_getr X (n := 0) (j := 2) (by omega) rfl rfl (fun _ h9 => List.mem_cons_of_mem _ (List.mem_append_left _ (List.mem_append_left _ (List.mem_append_right _ h9)))) (by decide) (List.mem_cons_of_mem _ (List.mem_append_left _ (List.mem_append_left _ (List.mem_append_left _ (List.mem_append_left _ (List.mem_of_getElem? (i := 1) rfl)))))) rfl dX6_reading_25 ?_
      refine go_geti X (n := 3) (j := 3) (by omega) rfl rfl (fun _ h9 => List.mem_cons_of_mem _ (List.mem_append_left _ (List.mem_append_right _ h9))) (by decide) (List.mem_cons_of_mem _ (List.mem_append_left _ (List.mem_append_left _ (List.mem_append_left _ (List.mem_append_left _ (List.mem_of_getElem? (i := 2) rfl)))))) rfl dX6_reading_28 ?_
      refine go_topi (v := nI nr) (hnr) ?_
      refine go_bipush X (v := 8) dX6_reading_31 (by decide) ?_
      refine go_icmpn_lt X (tgt := 39) dX6_reading_33 (by decide) (a := nr) (b := 8) rfl rfl (by omega) (by omega) (fun c33 => ?_) (fun c33 => ?_)
      · skip
        refine go_aload_n X dX6_reading_39 0 rfl rfl ?_
        refine go_getr X (n := 0) (j := 2) (by omega) rfl rfl (fun _ h9 => List.mem_cons_of_mem _ (List.mem_append_left _ (List.mem_append_left _ (List.mem_append_right _ h9)))) (by decide) (List.mem_cons_of_mem _ (List.mem_append_left _ (List.mem_append_left _ (List.mem_append_left _ (List.mem_append_left _ (List.mem_of_getElem? (i := 1) rfl)))))) rfl dX6_reading_40 ?_
        refine go_iload_n X dX6_reading_43 1 rfl rfl ?_
        refine go_iload_n X dX6_reading_44 2 rfl rfl ?_
        refine go_iload_n X dX6_reading_45 3 rfl rfl ?_
        refine go_callVI X (n := 3) (As := [.int a, .int d, .int bo]) (rest := []) (kX1_note l D cs ad N kt (by omega) σ τ a d bo nr (by omega) (by omega) hz) gX6_reading_X1_note rfl hdX1_note ⟨rfl, rfl, by decide, by decide, by decide, by decide⟩ (by omega) rfl rfl rfl rfl (Nat.le_of_ble_eq_true rfl) dX6_reading_46 (fun r9 σ9 τ9 h9 => ?_)
        obtain ⟨rfl, rfl, rfl⟩ := h9
        exact go_ireturn X hr hlk dX6_reading_49 ((have hE : readS (nI ns) (nI nd) nr a d = nI nr := (by unfold readS; (try dsimp only); exact (cif_t c8).trans ((cif_t c19).trans ((cif_t c33).trans (rfl)))); ⟨hE, cif_t ⟨c8, c19, c33⟩, rfl⟩))
      · skip
        refine go_bipush X (v := (-4)) dX6_reading_36 (by decide) ?_
        exact go_ireturn X hr hlk dX6_reading_38 ((have hE : readS (nI ns) (nI nd) nr a d = (-4) := (by unfold readS; (try dsimp only); exact (cif_t c8).trans ((cif_t c19).trans ((cif_f (Nat.not_lt.mpr c33)).trans (rfl)))); ⟨hE, cif_f (fun q => absurd q.2.2 (Nat.not_lt.mpr c33)), rfl⟩))
    · skip
      refine go_iconst X (v := (-1)) dX6_reading_22 (by decide) ?_
      exact go_ireturn X hr hlk dX6_reading_23 ((have hE : readS (nI ns) (nI nd) nr a d = (-1) := (by unfold readS; (try dsimp only); exact (cif_t c8).trans ((cif_f c19).trans (rfl))); ⟨hE, cif_f (fun q => c19 q.2.1), rfl⟩))

theorem hdX6_back : yX6_back.cls = RX6 ∧ yX6_back.cls ≠ "java/lang/invoke/MethodHandle" ∧ yX6_back.cls ≠ "java/lang/invoke/VarHandle" ∧ (parseMethodDescriptor yX6_back.desc).map (fun d => d.parameters.length) = some 1 := by decide +kernel
set_option maxHeartbeats 4000000 in
set_option maxRecDepth 100000 in
theorem kX6_back (l : Launch) (D : va_G) (cs : Nat → ClassId) (ad : Nat → Nat) (N kt : Nat) (hN : 58 ≤ N) (σ : vSg) (τ : vTa) (k : Int32) (nd : Nat) (ns : Nat) (nr : Nat)   (hI : IX σ nd ns nr) : CtI l yX6_back wsX6_back ({ frames := 0, cells := 0, slots := 0, locals := 0 }) D cs ad N (shP kt) [.ref (ad (0)), .int k] σ τ 0 0 (fun r9 σ9 τ9 => backS (nI nr) k = r9 ∧ cif (¬ k < 0 ∧ k ≤ nI nr) (up2 σ 3 3 (nI nr - k)) σ = σ9 ∧ τ = τ9) := by
  refine ct_I (cc := cX6_back) (maxL := 2) (by decide) rfl (Nat.le_of_ble_eq_true rfl) rfl rfl ?_
  intro p e s m args below meth c A X hr hlk
  obtain ⟨⟨hnd, hnd5⟩, ⟨hns, hns4⟩, hdd, hkp, ⟨hnr, hnr8⟩, hrd, hrw, hpos⟩ := id hI
  refine go_iload_n X dX6_back_0 1 rfl rfl ?_
  refine go_if_lt X (tgt := 15) dX6_back_1 (by decide) (fun c1 => ?_) (fun c1 => ?_)
  · skip
    refine go_bipush X (v := (-2)) dX6_back_15 (by decide) ?_
    exact go_ireturn X hr hlk dX6_back_17 ((have hE : backS (nI nr) k = (-2) := (by unfold backS; (try dsimp only); exact (cif_t c1).trans (rfl)); ⟨hE, cif_f (fun q => q.1 c1), rfl⟩))
  · skip
    refine go_iload_n X dX6_back_4 1 rfl rfl ?_
    refine go_aload_n X dX6_back_5 0 rfl rfl ?_
    refine go_getr X (n := 0) (j := 2) (by omega) rfl rfl (fun _ h9 => List.mem_cons_of_mem _ (List.mem_append_left _ (List.mem_append_right _ h9))) (by decide) (List.mem_cons_of_mem _ (List.mem_append_left _ (List.mem_append_left _ (List.mem_of_getElem? (i := 0) rfl)))) rfl dX6_back_6 ?_
    refine go_geti X (n := 3) (j := 3) (by omega) rfl rfl (fun _ h9 => List.mem_cons_of_mem _ (List.mem_append_right _ h9)) (by decide) (List.mem_cons_of_mem _ (List.mem_append_left _ (List.mem_append_left _ (List.mem_of_getElem? (i := 1) rfl)))) rfl dX6_back_9 ?_
    refine go_topi (v := nI nr) (hnr) ?_
    refine go_icmp_le X (tgt := 18) dX6_back_12 (by decide) (fun c12 => ?_) (fun c12 => ?_)
    · skip
      refine go_aload_n X dX6_back_18 0 rfl rfl ?_
      refine go_getr X (n := 0) (j := 2) (by omega) rfl rfl (fun _ h9 => List.mem_cons_of_mem _ (List.mem_append_left _ (List.mem_append_right _ h9))) (by decide) (List.mem_cons_of_mem _ (List.mem_append_left _ (List.mem_append_left _ (List.mem_of_getElem? (i := 0) rfl)))) rfl dX6_back_19 ?_
      refine go_dup X dX6_back_22 rfl ?_
      refine go_geti X (n := 3) (j := 3) (by omega) rfl rfl (fun _ h9 => List.mem_cons_of_mem _ (List.mem_append_right _ h9)) (by decide) (List.mem_cons_of_mem _ (List.mem_append_left _ (List.mem_append_left _ (List.mem_of_getElem? (i := 1) rfl)))) rfl dX6_back_23 ?_
      refine go_topi (v := nI nr) (hnr) ?_
      refine go_iload_n X dX6_back_26 1 rfl rfl ?_
      refine go_isub X dX6_back_27 ?_
      refine go_puti X (n := 3) (j := 3) (ty := .int) (by omega) rfl rfl (fun _ h9 => List.mem_cons_of_mem _ (List.mem_append_right _ h9)) (by decide) (List.mem_cons_of_mem _ (List.mem_append_left _ (List.mem_append_left _ (List.mem_of_getElem? (i := 1) rfl)))) rfl tyX1 tyX1_ok nmX1 rfl (by decide +kernel) rfl rfl dX6_back_28 ?_
      refine go_aload_n X dX6_back_31 0 rfl rfl ?_
      refine go_getr X (n := 0) (j := 2) (by omega) rfl rfl (fun _ h9 => List.mem_cons_of_mem _ (List.mem_append_left _ (List.mem_append_right _ h9))) (by decide) (List.mem_cons_of_mem _ (List.mem_append_left _ (List.mem_append_left _ (List.mem_of_getElem? (i := 0) rfl)))) rfl dX6_back_32 ?_
      refine go_geti X (n := 3) (j := 3) (by omega) rfl rfl (fun _ h9 => List.mem_cons_of_mem _ (List.mem_append_right _ h9)) (by decide) (List.mem_cons_of_mem _ (List.mem_append_left _ (List.mem_append_left _ (List.mem_of_getElem? (i := 1) rfl)))) rfl dX6_back_35 ?_
      refine go_topi (v := (nI nr) - k) (up2_self) ?_
      exact go_ireturn X hr hlk dX6_back_38 ((have hE : backS (nI nr) k = (nI nr) - k := (by unfold backS; (try dsimp only); exact (cif_f c1).trans ((cif_t c12).trans (rfl))); ⟨hE, cif_t ⟨c1, c12⟩, rfl⟩))
    · skip
      refine go_bipush X (v := (-2)) dX6_back_15 (by decide) ?_
      exact go_ireturn X hr hlk dX6_back_17 ((have hE : backS (nI nr) k = (-2) := (by unfold backS; (try dsimp only); exact (cif_f c1).trans ((cif_f c12).trans (rfl))); ⟨hE, cif_f (fun q => c12 q.2), rfl⟩))

theorem hdX6_risks : yX6_risks.cls = RX6 ∧ yX6_risks.cls ≠ "java/lang/invoke/MethodHandle" ∧ yX6_risks.cls ≠ "java/lang/invoke/VarHandle" ∧ (parseMethodDescriptor yX6_risks.desc).map (fun d => d.parameters.length) = some 1 := by decide +kernel
set_option maxHeartbeats 4000000 in
set_option maxRecDepth 100000 in
theorem kX6_risks (l : Launch) (D : va_G) (cs : Nat → ClassId) (ad : Nat → Nat) (N kt : Nat) (hN : 58 ≤ N) (σ : vSg) (τ : vTa) (d : Int32) (nd : Nat) (ns : Nat) (nr : Nat)   (hI : IX σ nd ns nr) : CtI l yX6_risks wsX6_risks ({ frames := 5, cells := 0, slots := 0, locals := 116 }) D cs ad N (shP kt) [.ref (ad (0)), .int d] σ τ 0 0 (fun r9 σ9 τ9 => fitS (nI nd) (fun y9 => setS (fun z9 => allX (up2 σ (20 + y9) 1 (nI z9)) (fun z8 => toN (σ 10 z8)) (fun z8 => toN (σ 11 z8)) nr) 10) d = r9 ∧ σ = σ9 ∧ τ = τ9) := by
  refine ct_I (cc := cX6_risks) (maxL := 2) (by decide) rfl (Nat.le_of_ble_eq_true rfl) rfl rfl ?_
  intro p e s m args below meth c A X hr hlk
  obtain ⟨⟨hnd, hnd5⟩, ⟨hns, hns4⟩, hdd, hkp, ⟨hnr, hnr8⟩, hrd, hrw, hpos⟩ := id hI
  refine go_aload_n X dX6_risks_0 0 rfl rfl ?_
  refine go_getr X (n := 0) (j := 1) (by omega) rfl rfl (fun _ h9 => List.mem_cons_of_mem _ (List.mem_append_left _ (List.mem_append_left _ (List.mem_append_right _ h9)))) (by decide) (List.mem_cons_of_mem _ (List.mem_append_left _ (List.mem_append_left _ (List.mem_append_left _ (List.mem_append_left _ (List.mem_of_getElem? (i := 0) rfl)))))) rfl dX6_risks_1 ?_
  refine go_iload_n X dX6_risks_4 1 rfl rfl ?_
  refine go_callVI X (n := 2) (As := [.int d]) (rest := []) (kX2_hasDeed l D cs ad N kt (by omega) σ τ d (nI nd) (hnd)) gX6_risks_X2_hasDeed rfl hdX2_hasDeed ⟨rfl, rfl, by decide, by decide, by decide, by decide⟩ (by omega) rfl rfl rfl rfl (Nat.le_of_ble_eq_true rfl) dX6_risks_5 (fun r9 σ9 τ9 h9 => ?_)
  obtain ⟨rfl, rfl, rfl⟩ := h9
  refine go_ifb_ne X (tgt := 13) dX6_risks_8 (by decide) (fun c8 => ?_) (fun c8 => ?_)
  · skip
    obtain ⟨i, hi, rfl⟩ := isB_nat c8 (by omega)
    refine go_aload_n X dX6_risks_13 0 rfl rfl ?_
    refine go_getr X (n := 0) (j := 2) (by omega) rfl rfl (fun _ h9 => List.mem_cons_of_mem _ (List.mem_append_left _ (List.mem_append_left _ (List.mem_append_right _ h9)))) (by decide) (List.mem_cons_of_mem _ (List.mem_append_left _ (List.mem_append_left _ (List.mem_append_left _ (List.mem_append_left _ (List.mem_of_getElem? (i := 1) rfl)))))) rfl dX6_risks_14 ?_
    refine go_aload_n X dX6_risks_17 0 rfl rfl ?_
    refine go_getr X (n := 0) (j := 1) (by omega) rfl rfl (fun _ h9 => List.mem_cons_of_mem _ (List.mem_append_left _ (List.mem_append_left _ (List.mem_append_right _ h9)))) (by decide) (List.mem_cons_of_mem _ (List.mem_append_left _ (List.mem_append_left _ (List.mem_append_left _ (List.mem_append_left _ (List.mem_of_getElem? (i := 0) rfl)))))) rfl dX6_risks_18 ?_
    refine go_aload_n X dX6_risks_21 0 rfl rfl ?_
    refine go_getr X (n := 0) (j := 1) (by omega) rfl rfl (fun _ h9 => List.mem_cons_of_mem _ (List.mem_append_left _ (List.mem_append_left _ (List.mem_append_right _ h9)))) (by decide) (List.mem_cons_of_mem _ (List.mem_append_left _ (List.mem_append_left _ (List.mem_append_left _ (List.mem_append_left _ (List.mem_of_getElem? (i := 0) rfl)))))) rfl dX6_risks_22 ?_
    refine go_getr X (n := 2) (j := 0) (by omega) rfl rfl (fun _ h9 => List.mem_cons_of_mem _ (List.mem_append_left _ (List.mem_append_right _ h9))) (by decide) (List.mem_cons_of_mem _ (List.mem_append_left _ (List.mem_append_left _ (List.mem_append_left _ (List.mem_append_left _ (List.mem_of_getElem? (i := 2) rfl)))))) rfl dX6_risks_25 ?_
    refine go_iload_n X dX6_risks_28 1 rfl rfl ?_
    refine go_aald4 X (n := 7) (k := i) (by omega) rfl rfl (by omega) (by omega) dX6_risks_29 ?_
    refine go_iconst X (v := 1) dX6_risks_30 (by decide) ?_
    refine go_bipush X (v := 10) dX6_risks_31 (by decide) ?_
    refine go_callVI X (n := 3) (As := [.ref (ad (2)), .ref (ad (20 + i)), .int 1, .int 10]) (rest := []) (kX1_fitting l D cs ad N kt (by omega) σ τ (20 + i) 1 10 3 (fun _ => 0) nr (fun z8 => toN (σ 10 z8)) (fun z8 => toN (σ 11 z8)) (sh_deed (by omega)) (by omega) (by omega) (by omega) (by omega) (by omega) (by omega) (IX_R hI)) gX6_risks_X1_fitting rfl hdX1_fitting ⟨rfl, rfl, by decide, by decide, by decide, by decide⟩ (by omega) rfl rfl rfl rfl (Nat.le_of_ble_eq_true rfl) dX6_risks_33 (fun r9 σ9 τ9 h9 => ?_)
    obtain ⟨rfl, rfl, rfl⟩ := h9
    exact go_ireturn X hr hlk dX6_risks_36 ((have hE : fitS (nI nd) (fun y9 => setS (fun z9 => allX (up2 σ (20 + y9) 1 (nI z9)) (fun z8 => toN (σ 10 z8)) (fun z8 => toN (σ 11 z8)) nr) 10) (nI i) = setS (fun z9 => allX (up2 σ (20 + i) 1 (nI z9)) (fun z8 => toN (σ 10 z8)) (fun z8 => toN (σ 11 z8)) nr) 10 := (by unfold fitS; (try dsimp only); (try rw [toN_nI (k := i) (by omega)]); exact (cif_t c8).trans (rfl)); ⟨hE, rfl, rfl⟩))
  · skip
    refine go_iconst X (v := (-1)) dX6_risks_11 (by decide) ?_
    exact go_ireturn X hr hlk dX6_risks_12 ((have hE : fitS (nI nd) (fun y9 => setS (fun z9 => allX (up2 σ (20 + y9) 1 (nI z9)) (fun z8 => toN (σ 10 z8)) (fun z8 => toN (σ 11 z8)) nr) 10) d = (-1) := (by unfold fitS; (try dsimp only); exact (cif_f c8).trans (rfl)); ⟨hE, rfl, rfl⟩))

theorem hdX6_hurts : yX6_hurts.cls = RX6 ∧ yX6_hurts.cls ≠ "java/lang/invoke/MethodHandle" ∧ yX6_hurts.cls ≠ "java/lang/invoke/VarHandle" ∧ (parseMethodDescriptor yX6_hurts.desc).map (fun d => d.parameters.length) = some 1 := by decide +kernel
set_option maxHeartbeats 4000000 in
set_option maxRecDepth 100000 in
theorem kX6_hurts (l : Launch) (D : va_G) (cs : Nat → ClassId) (ad : Nat → Nat) (N kt : Nat) (hN : 58 ≤ N) (σ : vSg) (τ : vTa) (d : Int32) (nd : Nat) (ns : Nat) (nr : Nat)   (hI : IX σ nd ns nr) : CtI l yX6_hurts wsX6_hurts ({ frames := 5, cells := 0, slots := 0, locals := 116 }) D cs ad N (shP kt) [.ref (ad (0)), .int d] σ τ 0 0 (fun r9 σ9 τ9 => fitS (nI nd) (fun y9 => setS (fun z9 => allX (up2 σ (20 + y9) 2 (nI z9)) (fun z8 => toN (σ 10 z8)) (fun z8 => toN (σ 11 z8)) nr) 10) d = r9 ∧ σ = σ9 ∧ τ = τ9) := by
  refine ct_I (cc := cX6_hurts) (maxL := 2) (by decide) rfl (Nat.le_of_ble_eq_true rfl) rfl rfl ?_
  intro p e s m args below meth c A X hr hlk
  obtain ⟨⟨hnd, hnd5⟩, ⟨hns, hns4⟩, hdd, hkp, ⟨hnr, hnr8⟩, hrd, hrw, hpos⟩ := id hI
  refine go_aload_n X dX6_hurts_0 0 rfl rfl ?_
  refine go_getr X (n := 0) (j := 1) (by omega) rfl rfl (fun _ h9 => List.mem_cons_of_mem _ (List.mem_append_left _ (List.mem_append_left _ (List.mem_append_right _ h9)))) (by decide) (List.mem_cons_of_mem _ (List.mem_append_left _ (List.mem_append_left _ (List.mem_append_left _ (List.mem_append_left _ (List.mem_of_getElem? (i := 0) rfl)))))) rfl dX6_hurts_1 ?_
  refine go_iload_n X dX6_hurts_4 1 rfl rfl ?_
  refine go_callVI X (n := 2) (As := [.int d]) (rest := []) (kX2_hasDeed l D cs ad N kt (by omega) σ τ d (nI nd) (hnd)) gX6_hurts_X2_hasDeed rfl hdX2_hasDeed ⟨rfl, rfl, by decide, by decide, by decide, by decide⟩ (by omega) rfl rfl rfl rfl (Nat.le_of_ble_eq_true rfl) dX6_hurts_5 (fun r9 σ9 τ9 h9 => ?_)
  obtain ⟨rfl, rfl, rfl⟩ := h9
  refine go_ifb_ne X (tgt := 13) dX6_hurts_8 (by decide) (fun c8 => ?_) (fun c8 => ?_)
  · skip
    obtain ⟨i, hi, rfl⟩ := isB_nat c8 (by omega)
    refine go_aload_n X dX6_hurts_13 0 rfl rfl ?_
    refine go_getr X (n := 0) (j := 2) (by omega) rfl rfl (fun _ h9 => List.mem_cons_of_mem _ (List.mem_append_left _ (List.mem_append_left _ (List.mem_append_right _ h9)))) (by decide) (List.mem_cons_of_mem _ (List.mem_append_left _ (List.mem_append_left _ (List.mem_append_left _ (List.mem_append_left _ (List.mem_of_getElem? (i := 1) rfl)))))) rfl dX6_hurts_14 ?_
    refine go_aload_n X dX6_hurts_17 0 rfl rfl ?_
    refine go_getr X (n := 0) (j := 1) (by omega) rfl rfl (fun _ h9 => List.mem_cons_of_mem _ (List.mem_append_left _ (List.mem_append_left _ (List.mem_append_right _ h9)))) (by decide) (List.mem_cons_of_mem _ (List.mem_append_left _ (List.mem_append_left _ (List.mem_append_left _ (List.mem_append_left _ (List.mem_of_getElem? (i := 0) rfl)))))) rfl dX6_hurts_18 ?_
    refine go_aload_n X dX6_hurts_21 0 rfl rfl ?_
    refine go_getr X (n := 0) (j := 1) (by omega) rfl rfl (fun _ h9 => List.mem_cons_of_mem _ (List.mem_append_left _ (List.mem_append_left _ (List.mem_append_right _ h9)))) (by decide) (List.mem_cons_of_mem _ (List.mem_append_left _ (List.mem_append_left _ (List.mem_append_left _ (List.mem_append_left _ (List.mem_of_getElem? (i := 0) rfl)))))) rfl dX6_hurts_22 ?_
    refine go_getr X (n := 2) (j := 0) (by omega) rfl rfl (fun _ h9 => List.mem_cons_of_mem _ (List.mem_append_left _ (List.mem_append_right _ h9))) (by decide) (List.mem_cons_of_mem _ (List.mem_append_left _ (List.mem_append_left _ (List.mem_append_left _ (List.mem_append_left _ (List.mem_of_getElem? (i := 2) rfl)))))) rfl dX6_hurts_25 ?_
    refine go_iload_n X dX6_hurts_28 1 rfl rfl ?_
    refine go_aald4 X (n := 7) (k := i) (by omega) rfl rfl (by omega) (by omega) dX6_hurts_29 ?_
    refine go_iconst X (v := 2) dX6_hurts_30 (by decide) ?_
    refine go_bipush X (v := 10) dX6_hurts_31 (by decide) ?_
    refine go_callVI X (n := 3) (As := [.ref (ad (2)), .ref (ad (20 + i)), .int 2, .int 10]) (rest := []) (kX1_fitting l D cs ad N kt (by omega) σ τ (20 + i) 2 10 3 (fun _ => 0) nr (fun z8 => toN (σ 10 z8)) (fun z8 => toN (σ 11 z8)) (sh_deed (by omega)) (by omega) (by omega) (by omega) (by omega) (by omega) (by omega) (IX_R hI)) gX6_hurts_X1_fitting rfl hdX1_fitting ⟨rfl, rfl, by decide, by decide, by decide, by decide⟩ (by omega) rfl rfl rfl rfl (Nat.le_of_ble_eq_true rfl) dX6_hurts_33 (fun r9 σ9 τ9 h9 => ?_)
    obtain ⟨rfl, rfl, rfl⟩ := h9
    exact go_ireturn X hr hlk dX6_hurts_36 ((have hE : fitS (nI nd) (fun y9 => setS (fun z9 => allX (up2 σ (20 + y9) 2 (nI z9)) (fun z8 => toN (σ 10 z8)) (fun z8 => toN (σ 11 z8)) nr) 10) (nI i) = setS (fun z9 => allX (up2 σ (20 + i) 2 (nI z9)) (fun z8 => toN (σ 10 z8)) (fun z8 => toN (σ 11 z8)) nr) 10 := (by unfold fitS; (try dsimp only); (try rw [toN_nI (k := i) (by omega)]); exact (cif_t c8).trans (rfl)); ⟨hE, rfl, rfl⟩))
  · skip
    refine go_iconst X (v := (-1)) dX6_hurts_11 (by decide) ?_
    exact go_ireturn X hr hlk dX6_hurts_12 ((have hE : fitS (nI nd) (fun y9 => setS (fun z9 => allX (up2 σ (20 + y9) 2 (nI z9)) (fun z8 => toN (σ 10 z8)) (fun z8 => toN (σ 11 z8)) nr) 10) d = (-1) := (by unfold fitS; (try dsimp only); exact (cif_f c8).trans (rfl)); ⟨hE, rfl, rfl⟩))

theorem hdX6_kinds : yX6_kinds.cls = RX6 ∧ yX6_kinds.cls ≠ "java/lang/invoke/MethodHandle" ∧ yX6_kinds.cls ≠ "java/lang/invoke/VarHandle" ∧ (parseMethodDescriptor yX6_kinds.desc).map (fun d => d.parameters.length) = some 1 := by decide +kernel
set_option maxHeartbeats 4000000 in
set_option maxRecDepth 100000 in
theorem kX6_kinds (l : Launch) (D : va_G) (cs : Nat → ClassId) (ad : Nat → Nat) (N kt : Nat) (hN : 58 ≤ N) (σ : vSg) (τ : vTa) (a : Int32) (nd : Nat) (ns : Nat) (nr : Nat)   (hI : IX σ nd ns nr) : CtI l yX6_kinds wsX6_kinds ({ frames := 5, cells := 0, slots := 0, locals := 116 }) D cs ad N (shP kt) [.ref (ad (0)), .int a] σ τ 0 0 (fun r9 σ9 τ9 => fitS (nI ns) (fun y9 => setS (fun z9 => allX (up2 σ 8 y9 (nI z9)) (fun z8 => toN (σ 10 z8)) (fun z8 => toN (σ 11 z8)) nr) 3) a = r9 ∧ σ = σ9 ∧ τ = τ9) := by
  refine ct_I (cc := cX6_kinds) (maxL := 2) (by decide) rfl (Nat.le_of_ble_eq_true rfl) rfl rfl ?_
  intro p e s m args below meth c A X hr hlk
  obtain ⟨⟨hnd, hnd5⟩, ⟨hns, hns4⟩, hdd, hkp, ⟨hnr, hnr8⟩, hrd, hrw, hpos⟩ := id hI
  refine go_aload_n X dX6_kinds_0 0 rfl rfl ?_
  refine go_getr X (n := 0) (j := 1) (by omega) rfl rfl (fun _ h9 => List.mem_cons_of_mem _ (List.mem_append_left _ (List.mem_append_left _ (List.mem_append_right _ h9)))) (by decide) (List.mem_cons_of_mem _ (List.mem_append_left _ (List.mem_append_left _ (List.mem_append_left _ (List.mem_append_left _ (List.mem_of_getElem? (i := 0) rfl)))))) rfl dX6_kinds_1 ?_
  refine go_iload_n X dX6_kinds_4 1 rfl rfl ?_
  refine go_callVI X (n := 2) (As := [.int a]) (rest := []) (kX2_hasSubject l D cs ad N kt (by omega) σ τ a (nI ns) (hns)) gX6_kinds_X2_hasSubject rfl hdX2_hasSubject ⟨rfl, rfl, by decide, by decide, by decide, by decide⟩ (by omega) rfl rfl rfl rfl (Nat.le_of_ble_eq_true rfl) dX6_kinds_5 (fun r9 σ9 τ9 h9 => ?_)
  obtain ⟨rfl, rfl, rfl⟩ := h9
  refine go_ifb_ne X (tgt := 13) dX6_kinds_8 (by decide) (fun c8 => ?_) (fun c8 => ?_)
  · skip
    obtain ⟨i, hi, rfl⟩ := isB_nat c8 (by omega)
    refine go_aload_n X dX6_kinds_13 0 rfl rfl ?_
    refine go_getr X (n := 0) (j := 2) (by omega) rfl rfl (fun _ h9 => List.mem_cons_of_mem _ (List.mem_append_left _ (List.mem_append_left _ (List.mem_append_right _ h9)))) (by decide) (List.mem_cons_of_mem _ (List.mem_append_left _ (List.mem_append_left _ (List.mem_append_left _ (List.mem_append_left _ (List.mem_of_getElem? (i := 1) rfl)))))) rfl dX6_kinds_14 ?_
    refine go_aload_n X dX6_kinds_17 0 rfl rfl ?_
    refine go_getr X (n := 0) (j := 1) (by omega) rfl rfl (fun _ h9 => List.mem_cons_of_mem _ (List.mem_append_left _ (List.mem_append_left _ (List.mem_append_right _ h9)))) (by decide) (List.mem_cons_of_mem _ (List.mem_append_left _ (List.mem_append_left _ (List.mem_append_left _ (List.mem_append_left _ (List.mem_of_getElem? (i := 0) rfl)))))) rfl dX6_kinds_18 ?_
    refine go_aload_n X dX6_kinds_21 0 rfl rfl ?_
    refine go_getr X (n := 0) (j := 1) (by omega) rfl rfl (fun _ h9 => List.mem_cons_of_mem _ (List.mem_append_left _ (List.mem_append_left _ (List.mem_append_right _ h9)))) (by decide) (List.mem_cons_of_mem _ (List.mem_append_left _ (List.mem_append_left _ (List.mem_append_left _ (List.mem_append_left _ (List.mem_of_getElem? (i := 0) rfl)))))) rfl dX6_kinds_22 ?_
    refine go_getr X (n := 2) (j := 1) (by omega) rfl rfl (fun _ h9 => List.mem_cons_of_mem _ (List.mem_append_left _ (List.mem_append_right _ h9))) (by decide) (List.mem_cons_of_mem _ (List.mem_append_left _ (List.mem_append_left _ (List.mem_append_left _ (List.mem_append_left _ (List.mem_of_getElem? (i := 2) rfl)))))) rfl dX6_kinds_25 ?_
    refine go_iload_n X dX6_kinds_28 1 rfl rfl ?_
    refine go_iconst X (v := 3) dX6_kinds_29 (by decide) ?_
    refine go_callVI X (n := 3) (As := [.ref (ad (2)), .ref (ad (8)), .int (nI i), .int 3]) (rest := []) (kX1_fitting l D cs ad N kt (by omega) σ τ 8 i 3 4 (fun _ => 0) nr (fun z8 => toN (σ 10 z8)) (fun z8 => toN (σ 11 z8)) rfl (by omega) (by omega) (by omega) (by omega) (by omega) (by omega) (IX_R hI)) gX6_kinds_X1_fitting rfl hdX1_fitting ⟨rfl, rfl, by decide, by decide, by decide, by decide⟩ (by omega) rfl rfl rfl rfl (Nat.le_of_ble_eq_true rfl) dX6_kinds_30 (fun r9 σ9 τ9 h9 => ?_)
    obtain ⟨rfl, rfl, rfl⟩ := h9
    exact go_ireturn X hr hlk dX6_kinds_33 ((have hE : fitS (nI ns) (fun y9 => setS (fun z9 => allX (up2 σ 8 y9 (nI z9)) (fun z8 => toN (σ 10 z8)) (fun z8 => toN (σ 11 z8)) nr) 3) (nI i) = setS (fun z9 => allX (up2 σ 8 i (nI z9)) (fun z8 => toN (σ 10 z8)) (fun z8 => toN (σ 11 z8)) nr) 3 := (by unfold fitS; (try dsimp only); (try rw [toN_nI (k := i) (by omega)]); exact (cif_t c8).trans (rfl)); ⟨hE, rfl, rfl⟩))
  · skip
    refine go_iconst X (v := (-1)) dX6_kinds_11 (by decide) ?_
    exact go_ireturn X hr hlk dX6_kinds_12 ((have hE : fitS (nI ns) (fun y9 => setS (fun z9 => allX (up2 σ 8 y9 (nI z9)) (fun z8 => toN (σ 10 z8)) (fun z8 => toN (σ 11 z8)) nr) 3) a = (-1) := (by unfold fitS; (try dsimp only); exact (cif_f c8).trans (rfl)); ⟨hE, rfl, rfl⟩))

