/-! texts -/
def cdS (ce : Nat → Int32) (fr sz q : Nat) : Int32 := if q < sz then ce (fr + q) else -9
def kndS (x : Int32) : Int32 := if x = 115 then 0 else if x = 109 then 1 else if x = 104 then 2 else -9
def dg (x hi : Int32) : Prop := 48 ≤ x ∧ x ≤ hi
noncomputable def pEnd (n nd a : Nat) : Int32 × Nat := (cif (0 < a) (cif (1 + 4 * nd + 3 * a = n) (-1) (nI (1 + 4 * nd + 3 * a))) (nI (1 + 4 * nd + 3 * a)), a)
noncomputable def pSub (c : Nat → Int32) (n nd : Nat) : Nat → Nat → Int32 × Nat
  | 0, a => pEnd n nd a
  | k + 1, a => cif (c (1 + 4 * nd + 3 * a) = 59) (cif (kndS (c (1 + 4 * nd + 3 * a + 1)) = -9) (nI (1 + 4 * nd + 3 * a + 1), a) (cif (dg (c (1 + 4 * nd + 3 * a + 2)) 51) (pSub c n nd k (a + 1)) (nI (1 + 4 * nd + 3 * a + 2), a))) (pEnd n nd a)
noncomputable def pAft (c : Nat → Int32) (n d : Nat) : Int32 × Nat × Nat := cif (d = 0) (nI 1, 0, 0) ((pSub c n d 4 0).1, d, (pSub c n d 4 0).2)
noncomputable def pDeed (c : Nat → Int32) (n : Nat) : Nat → Nat → Int32 × Nat × Nat
  | 0, d => pAft c n d
  | k + 1, d => cif (c (1 + 4 * d) = 47) (cif (dg (c (1 + 4 * d + 1)) 57) (cif (dg (c (1 + 4 * d + 2)) 57) (cif (dg (c (1 + 4 * d + 3)) 57) (pDeed c n k (d + 1)) (nI (1 + 4 * d + 3), 0, 0)) (nI (1 + 4 * d + 2), 0, 0)) (nI (1 + 4 * d + 1), 0, 0)) (pAft c n d)
noncomputable def pText (c : Nat → Int32) (n : Nat) : Int32 × Nat × Nat := cif (c 0 = 112) (pDeed c n 5 0) (0, 0, 0)
theorem pDeed_1 {c : Nat → Int32} {n k d : Nat} (h : 0 < k) : pDeed c n k d = cif (c (1 + 4 * d) = 47) (cif (dg (c (1 + 4 * d + 1)) 57) (cif (dg (c (1 + 4 * d + 2)) 57) (cif (dg (c (1 + 4 * d + 3)) 57) (pDeed c n (k - 1) (d + 1)) (nI (1 + 4 * d + 3), 0, 0)) (nI (1 + 4 * d + 2), 0, 0)) (nI (1 + 4 * d + 1), 0, 0)) (pAft c n d) := by
  obtain ⟨j, rfl⟩ : ∃ j, k = j + 1 := ⟨k - 1, by omega⟩
  rfl
theorem pSub_1 {c : Nat → Int32} {n nd k a : Nat} (h : 0 < k) : pSub c n nd k a = cif (c (1 + 4 * nd + 3 * a) = 59) (cif (kndS (c (1 + 4 * nd + 3 * a + 1)) = -9) (nI (1 + 4 * nd + 3 * a + 1), a) (cif (dg (c (1 + 4 * nd + 3 * a + 2)) 51) (pSub c n nd (k - 1) (a + 1)) (nI (1 + 4 * nd + 3 * a + 2), a))) (pEnd n nd a) := by
  obtain ⟨j, rfl⟩ : ∃ j, k = j + 1 := ⟨k - 1, by omega⟩
  rfl
def offT (σ ρ : vSg) (fr sz : Nat) : Prop := (∀ q, q ≠ 58 → ρ q = σ q) ∧ ρ 58 1 = nI fr ∧ ρ 58 2 = nI sz
theorem offT_up {σ ρ : vSg} {fr sz j : Nat} {v : Int32} (h : offT σ ρ fr sz) (h1 : j ≠ 1) (h2 : j ≠ 2) : offT σ (up2 ρ 58 j v) fr sz := ⟨fun q hq => by rw [up2_row hq]; exact h.1 q hq, by rw [up2_ne (by omega)]; exact h.2.1, by rw [up2_ne (by omega)]; exact h.2.2⟩
theorem hdX4_code : yX4_code.cls = RX4 ∧ yX4_code.cls ≠ "java/lang/invoke/MethodHandle" ∧ yX4_code.cls ≠ "java/lang/invoke/VarHandle" ∧ (parseMethodDescriptor yX4_code.desc).map (fun d => d.parameters.length) = some 1 := by decide +kernel
set_option maxHeartbeats 4000000 in
set_option maxRecDepth 100000 in
theorem kX4_code (l : Launch) (D : va_G) (cs : Nat → ClassId) (ad : Nat → Nat) (N kt : Nat) (hN : 59 ≤ N) (σ : vSg) (τ : vTa) (q : Nat) (fr : Nat) (sz : Nat) (ce : Nat → Int32)   (hkt : kt < 4) (hfr : σ 58 1 = nI fr) (hsz : σ 58 2 = nI sz) (hce : σ (16 + kt) = ce) (hle : fr + sz ≤ 60) (hq : q < 1000) : CtI l yX4_code wsX4_code ({ frames := 1, cells := 0, slots := 0, locals := 21 }) D cs ad N (shP kt) [.ref (ad (58)), .int (nI q)] σ τ 0 0 (fun r9 σ9 τ9 => cdS ce fr sz q = r9 ∧ σ = σ9 ∧ τ = τ9) := by
  refine ct_I (cc := cX4_code) (maxL := 2) (by decide) rfl (Nat.le_of_ble_eq_true rfl) rfl rfl ?_
  intro p e s m args below meth c A X hr hlk
  refine go_iload_n X dX4_code_0 1 rfl rfl ?_
  refine go_aload_n X dX4_code_1 0 rfl rfl ?_
  refine go_geti X (n := 58) (j := 2) (by omega) rfl rfl (fun _ h9 => List.mem_cons_of_mem _ (List.mem_append_left _ (List.mem_append_right _ h9))) (by decide) (List.mem_cons_of_mem _ (List.mem_append_left _ (List.mem_append_left _ (List.mem_of_getElem? (i := 0) rfl)))) rfl dX4_code_2 ?_
  refine go_topi (v := nI sz) (hsz) ?_
  refine go_callNI X (As := [.int (nI q), .int (nI sz)]) (rest := []) (kX6_isBelow l D cs ad N kt (by omega) σ τ (nI q) (nI sz)) gX4_code_X6_isBelow_n39 rfl X.2.2.2.2.2 (List.mem_cons_of_mem _ (List.mem_append_left _ (List.mem_append_left _ (List.mem_of_getElem? (i := 5) rfl)))) (List.mem_cons_of_mem _ (List.mem_append_left _ (List.mem_append_left _ (List.mem_of_getElem? (i := 4) rfl)))) hdX6_isBelow ⟨rfl, rfl, by decide, by decide, by decide, by decide⟩ rfl rfl (Nat.le_of_ble_eq_true rfl) dX4_code_5 (fun r9 σ9 τ9 h9 => ?_)
  obtain ⟨rfl, rfl, rfl⟩ := h9
  refine go_ifb_eq X (tgt := 28) dX4_code_8 (by decide) (fun c8 => ?_) (fun c8 => ?_)
  · skip
    refine go_bipush X (v := (-9)) dX4_code_28 (by decide) ?_
    exact go_ireturn X hr hlk dX4_code_30 (⟨if_neg (fun h => c8 (isB_nI h (by omega))), rfl, rfl⟩)
  · skip
    have hqs := (isB_iff (by omega) (by omega)).mp c8
    refine go_aload_n X dX4_code_11 0 rfl rfl ?_
    refine go_getr X (n := 58) (j := 0) (by omega) rfl rfl (fun _ h9 => List.mem_cons_of_mem _ (List.mem_append_left _ (List.mem_append_right _ h9))) (by decide) (List.mem_cons_of_mem _ (List.mem_append_left _ (List.mem_append_left _ (List.mem_of_getElem? (i := 1) rfl)))) rfl dX4_code_12 ?_
    refine go_getr X (n := 12 + kt) (j := 0) (by omega) (sh_row (by omega)) rfl (fun _ h9 => List.mem_cons_of_mem _ (List.mem_append_right _ h9)) (by decide) (List.mem_cons_of_mem _ (List.mem_append_left _ (List.mem_append_left _ (List.mem_of_getElem? (i := 2) rfl)))) rfl dX4_code_15 ?_
    refine go_aload_n X dX4_code_18 0 rfl rfl ?_
    refine go_geti X (n := 58) (j := 1) (by omega) rfl rfl (fun _ h9 => List.mem_cons_of_mem _ (List.mem_append_left _ (List.mem_append_right _ h9))) (by decide) (List.mem_cons_of_mem _ (List.mem_append_left _ (List.mem_append_left _ (List.mem_of_getElem? (i := 3) rfl)))) rfl dX4_code_19 ?_
    refine go_topi (v := nI fr) (hfr) ?_
    refine go_iload_n X dX4_code_22 1 rfl rfl ?_
    refine go_iadd X dX4_code_23 ?_
    refine go_topi (v := nI (fr + q)) (nI_add fr q) ?_
    refine go_iald X (n := 16 + kt) (k := fr + q) (by omega) (sh_cells (by omega)) rfl (by omega) (by omega) dX4_code_24 ?_
    refine go_topi (v := ce (fr + q)) (congrFun hce _) ?_
    refine go_goto X (tgt := 30) dX4_code_25 (by decide) ?_
    exact go_ireturn X hr hlk dX4_code_30 (⟨if_pos hqs, rfl, rfl⟩)

theorem hdX4_isDigit : yX4_isDigit.cls = RX4 ∧ yX4_isDigit.cls ≠ "java/lang/invoke/MethodHandle" ∧ yX4_isDigit.cls ≠ "java/lang/invoke/VarHandle" ∧ (parseMethodDescriptor yX4_isDigit.desc).map (fun d => d.parameters.length) = some 2 := by decide +kernel
set_option maxHeartbeats 4000000 in
set_option maxRecDepth 100000 in
theorem kX4_isDigit (l : Launch) (D : va_G) (cs : Nat → ClassId) (ad : Nat → Nat) (N kt : Nat) (hN : 59 ≤ N) (σ : vSg) (τ : vTa) (q : Nat) (la : Int32) (fr : Nat) (sz : Nat) (ce : Nat → Int32)   (hkt : kt < 4) (hfr : σ 58 1 = nI fr) (hsz : σ 58 2 = nI sz) (hce : σ (16 + kt) = ce) (hle : fr + sz ≤ 60) (hq : q < 1000) : CtI l yX4_isDigit wsX4_isDigit ({ frames := 2, cells := 0, slots := 0, locals := 42 }) D cs ad N (shP kt) [.ref (ad (58)), .int (nI q), .int la] σ τ 0 0 (fun r9 σ9 τ9 => b2i (dg (cdS ce fr sz q) la) = r9 ∧ σ = σ9 ∧ τ = τ9) := by
  refine ct_I (cc := cX4_isDigit) (maxL := 4) (by decide) rfl (Nat.le_of_ble_eq_true rfl) rfl rfl ?_
  intro p e s m args below meth c A X hr hlk
  refine go_aload_n X dX4_isDigit_0 0 rfl rfl ?_
  refine go_iload_n X dX4_isDigit_1 1 rfl rfl ?_
  refine go_callVI X (n := 58) (As := [.int (nI q)]) (rest := []) (kX4_code l D cs ad N kt (by omega) σ τ q fr sz ce (by omega) hfr hsz hce (by omega) (by omega)) gX4_isDigit_X4_code rfl hdX4_code ⟨rfl, rfl, by decide, by decide, by decide, by decide⟩ (by omega) rfl rfl rfl rfl (Nat.le_of_ble_eq_true rfl) dX4_isDigit_2 (fun r9 σ9 τ9 h9 => ?_)
  obtain ⟨rfl, rfl, rfl⟩ := h9
  refine go_istore_n X (lv2 := [(3, .int (cdS ce fr sz q)), (0, .ref (ad (58))), (1, .int (nI q)), (2, .int la)]) dX4_isDigit_5 rfl (by decide) rfl ?_
  refine go_iload_n X dX4_isDigit_6 0 rfl rfl ?_
  refine go_bipush X (v := 48) dX4_isDigit_7 (by decide) ?_
  refine go_icmp_lt X (tgt := 21) dX4_isDigit_9 (by decide) (fun c9 => ?_) (fun c9 => ?_)
  · skip
    refine go_iconst X (v := 0) dX4_isDigit_21 (by decide) ?_
    exact go_zreturn X hr hlk dX4_isDigit_22 (by first | exact Or.inl rfl | exact Or.inr rfl) (⟨b2i_f (fun q => absurd q.1 (Int32.not_le.mpr c9)), rfl, rfl⟩)
  · skip
    refine go_iload_n X dX4_isDigit_12 0 rfl rfl ?_
    refine go_iload_n X dX4_isDigit_13 3 rfl rfl ?_
    refine go_icmp_gt X (tgt := 21) dX4_isDigit_14 (by decide) (fun c14 => ?_) (fun c14 => ?_)
    · skip
      refine go_iconst X (v := 0) dX4_isDigit_21 (by decide) ?_
      exact go_zreturn X hr hlk dX4_isDigit_22 (by first | exact Or.inl rfl | exact Or.inr rfl) (⟨b2i_f (fun q => absurd q.2 (Int32.not_le.mpr c14)), rfl, rfl⟩)
    · skip
      refine go_iconst X (v := 1) dX4_isDigit_17 (by decide) ?_
      refine go_goto X (tgt := 22) dX4_isDigit_18 (by decide) ?_
      exact go_zreturn X hr hlk dX4_isDigit_22 (by first | exact Or.inl rfl | exact Or.inr rfl) (⟨b2i_t ⟨Int32.not_lt.mp c9, Int32.not_lt.mp c14⟩, rfl, rfl⟩)

theorem hdX4_kindAt : yX4_kindAt.cls = RX4 ∧ yX4_kindAt.cls ≠ "java/lang/invoke/MethodHandle" ∧ yX4_kindAt.cls ≠ "java/lang/invoke/VarHandle" ∧ (parseMethodDescriptor yX4_kindAt.desc).map (fun d => d.parameters.length) = some 1 := by decide +kernel
set_option maxHeartbeats 4000000 in
set_option maxRecDepth 100000 in
theorem kX4_kindAt (l : Launch) (D : va_G) (cs : Nat → ClassId) (ad : Nat → Nat) (N kt : Nat) (hN : 59 ≤ N) (σ : vSg) (τ : vTa) (q : Nat) (fr : Nat) (sz : Nat) (ce : Nat → Int32)   (hkt : kt < 4) (hfr : σ 58 1 = nI fr) (hsz : σ 58 2 = nI sz) (hce : σ (16 + kt) = ce) (hle : fr + sz ≤ 60) (hq : q < 1000) : CtI l yX4_kindAt wsX4_kindAt ({ frames := 2, cells := 0, slots := 0, locals := 42 }) D cs ad N (shP kt) [.ref (ad (58)), .int (nI q)] σ τ 0 0 (fun r9 σ9 τ9 => kndS (cdS ce fr sz q) = r9 ∧ σ = σ9 ∧ τ = τ9) := by
  refine ct_I (cc := cX4_kindAt) (maxL := 2) (by decide) rfl (Nat.le_of_ble_eq_true rfl) rfl rfl ?_
  intro p e s m args below meth c A X hr hlk
  refine go_aload_n X dX4_kindAt_0 0 rfl rfl ?_
  refine go_iload_n X dX4_kindAt_1 1 rfl rfl ?_
  refine go_callVI X (n := 58) (As := [.int (nI q)]) (rest := []) (kX4_code l D cs ad N kt (by omega) σ τ q fr sz ce (by omega) hfr hsz hce (by omega) (by omega)) gX4_kindAt_X4_code rfl hdX4_code ⟨rfl, rfl, by decide, by decide, by decide, by decide⟩ (by omega) rfl rfl rfl rfl (Nat.le_of_ble_eq_true rfl) dX4_kindAt_2 (fun r9 σ9 τ9 h9 => ?_)
  obtain ⟨rfl, rfl, rfl⟩ := h9
  rcases Classical.em (cdS ce fr sz q = 104) with e5_104 | n5_104
  · skip
    refine go_lookup X (tgt := 44) (off := 39) dX4_kindAt_5 (by decide) (by rw [e5_104]; decide) (by decide) ?_
    refine go_iconst X (v := 2) dX4_kindAt_44 (by decide) ?_
    exact go_ireturn X hr hlk dX4_kindAt_45 (⟨by rw [e5_104]; rfl, rfl, rfl⟩)
  · skip
    rcases Classical.em (cdS ce fr sz q = 109) with e5_109 | n5_109
    · skip
      refine go_lookup X (tgt := 42) (off := 37) dX4_kindAt_5 (by decide) (by rw [e5_109]; decide) (by decide) ?_
      refine go_iconst X (v := 1) dX4_kindAt_42 (by decide) ?_
      exact go_ireturn X hr hlk dX4_kindAt_43 (⟨by rw [e5_109]; rfl, rfl, rfl⟩)
    · skip
      rcases Classical.em (cdS ce fr sz q = 115) with e5_115 | n5_115
      · skip
        refine go_lookup X (tgt := 40) (off := 35) dX4_kindAt_5 (by decide) (by rw [e5_115]; decide) (by decide) ?_
        refine go_iconst X (v := 0) dX4_kindAt_40 (by decide) ?_
        exact go_ireturn X hr hlk dX4_kindAt_41 (⟨by rw [e5_115]; rfl, rfl, rfl⟩)
      · skip
        refine go_lookup X (tgt := 46) (off := 41) dX4_kindAt_5 (by decide) ((lv_osw n5_104 (by decide)).trans ((lv_osw n5_109 (by decide)).trans ((lv_osw n5_115 (by decide)).trans (rfl)))) (by decide) ?_
        refine go_bipush X (v := (-9)) dX4_kindAt_46 (by decide) ?_
        exact go_ireturn X hr hlk dX4_kindAt_48 (⟨by unfold kndS; rw [if_neg n5_115, if_neg n5_109, if_neg n5_104], rfl, rfl⟩)

theorem hdX4_digitOfDeed : yX4_digitOfDeed.cls = RX4 ∧ yX4_digitOfDeed.cls ≠ "java/lang/invoke/MethodHandle" ∧ yX4_digitOfDeed.cls ≠ "java/lang/invoke/VarHandle" ∧ (parseMethodDescriptor yX4_digitOfDeed.desc).map (fun d => d.parameters.length) = some 2 := by decide +kernel
set_option maxHeartbeats 4000000 in
set_option maxRecDepth 100000 in
theorem kX4_digitOfDeed (l : Launch) (D : va_G) (cs : Nat → ClassId) (ad : Nat → Nat) (N kt : Nat) (hN : 59 ≤ N) (σ : vSg) (τ : vTa) (d : Nat) (w : Nat) (fr : Nat) (sz : Nat) (ce : Nat → Int32)   (hkt : kt < 4) (hfr : σ 58 1 = nI fr) (hsz : σ 58 2 = nI sz) (hce : σ (16 + kt) = ce) (hle : fr + sz ≤ 60) (hd : d < 5) (hw : w < 3) : CtI l yX4_digitOfDeed wsX4_digitOfDeed ({ frames := 2, cells := 0, slots := 0, locals := 42 }) D cs ad N (shP kt) [.ref (ad (58)), .int (nI d), .int (nI w)] σ τ 0 0 (fun r9 σ9 τ9 => cdS ce fr sz (4 * d + 2 + w) - 48 = r9 ∧ σ = σ9 ∧ τ = τ9) := by
  refine ct_I (cc := cX4_digitOfDeed) (maxL := 3) (by decide) rfl (Nat.le_of_ble_eq_true rfl) rfl rfl ?_
  intro p e s m args below meth c A X hr hlk
  refine go_aload_n X dX4_digitOfDeed_0 0 rfl rfl ?_
  refine go_iconst X (v := 4) dX4_digitOfDeed_1 (by decide) ?_
  refine go_iload_n X dX4_digitOfDeed_2 1 rfl rfl ?_
  refine go_imul X dX4_digitOfDeed_3 ?_
  refine go_topi (v := nI (4 * d)) (pk_mul 4 d) ?_
  refine go_iconst X (v := 2) dX4_digitOfDeed_4 (by decide) ?_
  refine go_iadd X dX4_digitOfDeed_5 ?_
  refine go_topi (v := nI ((4 * d) + 2)) (nI_add (4 * d) 2) ?_
  refine go_iload_n X dX4_digitOfDeed_6 2 rfl rfl ?_
  refine go_iadd X dX4_digitOfDeed_7 ?_
  refine go_topi (v := nI (((4 * d) + 2) + w)) (nI_add ((4 * d) + 2) w) ?_
  refine go_callVI X (n := 58) (As := [.int (nI (((4 * d) + 2) + w))]) (rest := []) (kX4_code l D cs ad N kt (by omega) σ τ (((4 * d) + 2) + w) fr sz ce (by omega) hfr hsz hce (by omega) (by omega)) gX4_digitOfDeed_X4_code rfl hdX4_code ⟨rfl, rfl, by decide, by decide, by decide, by decide⟩ (by omega) rfl rfl rfl rfl (Nat.le_of_ble_eq_true rfl) dX4_digitOfDeed_8 (fun r9 σ9 τ9 h9 => ?_)
  obtain ⟨rfl, rfl, rfl⟩ := h9
  refine go_bipush X (v := 48) dX4_digitOfDeed_11 (by decide) ?_
  refine go_isub X dX4_digitOfDeed_13 ?_
  exact go_ireturn X hr hlk dX4_digitOfDeed_14 (⟨rfl, rfl, rfl⟩)

theorem hdX4_kindOfSubject : yX4_kindOfSubject.cls = RX4 ∧ yX4_kindOfSubject.cls ≠ "java/lang/invoke/MethodHandle" ∧ yX4_kindOfSubject.cls ≠ "java/lang/invoke/VarHandle" ∧ (parseMethodDescriptor yX4_kindOfSubject.desc).map (fun d => d.parameters.length) = some 1 := by decide +kernel
set_option maxHeartbeats 4000000 in
set_option maxRecDepth 100000 in
theorem kX4_kindOfSubject (l : Launch) (D : va_G) (cs : Nat → ClassId) (ad : Nat → Nat) (N kt : Nat) (hN : 59 ≤ N) (σ : vSg) (τ : vTa) (a : Nat) (fr : Nat) (sz : Nat) (ce : Nat → Int32) (nd : Nat)   (hkt : kt < 4) (hfr : σ 58 1 = nI fr) (hsz : σ 58 2 = nI sz) (hce : σ (16 + kt) = ce) (hle : fr + sz ≤ 60) (hnd : σ 58 3 = nI nd) (hn5 : nd ≤ 5) (ha : a < 4) : CtI l yX4_kindOfSubject wsX4_kindOfSubject ({ frames := 3, cells := 0, slots := 0, locals := 63 }) D cs ad N (shP kt) [.ref (ad (58)), .int (nI a)] σ τ 0 0 (fun r9 σ9 τ9 => kndS (cdS ce fr sz (4 * nd + 3 * a + 2)) = r9 ∧ σ = σ9 ∧ τ = τ9) := by
  refine ct_I (cc := cX4_kindOfSubject) (maxL := 2) (by decide) rfl (Nat.le_of_ble_eq_true rfl) rfl rfl ?_
  intro p e s m args below meth c A X hr hlk
  refine go_aload_n X dX4_kindOfSubject_0 0 rfl rfl ?_
  refine go_iconst X (v := 4) dX4_kindOfSubject_1 (by decide) ?_
  refine go_aload_n X dX4_kindOfSubject_2 0 rfl rfl ?_
  refine go_geti X (n := 58) (j := 3) (by omega) rfl rfl (fun _ h9 => List.mem_cons_of_mem _ (List.mem_append_left _ (List.mem_append_right _ h9))) (by decide) (List.mem_cons_of_mem _ (List.mem_append_left _ (List.mem_append_left _ (List.mem_of_getElem? (i := 0) rfl)))) rfl dX4_kindOfSubject_3 ?_
  refine go_topi (v := nI nd) (hnd) ?_
  refine go_imul X dX4_kindOfSubject_6 ?_
  refine go_topi (v := nI (4 * nd)) (pk_mul 4 nd) ?_
  refine go_iconst X (v := 3) dX4_kindOfSubject_7 (by decide) ?_
  refine go_iload_n X dX4_kindOfSubject_8 1 rfl rfl ?_
  refine go_imul X dX4_kindOfSubject_9 ?_
  refine go_topi (v := nI (3 * a)) (pk_mul 3 a) ?_
  refine go_iadd X dX4_kindOfSubject_10 ?_
  refine go_topi (v := nI ((4 * nd) + (3 * a))) (nI_add (4 * nd) (3 * a)) ?_
  refine go_iconst X (v := 2) dX4_kindOfSubject_11 (by decide) ?_
  refine go_iadd X dX4_kindOfSubject_12 ?_
  refine go_topi (v := nI (((4 * nd) + (3 * a)) + 2)) (nI_add ((4 * nd) + (3 * a)) 2) ?_
  refine go_callVI X (n := 58) (As := [.int (nI (((4 * nd) + (3 * a)) + 2))]) (rest := []) (kX4_kindAt l D cs ad N kt (by omega) σ τ (((4 * nd) + (3 * a)) + 2) fr sz ce (by omega) hfr hsz hce (by omega) (by omega)) gX4_kindOfSubject_X4_kindAt rfl hdX4_kindAt ⟨rfl, rfl, by decide, by decide, by decide, by decide⟩ (by omega) rfl rfl rfl rfl (Nat.le_of_ble_eq_true rfl) dX4_kindOfSubject_13 (fun r9 σ9 τ9 h9 => ?_)
  obtain ⟨rfl, rfl, rfl⟩ := h9
  exact go_ireturn X hr hlk dX4_kindOfSubject_16 (⟨rfl, rfl, rfl⟩)

theorem hdX4_papersOfSubject : yX4_papersOfSubject.cls = RX4 ∧ yX4_papersOfSubject.cls ≠ "java/lang/invoke/MethodHandle" ∧ yX4_papersOfSubject.cls ≠ "java/lang/invoke/VarHandle" ∧ (parseMethodDescriptor yX4_papersOfSubject.desc).map (fun d => d.parameters.length) = some 1 := by decide +kernel
set_option maxHeartbeats 4000000 in
set_option maxRecDepth 100000 in
theorem kX4_papersOfSubject (l : Launch) (D : va_G) (cs : Nat → ClassId) (ad : Nat → Nat) (N kt : Nat) (hN : 59 ≤ N) (σ : vSg) (τ : vTa) (a : Nat) (fr : Nat) (sz : Nat) (ce : Nat → Int32) (nd : Nat)   (hkt : kt < 4) (hfr : σ 58 1 = nI fr) (hsz : σ 58 2 = nI sz) (hce : σ (16 + kt) = ce) (hle : fr + sz ≤ 60) (hnd : σ 58 3 = nI nd) (hn5 : nd ≤ 5) (ha : a < 4) : CtI l yX4_papersOfSubject wsX4_papersOfSubject ({ frames := 2, cells := 0, slots := 0, locals := 42 }) D cs ad N (shP kt) [.ref (ad (58)), .int (nI a)] σ τ 0 0 (fun r9 σ9 τ9 => cdS ce fr sz (4 * nd + 3 * a + 3) - 48 = r9 ∧ σ = σ9 ∧ τ = τ9) := by
  refine ct_I (cc := cX4_papersOfSubject) (maxL := 2) (by decide) rfl (Nat.le_of_ble_eq_true rfl) rfl rfl ?_
  intro p e s m args below meth c A X hr hlk
  refine go_aload_n X dX4_papersOfSubject_0 0 rfl rfl ?_
  refine go_iconst X (v := 4) dX4_papersOfSubject_1 (by decide) ?_
  refine go_aload_n X dX4_papersOfSubject_2 0 rfl rfl ?_
  refine go_geti X (n := 58) (j := 3) (by omega) rfl rfl (fun _ h9 => List.mem_cons_of_mem _ (List.mem_append_left _ (List.mem_append_right _ h9))) (by decide) (List.mem_cons_of_mem _ (List.mem_append_left _ (List.mem_append_left _ (List.mem_of_getElem? (i := 0) rfl)))) rfl dX4_papersOfSubject_3 ?_
  refine go_topi (v := nI nd) (hnd) ?_
  refine go_imul X dX4_papersOfSubject_6 ?_
  refine go_topi (v := nI (4 * nd)) (pk_mul 4 nd) ?_
  refine go_iconst X (v := 3) dX4_papersOfSubject_7 (by decide) ?_
  refine go_iload_n X dX4_papersOfSubject_8 1 rfl rfl ?_
  refine go_imul X dX4_papersOfSubject_9 ?_
  refine go_topi (v := nI (3 * a)) (pk_mul 3 a) ?_
  refine go_iadd X dX4_papersOfSubject_10 ?_
  refine go_topi (v := nI ((4 * nd) + (3 * a))) (nI_add (4 * nd) (3 * a)) ?_
  refine go_iconst X (v := 3) dX4_papersOfSubject_11 (by decide) ?_
  refine go_iadd X dX4_papersOfSubject_12 ?_
  refine go_topi (v := nI (((4 * nd) + (3 * a)) + 3)) (nI_add ((4 * nd) + (3 * a)) 3) ?_
  refine go_callVI X (n := 58) (As := [.int (nI (((4 * nd) + (3 * a)) + 3))]) (rest := []) (kX4_code l D cs ad N kt (by omega) σ τ (((4 * nd) + (3 * a)) + 3) fr sz ce (by omega) hfr hsz hce (by omega) (by omega)) gX4_papersOfSubject_X4_code rfl hdX4_code ⟨rfl, rfl, by decide, by decide, by decide, by decide⟩ (by omega) rfl rfl rfl rfl (Nat.le_of_ble_eq_true rfl) dX4_papersOfSubject_13 (fun r9 σ9 τ9 h9 => ?_)
  obtain ⟨rfl, rfl, rfl⟩ := h9
  refine go_bipush X (v := 48) dX4_papersOfSubject_16 (by decide) ?_
  refine go_isub X dX4_papersOfSubject_18 ?_
  exact go_ireturn X hr hlk dX4_papersOfSubject_19 (⟨rfl, rfl, rfl⟩)

theorem nI_nem1 {t : Nat} (h : t < 2 ^ 31) : ¬ nI t = -1 := fun q => by
  have := congrArg Int32.toInt q
  rw [nI_toInt h, show (-1 : Int32).toInt = -1 from rfl] at this
  omega
theorem hdX4_firstFault : yX4_firstFault.cls = RX4 ∧ yX4_firstFault.cls ≠ "java/lang/invoke/MethodHandle" ∧ yX4_firstFault.cls ≠ "java/lang/invoke/VarHandle" ∧ (parseMethodDescriptor yX4_firstFault.desc).map (fun d => d.parameters.length) = some 0 := by decide +kernel
set_option maxHeartbeats 4000000 in
set_option maxRecDepth 100000 in
theorem kX4_firstFault (l : Launch) (D : va_G) (cs : Nat → ClassId) (ad : Nat → Nat) (N kt : Nat) (hN : 59 ≤ N) (σ : vSg) (τ : vTa) (fr : Nat) (sz : Nat) (ce : Nat → Int32)  (hkt : kt < 4) (hfr : σ 58 1 = nI fr) (hsz : σ 58 2 = nI sz) (hce : σ (16 + kt) = ce) (hle : fr + sz ≤ 60) : CtI l yX4_firstFault wsX4_firstFault ({ frames := 3, cells := 0, slots := 0, locals := 65 }) D cs ad N (shP kt) [.ref (ad (58))] σ τ 0 0 (fun r9 σ9 τ9 => (pText (cdS ce fr sz) sz).1 = r9 ∧ offT σ σ9 fr sz ∧ ((pText (cdS ce fr sz) sz).1 = -1 → σ9 58 3 = nI (pText (cdS ce fr sz) sz).2.1 ∧ σ9 58 4 = nI (pText (cdS ce fr sz) sz).2.2) ∧ τ = τ9) := by
  refine ct_I (cc := cX4_firstFault) (maxL := 3) (by decide) rfl (Nat.le_of_ble_eq_true rfl) rfl rfl ?_
  intro p e s m args below meth c A X hr hlk
  refine go_aload_n X dX4_firstFault_0 0 rfl rfl ?_
  refine go_iconst X (v := 0) dX4_firstFault_1 (by decide) ?_
  refine go_callVI X (n := 58) (As := [.int 0]) (rest := []) (kX4_code l D cs ad N kt (by omega) σ τ 0 fr sz ce (by omega) hfr hsz hce (by omega) (by omega)) gX4_firstFault_X4_code rfl hdX4_code ⟨rfl, rfl, by decide, by decide, by decide, by decide⟩ (by omega) rfl rfl rfl rfl (Nat.le_of_ble_eq_true rfl) dX4_firstFault_2 (fun r9 σ9 τ9 h9 => ?_)
  obtain ⟨rfl, rfl, rfl⟩ := h9
  refine go_bipush X (v := 112) dX4_firstFault_5 (by decide) ?_
  refine go_icmp_eq X (tgt := 12) dX4_firstFault_7 (by decide) (fun c7 => ?_) (fun c7 => ?_)
  · skip
    refine go_iconst X (v := 1) dX4_firstFault_12 (by decide) ?_
    refine go_istore_n X (lv2 := [(1, .int 1), (0, .ref (ad (58)))]) dX4_firstFault_13 rfl (by decide) rfl ?_
    refine go_aload_n X dX4_firstFault_14 1 rfl rfl ?_
    refine go_iconst X (v := 0) dX4_firstFault_15 (by decide) ?_
    refine go_puti X (n := 58) (j := 3) (ty := .int) (by omega) rfl rfl (fun _ h9 => List.mem_cons_of_mem _ (List.mem_append_left _ (List.mem_append_right _ h9))) (by decide) (List.mem_cons_of_mem _ (List.mem_append_left _ (List.mem_append_left _ (List.mem_of_getElem? (i := 0) rfl)))) rfl tyX4 tyX4_ok nmX4 rfl (by decide +kernel) rfl rfl dX4_firstFault_16 ?_
    refine go_loop (ι := Nat × vSg) (fun i9 => (i9.1 ≤ 5) ∧ (offT σ i9.2 fr sz) ∧ (i9.2 58 3 = nI i9.1) ∧ (pText (cdS ce fr sz) sz = pDeed (cdS ce fr sz) sz (5 - i9.1) i9.1)) (fun i9 => 5 - i9.1) (fun i9 => i9.2) (fun i9 => τ) (fun i9 => [(1, .int (nI (1 + 4 * i9.1))), (0, .ref (ad (58)))]) (fun i9 => []) (0, (up2 σ 58 3 0)) (by (try dsimp only); exact ⟨by omega, offT_up ⟨fun _ _ => rfl, hfr, hsz⟩ (by omega) (by omega), up2_self, cif_t c7⟩) ?_
    intro i9 hi9 ih19
    obtain ⟨d, ρ⟩ := i9
    (try dsimp only at hi9); (try dsimp only at ih19); (try dsimp only)
    obtain ⟨hd5, hof, hd3, hp⟩ := hi9
    refine go_aload_n X dX4_firstFault_19 1 rfl rfl ?_
    refine go_geti X (n := 58) (j := 3) (by omega) rfl rfl (fun _ h9 => List.mem_cons_of_mem _ (List.mem_append_left _ (List.mem_append_right _ h9))) (by decide) (List.mem_cons_of_mem _ (List.mem_append_left _ (List.mem_append_left _ (List.mem_of_getElem? (i := 0) rfl)))) rfl dX4_firstFault_20 ?_
    refine go_topi (v := nI d) (hd3) ?_
    refine go_iconst X (v := 5) dX4_firstFault_23 (by decide) ?_
    refine go_icmpn_ge X (tgt := 82) dX4_firstFault_24 (by decide) (a := d) (b := 5) rfl rfl (by omega) (by omega) (fun c24 => ?_) (fun c24 => ?_)
    · skip
      have hpa : pText (cdS ce fr sz) sz = pAft (cdS ce fr sz) sz d := by rw [hp, show 5 - d = 0 by omega]; rfl
      refine go_aload_n X dX4_firstFault_82 1 rfl rfl ?_
      refine go_geti X (n := 58) (j := 3) (by omega) rfl rfl (fun _ h9 => List.mem_cons_of_mem _ (List.mem_append_left _ (List.mem_append_right _ h9))) (by decide) (List.mem_cons_of_mem _ (List.mem_append_left _ (List.mem_append_left _ (List.mem_of_getElem? (i := 0) rfl)))) rfl dX4_firstFault_83 ?_
      refine go_topi (v := nI d) (hd3) ?_
      refine go_ifn_ne X (tgt := 91) dX4_firstFault_86 (by decide) (a := d) rfl (by omega) (fun c86 => ?_) (fun c86 => ?_)
      · skip
        have hps := hpa.trans (cif_f c86)
        refine go_aload_n X dX4_firstFault_91 1 rfl rfl ?_
        refine go_iconst X (v := 0) dX4_firstFault_92 (by decide) ?_
        refine go_puti X (n := 58) (j := 4) (ty := .int) (by omega) rfl rfl (fun _ h9 => List.mem_cons_of_mem _ (List.mem_append_left _ (List.mem_append_right _ h9))) (by decide) (List.mem_cons_of_mem _ (List.mem_append_left _ (List.mem_append_left _ (List.mem_of_getElem? (i := 1) rfl)))) rfl tyX4 tyX4_ok nmX4 rfl (by decide +kernel) rfl rfl dX4_firstFault_93 ?_
        refine go_loop (ι := Nat × vSg) (fun i9 => (i9.1 ≤ 4) ∧ (offT σ i9.2 fr sz) ∧ (i9.2 58 3 = nI d) ∧ (i9.2 58 4 = nI i9.1) ∧ (pSub (cdS ce fr sz) sz d 4 0 = pSub (cdS ce fr sz) sz d (4 - i9.1) i9.1)) (fun i9 => 4 - i9.1) (fun i9 => i9.2) (fun i9 => τ) (fun i9 => [(1, .int (nI (1 + 4 * d + 3 * i9.1))), (0, .ref (ad (58)))]) (fun i9 => []) (0, (up2 ρ 58 4 0)) (by (try dsimp only); exact ⟨by omega, offT_up hof (by omega) (by omega), by rw [up2_ne (by omega)]; exact hd3, up2_self, rfl⟩) ?_
        intro i9 hi9 ih96
        obtain ⟨a, ϕ⟩ := i9
        (try dsimp only at hi9); (try dsimp only at ih96); (try dsimp only)
        obtain ⟨ha4le, hof, hd3, ha4, hq⟩ := hi9
        refine go_aload_n X dX4_firstFault_96 1 rfl rfl ?_
        refine go_geti X (n := 58) (j := 4) (by omega) rfl rfl (fun _ h9 => List.mem_cons_of_mem _ (List.mem_append_left _ (List.mem_append_right _ h9))) (by decide) (List.mem_cons_of_mem _ (List.mem_append_left _ (List.mem_append_left _ (List.mem_of_getElem? (i := 1) rfl)))) rfl dX4_firstFault_97 ?_
        refine go_topi (v := nI a) (ha4) ?_
        refine go_iconst X (v := 4) dX4_firstFault_100 (by decide) ?_
        refine go_icmpn_ge X (tgt := 162) dX4_firstFault_101 (by decide) (a := a) (b := 4) rfl rfl (by omega) (by omega) (fun c101 => ?_) (fun c101 => ?_)
        · skip
          have hqe : pSub (cdS ce fr sz) sz d 4 0 = pEnd sz d a := by rw [hq, show 4 - a = 0 by omega]; rfl
          refine go_aload_n X dX4_firstFault_162 1 rfl rfl ?_
          refine go_geti X (n := 58) (j := 4) (by omega) rfl rfl (fun _ h9 => List.mem_cons_of_mem _ (List.mem_append_left _ (List.mem_append_right _ h9))) (by decide) (List.mem_cons_of_mem _ (List.mem_append_left _ (List.mem_append_left _ (List.mem_of_getElem? (i := 1) rfl)))) rfl dX4_firstFault_163 ?_
          refine go_topi (v := nI a) (ha4) ?_
          refine go_ifn_le X (tgt := 181) dX4_firstFault_166 (by decide) (a := a) rfl (by omega) (fun c166 => ?_) (fun c166 => ?_)
          · skip
            refine go_iload_n X dX4_firstFault_181 0 rfl rfl ?_
            exact go_ireturn X hr hlk dX4_firstFault_182 ((have hE : pText (cdS ce fr sz) sz = (nI (1 + 4 * d + 3 * a), d, a) := (by rw [hps, hqe]; unfold pEnd; rw [cif_f (Nat.not_lt.mpr (Nat.le_of_eq c166))]); ⟨by rw [hE], hof, fun h => by rw [hE] at h; exact absurd h (nI_nem1 (by omega)), rfl⟩))
          · skip
            refine go_iload_n X dX4_firstFault_169 0 rfl rfl ?_
            refine go_aload_n X dX4_firstFault_170 1 rfl rfl ?_
            refine go_geti X (n := 58) (j := 2) (by omega) rfl rfl (fun _ h9 => List.mem_cons_of_mem _ (List.mem_append_left _ (List.mem_append_right _ h9))) (by decide) (List.mem_cons_of_mem _ (List.mem_append_left _ (List.mem_append_left _ (List.mem_of_getElem? (i := 2) rfl)))) rfl dX4_firstFault_171 ?_
            refine go_topi (v := nI sz) (hof.2.2) ?_
            refine go_icmpn_ne X (tgt := 181) dX4_firstFault_174 (by decide) (a := 1 + 4 * d + 3 * a) (b := sz) rfl rfl (by omega) (by omega) (fun c174 => ?_) (fun c174 => ?_)
            · skip
              refine go_iload_n X dX4_firstFault_181 0 rfl rfl ?_
              exact go_ireturn X hr hlk dX4_firstFault_182 ((have hE : pText (cdS ce fr sz) sz = (nI (1 + 4 * d + 3 * a), d, a) := (by rw [hps, hqe]; unfold pEnd; rw [cif_t c166, cif_f c174]); ⟨by rw [hE], hof, fun h => by rw [hE] at h; exact absurd h (nI_nem1 (by omega)), rfl⟩))
            · skip
              refine go_iconst X (v := (-1)) dX4_firstFault_177 (by decide) ?_
              refine go_goto X (tgt := 182) dX4_firstFault_178 (by decide) ?_
              exact go_ireturn X hr hlk dX4_firstFault_182 ((have hE : pText (cdS ce fr sz) sz = (-1, d, a) := (by rw [hps, hqe]; unfold pEnd; rw [cif_t c166, cif_t c174]); ⟨by rw [hE], hof, fun _ => by rw [hE]; exact ⟨hd3, ha4⟩, rfl⟩))
        · skip
          have hsu := hq.trans (pSub_1 (by omega))
          refine go_aload_n X dX4_firstFault_104 1 rfl rfl ?_
          refine go_iload_n X dX4_firstFault_105 0 rfl rfl ?_
          refine go_callVI X (n := 58) (As := [.int (nI (1 + 4 * d + 3 * a))]) (rest := []) (kX4_code l D cs ad N kt (by omega) ϕ τ (1 + 4 * d + 3 * a) fr sz ce (by omega) hof.2.1 hof.2.2 ((hof.1 (16 + kt) (by omega)).trans hce) (by omega) (by omega)) gX4_firstFault_X4_code rfl hdX4_code ⟨rfl, rfl, by decide, by decide, by decide, by decide⟩ (by omega) rfl rfl rfl rfl (Nat.le_of_ble_eq_true rfl) dX4_firstFault_106 (fun r9 σ9 τ9 h9 => ?_)
          obtain ⟨rfl, rfl, rfl⟩ := h9
          refine go_bipush X (v := 59) dX4_firstFault_109 (by decide) ?_
          refine go_icmp_ne X (tgt := 162) dX4_firstFault_111 (by decide) (fun c111 => ?_) (fun c111 => ?_)
          · skip
            have hqe : pSub (cdS ce fr sz) sz d 4 0 = pEnd sz d a := hsu.trans (cif_f c111)
            refine go_aload_n X dX4_firstFault_162 1 rfl rfl ?_
            refine go_geti X (n := 58) (j := 4) (by omega) rfl rfl (fun _ h9 => List.mem_cons_of_mem _ (List.mem_append_left _ (List.mem_append_right _ h9))) (by decide) (List.mem_cons_of_mem _ (List.mem_append_left _ (List.mem_append_left _ (List.mem_of_getElem? (i := 1) rfl)))) rfl dX4_firstFault_163 ?_
            refine go_topi (v := nI a) (ha4) ?_
            refine go_ifn_le X (tgt := 181) dX4_firstFault_166 (by decide) (a := a) rfl (by omega) (fun c166 => ?_) (fun c166 => ?_)
            · skip
              refine go_iload_n X dX4_firstFault_181 0 rfl rfl ?_
              exact go_ireturn X hr hlk dX4_firstFault_182 ((have hE : pText (cdS ce fr sz) sz = (nI (1 + 4 * d + 3 * a), d, a) := (by rw [hps, hqe]; unfold pEnd; rw [cif_f (Nat.not_lt.mpr (Nat.le_of_eq c166))]); ⟨by rw [hE], hof, fun h => by rw [hE] at h; exact absurd h (nI_nem1 (by omega)), rfl⟩))
            · skip
              refine go_iload_n X dX4_firstFault_169 0 rfl rfl ?_
              refine go_aload_n X dX4_firstFault_170 1 rfl rfl ?_
              refine go_geti X (n := 58) (j := 2) (by omega) rfl rfl (fun _ h9 => List.mem_cons_of_mem _ (List.mem_append_left _ (List.mem_append_right _ h9))) (by decide) (List.mem_cons_of_mem _ (List.mem_append_left _ (List.mem_append_left _ (List.mem_of_getElem? (i := 2) rfl)))) rfl dX4_firstFault_171 ?_
              refine go_topi (v := nI sz) (hof.2.2) ?_
              refine go_icmpn_ne X (tgt := 181) dX4_firstFault_174 (by decide) (a := 1 + 4 * d + 3 * a) (b := sz) rfl rfl (by omega) (by omega) (fun c174 => ?_) (fun c174 => ?_)
              · skip
                refine go_iload_n X dX4_firstFault_181 0 rfl rfl ?_
                exact go_ireturn X hr hlk dX4_firstFault_182 ((have hE : pText (cdS ce fr sz) sz = (nI (1 + 4 * d + 3 * a), d, a) := (by rw [hps, hqe]; unfold pEnd; rw [cif_t c166, cif_f c174]); ⟨by rw [hE], hof, fun h => by rw [hE] at h; exact absurd h (nI_nem1 (by omega)), rfl⟩))
              · skip
                refine go_iconst X (v := (-1)) dX4_firstFault_177 (by decide) ?_
                refine go_goto X (tgt := 182) dX4_firstFault_178 (by decide) ?_
                exact go_ireturn X hr hlk dX4_firstFault_182 ((have hE : pText (cdS ce fr sz) sz = (-1, d, a) := (by rw [hps, hqe]; unfold pEnd; rw [cif_t c166, cif_t c174]); ⟨by rw [hE], hof, fun _ => by rw [hE]; exact ⟨hd3, ha4⟩, rfl⟩))
          · skip
            refine go_aload_n X dX4_firstFault_114 1 rfl rfl ?_
            refine go_iload_n X dX4_firstFault_115 0 rfl rfl ?_
            refine go_iconst X (v := 1) dX4_firstFault_116 (by decide) ?_
            refine go_iadd X dX4_firstFault_117 ?_
            refine go_topi (v := nI ((1 + 4 * d + 3 * a) + 1)) (nI_add (1 + 4 * d + 3 * a) 1) ?_
            refine go_callVI X (n := 58) (As := [.int (nI ((1 + 4 * d + 3 * a) + 1))]) (rest := []) (kX4_kindAt l D cs ad N kt (by omega) ϕ τ ((1 + 4 * d + 3 * a) + 1) fr sz ce (by omega) hof.2.1 hof.2.2 ((hof.1 (16 + kt) (by omega)).trans hce) (by omega) (by omega)) gX4_firstFault_X4_kindAt rfl hdX4_kindAt ⟨rfl, rfl, by decide, by decide, by decide, by decide⟩ (by omega) rfl rfl rfl rfl (Nat.le_of_ble_eq_true rfl) dX4_firstFault_118 (fun r9 σ9 τ9 h9 => ?_)
            obtain ⟨rfl, rfl, rfl⟩ := h9
            refine go_bipush X (v := (-9)) dX4_firstFault_121 (by decide) ?_
            refine go_icmp_ne X (tgt := 130) dX4_firstFault_123 (by decide) (fun c123 => ?_) (fun c123 => ?_)
            · skip
              refine go_aload_n X dX4_firstFault_130 1 rfl rfl ?_
              refine go_iload_n X dX4_firstFault_131 0 rfl rfl ?_
              refine go_iconst X (v := 2) dX4_firstFault_132 (by decide) ?_
              refine go_iadd X dX4_firstFault_133 ?_
              refine go_topi (v := nI ((1 + 4 * d + 3 * a) + 2)) (nI_add (1 + 4 * d + 3 * a) 2) ?_
              refine go_bipush X (v := 51) dX4_firstFault_134 (by decide) ?_
              refine go_callVI X (n := 58) (As := [.int (nI ((1 + 4 * d + 3 * a) + 2)), .int 51]) (rest := []) (kX4_isDigit l D cs ad N kt (by omega) ϕ τ ((1 + 4 * d + 3 * a) + 2) 51 fr sz ce (by omega) hof.2.1 hof.2.2 ((hof.1 (16 + kt) (by omega)).trans hce) (by omega) (by omega)) gX4_firstFault_X4_isDigit rfl hdX4_isDigit ⟨rfl, rfl, by decide, by decide, by decide, by decide⟩ (by omega) rfl rfl rfl rfl (Nat.le_of_ble_eq_true rfl) dX4_firstFault_136 (fun r9 σ9 τ9 h9 => ?_)
              obtain ⟨rfl, rfl, rfl⟩ := h9
              refine go_ifb_ne X (tgt := 146) dX4_firstFault_139 (by decide) (fun c139 => ?_) (fun c139 => ?_)
              · skip
                refine go_iinc X (v := nI (1 + 4 * d + 3 * a + 3)) (lv2 := [(1, .int (nI (1 + 4 * d + 3 * a + 3))), (0, .ref (ad (58)))]) dX4_firstFault_146 (k := 0) rfl (nI_add (1 + 4 * d + 3 * a) 3) (by decide) rfl ?_
                refine go_lv (lv2 := [(1, .int (nI (1 + 4 * d + 3 * (a + 1)))), (0, .ref (ad (58)))]) (by rw [show 1 + 4 * d + 3 * a + 3 = 1 + 4 * d + 3 * (a + 1) by omega]) ?_
                refine go_aload_n X dX4_firstFault_149 1 rfl rfl ?_
                refine go_dup X dX4_firstFault_150 rfl ?_
                refine go_geti X (n := 58) (j := 4) (by omega) rfl rfl (fun _ h9 => List.mem_cons_of_mem _ (List.mem_append_left _ (List.mem_append_right _ h9))) (by decide) (List.mem_cons_of_mem _ (List.mem_append_left _ (List.mem_append_left _ (List.mem_of_getElem? (i := 1) rfl)))) rfl dX4_firstFault_151 ?_
                refine go_topi (v := nI a) (ha4) ?_
                refine go_iconst X (v := 1) dX4_firstFault_154 (by decide) ?_
                refine go_iadd X dX4_firstFault_155 ?_
                refine go_topi (v := nI (a + 1)) (nI_add a 1) ?_
                refine go_puti X (n := 58) (j := 4) (ty := .int) (by omega) rfl rfl (fun _ h9 => List.mem_cons_of_mem _ (List.mem_append_left _ (List.mem_append_right _ h9))) (by decide) (List.mem_cons_of_mem _ (List.mem_append_left _ (List.mem_append_left _ (List.mem_of_getElem? (i := 1) rfl)))) rfl tyX4 tyX4_ok nmX4 rfl (by decide +kernel) rfl rfl dX4_firstFault_156 ?_
                refine go_goto X (tgt := 96) dX4_firstFault_159 (by decide) ?_
                exact ih96 (a + 1, (up2 ϕ 58 4 (nI (a + 1)))) (by (try dsimp only); exact ⟨by omega, offT_up hof (by omega) (by omega), by rw [up2_ne (by omega)]; exact hd3, up2_self, by rw [show 4 - (a + 1) = 4 - a - 1 by omega]; exact hsu.trans ((cif_t c111).trans ((cif_f c123).trans (cif_t c139)))⟩) (by (try dsimp only); omega)
              · skip
                refine go_iload_n X dX4_firstFault_142 0 rfl rfl ?_
                refine go_iconst X (v := 2) dX4_firstFault_143 (by decide) ?_
                refine go_iadd X dX4_firstFault_144 ?_
                refine go_topi (v := nI ((1 + 4 * d + 3 * a) + 2)) (nI_add (1 + 4 * d + 3 * a) 2) ?_
                exact go_ireturn X hr hlk dX4_firstFault_145 ((have hE : pText (cdS ce fr sz) sz = (nI (1 + 4 * d + 3 * a + 2), d, a) := (by rw [hps, hsu.trans ((cif_t c111).trans ((cif_f c123).trans (cif_f c139)))]); ⟨by rw [hE], hof, fun h => by rw [hE] at h; exact absurd h (nI_nem1 (by omega)), rfl⟩))
            · skip
              refine go_iload_n X dX4_firstFault_126 0 rfl rfl ?_
              refine go_iconst X (v := 1) dX4_firstFault_127 (by decide) ?_
              refine go_iadd X dX4_firstFault_128 ?_
              refine go_topi (v := nI ((1 + 4 * d + 3 * a) + 1)) (nI_add (1 + 4 * d + 3 * a) 1) ?_
              exact go_ireturn X hr hlk dX4_firstFault_129 ((have hE : pText (cdS ce fr sz) sz = (nI (1 + 4 * d + 3 * a + 1), d, a) := (by rw [hps, hsu.trans ((cif_t c111).trans (cif_t c123))]); ⟨by rw [hE], hof, fun h => by rw [hE] at h; exact absurd h (nI_nem1 (by omega)), rfl⟩))
      · skip
        refine go_iload_n X dX4_firstFault_89 0 rfl rfl ?_
        exact go_ireturn X hr hlk dX4_firstFault_90 ((have hE : pText (cdS ce fr sz) sz = (nI 1, 0, 0) := hpa.trans (cif_t c86); ⟨by rw [hE, c86], hof, fun h => by rw [hE] at h; exact absurd h (nI_nem1 (by omega)), rfl⟩))
    · skip
      have hpu := hp.trans (pDeed_1 (by omega))
      refine go_aload_n X dX4_firstFault_27 1 rfl rfl ?_
      refine go_iload_n X dX4_firstFault_28 0 rfl rfl ?_
      refine go_callVI X (n := 58) (As := [.int (nI (1 + 4 * d))]) (rest := []) (kX4_code l D cs ad N kt (by omega) ρ τ (1 + 4 * d) fr sz ce (by omega) hof.2.1 hof.2.2 ((hof.1 (16 + kt) (by omega)).trans hce) (by omega) (by omega)) gX4_firstFault_X4_code rfl hdX4_code ⟨rfl, rfl, by decide, by decide, by decide, by decide⟩ (by omega) rfl rfl rfl rfl (Nat.le_of_ble_eq_true rfl) dX4_firstFault_29 (fun r9 σ9 τ9 h9 => ?_)
      obtain ⟨rfl, rfl, rfl⟩ := h9
      refine go_bipush X (v := 47) dX4_firstFault_32 (by decide) ?_
      refine go_icmp_ne X (tgt := 82) dX4_firstFault_34 (by decide) (fun c34 => ?_) (fun c34 => ?_)
      · skip
        have hpa : pText (cdS ce fr sz) sz = pAft (cdS ce fr sz) sz d := hpu.trans (cif_f c34)
        refine go_aload_n X dX4_firstFault_82 1 rfl rfl ?_
        refine go_geti X (n := 58) (j := 3) (by omega) rfl rfl (fun _ h9 => List.mem_cons_of_mem _ (List.mem_append_left _ (List.mem_append_right _ h9))) (by decide) (List.mem_cons_of_mem _ (List.mem_append_left _ (List.mem_append_left _ (List.mem_of_getElem? (i := 0) rfl)))) rfl dX4_firstFault_83 ?_
        refine go_topi (v := nI d) (hd3) ?_
        refine go_ifn_ne X (tgt := 91) dX4_firstFault_86 (by decide) (a := d) rfl (by omega) (fun c86 => ?_) (fun c86 => ?_)
        · skip
          have hps := hpa.trans (cif_f c86)
          refine go_aload_n X dX4_firstFault_91 1 rfl rfl ?_
          refine go_iconst X (v := 0) dX4_firstFault_92 (by decide) ?_
          refine go_puti X (n := 58) (j := 4) (ty := .int) (by omega) rfl rfl (fun _ h9 => List.mem_cons_of_mem _ (List.mem_append_left _ (List.mem_append_right _ h9))) (by decide) (List.mem_cons_of_mem _ (List.mem_append_left _ (List.mem_append_left _ (List.mem_of_getElem? (i := 1) rfl)))) rfl tyX4 tyX4_ok nmX4 rfl (by decide +kernel) rfl rfl dX4_firstFault_93 ?_
          refine go_loop (ι := Nat × vSg) (fun i9 => (i9.1 ≤ 4) ∧ (offT σ i9.2 fr sz) ∧ (i9.2 58 3 = nI d) ∧ (i9.2 58 4 = nI i9.1) ∧ (pSub (cdS ce fr sz) sz d 4 0 = pSub (cdS ce fr sz) sz d (4 - i9.1) i9.1)) (fun i9 => 4 - i9.1) (fun i9 => i9.2) (fun i9 => τ) (fun i9 => [(1, .int (nI (1 + 4 * d + 3 * i9.1))), (0, .ref (ad (58)))]) (fun i9 => []) (0, (up2 ρ 58 4 0)) (by (try dsimp only); exact ⟨by omega, offT_up hof (by omega) (by omega), by rw [up2_ne (by omega)]; exact hd3, up2_self, rfl⟩) ?_
          intro i9 hi9 ih96
          obtain ⟨a, ϕ⟩ := i9
          (try dsimp only at hi9); (try dsimp only at ih96); (try dsimp only)
          obtain ⟨ha4le, hof, hd3, ha4, hq⟩ := hi9
          refine go_aload_n X dX4_firstFault_96 1 rfl rfl ?_
          refine go_geti X (n := 58) (j := 4) (by omega) rfl rfl (fun _ h9 => List.mem_cons_of_mem _ (List.mem_append_left _ (List.mem_append_right _ h9))) (by decide) (List.mem_cons_of_mem _ (List.mem_append_left _ (List.mem_append_left _ (List.mem_of_getElem? (i := 1) rfl)))) rfl dX4_firstFault_97 ?_
          refine go_topi (v := nI a) (ha4) ?_
          refine go_iconst X (v := 4) dX4_firstFault_100 (by decide) ?_
          refine go_icmpn_ge X (tgt := 162) dX4_firstFault_101 (by decide) (a := a) (b := 4) rfl rfl (by omega) (by omega) (fun c101 => ?_) (fun c101 => ?_)
          · skip
            have hqe : pSub (cdS ce fr sz) sz d 4 0 = pEnd sz d a := by rw [hq, show 4 - a = 0 by omega]; rfl
            refine go_aload_n X dX4_firstFault_162 1 rfl rfl ?_
            refine go_geti X (n := 58) (j := 4) (by omega) rfl rfl (fun _ h9 => List.mem_cons_of_mem _ (List.mem_append_left _ (List.mem_append_right _ h9))) (by decide) (List.mem_cons_of_mem _ (List.mem_append_left _ (List.mem_append_left _ (List.mem_of_getElem? (i := 1) rfl)))) rfl dX4_firstFault_163 ?_
            refine go_topi (v := nI a) (ha4) ?_
            refine go_ifn_le X (tgt := 181) dX4_firstFault_166 (by decide) (a := a) rfl (by omega) (fun c166 => ?_) (fun c166 => ?_)
            · skip
              refine go_iload_n X dX4_firstFault_181 0 rfl rfl ?_
              exact go_ireturn X hr hlk dX4_firstFault_182 ((have hE : pText (cdS ce fr sz) sz = (nI (1 + 4 * d + 3 * a), d, a) := (by rw [hps, hqe]; unfold pEnd; rw [cif_f (Nat.not_lt.mpr (Nat.le_of_eq c166))]); ⟨by rw [hE], hof, fun h => by rw [hE] at h; exact absurd h (nI_nem1 (by omega)), rfl⟩))
            · skip
              refine go_iload_n X dX4_firstFault_169 0 rfl rfl ?_
              refine go_aload_n X dX4_firstFault_170 1 rfl rfl ?_
              refine go_geti X (n := 58) (j := 2) (by omega) rfl rfl (fun _ h9 => List.mem_cons_of_mem _ (List.mem_append_left _ (List.mem_append_right _ h9))) (by decide) (List.mem_cons_of_mem _ (List.mem_append_left _ (List.mem_append_left _ (List.mem_of_getElem? (i := 2) rfl)))) rfl dX4_firstFault_171 ?_
              refine go_topi (v := nI sz) (hof.2.2) ?_
              refine go_icmpn_ne X (tgt := 181) dX4_firstFault_174 (by decide) (a := 1 + 4 * d + 3 * a) (b := sz) rfl rfl (by omega) (by omega) (fun c174 => ?_) (fun c174 => ?_)
              · skip
                refine go_iload_n X dX4_firstFault_181 0 rfl rfl ?_
                exact go_ireturn X hr hlk dX4_firstFault_182 ((have hE : pText (cdS ce fr sz) sz = (nI (1 + 4 * d + 3 * a), d, a) := (by rw [hps, hqe]; unfold pEnd; rw [cif_t c166, cif_f c174]); ⟨by rw [hE], hof, fun h => by rw [hE] at h; exact absurd h (nI_nem1 (by omega)), rfl⟩))
              · skip
                refine go_iconst X (v := (-1)) dX4_firstFault_177 (by decide) ?_
                refine go_goto X (tgt := 182) dX4_firstFault_178 (by decide) ?_
                exact go_ireturn X hr hlk dX4_firstFault_182 ((have hE : pText (cdS ce fr sz) sz = (-1, d, a) := (by rw [hps, hqe]; unfold pEnd; rw [cif_t c166, cif_t c174]); ⟨by rw [hE], hof, fun _ => by rw [hE]; exact ⟨hd3, ha4⟩, rfl⟩))
          · skip
            have hsu := hq.trans (pSub_1 (by omega))
            refine go_aload_n X dX4_firstFault_104 1 rfl rfl ?_
            refine go_iload_n X dX4_firstFault_105 0 rfl rfl ?_
            refine go_callVI X (n := 58) (As := [.int (nI (1 + 4 * d + 3 * a))]) (rest := []) (kX4_code l D cs ad N kt (by omega) ϕ τ (1 + 4 * d + 3 * a) fr sz ce (by omega) hof.2.1 hof.2.2 ((hof.1 (16 + kt) (by omega)).trans hce) (by omega) (by omega)) gX4_firstFault_X4_code rfl hdX4_code ⟨rfl, rfl, by decide, by decide, by decide, by decide⟩ (by omega) rfl rfl rfl rfl (Nat.le_of_ble_eq_true rfl) dX4_firstFault_106 (fun r9 σ9 τ9 h9 => ?_)
            obtain ⟨rfl, rfl, rfl⟩ := h9
            refine go_bipush X (v := 59) dX4_firstFault_109 (by decide) ?_
            refine go_icmp_ne X (tgt := 162) dX4_firstFault_111 (by decide) (fun c111 => ?_) (fun c111 => ?_)
            · skip
              have hqe : pSub (cdS ce fr sz) sz d 4 0 = pEnd sz d a := hsu.trans (cif_f c111)
              refine go_aload_n X dX4_firstFault_162 1 rfl rfl ?_
              refine go_geti X (n := 58) (j := 4) (by omega) rfl rfl (fun _ h9 => List.mem_cons_of_mem _ (List.mem_append_left _ (List.mem_append_right _ h9))) (by decide) (List.mem_cons_of_mem _ (List.mem_append_left _ (List.mem_append_left _ (List.mem_of_getElem? (i := 1) rfl)))) rfl dX4_firstFault_163 ?_
              refine go_topi (v := nI a) (ha4) ?_
              refine go_ifn_le X (tgt := 181) dX4_firstFault_166 (by decide) (a := a) rfl (by omega) (fun c166 => ?_) (fun c166 => ?_)
              · skip
                refine go_iload_n X dX4_firstFault_181 0 rfl rfl ?_
                exact go_ireturn X hr hlk dX4_firstFault_182 ((have hE : pText (cdS ce fr sz) sz = (nI (1 + 4 * d + 3 * a), d, a) := (by rw [hps, hqe]; unfold pEnd; rw [cif_f (Nat.not_lt.mpr (Nat.le_of_eq c166))]); ⟨by rw [hE], hof, fun h => by rw [hE] at h; exact absurd h (nI_nem1 (by omega)), rfl⟩))
              · skip
                refine go_iload_n X dX4_firstFault_169 0 rfl rfl ?_
                refine go_aload_n X dX4_firstFault_170 1 rfl rfl ?_
                refine go_geti X (n := 58) (j := 2) (by omega) rfl rfl (fun _ h9 => List.mem_cons_of_mem _ (List.mem_append_left _ (List.mem_append_right _ h9))) (by decide) (List.mem_cons_of_mem _ (List.mem_append_left _ (List.mem_append_left _ (List.mem_of_getElem? (i := 2) rfl)))) rfl dX4_firstFault_171 ?_
                refine go_topi (v := nI sz) (hof.2.2) ?_
                refine go_icmpn_ne X (tgt := 181) dX4_firstFault_174 (by decide) (a := 1 + 4 * d + 3 * a) (b := sz) rfl rfl (by omega) (by omega) (fun c174 => ?_) (fun c174 => ?_)
                · skip
                  refine go_iload_n X dX4_firstFault_181 0 rfl rfl ?_
                  exact go_ireturn X hr hlk dX4_firstFault_182 ((have hE : pText (cdS ce fr sz) sz = (nI (1 + 4 * d + 3 * a), d, a) := (by rw [hps, hqe]; unfold pEnd; rw [cif_t c166, cif_f c174]); ⟨by rw [hE], hof, fun h => by rw [hE] at h; exact absurd h (nI_nem1 (by omega)), rfl⟩))
                · skip
                  refine go_iconst X (v := (-1)) dX4_firstFault_177 (by decide) ?_
                  refine go_goto X (tgt := 182) dX4_firstFault_178 (by decide) ?_
                  exact go_ireturn X hr hlk dX4_firstFault_182 ((have hE : pText (cdS ce fr sz) sz = (-1, d, a) := (by rw [hps, hqe]; unfold pEnd; rw [cif_t c166, cif_t c174]); ⟨by rw [hE], hof, fun _ => by rw [hE]; exact ⟨hd3, ha4⟩, rfl⟩))
            · skip
              refine go_aload_n X dX4_firstFault_114 1 rfl rfl ?_
              refine go_iload_n X dX4_firstFault_115 0 rfl rfl ?_
              refine go_iconst X (v := 1) dX4_firstFault_116 (by decide) ?_
              refine go_iadd X dX4_firstFault_117 ?_
              refine go_topi (v := nI ((1 + 4 * d + 3 * a) + 1)) (nI_add (1 + 4 * d + 3 * a) 1) ?_
              refine go_callVI X (n := 58) (As := [.int (nI ((1 + 4 * d + 3 * a) + 1))]) (rest := []) (kX4_kindAt l D cs ad N kt (by omega) ϕ τ ((1 + 4 * d + 3 * a) + 1) fr sz ce (by omega) hof.2.1 hof.2.2 ((hof.1 (16 + kt) (by omega)).trans hce) (by omega) (by omega)) gX4_firstFault_X4_kindAt rfl hdX4_kindAt ⟨rfl, rfl, by decide, by decide, by decide, by decide⟩ (by omega) rfl rfl rfl rfl (Nat.le_of_ble_eq_true rfl) dX4_firstFault_118 (fun r9 σ9 τ9 h9 => ?_)
              obtain ⟨rfl, rfl, rfl⟩ := h9
              refine go_bipush X (v := (-9)) dX4_firstFault_121 (by decide) ?_
              refine go_icmp_ne X (tgt := 130) dX4_firstFault_123 (by decide) (fun c123 => ?_) (fun c123 => ?_)
              · skip
                refine go_aload_n X dX4_firstFault_130 1 rfl rfl ?_
                refine go_iload_n X dX4_firstFault_131 0 rfl rfl ?_
                refine go_iconst X (v := 2) dX4_firstFault_132 (by decide) ?_
                refine go_iadd X dX4_firstFault_133 ?_
                refine go_topi (v := nI ((1 + 4 * d + 3 * a) + 2)) (nI_add (1 + 4 * d + 3 * a) 2) ?_
                refine go_bipush X (v := 51) dX4_firstFault_134 (by decide) ?_
                refine go_callVI X (n := 58) (As := [.int (nI ((1 + 4 * d + 3 * a) + 2)), .int 51]) (rest := []) (kX4_isDigit l D cs ad N kt (by omega) ϕ τ ((1 + 4 * d + 3 * a) + 2) 51 fr sz ce (by omega) hof.2.1 hof.2.2 ((hof.1 (16 + kt) (by omega)).trans hce) (by omega) (by omega)) gX4_firstFault_X4_isDigit rfl hdX4_isDigit ⟨rfl, rfl, by decide, by decide, by decide, by decide⟩ (by omega) rfl rfl rfl rfl (Nat.le_of_ble_eq_true rfl) dX4_firstFault_136 (fun r9 σ9 τ9 h9 => ?_)
                obtain ⟨rfl, rfl, rfl⟩ := h9
                refine go_ifb_ne X (tgt := 146) dX4_firstFault_139 (by decide) (fun c139 => ?_) (fun c139 => ?_)
                · skip
                  refine go_iinc X (v := nI (1 + 4 * d + 3 * a + 3)) (lv2 := [(1, .int (nI (1 + 4 * d + 3 * a + 3))), (0, .ref (ad (58)))]) dX4_firstFault_146 (k := 0) rfl (nI_add (1 + 4 * d + 3 * a) 3) (by decide) rfl ?_
                  refine go_lv (lv2 := [(1, .int (nI (1 + 4 * d + 3 * (a + 1)))), (0, .ref (ad (58)))]) (by rw [show 1 + 4 * d + 3 * a + 3 = 1 + 4 * d + 3 * (a + 1) by omega]) ?_
                  refine go_aload_n X dX4_firstFault_149 1 rfl rfl ?_
                  refine go_dup X dX4_firstFault_150 rfl ?_
                  refine go_geti X (n := 58) (j := 4) (by omega) rfl rfl (fun _ h9 => List.mem_cons_of_mem _ (List.mem_append_left _ (List.mem_append_right _ h9))) (by decide) (List.mem_cons_of_mem _ (List.mem_append_left _ (List.mem_append_left _ (List.mem_of_getElem? (i := 1) rfl)))) rfl dX4_firstFault_151 ?_
                  refine go_topi (v := nI a) (ha4) ?_
                  refine go_iconst X (v := 1) dX4_firstFault_154 (by decide) ?_
                  refine go_iadd X dX4_firstFault_155 ?_
                  refine go_topi (v := nI (a + 1)) (nI_add a 1) ?_
                  refine go_puti X (n := 58) (j := 4) (ty := .int) (by omega) rfl rfl (fun _ h9 => List.mem_cons_of_mem _ (List.mem_append_left _ (List.mem_append_right _ h9))) (by decide) (List.mem_cons_of_mem _ (List.mem_append_left _ (List.mem_append_left _ (List.mem_of_getElem? (i := 1) rfl)))) rfl tyX4 tyX4_ok nmX4 rfl (by decide +kernel) rfl rfl dX4_firstFault_156 ?_
                  refine go_goto X (tgt := 96) dX4_firstFault_159 (by decide) ?_
                  exact ih96 (a + 1, (up2 ϕ 58 4 (nI (a + 1)))) (by (try dsimp only); exact ⟨by omega, offT_up hof (by omega) (by omega), by rw [up2_ne (by omega)]; exact hd3, up2_self, by rw [show 4 - (a + 1) = 4 - a - 1 by omega]; exact hsu.trans ((cif_t c111).trans ((cif_f c123).trans (cif_t c139)))⟩) (by (try dsimp only); omega)
                · skip
                  refine go_iload_n X dX4_firstFault_142 0 rfl rfl ?_
                  refine go_iconst X (v := 2) dX4_firstFault_143 (by decide) ?_
                  refine go_iadd X dX4_firstFault_144 ?_
                  refine go_topi (v := nI ((1 + 4 * d + 3 * a) + 2)) (nI_add (1 + 4 * d + 3 * a) 2) ?_
                  exact go_ireturn X hr hlk dX4_firstFault_145 ((have hE : pText (cdS ce fr sz) sz = (nI (1 + 4 * d + 3 * a + 2), d, a) := (by rw [hps, hsu.trans ((cif_t c111).trans ((cif_f c123).trans (cif_f c139)))]); ⟨by rw [hE], hof, fun h => by rw [hE] at h; exact absurd h (nI_nem1 (by omega)), rfl⟩))
              · skip
                refine go_iload_n X dX4_firstFault_126 0 rfl rfl ?_
                refine go_iconst X (v := 1) dX4_firstFault_127 (by decide) ?_
                refine go_iadd X dX4_firstFault_128 ?_
                refine go_topi (v := nI ((1 + 4 * d + 3 * a) + 1)) (nI_add (1 + 4 * d + 3 * a) 1) ?_
                exact go_ireturn X hr hlk dX4_firstFault_129 ((have hE : pText (cdS ce fr sz) sz = (nI (1 + 4 * d + 3 * a + 1), d, a) := (by rw [hps, hsu.trans ((cif_t c111).trans (cif_t c123))]); ⟨by rw [hE], hof, fun h => by rw [hE] at h; exact absurd h (nI_nem1 (by omega)), rfl⟩))
        · skip
          refine go_iload_n X dX4_firstFault_89 0 rfl rfl ?_
          exact go_ireturn X hr hlk dX4_firstFault_90 ((have hE : pText (cdS ce fr sz) sz = (nI 1, 0, 0) := hpa.trans (cif_t c86); ⟨by rw [hE, c86], hof, fun h => by rw [hE] at h; exact absurd h (nI_nem1 (by omega)), rfl⟩))
      · skip
        refine go_iconst X (v := 1) dX4_firstFault_37 (by decide) ?_
        refine go_istore_n X (lv2 := [(2, .int 1), (1, .int (nI (1 + 4 * d))), (0, .ref (ad (58)))]) dX4_firstFault_38 rfl (by decide) rfl ?_
        refine go_iload_n X dX4_firstFault_39 0 rfl rfl ?_
        refine go_iconst X (v := 3) dX4_firstFault_40 (by decide) ?_
        refine go_icmp_gt X (tgt := 66) dX4_firstFault_41 (by decide) (fun h9 => absurd h9 (by decide)) (fun _ => ?_)
        refine go_aload_n X dX4_firstFault_44 2 rfl rfl ?_
        refine go_iload_n X dX4_firstFault_45 1 rfl rfl ?_
        refine go_iload_n X dX4_firstFault_46 0 rfl rfl ?_
        refine go_iadd X dX4_firstFault_47 ?_
        refine go_topi (v := nI ((1 + 4 * d) + 1)) (nI_add (1 + 4 * d) 1) ?_
        refine go_bipush X (v := 57) dX4_firstFault_48 (by decide) ?_
        refine go_callVI X (n := 58) (As := [.int (nI ((1 + 4 * d) + 1)), .int 57]) (rest := []) (kX4_isDigit l D cs ad N kt (by omega) ρ τ ((1 + 4 * d) + 1) 57 fr sz ce (by omega) hof.2.1 hof.2.2 ((hof.1 (16 + kt) (by omega)).trans hce) (by omega) (by omega)) gX4_firstFault_X4_isDigit rfl hdX4_isDigit ⟨rfl, rfl, by decide, by decide, by decide, by decide⟩ (by omega) rfl rfl rfl rfl (Nat.le_of_ble_eq_true rfl) dX4_firstFault_50 (fun r9 σ9 τ9 h9 => ?_)
        obtain ⟨rfl, rfl, rfl⟩ := h9
        refine go_ifb_ne X (tgt := 60) dX4_firstFault_53 (by decide) (fun c53 => ?_) (fun c53 => ?_)
        · skip
          refine go_iinc X (v := 2) (lv2 := [(2, .int 2), (1, .int (nI (1 + 4 * d))), (0, .ref (ad (58)))]) dX4_firstFault_60 (k := 0) rfl (by decide) (by decide) rfl ?_
          refine go_goto X (tgt := 39) dX4_firstFault_63 (by decide) ?_
          refine go_iload_n X dX4_firstFault_39 0 rfl rfl ?_
          refine go_iconst X (v := 3) dX4_firstFault_40 (by decide) ?_
          refine go_icmp_gt X (tgt := 66) dX4_firstFault_41 (by decide) (fun h9 => absurd h9 (by decide)) (fun _ => ?_)
          refine go_aload_n X dX4_firstFault_44 2 rfl rfl ?_
          refine go_iload_n X dX4_firstFault_45 1 rfl rfl ?_
          refine go_iload_n X dX4_firstFault_46 0 rfl rfl ?_
          refine go_iadd X dX4_firstFault_47 ?_
          refine go_topi (v := nI ((1 + 4 * d) + 2)) (nI_add (1 + 4 * d) 2) ?_
          refine go_bipush X (v := 57) dX4_firstFault_48 (by decide) ?_
          refine go_callVI X (n := 58) (As := [.int (nI ((1 + 4 * d) + 2)), .int 57]) (rest := []) (kX4_isDigit l D cs ad N kt (by omega) ρ τ ((1 + 4 * d) + 2) 57 fr sz ce (by omega) hof.2.1 hof.2.2 ((hof.1 (16 + kt) (by omega)).trans hce) (by omega) (by omega)) gX4_firstFault_X4_isDigit rfl hdX4_isDigit ⟨rfl, rfl, by decide, by decide, by decide, by decide⟩ (by omega) rfl rfl rfl rfl (Nat.le_of_ble_eq_true rfl) dX4_firstFault_50 (fun r9 σ9 τ9 h9 => ?_)
          obtain ⟨rfl, rfl, rfl⟩ := h9
          refine go_ifb_ne X (tgt := 60) dX4_firstFault_53 (by decide) (fun c53_2 => ?_) (fun c53_2 => ?_)
          · skip
            refine go_iinc X (v := 3) (lv2 := [(2, .int 3), (1, .int (nI (1 + 4 * d))), (0, .ref (ad (58)))]) dX4_firstFault_60 (k := 0) rfl (by decide) (by decide) rfl ?_
            refine go_goto X (tgt := 39) dX4_firstFault_63 (by decide) ?_
            refine go_iload_n X dX4_firstFault_39 0 rfl rfl ?_
            refine go_iconst X (v := 3) dX4_firstFault_40 (by decide) ?_
            refine go_icmp_gt X (tgt := 66) dX4_firstFault_41 (by decide) (fun h9 => absurd h9 (by decide)) (fun _ => ?_)
            refine go_aload_n X dX4_firstFault_44 2 rfl rfl ?_
            refine go_iload_n X dX4_firstFault_45 1 rfl rfl ?_
            refine go_iload_n X dX4_firstFault_46 0 rfl rfl ?_
            refine go_iadd X dX4_firstFault_47 ?_
            refine go_topi (v := nI ((1 + 4 * d) + 3)) (nI_add (1 + 4 * d) 3) ?_
            refine go_bipush X (v := 57) dX4_firstFault_48 (by decide) ?_
            refine go_callVI X (n := 58) (As := [.int (nI ((1 + 4 * d) + 3)), .int 57]) (rest := []) (kX4_isDigit l D cs ad N kt (by omega) ρ τ ((1 + 4 * d) + 3) 57 fr sz ce (by omega) hof.2.1 hof.2.2 ((hof.1 (16 + kt) (by omega)).trans hce) (by omega) (by omega)) gX4_firstFault_X4_isDigit rfl hdX4_isDigit ⟨rfl, rfl, by decide, by decide, by decide, by decide⟩ (by omega) rfl rfl rfl rfl (Nat.le_of_ble_eq_true rfl) dX4_firstFault_50 (fun r9 σ9 τ9 h9 => ?_)
            obtain ⟨rfl, rfl, rfl⟩ := h9
            refine go_ifb_ne X (tgt := 60) dX4_firstFault_53 (by decide) (fun c53_3 => ?_) (fun c53_3 => ?_)
            · skip
              refine go_iinc X (v := 4) (lv2 := [(2, .int 4), (1, .int (nI (1 + 4 * d))), (0, .ref (ad (58)))]) dX4_firstFault_60 (k := 0) rfl (by decide) (by decide) rfl ?_
              refine go_goto X (tgt := 39) dX4_firstFault_63 (by decide) ?_
              refine go_iload_n X dX4_firstFault_39 0 rfl rfl ?_
              refine go_iconst X (v := 3) dX4_firstFault_40 (by decide) ?_
              refine go_icmp_gt X (tgt := 66) dX4_firstFault_41 (by decide) (fun _ => ?_) (fun h9 => absurd h9 (by decide))
              refine go_iinc X (v := nI (1 + 4 * d + 4)) (lv2 := [(1, .int (nI (1 + 4 * d + 4))), (2, .int 4), (0, .ref (ad (58)))]) dX4_firstFault_66 (k := 1) rfl (nI_add (1 + 4 * d) 4) (by decide) rfl ?_
              refine go_lv (lv2 := [(1, .int (nI (1 + 4 * (d + 1)))), (2, .int 4), (0, .ref (ad (58)))]) (by rw [show 1 + 4 * d + 4 = 1 + 4 * (d + 1) by omega]) ?_
              refine go_aload_n X dX4_firstFault_69 2 rfl rfl ?_
              refine go_dup X dX4_firstFault_70 rfl ?_
              refine go_geti X (n := 58) (j := 3) (by omega) rfl rfl (fun _ h9 => List.mem_cons_of_mem _ (List.mem_append_left _ (List.mem_append_right _ h9))) (by decide) (List.mem_cons_of_mem _ (List.mem_append_left _ (List.mem_append_left _ (List.mem_of_getElem? (i := 0) rfl)))) rfl dX4_firstFault_71 ?_
              refine go_topi (v := nI d) (hd3) ?_
              refine go_iconst X (v := 1) dX4_firstFault_74 (by decide) ?_
              refine go_iadd X dX4_firstFault_75 ?_
              refine go_topi (v := nI (d + 1)) (nI_add d 1) ?_
              refine go_puti X (n := 58) (j := 3) (ty := .int) (by omega) rfl rfl (fun _ h9 => List.mem_cons_of_mem _ (List.mem_append_left _ (List.mem_append_right _ h9))) (by decide) (List.mem_cons_of_mem _ (List.mem_append_left _ (List.mem_append_left _ (List.mem_of_getElem? (i := 0) rfl)))) rfl tyX4 tyX4_ok nmX4 rfl (by decide +kernel) rfl rfl dX4_firstFault_76 ?_
              refine go_goto X (tgt := 19) dX4_firstFault_79 (by decide) ?_
              refine go_lvsub [0, 2] rfl ?_
              exact ih19 (d + 1, (up2 ρ 58 3 (nI (d + 1)))) (by (try dsimp only); exact ⟨by omega, offT_up hof (by omega) (by omega), up2_self, by rw [show 5 - (d + 1) = 5 - d - 1 by omega]; exact hpu.trans ((cif_t c34).trans ((cif_t c53).trans ((cif_t c53_2).trans (cif_t c53_3))))⟩) (by (try dsimp only); omega)
            · skip
              refine go_iload_n X dX4_firstFault_56 1 rfl rfl ?_
              refine go_iload_n X dX4_firstFault_57 0 rfl rfl ?_
              refine go_iadd X dX4_firstFault_58 ?_
              refine go_topi (v := nI ((1 + 4 * d) + 3)) (nI_add (1 + 4 * d) 3) ?_
              exact go_ireturn X hr hlk dX4_firstFault_59 ((have hE : pText (cdS ce fr sz) sz = (nI (1 + 4 * d + 3), 0, 0) := hpu.trans ((cif_t c34).trans ((cif_t c53).trans ((cif_t c53_2).trans (cif_f c53_3)))); ⟨by rw [hE], hof, fun h => by rw [hE] at h; exact absurd h (nI_nem1 (by omega)), rfl⟩))
          · skip
            refine go_iload_n X dX4_firstFault_56 1 rfl rfl ?_
            refine go_iload_n X dX4_firstFault_57 0 rfl rfl ?_
            refine go_iadd X dX4_firstFault_58 ?_
            refine go_topi (v := nI ((1 + 4 * d) + 2)) (nI_add (1 + 4 * d) 2) ?_
            exact go_ireturn X hr hlk dX4_firstFault_59 ((have hE : pText (cdS ce fr sz) sz = (nI (1 + 4 * d + 2), 0, 0) := hpu.trans ((cif_t c34).trans ((cif_t c53).trans (cif_f c53_2))); ⟨by rw [hE], hof, fun h => by rw [hE] at h; exact absurd h (nI_nem1 (by omega)), rfl⟩))
        · skip
          refine go_iload_n X dX4_firstFault_56 1 rfl rfl ?_
          refine go_iload_n X dX4_firstFault_57 0 rfl rfl ?_
          refine go_iadd X dX4_firstFault_58 ?_
          refine go_topi (v := nI ((1 + 4 * d) + 1)) (nI_add (1 + 4 * d) 1) ?_
          exact go_ireturn X hr hlk dX4_firstFault_59 ((have hE : pText (cdS ce fr sz) sz = (nI (1 + 4 * d + 1), 0, 0) := hpu.trans ((cif_t c34).trans (cif_f c53)); ⟨by rw [hE], hof, fun h => by rw [hE] at h; exact absurd h (nI_nem1 (by omega)), rfl⟩))
  · skip
    refine go_iconst X (v := 0) dX4_firstFault_10 (by decide) ?_
    exact go_ireturn X hr hlk dX4_firstFault_11 ((have hE : pText (cdS ce fr sz) sz = (0, 0, 0) := cif_f c7; ⟨by rw [hE], ⟨fun _ _ => rfl, hfr, hsz⟩, fun h => by rw [hE] at h; exact absurd h (by decide), rfl⟩))

/-- a kingdom out of a text: the realm's cells behind it, nothing else has changed -/
def foundP (σ : vSg) (c : Nat → Int32) (nd ns : Nat) (ρ : vSg) : Prop := (∀ q, q ≠ 2 → q ≠ 8 → q ≠ 9 → q < 20 ∨ 25 ≤ q → ρ q = σ q) ∧ ρ 2 3 = nI nd ∧ ρ 2 4 = nI ns ∧ (∀ d, d < nd → ∀ w, w < 3 → ρ (20 + d) w = c (4 * d + 2 + w) - 48) ∧ (∀ a, a < ns → ρ 8 a = kndS (c (4 * nd + 3 * a + 2)) ∧ ρ 9 a = c (4 * nd + 3 * a + 3) - 48)
theorem hdX2_found : yX2_found.cls = RX2 ∧ yX2_found.cls ≠ "java/lang/invoke/MethodHandle" ∧ yX2_found.cls ≠ "java/lang/invoke/VarHandle" ∧ (parseMethodDescriptor yX2_found.desc).map (fun d => d.parameters.length) = some 1 := by decide +kernel
set_option maxHeartbeats 4000000 in
set_option maxRecDepth 100000 in
theorem kX2_found (l : Launch) (D : va_G) (cs : Nat → ClassId) (ad : Nat → Nat) (N kt : Nat) (hN : 59 ≤ N) (σ : vSg) (τ : vTa) (fr : Nat) (sz : Nat) (ce : Nat → Int32) (nd : Nat) (ns : Nat)  (hkt : kt < 4) (hfr : σ 58 1 = nI fr) (hsz : σ 58 2 = nI sz) (hce : σ (16 + kt) = ce) (hle : fr + sz ≤ 60) (hnd : σ 58 3 = nI nd) (hns : σ 58 4 = nI ns) (hn5 : nd ≤ 5) (hs4 : ns ≤ 4) : CtV l yX2_found wsX2_found ({ frames := 4, cells := 0, slots := 0, locals := 84 }) D cs ad N (shP kt) [.ref (ad (2)), .ref (ad (58))] σ τ 0 0 (fun σ9 τ9 => τ = τ9 ∧ foundP σ (cdS ce fr sz) nd ns σ9) := by
  refine ct_V (cc := cX2_found) (maxL := 4) (by decide) rfl (Nat.le_of_ble_eq_true rfl) rfl rfl ?_
  intro p e s m args below meth c A X hr hlk
  refine go_aload_n X dX2_found_0 0 rfl rfl ?_
  refine go_aload_n X dX2_found_1 1 rfl rfl ?_
  refine go_geti X (n := 58) (j := 3) (by omega) rfl rfl (fun _ h9 => List.mem_cons_of_mem _ (List.mem_append_left _ (List.mem_append_left _ (List.mem_append_right _ h9)))) (by decide) (List.mem_cons_of_mem _ (List.mem_append_left _ (List.mem_append_left _ (List.mem_append_left _ (List.mem_append_left _ (List.mem_of_getElem? (i := 0) rfl)))))) rfl dX2_found_2 ?_
  refine go_topi (v := nI nd) (hnd) ?_
  refine go_puti X (n := 2) (j := 3) (ty := .int) (by omega) rfl rfl (fun _ h9 => List.mem_cons_of_mem _ (List.mem_append_left _ (List.mem_append_right _ h9))) (by decide) (List.mem_cons_of_mem _ (List.mem_append_left _ (List.mem_append_left _ (List.mem_append_left _ (List.mem_append_left _ (List.mem_of_getElem? (i := 1) rfl)))))) rfl tyX2 tyX2_ok nmX2 rfl (by decide +kernel) rfl rfl dX2_found_5 ?_
  refine go_aload_n X dX2_found_8 0 rfl rfl ?_
  refine go_aload_n X dX2_found_9 1 rfl rfl ?_
  refine go_geti X (n := 58) (j := 4) (by omega) rfl rfl (fun _ h9 => List.mem_cons_of_mem _ (List.mem_append_left _ (List.mem_append_left _ (List.mem_append_right _ h9)))) (by decide) (List.mem_cons_of_mem _ (List.mem_append_left _ (List.mem_append_left _ (List.mem_append_left _ (List.mem_append_left _ (List.mem_of_getElem? (i := 2) rfl)))))) rfl dX2_found_10 ?_
  refine go_topi (v := nI ns) ((up2_ne (by omega)).trans hns) ?_
  refine go_puti X (n := 2) (j := 4) (ty := .int) (by omega) rfl rfl (fun _ h9 => List.mem_cons_of_mem _ (List.mem_append_left _ (List.mem_append_right _ h9))) (by decide) (List.mem_cons_of_mem _ (List.mem_append_left _ (List.mem_append_left _ (List.mem_append_left _ (List.mem_append_left _ (List.mem_of_getElem? (i := 3) rfl)))))) rfl tyX2 tyX2_ok nmX2 rfl (by decide +kernel) rfl rfl dX2_found_13 ?_
  refine go_iconst X (v := 0) dX2_found_16 (by decide) ?_
  refine go_istore_n X (lv2 := [(2, .int 0), (0, .ref (ad (2))), (1, .ref (ad (58)))]) dX2_found_17 rfl (by decide) rfl ?_
  refine go_loop (ι := Nat × vSg) (fun i9 => (i9.1 ≤ nd) ∧ (∀ q, q ≠ 2 → q ≠ 8 → q ≠ 9 → q < 20 ∨ 25 ≤ q → i9.2 q = σ q) ∧ (i9.2 2 3 = nI nd) ∧ (i9.2 2 4 = nI ns) ∧ (∀ e, e < i9.1 → ∀ w, w < 3 → i9.2 (20 + e) w = cdS ce fr sz (4 * e + 2 + w) - 48)) (fun i9 => nd - i9.1) (fun i9 => i9.2) (fun i9 => τ) (fun i9 => [(2, .int (nI i9.1)), (0, .ref (ad (2))), (1, .ref (ad (58)))]) (fun i9 => []) (0, (up2 (up2 σ 2 3 (nI nd)) 2 4 (nI ns))) (by (try dsimp only); exact ⟨Nat.zero_le _, fun q h2 _ _ _ => by rw [up2_row h2, up2_row h2], by rw [up2_ne (by omega), up2_self], up2_self, fun _ h => absurd h (Nat.not_lt_zero _)⟩) ?_
  intro i9 hi9 ih18
  obtain ⟨d, ρ⟩ := i9
  (try dsimp only at hi9); (try dsimp only at ih18); (try dsimp only)
  obtain ⟨hd, h0, h23, h24, hdd⟩ := hi9
  refine go_iload_n X dX2_found_18 0 rfl rfl ?_
  refine go_aload_n X dX2_found_19 1 rfl rfl ?_
  refine go_geti X (n := 2) (j := 3) (by omega) rfl rfl (fun _ h9 => List.mem_cons_of_mem _ (List.mem_append_left _ (List.mem_append_right _ h9))) (by decide) (List.mem_cons_of_mem _ (List.mem_append_left _ (List.mem_append_left _ (List.mem_append_left _ (List.mem_append_left _ (List.mem_of_getElem? (i := 1) rfl)))))) rfl dX2_found_20 ?_
  refine go_topi (v := nI nd) (h23) ?_
  refine go_icmpn_ge X (tgt := 59) dX2_found_23 (by decide) (a := d) (b := nd) rfl rfl (by omega) (by omega) (fun c23 => ?_) (fun c23 => ?_)
  · skip
    refine go_iconst X (v := 0) dX2_found_59 (by decide) ?_
    refine go_istore_n X (lv2 := [(2, .int 0), (0, .ref (ad (2))), (1, .ref (ad (58)))]) dX2_found_60 rfl (by decide) rfl ?_
    refine go_loop (ι := Nat × vSg) (fun i9 => (i9.1 ≤ ns) ∧ (∀ q, q ≠ 2 → q ≠ 8 → q ≠ 9 → q < 20 ∨ 25 ≤ q → i9.2 q = σ q) ∧ (i9.2 2 3 = nI nd) ∧ (i9.2 2 4 = nI ns) ∧ (∀ e, e < nd → ∀ x, x < 3 → i9.2 (20 + e) x = cdS ce fr sz (4 * e + 2 + x) - 48) ∧ (∀ b, b < i9.1 → i9.2 8 b = kndS (cdS ce fr sz (4 * nd + 3 * b + 2)) ∧ i9.2 9 b = cdS ce fr sz (4 * nd + 3 * b + 3) - 48)) (fun i9 => ns - i9.1) (fun i9 => i9.2) (fun i9 => τ) (fun i9 => [(2, .int (nI i9.1)), (0, .ref (ad (2))), (1, .ref (ad (58)))]) (fun i9 => []) (0, ρ) (by (try dsimp only); exact ⟨Nat.zero_le _, h0, h23, h24, fun e9 he9 => hdd e9 (by omega), fun _ h => absurd h (Nat.not_lt_zero _)⟩) ?_
    intro i9 hi9 ih61
    obtain ⟨a, ψ⟩ := i9
    (try dsimp only at hi9); (try dsimp only at ih61); (try dsimp only)
    obtain ⟨ha, h0, h23, h24, hdd, haa⟩ := hi9
    refine go_iload_n X dX2_found_61 0 rfl rfl ?_
    refine go_aload_n X dX2_found_62 1 rfl rfl ?_
    refine go_geti X (n := 2) (j := 4) (by omega) rfl rfl (fun _ h9 => List.mem_cons_of_mem _ (List.mem_append_left _ (List.mem_append_right _ h9))) (by decide) (List.mem_cons_of_mem _ (List.mem_append_left _ (List.mem_append_left _ (List.mem_append_left _ (List.mem_append_left _ (List.mem_of_getElem? (i := 3) rfl)))))) rfl dX2_found_63 ?_
    refine go_topi (v := nI ns) (h24) ?_
    refine go_icmpn_ge X (tgt := 97) dX2_found_66 (by decide) (a := a) (b := ns) rfl rfl (by omega) (by omega) (fun c66 => ?_) (fun c66 => ?_)
    · skip
      exact go_return X hr hlk dX2_found_97 (⟨rfl, h0, h23, h24, hdd, fun b hb => haa b (by omega)⟩)
    · skip
      refine go_aload_n X dX2_found_69 1 rfl rfl ?_
      refine go_getr X (n := 2) (j := 1) (by omega) rfl rfl (fun _ h9 => List.mem_cons_of_mem _ (List.mem_append_left _ (List.mem_append_right _ h9))) (by decide) (List.mem_cons_of_mem _ (List.mem_append_left _ (List.mem_append_left _ (List.mem_append_left _ (List.mem_append_left _ (List.mem_of_getElem? (i := 5) rfl)))))) rfl dX2_found_70 ?_
      refine go_iload_n X dX2_found_73 0 rfl rfl ?_
      refine go_aload_n X dX2_found_74 2 rfl rfl ?_
      refine go_iload_n X dX2_found_75 0 rfl rfl ?_
      refine go_callVI X (n := 58) (As := [.int (nI a)]) (rest := [.int (nI a), .ref (ad (8))]) (kX4_kindOfSubject l D cs ad N kt (by omega) ψ τ a fr sz ce nd (by omega) ((congrFun (h0 58 (by omega) (by omega) (by omega) (by omega)) 1).trans hfr) ((congrFun (h0 58 (by omega) (by omega) (by omega) (by omega)) 2).trans hsz) ((h0 (16 + kt) (by omega) (by omega) (by omega) (by omega)).trans hce) (by omega) ((congrFun (h0 58 (by omega) (by omega) (by omega) (by omega)) 3).trans hnd) (by omega) (by omega)) gX2_found_X4_kindOfSubject rfl hdX4_kindOfSubject ⟨rfl, rfl, by decide, by decide, by decide, by decide⟩ (by omega) rfl rfl rfl rfl (Nat.le_of_ble_eq_true rfl) dX2_found_76 (fun r9 σ9 τ9 h9 => ?_)
      obtain ⟨rfl, rfl, rfl⟩ := h9
      refine go_iast X (n := 8) (k := a) (by omega) rfl rfl (by omega) (by omega) dX2_found_79 ?_
      refine go_aload_n X dX2_found_80 1 rfl rfl ?_
      refine go_getr X (n := 2) (j := 2) (by omega) rfl rfl (fun _ h9 => List.mem_cons_of_mem _ (List.mem_append_left _ (List.mem_append_right _ h9))) (by decide) (List.mem_cons_of_mem _ (List.mem_append_left _ (List.mem_append_left _ (List.mem_append_left _ (List.mem_append_left _ (List.mem_of_getElem? (i := 6) rfl)))))) rfl dX2_found_81 ?_
      refine go_iload_n X dX2_found_84 0 rfl rfl ?_
      refine go_aload_n X dX2_found_85 2 rfl rfl ?_
      refine go_iload_n X dX2_found_86 0 rfl rfl ?_
      refine go_callVI X (n := 58) (As := [.int (nI a)]) (rest := [.int (nI a), .ref (ad (9))]) (kX4_papersOfSubject l D cs ad N kt (by omega) (up2 ψ 8 a (kndS (cdS ce fr sz (4 * nd + 3 * a + 2)))) τ a fr sz ce nd (by omega) ((up2_ne (by omega)).trans ((congrFun (h0 58 (by omega) (by omega) (by omega) (by omega)) 1).trans hfr)) ((up2_ne (by omega)).trans ((congrFun (h0 58 (by omega) (by omega) (by omega) (by omega)) 2).trans hsz)) ((up2_row (by omega)).trans ((h0 (16 + kt) (by omega) (by omega) (by omega) (by omega)).trans hce)) (by omega) ((up2_ne (by omega)).trans ((congrFun (h0 58 (by omega) (by omega) (by omega) (by omega)) 3).trans hnd)) (by omega) (by omega)) gX2_found_X4_papersOfSubject rfl hdX4_papersOfSubject ⟨rfl, rfl, by decide, by decide, by decide, by decide⟩ (by omega) rfl rfl rfl rfl (Nat.le_of_ble_eq_true rfl) dX2_found_87 (fun r9 σ9 τ9 h9 => ?_)
      obtain ⟨rfl, rfl, rfl⟩ := h9
      refine go_iast X (n := 9) (k := a) (by omega) rfl rfl (by omega) (by omega) dX2_found_90 ?_
      refine go_iinc X (v := nI (a + 1)) (lv2 := [(2, .int (nI (a + 1))), (0, .ref (ad (2))), (1, .ref (ad (58)))]) dX2_found_91 (k := 0) rfl (nI_add a 1) (by decide) rfl ?_
      refine go_goto X (tgt := 61) dX2_found_94 (by decide) ?_
      exact ih61 (a + 1, (up2 (up2 ψ 8 a (kndS (cdS ce fr sz (4 * nd + 3 * a + 2)))) 9 a (cdS ce fr sz (4 * nd + 3 * a + 3) - 48))) (by (try dsimp only); exact ⟨by omega, fun q h2 h8 h9 h20 => by rw [up2_row h9, up2_row h8]; exact h0 q h2 h8 h9 h20, by rw [up2_ne (by omega), up2_ne (by omega)]; exact h23, by rw [up2_ne (by omega), up2_ne (by omega)]; exact h24, fun e9 he9 x hx => by rw [up2_ne (by omega), up2_ne (by omega)]; exact hdd e9 he9 x hx, fun b hb => by rcases Nat.lt_succ_iff_lt_or_eq.mp hb with h | h; rw [up2_ne (by omega), up2_ne (by omega), up2_ne (by omega), up2_ne (by omega)]; exact haa b h; rw [h, up2_self, up2_ne (by omega), up2_self]; exact ⟨rfl, rfl⟩⟩) (by (try dsimp only); omega)
  · skip
    refine go_iconst X (v := 0) dX2_found_26 (by decide) ?_
    refine go_istore_n X (lv2 := [(3, .int 0), (2, .int (nI d)), (0, .ref (ad (2))), (1, .ref (ad (58)))]) dX2_found_27 rfl (by decide) rfl ?_
    refine go_loop (ι := Nat × vSg) (fun i9 => (i9.1 ≤ 3) ∧ (∀ q, q ≠ 2 → q ≠ 8 → q ≠ 9 → q < 20 ∨ 25 ≤ q → i9.2 q = σ q) ∧ (i9.2 2 3 = nI nd) ∧ (i9.2 2 4 = nI ns) ∧ (∀ e, e < d → ∀ x, x < 3 → i9.2 (20 + e) x = cdS ce fr sz (4 * e + 2 + x) - 48) ∧ (∀ x, x < i9.1 → i9.2 (20 + d) x = cdS ce fr sz (4 * d + 2 + x) - 48)) (fun i9 => 3 - i9.1) (fun i9 => i9.2) (fun i9 => τ) (fun i9 => [(3, .int (nI i9.1)), (2, .int (nI d)), (0, .ref (ad (2))), (1, .ref (ad (58)))]) (fun i9 => []) (0, ρ) (by (try dsimp only); exact ⟨Nat.zero_le _, h0, h23, h24, hdd, fun _ h => absurd h (Nat.not_lt_zero _)⟩) ?_
    intro i9 hi9 ih28
    obtain ⟨w, ϕ⟩ := i9
    (try dsimp only at hi9); (try dsimp only at ih28); (try dsimp only)
    obtain ⟨hw, h0, h23, h24, hdd, hww⟩ := hi9
    refine go_iload_n X dX2_found_28 0 rfl rfl ?_
    refine go_iconst X (v := 3) dX2_found_29 (by decide) ?_
    refine go_icmpn_ge X (tgt := 53) dX2_found_30 (by decide) (a := w) (b := 3) rfl rfl (by omega) (by omega) (fun c30 => ?_) (fun c30 => ?_)
    · skip
      refine go_iinc X (v := nI (d + 1)) (lv2 := [(2, .int (nI (d + 1))), (3, .int (nI w)), (0, .ref (ad (2))), (1, .ref (ad (58)))]) dX2_found_53 (k := 1) rfl (nI_add d 1) (by decide) rfl ?_
      refine go_goto X (tgt := 18) dX2_found_56 (by decide) ?_
      refine go_lvsub [0, 2, 3] rfl ?_
      exact ih18 (d + 1, ϕ) (by (try dsimp only); exact ⟨by omega, h0, h23, h24, fun e9 he9 w9 hw9 => by rcases Nat.lt_succ_iff_lt_or_eq.mp he9 with h | h; exact hdd e9 h w9 hw9; rw [h]; exact hww w9 (by omega)⟩) (by (try dsimp only); omega)
    · skip
      refine go_aload_n X dX2_found_33 2 rfl rfl ?_
      refine go_getr X (n := 2) (j := 0) (by omega) rfl rfl (fun _ h9 => List.mem_cons_of_mem _ (List.mem_append_left _ (List.mem_append_right _ h9))) (by decide) (List.mem_cons_of_mem _ (List.mem_append_left _ (List.mem_append_left _ (List.mem_append_left _ (List.mem_append_left _ (List.mem_of_getElem? (i := 4) rfl)))))) rfl dX2_found_34 ?_
      refine go_iload_n X dX2_found_37 1 rfl rfl ?_
      refine go_aald4 X (n := 7) (k := d) (by omega) rfl rfl (by omega) (by omega) dX2_found_38 ?_
      refine go_iload_n X dX2_found_39 0 rfl rfl ?_
      refine go_aload_n X dX2_found_40 3 rfl rfl ?_
      refine go_iload_n X dX2_found_41 1 rfl rfl ?_
      refine go_iload_n X dX2_found_42 0 rfl rfl ?_
      refine go_callVI X (n := 58) (As := [.int (nI d), .int (nI w)]) (rest := [.int (nI w), .ref (ad (20 + d))]) (kX4_digitOfDeed l D cs ad N kt (by omega) ϕ τ d w fr sz ce (by omega) ((congrFun (h0 58 (by omega) (by omega) (by omega) (by omega)) 1).trans hfr) ((congrFun (h0 58 (by omega) (by omega) (by omega) (by omega)) 2).trans hsz) ((h0 (16 + kt) (by omega) (by omega) (by omega) (by omega)).trans hce) (by omega) (by omega) (by omega)) gX2_found_X4_digitOfDeed rfl hdX4_digitOfDeed ⟨rfl, rfl, by decide, by decide, by decide, by decide⟩ (by omega) rfl rfl rfl rfl (Nat.le_of_ble_eq_true rfl) dX2_found_43 (fun r9 σ9 τ9 h9 => ?_)
      obtain ⟨rfl, rfl, rfl⟩ := h9
      refine go_iast X (n := 20 + d) (k := w) (by omega) (sh_deed (by omega)) rfl (by omega) (by omega) dX2_found_46 ?_
      refine go_iinc X (v := nI (w + 1)) (lv2 := [(3, .int (nI (w + 1))), (2, .int (nI d)), (0, .ref (ad (2))), (1, .ref (ad (58)))]) dX2_found_47 (k := 0) rfl (nI_add w 1) (by decide) rfl ?_
      refine go_goto X (tgt := 28) dX2_found_50 (by decide) ?_
      exact ih28 (w + 1, (up2 ϕ (20 + d) w (cdS ce fr sz (4 * d + 2 + w) - 48))) (by (try dsimp only); exact ⟨by omega, fun q h2 h8 h9 h20 => by rw [up2_row (by omega)]; exact h0 q h2 h8 h9 h20, by rw [up2_ne (by omega)]; exact h23, by rw [up2_ne (by omega)]; exact h24, fun e9 he9 x hx => by rw [up2_ne (by omega)]; exact hdd e9 he9 x hx, fun x hx => by rcases Nat.lt_succ_iff_lt_or_eq.mp hx with h | h; rw [up2_ne (by omega)]; exact hww x h; rw [h, up2_self]⟩) (by (try dsimp only); omega)

