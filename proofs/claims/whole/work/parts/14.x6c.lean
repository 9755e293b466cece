section GCP
variable {p : Program} {l : Launch} {e : Env} {R : Room} {s : State} {m : MethodId} {args : Array Value} {below : List Frame} {meth : Method} {c : Code} {cells slots : Nat} {Q : State → Prop} {D : va_G} {cs : Nat → ClassId} {A : Nat → Prop} {ad : Nat → Nat} {N : Nat} {sh : Nat → vSh} {nL : Nat} {σ : vSg} {τ : vTa} {cc : ByteArray} {Ts : List Cond} {own : String} {pc : Nat} {lv : List (Nat × Value)} {rest : List Value}
theorem go_copyi (X : Cx p m c cc nL s args Ts own D cs A ad N) {idx a b n0 n1 i j n : Nat} {g0 g1 : Nat → Nat} (hlink : Cond.methodLink own idx arraycopyName ∈ Ts) (hnat : Cond.native arraycopyName ∈ Ts) (hstat : Cond.static arraycopyName ∈ Ts) (hini : Cond.initialized "java/lang/System" ∈ Ts) (ha : a < N) (hb : b < N) (hsa : sh a = .inr (0, n0, g0)) (hsb : sh b = .inr (0, n1, g1)) (h4 : i + n ≤ n0) (h5 : j + n ≤ n1) (hm0 : n0 < 2 ^ 31) (hm1 : n1 < 2 ^ 31) (hR : 1 ≤ R.frames ∧ (rest.map fun v => v.category).sum + (nativeFrameWords "java/lang/System" "arraycopy" 5 + 11) ≤ R.locals) (hdg : decode cc pc = .ok (.invokestatic idx, 3)) (kk : Go p l e R s m args below meth c cells slots Q D cs A ad N sh nL (upR σ b (va_cpy (σ a) (σ b) i j n)) τ (pc + 3) lv (rest)) : Go p l e R s m args below meth c cells slots Q D cs A ad N sh nL σ τ (pc) lv (.int (nI n) :: .int (nI j) :: .ref (ad b) :: .int (nI i) :: .ref (ad a) :: rest) := fun H locs ls hP hS hl => by
  have e0 : (wl ad N (vW cs ad sh σ τ))[a]? = some (ad a, .inl (cs 0, n0, .inl (σ a))) := by
    rw [wl_get ha]; show some (_, vE cs ad σ τ a (sh a)) = _; rw [hsa]; rfl
  have e1 : (wl ad N (vW cs ad sh σ τ))[b]? = some (ad b, .inl (cs 0, n1, .inl (σ b))) := by
    rw [wl_get hb]; show some (_, vE cs ad σ τ b (sh b)) = _; rw [hsb]; rfl
  refine va_copyi X.1.1 X.1.2.1 (X.1.2.2.1.trans hl.1.symm) X.1.2.2.2.1 (X.1.2.2.2.2 _ hlink) (X.1.2.2.2.2 _ hnat) (X.1.2.2.2.2 _ hstat) (X.1.2.2.2.2 _ hini) X.2.1 hP (X.2.2.1 _) hS a b 0 0 (ty := .int) e0 e1 rfl rfl rfl (nI_pos (by omega)) (nI_pos (by omega)) (nI_pos (by omega)) (by rw [nI_clamp (by omega), nI_clamp (by omega)]; exact h4) (by rw [nI_clamp (by omega), nI_clamp (by omega)]; exact h5) (fun _ _ => rfl) hR.1 hR.2 hdg (fun H1 locs1 hP1 _ hS1 => ?_)
  rw [nI_clamp (by omega), nI_clamp (by omega), nI_clamp (by omega), wl_set hb, vW_puta hsb (by omega)] at hP1
  exact kk H1 locs1 ls hP1 hS1 hl
end GCP
theorem spanS_nat {len : Nat} {i n : Int32} (h : spanS (nI len) i n) (hl : len < 2 ^ 30) : ∃ a b : Nat, i = nI a ∧ n = nI b ∧ a + b ≤ len := by
  obtain ⟨h1, h2, h3, h4⟩ := h
  obtain ⟨a, ha, rfl⟩ := nI_of (Int32.not_lt.mpr h1)
  obtain ⟨b, hb, rfl⟩ := nI_of (Int32.not_lt.mpr h3)
  have ha2 := (nI_leI ha (by omega)).mp h2
  refine ⟨a, b, rfl, rfl, ?_⟩
  rw [pk_sub ha2] at h4
  have := (nI_leI hb (by omega)).mp h4
  omega
theorem hdX6_sheet : yX6_sheet.cls = RX6 ∧ yX6_sheet.cls ≠ "java/lang/invoke/MethodHandle" ∧ yX6_sheet.cls ≠ "java/lang/invoke/VarHandle" ∧ (parseMethodDescriptor yX6_sheet.desc).map (fun d => d.parameters.length) = some 3 := by decide +kernel
set_option maxHeartbeats 4000000 in
set_option maxRecDepth 100000 in
theorem kX6_sheet (l : Launch) (D : va_G) (cs : Nat → ClassId) (ad : Nat → Nat) (N kt : Nat) (hN : 58 ≤ N) (σ : vSg) (τ : vTa) (k : Int32) (lane : Int32) (n : Int32) (nd : Nat) (ns : Nat) (nr : Nat)   (hI : IX σ nd ns nr) : CtI l yX6_sheet wsX6_sheet ({ frames := 2, cells := 0, slots := 0, locals := 41 }) D cs ad N (shP kt) [.ref (ad (0)), .int k, .int lane, .int n] σ τ 0 0 (fun r9 σ9 τ9 => (sheetS k lane n).1 = r9 ∧ cif (isB k 4 ∧ isB lane 3 ∧ n ≤ 60 ∧ 0 ≤ n) (zeroR (up2 (up2 (up2 (up2 σ 0 7 0) (12 + toN k) 1 1) (12 + toN k) 2 lane) (12 + toN k) 3 n) (16 + toN k) 60) (up2 σ 0 7 (sheetS k lane n).2) = σ9 ∧ τ = τ9) := by
  refine ct_I (cc := cX6_sheet) (maxL := 4) (by decide) rfl (Nat.le_of_ble_eq_true rfl) rfl rfl ?_
  intro p e s m args below meth c A X hr hlk
  obtain ⟨⟨hnd, hnd5⟩, ⟨hns, hns4⟩, hdd, hkp, ⟨hnr, hnr8⟩, hrd, hrw, hpos⟩ := id hI
  refine go_aload_n X dX6_sheet_0 0 rfl rfl ?_
  refine go_iconst X (v := 0) dX6_sheet_1 (by decide) ?_
  refine go_puti X (n := 0) (j := 7) (ty := .int) (by omega) rfl rfl (fun _ h9 => List.mem_cons_of_mem _ (List.mem_append_left _ (List.mem_append_right _ h9))) (by decide) (List.mem_cons_of_mem _ (List.mem_append_left _ (List.mem_append_left _ (List.mem_of_getElem? (i := 0) rfl)))) rfl tyX6 tyX6_ok nmX6 rfl (by decide +kernel) rfl rfl dX6_sheet_2 ?_
  refine go_iload_n X dX6_sheet_5 1 rfl rfl ?_
  refine go_callSI X (As := [.int k]) (rest := []) (kX6_isSheet l D cs ad N kt (by omega) (up2 σ 0 7 0) τ k) gX6_sheet_X6_isSheet rfl hdX6_isSheet ⟨rfl, rfl, by decide, by decide, by decide, by decide⟩ rfl rfl (Nat.le_of_ble_eq_true rfl) dX6_sheet_6 (fun r9 σ9 τ9 h9 => ?_)
  obtain ⟨rfl, rfl, rfl⟩ := h9
  refine go_ifb_ne X (tgt := 14) dX6_sheet_9 (by decide) (fun c9 => ?_) (fun c9 => ?_)
  · skip
    refine go_iload_n X dX6_sheet_14 2 rfl rfl ?_
    refine go_iconst X (v := 3) dX6_sheet_15 (by decide) ?_
    refine go_callSI X (As := [.int lane, .int 3]) (rest := []) (kX6_isBelow l D cs ad N kt (by omega) (up2 σ 0 7 0) τ lane 3) gX6_sheet_X6_isBelow rfl hdX6_isBelow ⟨rfl, rfl, by decide, by decide, by decide, by decide⟩ rfl rfl (Nat.le_of_ble_eq_true rfl) dX6_sheet_16 (fun r9 σ9 τ9 h9 => ?_)
    obtain ⟨rfl, rfl, rfl⟩ := h9
    refine go_ifb_eq X (tgt := 28) dX6_sheet_19 (by decide) (fun c19 => ?_) (fun c19 => ?_)
    · skip
      refine go_bipush X (v := (-2)) dX6_sheet_28 (by decide) ?_
      exact go_ireturn X hr hlk dX6_sheet_30 ((have hE : sheetS k lane n = ((-2), 0) := (by unfold sheetS; (try dsimp only); exact (cif_t c9).trans ((cif_f c19).trans (rfl))); ⟨by rw [hE], (cif_f (fun q => c19 q.2.1)).trans (by rw [hE]), rfl⟩))
    · skip
      refine go_iload_n X dX6_sheet_22 3 rfl rfl ?_
      refine go_bipush X (v := 60) dX6_sheet_23 (by decide) ?_
      refine go_icmp_le X (tgt := 31) dX6_sheet_25 (by decide) (fun c25 => ?_) (fun c25 => ?_)
      · skip
        refine go_iload_n X dX6_sheet_31 3 rfl rfl ?_
        refine go_if_ge X (tgt := 41) dX6_sheet_32 (by decide) (fun c32 => ?_) (fun c32 => ?_)
        · skip
          obtain ⟨i, hi, rfl⟩ := isB_nat (b := 4) c9 (by omega)
          refine go_aload_n X dX6_sheet_41 0 rfl rfl ?_
          refine go_getr X (n := 0) (j := 0) (by omega) rfl rfl (fun _ h9 => List.mem_cons_of_mem _ (List.mem_append_left _ (List.mem_append_right _ h9))) (by decide) (List.mem_cons_of_mem _ (List.mem_append_left _ (List.mem_append_left _ (List.mem_of_getElem? (i := 1) rfl)))) rfl dX6_sheet_42 ?_
          refine go_iload_n X dX6_sheet_45 1 rfl rfl ?_
          refine go_aald3 X (n := 1) (k := i) (by omega) rfl rfl (by omega) (by omega) dX6_sheet_46 ?_
          refine go_iload_n X dX6_sheet_47 2 rfl rfl ?_
          refine go_iload_n X dX6_sheet_48 3 rfl rfl ?_
          refine go_callVV X (n := 12 + i) (As := [.int lane, .int n]) (rest := []) (kX3_renew l D cs ad N kt (by omega) (up2 σ 0 7 0) τ i lane n (by omega)) gX6_sheet_X3_renew rfl hdX3_renew ⟨rfl, rfl, by decide, by decide, by decide, by decide⟩ (by omega) (sh_row (by omega)) rfl rfl rfl (Nat.le_of_ble_eq_true rfl) dX6_sheet_49 (fun σ9 τ9 h9 => ?_)
          obtain ⟨rfl, rfl⟩ := h9
          refine go_iconst X (v := 1) dX6_sheet_52 (by decide) ?_
          exact go_ireturn X hr hlk dX6_sheet_53 ((have hE : sheetS (nI i) lane n = (1, 0) := (by unfold sheetS; exact (cif_t c9).trans ((cif_t c19).trans ((cif_t c25).trans ((cif_t c32).trans (rfl))))); ⟨by rw [hE], (cif_t ⟨c9, c19, c25, c32⟩).trans (by rw [toN_nI (k := i) (by omega)]), rfl⟩))
        · skip
          refine go_aload_n X dX6_sheet_35 0 rfl rfl ?_
          refine go_iconst X (v := 4) dX6_sheet_36 (by decide) ?_
          refine go_callVI X (n := 0) (As := [.int 4]) (rest := []) (kX6_failed l D cs ad N kt (by omega) (up2 σ 0 7 0) τ 4) gX6_sheet_X6_failed rfl hdX6_failed ⟨rfl, rfl, by decide, by decide, by decide, by decide⟩ (by omega) rfl rfl rfl rfl (Nat.le_of_ble_eq_true rfl) dX6_sheet_37 (fun r9 σ9 τ9 h9 => ?_)
          obtain ⟨rfl, rfl, rfl⟩ := h9
          exact go_ireturn X hr hlk dX6_sheet_40 ((have hE : sheetS k lane n = ((-10) - 4, 4) := (by unfold sheetS; (try dsimp only); exact (cif_t c9).trans ((cif_t c19).trans ((cif_t c25).trans ((cif_f c32).trans (rfl))))); ⟨by rw [hE], (cif_f (fun q => c32 q.2.2.2)).trans (by rw [hE]; exact up2_up2.symm), rfl⟩))
      · skip
        refine go_bipush X (v := (-2)) dX6_sheet_28 (by decide) ?_
        exact go_ireturn X hr hlk dX6_sheet_30 ((have hE : sheetS k lane n = ((-2), 0) := (by unfold sheetS; (try dsimp only); exact (cif_t c9).trans ((cif_t c19).trans ((cif_f c25).trans (rfl)))); ⟨by rw [hE], (cif_f (fun q => c25 q.2.2.1)).trans (by rw [hE]), rfl⟩))
  · skip
    refine go_iconst X (v := (-1)) dX6_sheet_12 (by decide) ?_
    exact go_ireturn X hr hlk dX6_sheet_13 ((have hE : sheetS k lane n = ((-1), 0) := (by unfold sheetS; (try dsimp only); exact (cif_f c9).trans (rfl)); ⟨by rw [hE], (cif_f (fun q => c9 q.1)).trans (by rw [hE]), rfl⟩))

theorem hdX6_lose : yX6_lose.cls = RX6 ∧ yX6_lose.cls ≠ "java/lang/invoke/MethodHandle" ∧ yX6_lose.cls ≠ "java/lang/invoke/VarHandle" ∧ (parseMethodDescriptor yX6_lose.desc).map (fun d => d.parameters.length) = some 1 := by decide +kernel
set_option maxHeartbeats 4000000 in
set_option maxRecDepth 100000 in
theorem kX6_lose (l : Launch) (D : va_G) (cs : Nat → ClassId) (ad : Nat → Nat) (N kt : Nat) (hN : 58 ≤ N) (σ : vSg) (τ : vTa) (k : Int32) (nd : Nat) (ns : Nat) (nr : Nat)   (hI : IX σ nd ns nr) : CtI l yX6_lose wsX6_lose ({ frames := 2, cells := 0, slots := 0, locals := 41 }) D cs ad N (shP kt) [.ref (ad (0)), .int k] σ τ 0 0 (fun r9 σ9 τ9 => loseS (fun z9 => σ (12 + z9) 1) k = r9 ∧ cif (isB k 4) (up2 σ (12 + toN k) 1 0) σ = σ9 ∧ τ = τ9) := by
  refine ct_I (cc := cX6_lose) (maxL := 3) (by decide) rfl (Nat.le_of_ble_eq_true rfl) rfl rfl ?_
  intro p e s m args below meth c A X hr hlk
  obtain ⟨⟨hnd, hnd5⟩, ⟨hns, hns4⟩, hdd, hkp, ⟨hnr, hnr8⟩, hrd, hrw, hpos⟩ := id hI
  refine go_iload_n X dX6_lose_0 1 rfl rfl ?_
  refine go_callSI X (As := [.int k]) (rest := []) (kX6_isSheet l D cs ad N kt (by omega) σ τ k) gX6_lose_X6_isSheet rfl hdX6_isSheet ⟨rfl, rfl, by decide, by decide, by decide, by decide⟩ rfl rfl (Nat.le_of_ble_eq_true rfl) dX6_lose_1 (fun r9 σ9 τ9 h9 => ?_)
  obtain ⟨rfl, rfl, rfl⟩ := h9
  refine go_ifb_ne X (tgt := 9) dX6_lose_4 (by decide) (fun c4 => ?_) (fun c4 => ?_)
  · skip
    obtain ⟨i, hi, rfl⟩ := isB_nat (b := 4) c4 (by omega)
    refine go_aload_n X dX6_lose_9 0 rfl rfl ?_
    refine go_getr X (n := 0) (j := 0) (by omega) rfl rfl (fun _ h9 => List.mem_cons_of_mem _ (List.mem_append_left _ (List.mem_append_right _ h9))) (by decide) (List.mem_cons_of_mem _ (List.mem_append_left _ (List.mem_append_left _ (List.mem_of_getElem? (i := 0) rfl)))) rfl dX6_lose_10 ?_
    refine go_iload_n X dX6_lose_13 1 rfl rfl ?_
    refine go_aald3 X (n := 1) (k := i) (by omega) rfl rfl (by omega) (by omega) dX6_lose_14 ?_
    refine go_geti X (n := 12 + i) (j := 1) (by omega) (sh_row (by omega)) rfl (fun _ h9 => List.mem_cons_of_mem _ (List.mem_append_right _ h9)) (by decide) (List.mem_cons_of_mem _ (List.mem_append_left _ (List.mem_append_left _ (List.mem_of_getElem? (i := 1) rfl)))) rfl dX6_lose_15 ?_
    refine go_if_eq X (tgt := 25) dX6_lose_18 (by decide) (fun c18 => ?_) (fun c18 => ?_)
    · skip
      refine go_iconst X (v := 0) dX6_lose_25 (by decide) ?_
      refine go_istore_n X (lv2 := [(2, .int 0), (0, .ref (ad (0))), (1, .int (nI i))]) dX6_lose_26 rfl (by decide) rfl ?_
      refine go_aload_n X dX6_lose_27 1 rfl rfl ?_
      refine go_getr X (n := 0) (j := 0) (by omega) rfl rfl (fun _ h9 => List.mem_cons_of_mem _ (List.mem_append_left _ (List.mem_append_right _ h9))) (by decide) (List.mem_cons_of_mem _ (List.mem_append_left _ (List.mem_append_left _ (List.mem_of_getElem? (i := 0) rfl)))) rfl dX6_lose_28 ?_
      refine go_iload_n X dX6_lose_31 2 rfl rfl ?_
      refine go_aald3 X (n := 1) (k := i) (by omega) rfl rfl (by omega) (by omega) dX6_lose_32 ?_
      refine go_iconst X (v := 0) dX6_lose_33 (by decide) ?_
      refine go_puti X (n := 12 + i) (j := 1) (ty := .boolean) (by omega) (sh_row (by omega)) rfl (fun _ h9 => List.mem_cons_of_mem _ (List.mem_append_right _ h9)) (by decide) (List.mem_cons_of_mem _ (List.mem_append_left _ (List.mem_append_left _ (List.mem_of_getElem? (i := 1) rfl)))) rfl tyX3 tyX3_ok nmX3 rfl (by decide +kernel) rfl rfl dX6_lose_34 ?_
      refine go_iload_n X dX6_lose_37 0 rfl rfl ?_
      exact go_ireturn X hr hlk dX6_lose_38 ((have hE : loseS (fun z9 => σ (12 + z9) 1) (nI i) = 0 := (by unfold loseS; (try dsimp only); (try rw [toN_nI (k := i) (by omega)]); exact (cif_t c4).trans ((cif_t c18).trans (rfl))); ⟨hE, (cif_t c4).trans (by rw [toN_nI (k := i) (by omega)]), rfl⟩))
    · skip
      refine go_iconst X (v := 1) dX6_lose_21 (by decide) ?_
      refine go_goto X (tgt := 26) dX6_lose_22 (by decide) ?_
      refine go_istore_n X (lv2 := [(2, .int 1), (0, .ref (ad (0))), (1, .int (nI i))]) dX6_lose_26 rfl (by decide) rfl ?_
      refine go_aload_n X dX6_lose_27 1 rfl rfl ?_
      refine go_getr X (n := 0) (j := 0) (by omega) rfl rfl (fun _ h9 => List.mem_cons_of_mem _ (List.mem_append_left _ (List.mem_append_right _ h9))) (by decide) (List.mem_cons_of_mem _ (List.mem_append_left _ (List.mem_append_left _ (List.mem_of_getElem? (i := 0) rfl)))) rfl dX6_lose_28 ?_
      refine go_iload_n X dX6_lose_31 2 rfl rfl ?_
      refine go_aald3 X (n := 1) (k := i) (by omega) rfl rfl (by omega) (by omega) dX6_lose_32 ?_
      refine go_iconst X (v := 0) dX6_lose_33 (by decide) ?_
      refine go_puti X (n := 12 + i) (j := 1) (ty := .boolean) (by omega) (sh_row (by omega)) rfl (fun _ h9 => List.mem_cons_of_mem _ (List.mem_append_right _ h9)) (by decide) (List.mem_cons_of_mem _ (List.mem_append_left _ (List.mem_append_left _ (List.mem_of_getElem? (i := 1) rfl)))) rfl tyX3 tyX3_ok nmX3 rfl (by decide +kernel) rfl rfl dX6_lose_34 ?_
      refine go_iload_n X dX6_lose_37 0 rfl rfl ?_
      exact go_ireturn X hr hlk dX6_lose_38 ((have hE : loseS (fun z9 => σ (12 + z9) 1) (nI i) = 1 := (by unfold loseS; (try dsimp only); (try rw [toN_nI (k := i) (by omega)]); exact (cif_t c4).trans ((cif_f c18).trans (rfl))); ⟨hE, (cif_t c4).trans (by rw [toN_nI (k := i) (by omega)]), rfl⟩))
  · skip
    refine go_iconst X (v := (-1)) dX6_lose_7 (by decide) ?_
    exact go_ireturn X hr hlk dX6_lose_8 ((have hE : loseS (fun z9 => σ (12 + z9) 1) k = (-1) := (by unfold loseS; (try dsimp only); exact (cif_f c4).trans (rfl)); ⟨hE, cif_f c4, rfl⟩))

theorem hdX6_put : yX6_put.cls = RX6 ∧ yX6_put.cls ≠ "java/lang/invoke/MethodHandle" ∧ yX6_put.cls ≠ "java/lang/invoke/VarHandle" ∧ (parseMethodDescriptor yX6_put.desc).map (fun d => d.parameters.length) = some 3 := by decide +kernel
set_option maxHeartbeats 4000000 in
set_option maxRecDepth 100000 in
theorem kX6_put (l : Launch) (D : va_G) (cs : Nat → ClassId) (ad : Nat → Nat) (N kt : Nat) (hN : 58 ≤ N) (σ : vSg) (τ : vTa) (k : Int32) (i : Int32) (v : Int32) (nd : Nat) (ns : Nat) (nr : Nat)   (hI : IX σ nd ns nr) : CtI l yX6_put wsX6_put ({ frames := 2, cells := 0, slots := 0, locals := 41 }) D cs ad N (shP kt) [.ref (ad (0)), .int k, .int i, .int v] σ τ 0 0 (fun r9 σ9 τ9 => (putS (fun z9 => σ (12 + z9) 1) (fun z9 => σ (12 + z9) 3) k i).1 = r9 ∧ cif (isB k 4 ∧ ¬ σ (12 + toN k) 1 = 0 ∧ isB i (σ (12 + toN k) 3)) (up2 (up2 σ 0 7 0) (16 + toN k) (toN i) (cutS (σ (12 + toN k) 2) v)) (up2 σ 0 7 (putS (fun z9 => σ (12 + z9) 1) (fun z9 => σ (12 + z9) 3) k i).2) = σ9 ∧ τ = τ9) := by
  refine ct_I (cc := cX6_put) (maxL := 5) (by decide) rfl (Nat.le_of_ble_eq_true rfl) rfl rfl ?_
  intro p e s m args below meth c A X hr hlk
  obtain ⟨⟨hnd, hnd5⟩, ⟨hns, hns4⟩, hdd, hkp, ⟨hnr, hnr8⟩, hrd, hrw, hpos⟩ := id hI
  refine go_aload_n X dX6_put_0 0 rfl rfl ?_
  refine go_iconst X (v := 0) dX6_put_1 (by decide) ?_
  refine go_puti X (n := 0) (j := 7) (ty := .int) (by omega) rfl rfl (fun _ h9 => List.mem_cons_of_mem _ (List.mem_append_left _ (List.mem_append_right _ h9))) (by decide) (List.mem_cons_of_mem _ (List.mem_append_left _ (List.mem_append_left _ (List.mem_of_getElem? (i := 0) rfl)))) rfl tyX6 tyX6_ok nmX6 rfl (by decide +kernel) rfl rfl dX6_put_2 ?_
  refine go_iload_n X dX6_put_5 1 rfl rfl ?_
  refine go_callSI X (As := [.int k]) (rest := []) (kX6_isSheet l D cs ad N kt (by omega) (up2 σ 0 7 0) τ k) gX6_put_X6_isSheet rfl hdX6_isSheet ⟨rfl, rfl, by decide, by decide, by decide, by decide⟩ rfl rfl (Nat.le_of_ble_eq_true rfl) dX6_put_6 (fun r9 σ9 τ9 h9 => ?_)
  obtain ⟨rfl, rfl, rfl⟩ := h9
  refine go_ifb_ne X (tgt := 14) dX6_put_9 (by decide) (fun c9 => ?_) (fun c9 => ?_)
  · skip
    obtain ⟨kk, hkk, rfl⟩ := isB_nat (b := 4) c9 (by omega)
    refine go_aload_n X dX6_put_14 0 rfl rfl ?_
    refine go_getr X (n := 0) (j := 0) (by omega) rfl rfl (fun _ h9 => List.mem_cons_of_mem _ (List.mem_append_left _ (List.mem_append_right _ h9))) (by decide) (List.mem_cons_of_mem _ (List.mem_append_left _ (List.mem_append_left _ (List.mem_of_getElem? (i := 1) rfl)))) rfl dX6_put_15 ?_
    refine go_iload_n X dX6_put_18 1 rfl rfl ?_
    refine go_aald3 X (n := 1) (k := kk) (by omega) rfl rfl (by omega) (by omega) dX6_put_19 ?_
    refine go_astore X (lv2 := [(4, .ref (ad (12 + kk))), (0, .ref (ad (0))), (1, .int (nI kk)), (2, .int i), (3, .int v)]) dX6_put_20 (by decide) rfl ?_
    refine go_aload X dX6_put_22 0 rfl ?_
    refine go_geti X (n := 12 + kk) (j := 1) (by omega) (sh_row (by omega)) rfl (fun _ h9 => List.mem_cons_of_mem _ (List.mem_append_right _ h9)) (by decide) (List.mem_cons_of_mem _ (List.mem_append_left _ (List.mem_append_left _ (List.mem_of_getElem? (i := 2) rfl)))) rfl dX6_put_24 ?_
    refine go_topi (v := σ (12 + kk) 1) ((up2_ne (by omega))) ?_
    refine go_if_ne X (tgt := 36) dX6_put_27 (by decide) (fun c27 => ?_) (fun c27 => ?_)
    · skip
      refine go_iload_n X dX6_put_36 3 rfl rfl ?_
      refine go_aload X dX6_put_37 0 rfl ?_
      refine go_geti X (n := 12 + kk) (j := 3) (by omega) (sh_row (by omega)) rfl (fun _ h9 => List.mem_cons_of_mem _ (List.mem_append_right _ h9)) (by decide) (List.mem_cons_of_mem _ (List.mem_append_left _ (List.mem_append_left _ (List.mem_of_getElem? (i := 3) rfl)))) rfl dX6_put_39 ?_
      refine go_topi (v := σ (12 + kk) 3) ((up2_ne (by omega))) ?_
      refine go_callSI X (As := [.int i, .int (σ (12 + kk) 3)]) (rest := []) (kX6_isBelow l D cs ad N kt (by omega) (up2 σ 0 7 0) τ i (σ (12 + kk) 3)) gX6_put_X6_isBelow rfl hdX6_isBelow ⟨rfl, rfl, by decide, by decide, by decide, by decide⟩ rfl rfl (Nat.le_of_ble_eq_true rfl) dX6_put_42 (fun r9 σ9 τ9 h9 => ?_)
      obtain ⟨rfl, rfl, rfl⟩ := h9
      refine go_ifb_ne X (tgt := 54) dX6_put_45 (by decide) (fun c45 => ?_) (fun c45 => ?_)
      · skip
        obtain ⟨len, hlen, elen⟩ := isB_nat (b := 61) (hrw kk (by omega)).2 (by omega)
        obtain ⟨ii, hii, rfl⟩ := isB_nat (v := i) (b := len) (by rw [← elen]; exact c45) (by omega)
        refine go_aload X dX6_put_54 0 rfl ?_
        refine go_getr X (n := 12 + kk) (j := 0) (by omega) (sh_row (by omega)) rfl (fun _ h9 => List.mem_cons_of_mem _ (List.mem_append_right _ h9)) (by decide) (List.mem_cons_of_mem _ (List.mem_append_left _ (List.mem_append_left _ (List.mem_of_getElem? (i := 4) rfl)))) rfl dX6_put_56 ?_
        refine go_iload_n X dX6_put_59 3 rfl rfl ?_
        refine go_aload X dX6_put_60 0 rfl ?_
        refine go_iload_n X dX6_put_62 4 rfl rfl ?_
        refine go_callVI X (n := 12 + kk) (As := [.int v]) (rest := [.int (nI ii), .ref (ad (16 + kk))]) (kX3_cut l D cs ad N kt (by omega) (up2 σ 0 7 0) τ kk v (σ (12 + kk) 2) ((up2_ne (by omega))) (by omega)) gX6_put_X3_cut rfl hdX3_cut ⟨rfl, rfl, by decide, by decide, by decide, by decide⟩ (by omega) (sh_row (by omega)) rfl rfl rfl (Nat.le_of_ble_eq_true rfl) dX6_put_63 (fun r9 σ9 τ9 h9 => ?_)
        obtain ⟨rfl, rfl, rfl⟩ := h9
        refine go_iast X (n := 16 + kk) (k := ii) (by omega) (sh_cells (by omega)) rfl (by omega) (by omega) dX6_put_66 ?_
        refine go_iconst X (v := 1) dX6_put_67 (by decide) ?_
        exact go_ireturn X hr hlk dX6_put_68 ((have hE : putS (fun z9 => σ (12 + z9) 1) (fun z9 => σ (12 + z9) 3) (nI kk) (nI ii) = (1, 0) := (by unfold putS; dsimp only; rw [toN_nI (k := kk) (by omega)]; exact (cif_t c9).trans ((cif_f c27).trans ((cif_t c45).trans (rfl)))); ⟨by rw [hE], by rw [toN_nI (k := kk) (by omega), toN_nI (k := ii) (by omega)]; exact cif_t ⟨c9, c27, c45⟩, rfl⟩))
      · skip
        refine go_aload_n X dX6_put_48 1 rfl rfl ?_
        refine go_iconst X (v := 3) dX6_put_49 (by decide) ?_
        refine go_callVI X (n := 0) (As := [.int 3]) (rest := []) (kX6_failed l D cs ad N kt (by omega) (up2 σ 0 7 0) τ 3) gX6_put_X6_failed rfl hdX6_failed ⟨rfl, rfl, by decide, by decide, by decide, by decide⟩ (by omega) rfl rfl rfl rfl (Nat.le_of_ble_eq_true rfl) dX6_put_50 (fun r9 σ9 τ9 h9 => ?_)
        obtain ⟨rfl, rfl, rfl⟩ := h9
        exact go_ireturn X hr hlk dX6_put_53 ((have hE : putS (fun z9 => σ (12 + z9) 1) (fun z9 => σ (12 + z9) 3) (nI kk) i = ((-10) - 3, 3) := (by unfold putS; (try dsimp only); (try rw [toN_nI (k := kk) (by omega)]); exact (cif_t c9).trans ((cif_f c27).trans ((cif_f c45).trans (rfl)))); ⟨by rw [hE], (by rw [toN_nI (k := kk) (by omega)]; exact (cif_f (fun q => c45 q.2.2)).trans (by rw [hE]; exact up2_up2.symm)), rfl⟩))
    · skip
      refine go_aload_n X dX6_put_30 1 rfl rfl ?_
      refine go_iconst X (v := 1) dX6_put_31 (by decide) ?_
      refine go_callVI X (n := 0) (As := [.int 1]) (rest := []) (kX6_failed l D cs ad N kt (by omega) (up2 σ 0 7 0) τ 1) gX6_put_X6_failed rfl hdX6_failed ⟨rfl, rfl, by decide, by decide, by decide, by decide⟩ (by omega) rfl rfl rfl rfl (Nat.le_of_ble_eq_true rfl) dX6_put_32 (fun r9 σ9 τ9 h9 => ?_)
      obtain ⟨rfl, rfl, rfl⟩ := h9
      exact go_ireturn X hr hlk dX6_put_35 ((have hE : putS (fun z9 => σ (12 + z9) 1) (fun z9 => σ (12 + z9) 3) (nI kk) i = ((-10) - 1, 1) := (by unfold putS; (try dsimp only); (try rw [toN_nI (k := kk) (by omega)]); exact (cif_t c9).trans ((cif_t c27).trans (rfl))); ⟨by rw [hE], (by rw [toN_nI (k := kk) (by omega)]; exact (cif_f (fun q => q.2.1 c27)).trans (by rw [hE]; exact up2_up2.symm)), rfl⟩))
  · skip
    refine go_iconst X (v := (-1)) dX6_put_12 (by decide) ?_
    exact go_ireturn X hr hlk dX6_put_13 ((have hE : putS (fun z9 => σ (12 + z9) 1) (fun z9 => σ (12 + z9) 3) k i = ((-1), 0) := (by unfold putS; (try dsimp only); exact (cif_f c9).trans (rfl)); ⟨by rw [hE], ((cif_f (fun q => c9 q.1)).trans (by rw [hE])), rfl⟩))

theorem hdX6_cell : yX6_cell.cls = RX6 ∧ yX6_cell.cls ≠ "java/lang/invoke/MethodHandle" ∧ yX6_cell.cls ≠ "java/lang/invoke/VarHandle" ∧ (parseMethodDescriptor yX6_cell.desc).map (fun d => d.parameters.length) = some 3 := by decide +kernel
set_option maxHeartbeats 4000000 in
set_option maxRecDepth 100000 in
theorem kX6_cell (l : Launch) (D : va_G) (cs : Nat → ClassId) (ad : Nat → Nat) (N kt : Nat) (hN : 58 ≤ N) (σ : vSg) (τ : vTa) (k : Int32) (i : Int32) (lane : Int32) (nd : Nat) (ns : Nat) (nr : Nat)   (hI : IX σ nd ns nr) : CtL l yX6_cell wsX6_cell ({ frames := 2, cells := 0, slots := 0, locals := 41 }) D cs ad N (shP kt) [.ref (ad (0)), .int k, .int i, .int lane] σ τ 0 0 (fun r9 σ9 τ9 => (cellS (fun z9 => σ (12 + z9) 1) (fun z9 => σ (12 + z9) 2) (fun z9 => σ (12 + z9) 3) (fun z9 => σ (16 + z9)) k i lane).1 = r9 ∧ (up2 σ 0 7 ((cellS (fun z9 => σ (12 + z9) 1) (fun z9 => σ (12 + z9) 2) (fun z9 => σ (12 + z9) 3) (fun z9 => σ (16 + z9)) k i lane).2)) = σ9 ∧ τ = τ9) := by
  refine ct_L (cc := cX6_cell) (maxL := 5) (by decide) rfl (Nat.le_of_ble_eq_true rfl) rfl rfl ?_
  intro p e s m args below meth c A X hr hlk
  obtain ⟨⟨hnd, hnd5⟩, ⟨hns, hns4⟩, hdd, hkp, ⟨hnr, hnr8⟩, hrd, hrw, hpos⟩ := id hI
  refine go_aload_n X dX6_cell_0 0 rfl rfl ?_
  refine go_iconst X (v := 0) dX6_cell_1 (by decide) ?_
  refine go_puti X (n := 0) (j := 7) (ty := .int) (by omega) rfl rfl (fun _ h9 => List.mem_cons_of_mem _ (List.mem_append_left _ (List.mem_append_right _ h9))) (by decide) (List.mem_cons_of_mem _ (List.mem_append_left _ (List.mem_append_left _ (List.mem_of_getElem? (i := 0) rfl)))) rfl tyX6 tyX6_ok nmX6 rfl (by decide +kernel) rfl rfl dX6_cell_2 ?_
  refine go_iload_n X dX6_cell_5 1 rfl rfl ?_
  refine go_callSI X (As := [.int k]) (rest := []) (kX6_isSheet l D cs ad N kt (by omega) (up2 σ 0 7 0) τ k) gX6_cell_X6_isSheet rfl hdX6_isSheet ⟨rfl, rfl, by decide, by decide, by decide, by decide⟩ rfl rfl (Nat.le_of_ble_eq_true rfl) dX6_cell_6 (fun r9 σ9 τ9 h9 => ?_)
  obtain ⟨rfl, rfl, rfl⟩ := h9
  refine go_ifb_eq X (tgt := 20) dX6_cell_9 (by decide) (fun c9 => ?_) (fun c9 => ?_)
  · skip
    refine go_ldc2 X (v := (-9223372036854775808)) (List.mem_cons_of_mem _ (List.mem_append_left _ (List.mem_append_left _ (List.mem_of_getElem? (i := 1) rfl)))) dX6_cell_20 ?_
    exact go_lreturn X hr hlk dX6_cell_23 ((have hE : cellS (fun z9 => σ (12 + z9) 1) (fun z9 => σ (12 + z9) 2) (fun z9 => σ (12 + z9) 3) (fun z9 => σ (16 + z9)) k i lane = ((-9223372036854775808), 0) := (by unfold cellS; (try dsimp only); exact (cif_f c9).trans (rfl)); ⟨by rw [hE], by rw [hE], rfl⟩))
  · skip
    obtain ⟨kk, hkk, rfl⟩ := isB_nat (b := 4) c9 (by omega)
    refine go_iload_n X dX6_cell_12 3 rfl rfl ?_
    refine go_iconst X (v := 3) dX6_cell_13 (by decide) ?_
    refine go_callSI X (As := [.int lane, .int 3]) (rest := []) (kX6_isBelow l D cs ad N kt (by omega) (up2 σ 0 7 0) τ lane 3) gX6_cell_X6_isBelow rfl hdX6_isBelow ⟨rfl, rfl, by decide, by decide, by decide, by decide⟩ rfl rfl (Nat.le_of_ble_eq_true rfl) dX6_cell_14 (fun r9 σ9 τ9 h9 => ?_)
    obtain ⟨rfl, rfl, rfl⟩ := h9
    refine go_ifb_ne X (tgt := 24) dX6_cell_17 (by decide) (fun c17 => ?_) (fun c17 => ?_)
    · skip
      refine go_aload_n X dX6_cell_24 0 rfl rfl ?_
      refine go_getr X (n := 0) (j := 0) (by omega) rfl rfl (fun _ h9 => List.mem_cons_of_mem _ (List.mem_append_left _ (List.mem_append_right _ h9))) (by decide) (List.mem_cons_of_mem _ (List.mem_append_left _ (List.mem_append_left _ (List.mem_of_getElem? (i := 2) rfl)))) rfl dX6_cell_25 ?_
      refine go_iload_n X dX6_cell_28 1 rfl rfl ?_
      refine go_aald3 X (n := 1) (k := kk) (by omega) rfl rfl (by omega) (by omega) dX6_cell_29 ?_
      refine go_astore X (lv2 := [(4, .ref (ad (12 + kk))), (0, .ref (ad (0))), (1, .int (nI kk)), (2, .int i), (3, .int lane)]) dX6_cell_30 (by decide) rfl ?_
      refine go_aload_n X dX6_cell_32 1 rfl rfl ?_
      refine go_aload X dX6_cell_33 0 rfl ?_
      refine go_iload_n X dX6_cell_35 4 rfl rfl ?_
      refine go_callSI X (As := [.ref (ad (12 + kk)), .int lane]) (rest := [.ref (ad (0))]) (kX6_faultAs l D cs ad N kt (by omega) (up2 σ 0 7 0) τ kk lane (σ (12 + kk) 1) ((up2_ne (by omega))) (σ (12 + kk) 2) ((up2_ne (by omega))) (by omega)) gX6_cell_X6_faultAs rfl hdX6_faultAs ⟨rfl, rfl, by decide, by decide, by decide, by decide⟩ rfl rfl (Nat.le_of_ble_eq_true rfl) dX6_cell_36 (fun r9 σ9 τ9 h9 => ?_)
      obtain ⟨rfl, rfl, rfl⟩ := h9
      refine go_puti X (n := 0) (j := 7) (ty := .int) (by omega) rfl rfl (fun _ h9 => List.mem_cons_of_mem _ (List.mem_append_left _ (List.mem_append_right _ h9))) (by decide) (List.mem_cons_of_mem _ (List.mem_append_left _ (List.mem_append_left _ (List.mem_of_getElem? (i := 0) rfl)))) rfl tyX6 tyX6_ok nmX6 rfl (by decide +kernel) rfl rfl dX6_cell_39 ?_
      refine go_aload_n X dX6_cell_42 1 rfl rfl ?_
      refine go_geti X (n := 0) (j := 7) (by omega) rfl rfl (fun _ h9 => List.mem_cons_of_mem _ (List.mem_append_left _ (List.mem_append_right _ h9))) (by decide) (List.mem_cons_of_mem _ (List.mem_append_left _ (List.mem_append_left _ (List.mem_of_getElem? (i := 0) rfl)))) rfl dX6_cell_43 ?_
      refine go_topi (v := fAsS (σ (12 + kk) 1) (σ (12 + kk) 2) lane) (up2_self) ?_
      refine go_if_eq X (tgt := 53) dX6_cell_46 (by decide) (fun c46 => ?_) (fun c46 => ?_)
      · skip
        refine go_iload_n X dX6_cell_53 3 rfl rfl ?_
        refine go_aload X dX6_cell_54 0 rfl ?_
        refine go_geti X (n := 12 + kk) (j := 3) (by omega) (sh_row (by omega)) rfl (fun _ h9 => List.mem_cons_of_mem _ (List.mem_append_right _ h9)) (by decide) (List.mem_cons_of_mem _ (List.mem_append_left _ (List.mem_append_left _ (List.mem_of_getElem? (i := 3) rfl)))) rfl dX6_cell_56 ?_
        refine go_topi (v := σ (12 + kk) 3) ((up2_ne (by omega)).trans (up2_ne (by omega))) ?_
        refine go_callSI X (As := [.int i, .int (σ (12 + kk) 3)]) (rest := []) (kX6_isBelow l D cs ad N kt (by omega) (up2 (up2 σ 0 7 0) 0 7 (fAsS (σ (12 + kk) 1) (σ (12 + kk) 2) lane)) τ i (σ (12 + kk) 3)) gX6_cell_X6_isBelow rfl hdX6_isBelow ⟨rfl, rfl, by decide, by decide, by decide, by decide⟩ rfl rfl (Nat.le_of_ble_eq_true rfl) dX6_cell_59 (fun r9 σ9 τ9 h9 => ?_)
        obtain ⟨rfl, rfl, rfl⟩ := h9
        refine go_ifb_ne X (tgt := 74) dX6_cell_62 (by decide) (fun c62 => ?_) (fun c62 => ?_)
        · skip
          obtain ⟨len, hlen, elen⟩ := isB_nat (b := 61) (hrw kk (by omega)).2 (by omega)
          obtain ⟨ii, hii, rfl⟩ := isB_nat (v := i) (b := len) (by rw [← elen]; exact c62) (by omega)
          refine go_aload X dX6_cell_74 0 rfl ?_
          refine go_getr X (n := 12 + kk) (j := 0) (by omega) (sh_row (by omega)) rfl (fun _ h9 => List.mem_cons_of_mem _ (List.mem_append_right _ h9)) (by decide) (List.mem_cons_of_mem _ (List.mem_append_left _ (List.mem_append_left _ (List.mem_of_getElem? (i := 4) rfl)))) rfl dX6_cell_76 ?_
          refine go_iload_n X dX6_cell_79 3 rfl rfl ?_
          refine go_iald X (n := 16 + kk) (k := ii) (by omega) (sh_cells (by omega)) rfl (by omega) (by omega) dX6_cell_80 ?_
          refine go_topi (v := σ (16 + kk) ii) ((up2_ne (by omega)).trans (up2_ne (by omega))) ?_
          refine go_i2l X (v := (σ (16 + kk) ii).toInt64) dX6_cell_81 rfl ?_
          exact go_lreturn X hr hlk dX6_cell_82 ((have hE : cellS (fun z9 => σ (12 + z9) 1) (fun z9 => σ (12 + z9) 2) (fun z9 => σ (12 + z9) 3) (fun z9 => σ (16 + z9)) (nI kk) (nI ii) lane = ((σ (16 + kk) ii).toInt64, 0) := (by unfold cellS; (try dsimp only); (try rw [toN_nI (k := kk) (by omega)]); (try rw [toN_nI (k := ii) (by omega)]); exact (cif_t c9).trans ((cif_t c17).trans ((cif_t c46).trans ((cif_t c62).trans (rfl))))); ⟨by rw [hE], by rw [hE, up2_up2, c46], rfl⟩))
        · skip
          refine go_aload_n X dX6_cell_65 1 rfl rfl ?_
          refine go_iconst X (v := 3) dX6_cell_66 (by decide) ?_
          refine go_puti X (n := 0) (j := 7) (ty := .int) (by omega) rfl rfl (fun _ h9 => List.mem_cons_of_mem _ (List.mem_append_left _ (List.mem_append_right _ h9))) (by decide) (List.mem_cons_of_mem _ (List.mem_append_left _ (List.mem_append_left _ (List.mem_of_getElem? (i := 0) rfl)))) rfl tyX6 tyX6_ok nmX6 rfl (by decide +kernel) rfl rfl dX6_cell_67 ?_
          refine go_ldc2 X (v := (-9223372036854775808)) (List.mem_cons_of_mem _ (List.mem_append_left _ (List.mem_append_left _ (List.mem_of_getElem? (i := 1) rfl)))) dX6_cell_70 ?_
          exact go_lreturn X hr hlk dX6_cell_73 ((have hE : cellS (fun z9 => σ (12 + z9) 1) (fun z9 => σ (12 + z9) 2) (fun z9 => σ (12 + z9) 3) (fun z9 => σ (16 + z9)) (nI kk) i lane = ((-9223372036854775808), 3) := (by unfold cellS; (try dsimp only); (try rw [toN_nI (k := kk) (by omega)]); exact (cif_t c9).trans ((cif_t c17).trans ((cif_t c46).trans ((cif_f c62).trans (rfl))))); ⟨by rw [hE], by rw [hE, up2_up2, up2_up2], rfl⟩))
      · skip
        refine go_ldc2 X (v := (-9223372036854775808)) (List.mem_cons_of_mem _ (List.mem_append_left _ (List.mem_append_left _ (List.mem_of_getElem? (i := 1) rfl)))) dX6_cell_49 ?_
        exact go_lreturn X hr hlk dX6_cell_52 ((have hE : cellS (fun z9 => σ (12 + z9) 1) (fun z9 => σ (12 + z9) 2) (fun z9 => σ (12 + z9) 3) (fun z9 => σ (16 + z9)) (nI kk) i lane = ((-9223372036854775808), fAsS (σ (12 + kk) 1) (σ (12 + kk) 2) lane) := (by unfold cellS; (try dsimp only); (try rw [toN_nI (k := kk) (by omega)]); exact (cif_t c9).trans ((cif_t c17).trans ((cif_f c46).trans (rfl)))); ⟨by rw [hE], by rw [hE]; exact up2_up2.symm, rfl⟩))
    · skip
      refine go_ldc2 X (v := (-9223372036854775808)) (List.mem_cons_of_mem _ (List.mem_append_left _ (List.mem_append_left _ (List.mem_of_getElem? (i := 1) rfl)))) dX6_cell_20 ?_
      exact go_lreturn X hr hlk dX6_cell_23 ((have hE : cellS (fun z9 => σ (12 + z9) 1) (fun z9 => σ (12 + z9) 2) (fun z9 => σ (12 + z9) 3) (fun z9 => σ (16 + z9)) (nI kk) i lane = ((-9223372036854775808), 0) := (by unfold cellS; (try dsimp only); (try rw [toN_nI (k := kk) (by omega)]); exact (cif_t c9).trans ((cif_f c17).trans (rfl))); ⟨by rw [hE], by rw [hE], rfl⟩))

theorem hdX6_copy : yX6_copy.cls = RX6 ∧ yX6_copy.cls ≠ "java/lang/invoke/MethodHandle" ∧ yX6_copy.cls ≠ "java/lang/invoke/VarHandle" ∧ (parseMethodDescriptor yX6_copy.desc).map (fun d => d.parameters.length) = some 5 := by decide +kernel
set_option maxHeartbeats 4000000 in
set_option maxRecDepth 100000 in
theorem kX6_copy (l : Launch) (D : va_G) (cs : Nat → ClassId) (ad : Nat → Nat) (N kt : Nat) (hN : 58 ≤ N) (σ : vSg) (τ : vTa) (k : Int32) (i : Int32) (o : Int32) (j : Int32) (n : Int32) (nd : Nat) (ns : Nat) (nr : Nat)   (hI : IX σ nd ns nr) : CtI l yX6_copy wsX6_copy ({ frames := 2, cells := 0, slots := 0, locals := 60 }) D cs ad N (shP kt) [.ref (ad (0)), .int k, .int i, .int o, .int j, .int n] σ τ 0 0 (fun r9 σ9 τ9 => (copyS (fun z9 => σ (12 + z9) 1) (fun z9 => σ (12 + z9) 2) (fun z9 => σ (12 + z9) 3) k i o j n).1 = r9 ∧ cif (isB k 4 ∧ isB o 4 ∧ ¬ σ (12 + toN k) 1 = 0 ∧ ¬ σ (12 + toN o) 1 = 0 ∧ σ (12 + toN k) 2 = σ (12 + toN o) 2 ∧ spanS (σ (12 + toN k) 3) i n ∧ spanS (σ (12 + toN o) 3) j n) (upR (up2 σ 0 7 0) (16 + toN o) (va_cpy (σ (16 + toN k)) (σ (16 + toN o)) (toN i) (toN j) (toN n))) (up2 σ 0 7 (copyS (fun z9 => σ (12 + z9) 1) (fun z9 => σ (12 + z9) 2) (fun z9 => σ (12 + z9) 3) k i o j n).2) = σ9 ∧ τ = τ9) := by
  refine ct_I (cc := cX6_copy) (maxL := 8) (by decide) rfl (Nat.le_of_ble_eq_true rfl) rfl rfl ?_
  intro p e s m args below meth c A X hr hlk
  obtain ⟨⟨hnd, hnd5⟩, ⟨hns, hns4⟩, hdd, hkp, ⟨hnr, hnr8⟩, hrd, hrw, hpos⟩ := id hI
  refine go_aload_n X dX6_copy_0 0 rfl rfl ?_
  refine go_iconst X (v := 0) dX6_copy_1 (by decide) ?_
  refine go_puti X (n := 0) (j := 7) (ty := .int) (by omega) rfl rfl (fun _ h9 => List.mem_cons_of_mem _ (List.mem_append_left _ (List.mem_append_right _ h9))) (by decide) (List.mem_cons_of_mem _ (List.mem_append_left _ (List.mem_append_left _ (List.mem_append_left _ (List.mem_of_getElem? (i := 0) rfl))))) rfl tyX6 tyX6_ok nmX6 rfl (by decide +kernel) rfl rfl dX6_copy_2 ?_
  refine go_iload_n X dX6_copy_5 1 rfl rfl ?_
  refine go_callSI X (As := [.int k]) (rest := []) (kX6_isSheet l D cs ad N kt (by omega) (up2 σ 0 7 0) τ k) gX6_copy_X6_isSheet rfl hdX6_isSheet ⟨rfl, rfl, by decide, by decide, by decide, by decide⟩ rfl rfl (Nat.le_of_ble_eq_true rfl) dX6_copy_6 (fun r9 σ9 τ9 h9 => ?_)
  obtain ⟨rfl, rfl, rfl⟩ := h9
  refine go_ifb_eq X (tgt := 19) dX6_copy_9 (by decide) (fun c9 => ?_) (fun c9 => ?_)
  · skip
    refine go_iconst X (v := (-1)) dX6_copy_19 (by decide) ?_
    exact go_ireturn X hr hlk dX6_copy_20 ((have hE : copyS (fun z9 => σ (12 + z9) 1) (fun z9 => σ (12 + z9) 2) (fun z9 => σ (12 + z9) 3) k i o j n = ((-1), 0) := (by unfold copyS; (try dsimp only); exact (cif_f c9).trans (rfl)); ⟨by rw [hE], ((cif_f (fun q => c9 q.1)).trans (by rw [hE])), rfl⟩))
  · skip
    obtain ⟨kk, hkk, rfl⟩ := isB_nat (b := 4) c9 (by omega)
    refine go_iload_n X dX6_copy_12 3 rfl rfl ?_
    refine go_callSI X (As := [.int o]) (rest := []) (kX6_isSheet l D cs ad N kt (by omega) (up2 σ 0 7 0) τ o) gX6_copy_X6_isSheet rfl hdX6_isSheet ⟨rfl, rfl, by decide, by decide, by decide, by decide⟩ rfl rfl (Nat.le_of_ble_eq_true rfl) dX6_copy_13 (fun r9 σ9 τ9 h9 => ?_)
    obtain ⟨rfl, rfl, rfl⟩ := h9
    refine go_ifb_ne X (tgt := 21) dX6_copy_16 (by decide) (fun c16 => ?_) (fun c16 => ?_)
    · skip
      obtain ⟨oo, hoo, rfl⟩ := isB_nat (b := 4) c16 (by omega)
      refine go_aload_n X dX6_copy_21 0 rfl rfl ?_
      refine go_getr X (n := 0) (j := 0) (by omega) rfl rfl (fun _ h9 => List.mem_cons_of_mem _ (List.mem_append_left _ (List.mem_append_right _ h9))) (by decide) (List.mem_cons_of_mem _ (List.mem_append_left _ (List.mem_append_left _ (List.mem_append_left _ (List.mem_of_getElem? (i := 1) rfl))))) rfl dX6_copy_22 ?_
      refine go_iload_n X dX6_copy_25 1 rfl rfl ?_
      refine go_aald3 X (n := 1) (k := kk) (by omega) rfl rfl (by omega) (by omega) dX6_copy_26 ?_
      refine go_astore X (lv2 := [(6, .ref (ad (12 + kk))), (0, .ref (ad (0))), (1, .int (nI kk)), (2, .int i), (3, .int (nI oo)), (4, .int j), (5, .int n)]) dX6_copy_27 (by decide) rfl ?_
      refine go_aload_n X dX6_copy_29 1 rfl rfl ?_
      refine go_getr X (n := 0) (j := 0) (by omega) rfl rfl (fun _ h9 => List.mem_cons_of_mem _ (List.mem_append_left _ (List.mem_append_right _ h9))) (by decide) (List.mem_cons_of_mem _ (List.mem_append_left _ (List.mem_append_left _ (List.mem_append_left _ (List.mem_of_getElem? (i := 1) rfl))))) rfl dX6_copy_30 ?_
      refine go_iload_n X dX6_copy_33 4 rfl rfl ?_
      refine go_aald3 X (n := 1) (k := oo) (by omega) rfl rfl (by omega) (by omega) dX6_copy_34 ?_
      refine go_astore X (lv2 := [(7, .ref (ad (12 + oo))), (6, .ref (ad (12 + kk))), (0, .ref (ad (0))), (1, .int (nI kk)), (2, .int i), (3, .int (nI oo)), (4, .int j), (5, .int n)]) dX6_copy_35 (by decide) rfl ?_
      refine go_aload X dX6_copy_37 1 rfl ?_
      refine go_geti X (n := 12 + kk) (j := 1) (by omega) (sh_row (by omega)) rfl (fun _ h9 => List.mem_cons_of_mem _ (List.mem_append_right _ h9)) (by decide) (List.mem_cons_of_mem _ (List.mem_append_left _ (List.mem_append_left _ (List.mem_append_left _ (List.mem_of_getElem? (i := 2) rfl))))) rfl dX6_copy_39 ?_
      refine go_topi (v := σ (12 + kk) 1) ((up2_ne (by omega))) ?_
      refine go_if_eq X (tgt := 53) dX6_copy_42 (by decide) (fun c42 => ?_) (fun c42 => ?_)
      · skip
        refine go_aload_n X dX6_copy_53 2 rfl rfl ?_
        refine go_iconst X (v := 1) dX6_copy_54 (by decide) ?_
        refine go_callVI X (n := 0) (As := [.int 1]) (rest := []) (kX6_failed l D cs ad N kt (by omega) (up2 σ 0 7 0) τ 1) gX6_copy_X6_failed rfl hdX6_failed ⟨rfl, rfl, by decide, by decide, by decide, by decide⟩ (by omega) rfl rfl rfl rfl (Nat.le_of_ble_eq_true rfl) dX6_copy_55 (fun r9 σ9 τ9 h9 => ?_)
        obtain ⟨rfl, rfl, rfl⟩ := h9
        exact go_ireturn X hr hlk dX6_copy_58 ((have hE : copyS (fun z9 => σ (12 + z9) 1) (fun z9 => σ (12 + z9) 2) (fun z9 => σ (12 + z9) 3) (nI kk) i (nI oo) j n = ((-10) - 1, 1) := (by unfold copyS; (try dsimp only); (try rw [toN_nI (k := kk) (by omega)]); (try rw [toN_nI (k := oo) (by omega)]); exact (cif_t c9).trans ((cif_t c16).trans ((cif_t c42).trans (rfl)))); ⟨by rw [hE], (by rw [toN_nI (k := kk) (by omega)]; rw [toN_nI (k := oo) (by omega)]; exact (cif_f (fun q => q.2.2.1 c42)).trans (by rw [hE]; exact up2_up2.symm)), rfl⟩))
      · skip
        refine go_aload X dX6_copy_45 0 rfl ?_
        refine go_geti X (n := 12 + oo) (j := 1) (by omega) (sh_row (by omega)) rfl (fun _ h9 => List.mem_cons_of_mem _ (List.mem_append_right _ h9)) (by decide) (List.mem_cons_of_mem _ (List.mem_append_left _ (List.mem_append_left _ (List.mem_append_left _ (List.mem_of_getElem? (i := 2) rfl))))) rfl dX6_copy_47 ?_
        refine go_topi (v := σ (12 + oo) 1) ((up2_ne (by omega))) ?_
        refine go_if_ne X (tgt := 59) dX6_copy_50 (by decide) (fun c50 => ?_) (fun c50 => ?_)
        · skip
          refine go_aload X dX6_copy_59 1 rfl ?_
          refine go_geti X (n := 12 + kk) (j := 2) (by omega) (sh_row (by omega)) rfl (fun _ h9 => List.mem_cons_of_mem _ (List.mem_append_right _ h9)) (by decide) (List.mem_cons_of_mem _ (List.mem_append_left _ (List.mem_append_left _ (List.mem_append_left _ (List.mem_of_getElem? (i := 3) rfl))))) rfl dX6_copy_61 ?_
          refine go_topi (v := σ (12 + kk) 2) ((up2_ne (by omega))) ?_
          refine go_aload X dX6_copy_64 0 rfl ?_
          refine go_geti X (n := 12 + oo) (j := 2) (by omega) (sh_row (by omega)) rfl (fun _ h9 => List.mem_cons_of_mem _ (List.mem_append_right _ h9)) (by decide) (List.mem_cons_of_mem _ (List.mem_append_left _ (List.mem_append_left _ (List.mem_append_left _ (List.mem_of_getElem? (i := 3) rfl))))) rfl dX6_copy_66 ?_
          refine go_topi (v := σ (12 + oo) 2) ((up2_ne (by omega))) ?_
          refine go_icmp_eq X (tgt := 78) dX6_copy_69 (by decide) (fun c69 => ?_) (fun c69 => ?_)
          · skip
            refine go_aload X dX6_copy_78 1 rfl ?_
            refine go_iload_n X dX6_copy_80 4 rfl rfl ?_
            refine go_iload X dX6_copy_81 7 rfl ?_
            refine go_callVI X (n := 12 + kk) (As := [.int i, .int n]) (rest := []) (kX3_spans l D cs ad N kt (by omega) (up2 σ 0 7 0) τ kk i n (σ (12 + kk) 3) ((up2_ne (by omega))) (by omega)) gX6_copy_X3_spans rfl hdX3_spans ⟨rfl, rfl, by decide, by decide, by decide, by decide⟩ (by omega) (sh_row (by omega)) rfl rfl rfl (Nat.le_of_ble_eq_true rfl) dX6_copy_83 (fun r9 σ9 τ9 h9 => ?_)
            obtain ⟨rfl, rfl, rfl⟩ := h9
            refine go_ifb_eq X (tgt := 101) dX6_copy_86 (by decide) (fun c86 => ?_) (fun c86 => ?_)
            · skip
              refine go_aload_n X dX6_copy_101 2 rfl rfl ?_
              refine go_iconst X (v := 3) dX6_copy_102 (by decide) ?_
              refine go_callVI X (n := 0) (As := [.int 3]) (rest := []) (kX6_failed l D cs ad N kt (by omega) (up2 σ 0 7 0) τ 3) gX6_copy_X6_failed rfl hdX6_failed ⟨rfl, rfl, by decide, by decide, by decide, by decide⟩ (by omega) rfl rfl rfl rfl (Nat.le_of_ble_eq_true rfl) dX6_copy_103 (fun r9 σ9 τ9 h9 => ?_)
              obtain ⟨rfl, rfl, rfl⟩ := h9
              exact go_ireturn X hr hlk dX6_copy_106 ((have hE : copyS (fun z9 => σ (12 + z9) 1) (fun z9 => σ (12 + z9) 2) (fun z9 => σ (12 + z9) 3) (nI kk) i (nI oo) j n = ((-10) - 3, 3) := (by unfold copyS; (try dsimp only); (try rw [toN_nI (k := kk) (by omega)]); (try rw [toN_nI (k := oo) (by omega)]); exact (cif_t c9).trans ((cif_t c16).trans ((cif_f c42).trans ((cif_f c50).trans ((cif_t c69).trans ((cif_f c86).trans (rfl))))))); ⟨by rw [hE], (by rw [toN_nI (k := kk) (by omega)]; rw [toN_nI (k := oo) (by omega)]; exact (cif_f (fun q => c86 q.2.2.2.2.2.1)).trans (by rw [hE]; exact up2_up2.symm)), rfl⟩))
            · skip
              refine go_aload X dX6_copy_89 0 rfl ?_
              refine go_iload X dX6_copy_91 6 rfl ?_
              refine go_iload X dX6_copy_93 7 rfl ?_
              refine go_callVI X (n := 12 + oo) (As := [.int j, .int n]) (rest := []) (kX3_spans l D cs ad N kt (by omega) (up2 σ 0 7 0) τ oo j n (σ (12 + oo) 3) ((up2_ne (by omega))) (by omega)) gX6_copy_X3_spans rfl hdX3_spans ⟨rfl, rfl, by decide, by decide, by decide, by decide⟩ (by omega) (sh_row (by omega)) rfl rfl rfl (Nat.le_of_ble_eq_true rfl) dX6_copy_95 (fun r9 σ9 τ9 h9 => ?_)
              obtain ⟨rfl, rfl, rfl⟩ := h9
              refine go_ifb_ne X (tgt := 107) dX6_copy_98 (by decide) (fun c98 => ?_) (fun c98 => ?_)
              · skip
                obtain ⟨len, hlen, elen⟩ := isB_nat (b := 61) (hrw kk (by omega)).2 (by omega)
                obtain ⟨len2, hlen2, elen2⟩ := isB_nat (b := 61) (hrw oo (by omega)).2 (by omega)
                obtain ⟨ii, nn, rfl, rfl, hsp⟩ := spanS_nat (len := len) (by rw [← elen]; exact c86) (by omega)
                obtain ⟨jj, n2, rfl, hn2, hsp2⟩ := spanS_nat (len := len2) (by rw [← elen2]; exact c98) (by omega)
                have hn3 : nn = n2 := (nI_eq (by omega) (by omega)).mp hn2
                refine go_aload X dX6_copy_107 1 rfl ?_
                refine go_getr X (n := 12 + kk) (j := 0) (by omega) (sh_row (by omega)) rfl (fun _ h9 => List.mem_cons_of_mem _ (List.mem_append_right _ h9)) (by decide) (List.mem_cons_of_mem _ (List.mem_append_left _ (List.mem_append_left _ (List.mem_append_left _ (List.mem_of_getElem? (i := 4) rfl))))) rfl dX6_copy_109 ?_
                refine go_iload_n X dX6_copy_112 4 rfl rfl ?_
                refine go_aload X dX6_copy_113 0 rfl ?_
                refine go_getr X (n := 12 + oo) (j := 0) (by omega) (sh_row (by omega)) rfl (fun _ h9 => List.mem_cons_of_mem _ (List.mem_append_right _ h9)) (by decide) (List.mem_cons_of_mem _ (List.mem_append_left _ (List.mem_append_left _ (List.mem_append_left _ (List.mem_of_getElem? (i := 4) rfl))))) rfl dX6_copy_115 ?_
                refine go_iload X dX6_copy_118 6 rfl ?_
                refine go_iload X dX6_copy_120 7 rfl ?_
                refine go_copyi X (List.mem_cons_of_mem _ (List.mem_append_left _ (List.mem_append_left _ (List.mem_append_left _ (List.mem_of_getElem? (i := 5) rfl))))) (List.mem_cons_of_mem _ (List.mem_append_left _ (List.mem_append_left _ (List.mem_append_left _ (List.mem_of_getElem? (i := 6) rfl))))) (List.mem_cons_of_mem _ (List.mem_append_left _ (List.mem_append_left _ (List.mem_append_left _ (List.mem_of_getElem? (i := 7) rfl))))) (List.mem_cons_of_mem _ (List.mem_append_left _ (List.mem_append_left _ (List.mem_append_left _ (List.mem_of_getElem? (i := 8) rfl))))) (by omega) (by omega) (sh_cells (by omega)) (sh_cells (by omega)) (by omega) (by omega) (by omega) (by omega) ⟨by decide, by decide⟩ dX6_copy_122 ?_
                refine go_sg (σ2 := (upR (up2 σ 0 7 0) (16 + oo) (va_cpy (σ (16 + kk)) (σ (16 + oo)) ii jj nn))) (by rw [up2_row (show 16 + kk ≠ 0 by omega), up2_row (show 16 + oo ≠ 0 by omega)]) ?_
                refine go_iload X dX6_copy_125 7 rfl ?_
                exact go_ireturn X hr hlk dX6_copy_127 ((have hE : copyS (fun z9 => σ (12 + z9) 1) (fun z9 => σ (12 + z9) 2) (fun z9 => σ (12 + z9) 3) (nI kk) (nI ii) (nI oo) (nI jj) (nI nn) = (nI nn, 0) := (by unfold copyS; dsimp only; (try rw [toN_nI (k := kk) (by omega)]); (try rw [toN_nI (k := oo) (by omega)]); (try rw [toN_nI (k := ii) (by omega)]); (try rw [toN_nI (k := jj) (by omega)]); (try rw [toN_nI (k := nn) (by omega)]); exact (cif_t c9).trans ((cif_t c16).trans ((cif_f c42).trans ((cif_f c50).trans ((cif_t c69).trans ((cif_t c86).trans ((cif_t c98).trans (rfl)))))))); ⟨by rw [hE], by (try rw [toN_nI (k := kk) (by omega)]); (try rw [toN_nI (k := oo) (by omega)]); (try rw [toN_nI (k := ii) (by omega)]); (try rw [toN_nI (k := jj) (by omega)]); (try rw [toN_nI (k := nn) (by omega)]); exact cif_t ⟨c9, c16, c42, c50, c69, c86, c98⟩, rfl⟩))
              · skip
                refine go_aload_n X dX6_copy_101 2 rfl rfl ?_
                refine go_iconst X (v := 3) dX6_copy_102 (by decide) ?_
                refine go_callVI X (n := 0) (As := [.int 3]) (rest := []) (kX6_failed l D cs ad N kt (by omega) (up2 σ 0 7 0) τ 3) gX6_copy_X6_failed rfl hdX6_failed ⟨rfl, rfl, by decide, by decide, by decide, by decide⟩ (by omega) rfl rfl rfl rfl (Nat.le_of_ble_eq_true rfl) dX6_copy_103 (fun r9 σ9 τ9 h9 => ?_)
                obtain ⟨rfl, rfl, rfl⟩ := h9
                exact go_ireturn X hr hlk dX6_copy_106 ((have hE : copyS (fun z9 => σ (12 + z9) 1) (fun z9 => σ (12 + z9) 2) (fun z9 => σ (12 + z9) 3) (nI kk) i (nI oo) j n = ((-10) - 3, 3) := (by unfold copyS; (try dsimp only); (try rw [toN_nI (k := kk) (by omega)]); (try rw [toN_nI (k := oo) (by omega)]); exact (cif_t c9).trans ((cif_t c16).trans ((cif_f c42).trans ((cif_f c50).trans ((cif_t c69).trans ((cif_t c86).trans ((cif_f c98).trans (rfl)))))))); ⟨by rw [hE], (by rw [toN_nI (k := kk) (by omega)]; rw [toN_nI (k := oo) (by omega)]; exact (cif_f (fun q => c98 q.2.2.2.2.2.2)).trans (by rw [hE]; exact up2_up2.symm)), rfl⟩))
          · skip
            refine go_aload_n X dX6_copy_72 2 rfl rfl ?_
            refine go_iconst X (v := 2) dX6_copy_73 (by decide) ?_
            refine go_callVI X (n := 0) (As := [.int 2]) (rest := []) (kX6_failed l D cs ad N kt (by omega) (up2 σ 0 7 0) τ 2) gX6_copy_X6_failed rfl hdX6_failed ⟨rfl, rfl, by decide, by decide, by decide, by decide⟩ (by omega) rfl rfl rfl rfl (Nat.le_of_ble_eq_true rfl) dX6_copy_74 (fun r9 σ9 τ9 h9 => ?_)
            obtain ⟨rfl, rfl, rfl⟩ := h9
            exact go_ireturn X hr hlk dX6_copy_77 ((have hE : copyS (fun z9 => σ (12 + z9) 1) (fun z9 => σ (12 + z9) 2) (fun z9 => σ (12 + z9) 3) (nI kk) i (nI oo) j n = ((-10) - 2, 2) := (by unfold copyS; (try dsimp only); (try rw [toN_nI (k := kk) (by omega)]); (try rw [toN_nI (k := oo) (by omega)]); exact (cif_t c9).trans ((cif_t c16).trans ((cif_f c42).trans ((cif_f c50).trans ((cif_f c69).trans (rfl)))))); ⟨by rw [hE], (by rw [toN_nI (k := kk) (by omega)]; rw [toN_nI (k := oo) (by omega)]; exact (cif_f (fun q => c69 q.2.2.2.2.1)).trans (by rw [hE]; exact up2_up2.symm)), rfl⟩))
        · skip
          refine go_aload_n X dX6_copy_53 2 rfl rfl ?_
          refine go_iconst X (v := 1) dX6_copy_54 (by decide) ?_
          refine go_callVI X (n := 0) (As := [.int 1]) (rest := []) (kX6_failed l D cs ad N kt (by omega) (up2 σ 0 7 0) τ 1) gX6_copy_X6_failed rfl hdX6_failed ⟨rfl, rfl, by decide, by decide, by decide, by decide⟩ (by omega) rfl rfl rfl rfl (Nat.le_of_ble_eq_true rfl) dX6_copy_55 (fun r9 σ9 τ9 h9 => ?_)
          obtain ⟨rfl, rfl, rfl⟩ := h9
          exact go_ireturn X hr hlk dX6_copy_58 ((have hE : copyS (fun z9 => σ (12 + z9) 1) (fun z9 => σ (12 + z9) 2) (fun z9 => σ (12 + z9) 3) (nI kk) i (nI oo) j n = ((-10) - 1, 1) := (by unfold copyS; (try dsimp only); (try rw [toN_nI (k := kk) (by omega)]); (try rw [toN_nI (k := oo) (by omega)]); exact (cif_t c9).trans ((cif_t c16).trans ((cif_f c42).trans ((cif_t c50).trans (rfl))))); ⟨by rw [hE], (by rw [toN_nI (k := kk) (by omega)]; rw [toN_nI (k := oo) (by omega)]; exact (cif_f (fun q => q.2.2.2.1 c50)).trans (by rw [hE]; exact up2_up2.symm)), rfl⟩))
    · skip
      refine go_iconst X (v := (-1)) dX6_copy_19 (by decide) ?_
      exact go_ireturn X hr hlk dX6_copy_20 ((have hE : copyS (fun z9 => σ (12 + z9) 1) (fun z9 => σ (12 + z9) 2) (fun z9 => σ (12 + z9) 3) (nI kk) i o j n = ((-1), 0) := (by unfold copyS; (try dsimp only); (try rw [toN_nI (k := kk) (by omega)]); exact (cif_t c9).trans ((cif_f c16).trans (rfl))); ⟨by rw [hE], ((cif_f (fun q => c16 q.2.1)).trans (by rw [hE])), rfl⟩))

