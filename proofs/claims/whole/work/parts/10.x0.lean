section GM
variable {p : Program} {l : Launch} {e : Env} {R : Room} {s : State} {m : MethodId} {args : Array Value} {below : List Frame} {meth : Method} {c : Code} {cells slots : Nat} {Q : State → Prop} {D : va_G} {cs : Nat → ClassId} {A : Nat → Prop} {ad : Nat → Nat} {N : Nat} {sh : Nat → vSh} {nL : Nat} {σ : vSg} {τ : vTa} {cc : ByteArray} {Ts : List Cond} {own : String} {pc : Nat} {lv : List (Nat × Value)} {rest : List Value}
theorem go_mmax (X : Cx p m c cc nL s args Ts own D cs A ad N) {idx : Nat} {x y : Int32} (hlink : Cond.methodLink own idx Lib.Math.max.name ∈ Ts) (hstat : Cond.static Lib.Math.max.name ∈ Ts) (hini : Cond.initialized "java/lang/Math" ∈ Ts) (hcode : Cond.code Lib.Math.max.name Lib.Math.max.code 2 (some .int) ∈ Ts) (hR : 1 ≤ R.frames ∧ (rest.map fun v => v.category).sum + 13 ≤ R.locals ∧ cells ≤ R.cells ∧ slots ≤ R.slots) (hdg : decode cc pc = .ok (.invokestatic idx, 3)) (kk : Go p l e R s m args below meth c cells slots Q D cs A ad N sh nL σ τ (pc + 3) lv (.int (if x < y then y else x) :: rest)) : Go p l e R s m args below meth c cells slots Q D cs A ad N sh nL σ τ (pc) lv (.int y :: .int x :: rest) := fun H locs ls hP hS hl => va_mmax X.1.1 X.1.2.1 (X.1.2.2.1.trans hl.1.symm) X.1.2.2.2.1 (X.1.2.2.2.2 _ hlink) (X.1.2.2.2.2 _ hstat) (X.1.2.2.2.2 _ hini) (X.1.2.2.2.2 _ hcode) hR.1 hR.2.1 hR.2.2.1 hR.2.2.2 hdg (kk H locs ls hP hS hl)
theorem go_mmaxl (X : Cx p m c cc nL s args Ts own D cs A ad N) {idx : Nat} {x y : Int64} (hlink : Cond.methodLink own idx Lib.MathLoose.max_long.x ∈ Ts) (hstat : Cond.static Lib.MathLoose.max_long.x ∈ Ts) (hini : Cond.initialized "java/lang/Math" ∈ Ts) (hcode : Cond.code Lib.MathLoose.max_long.x Lib.MathLoose.max_long.code 4 (some .long) ∈ Ts) (hR : 1 ≤ R.frames ∧ (rest.map fun v => v.category).sum + 15 ≤ R.locals ∧ cells ≤ R.cells ∧ slots ≤ R.slots) (hdg : decode cc pc = .ok (.invokestatic idx, 3)) (kk : Go p l e R s m args below meth c cells slots Q D cs A ad N sh nL σ τ (pc + 3) lv (.long (if y < x then x else y) :: rest)) : Go p l e R s m args below meth c cells slots Q D cs A ad N sh nL σ τ (pc) lv (.long y :: .long x :: rest) := fun H locs ls hP hS hl => va_mmax_long X.1.1 X.1.2.1 (X.1.2.2.1.trans hl.1.symm) X.1.2.2.2.1 (X.1.2.2.2.2 _ hlink) (X.1.2.2.2.2 _ hstat) (X.1.2.2.2.2 _ hini) (X.1.2.2.2.2 _ hcode) hR.1 hR.2.1 hR.2.2.1 hR.2.2.2 hdg (kk H locs ls hP hS hl)
end GM
def scS (nd : Nat) : Nat → Int64
  | 0 => 1
  | k + 1 => scS nd k * lN nd
def sumL (f : Nat → Int64) : Nat → Int64
  | 0 => 0
  | n + 1 => sumL f n + f n
def maxL (x y : Int64) : Int64 := if y < x then x else y
def bnS (sc hp : Int64) (u : Int32) : Int64 := (if 0 < u then u else 0).toInt64 * sc + hp
def bpS (sc hp : Int64) (v : Int32) : Int64 := v.toInt64 * sc + hp
def bestS (sc hp hp1 : Int64) (pp : Nat) (u v : Int32) : Int64 := if 0 < pp then maxL (bnS sc hp u) (bpS sc hp1 v) else bnS sc hp u
theorem bestS_p {sc hp hp1 : Int64} {pp : Nat} {u v : Int32} (h : 0 < pp) : bestS sc hp hp1 pp u v = maxL (bnS sc hp u) (bpS sc hp1 v) := if_pos h
theorem bestS_0 {sc hp hp1 : Int64} {pp : Nat} {u v : Int32} (h : pp = 0) : bestS sc hp hp1 pp u v = bnS sc hp u := if_neg (by omega)
def hpS (nd : Nat) (u v : Nat → Int32) : Nat → Nat → Int64
  | 0 => fun _ => 0
  | k + 1 => fun pp => sumL (fun d => bestS (scS nd k) (hpS nd u v k pp) (hpS nd u v k (pp - 1)) pp (u d) (v d)) nd
theorem sumL_1 {f : Nat → Int64} {n : Nat} : sumL f (n + 1) = sumL f n + f n := rfl
/-- the hopes of the first days stand in the outlook's cells, nothing else has changed -/
def lookP (τ : vTa) (nd : Nat) (u v : Nat → Int32) (day : Nat) (ω : vTa) : Prop := (∀ q, q < 25 ∨ 34 ≤ q → q ≠ 36 → ω q = τ q) ∧ ∀ k, k < day → ω 36 k = scS nd k ∧ ∀ pp, pp < 4 → ω (25 + k) pp = hpS nd u v k pp
theorem hdX0_byPaper : yX0_byPaper.cls = RX0 ∧ yX0_byPaper.cls ≠ "java/lang/invoke/MethodHandle" ∧ yX0_byPaper.cls ≠ "java/lang/invoke/VarHandle" ∧ (parseMethodDescriptor yX0_byPaper.desc).map (fun d => d.parameters.length) = some 4 := by decide +kernel
set_option maxHeartbeats 4000000 in
set_option maxRecDepth 100000 in
theorem kX0_byPaper (l : Launch) (D : va_G) (cs : Nat → ClassId) (ad : Nat → Nat) (N kt : Nat) (hN : 58 ≤ N) (σ : vSg) (τ : vTa) (j : Nat) (lt : Nat) (pp : Nat) (wo : Int32) (h_wo : σ (20 + j) 0 = wo) (sc : Int64) (h_sc : τ 36 lt = sc) (hp : Int64) (h_hp : τ (25 + lt) (pp - 1) = hp) (hj : j < 5) (hlt : lt < 9) (hpp : 1 ≤ pp) (hp4 : pp < 4) : CtL l yX0_byPaper wsX0_byPaper ({ frames := 1, cells := 0, slots := 0, locals := 21 }) D cs ad N (shP kt) [.ref (ad (4)), .ref (ad (2)), .int (nI j), .int (nI lt), .int (nI pp)] σ τ 0 0 (fun r9 σ9 τ9 => bpS sc hp (10 * wo) = r9 ∧ σ = σ9 ∧ τ = τ9) := by
  refine ct_L (cc := cX0_byPaper) (maxL := 5) (by decide) rfl (Nat.le_of_ble_eq_true rfl) rfl rfl ?_
  intro p e s m args below meth c A X hr hlk
  refine go_aload_n X dX0_byPaper_0 1 rfl rfl ?_
  refine go_iload_n X dX0_byPaper_1 2 rfl rfl ?_
  refine go_callVI X (n := 2) (As := [.int (nI j)]) (rest := []) (kX2_pardonedValue l D cs ad N kt (by omega) σ τ j wo (h_wo) (by omega)) gX0_byPaper_X2_pardonedValue rfl hdX2_pardonedValue ⟨rfl, rfl, by decide, by decide, by decide, by decide⟩ (by omega) rfl rfl rfl rfl (Nat.le_of_ble_eq_true rfl) dX0_byPaper_2 (fun r9 σ9 τ9 h9 => ?_)
  obtain ⟨rfl, rfl, rfl⟩ := h9
  refine go_i2l X (v := (10 * wo).toInt64) dX0_byPaper_5 rfl ?_
  refine go_aload_n X dX0_byPaper_6 0 rfl rfl ?_
  refine go_getr X (n := 4) (j := 1) (by omega) rfl rfl (fun _ h9 => List.mem_cons_of_mem _ (List.mem_append_left _ (List.mem_append_right _ h9))) (by decide) (List.mem_cons_of_mem _ (List.mem_append_left _ (List.mem_append_left _ (List.mem_of_getElem? (i := 0) rfl)))) rfl dX0_byPaper_7 ?_
  refine go_iload_n X dX0_byPaper_10 3 rfl rfl ?_
  refine go_lald X (n := 36) (k := lt) (by omega) rfl rfl (by omega) (by omega) dX0_byPaper_11 ?_
  refine go_topl (v := sc) (h_sc) ?_
  refine go_lmul X dX0_byPaper_12 ?_
  refine go_aload_n X dX0_byPaper_13 0 rfl rfl ?_
  refine go_getr X (n := 4) (j := 0) (by omega) rfl rfl (fun _ h9 => List.mem_cons_of_mem _ (List.mem_append_left _ (List.mem_append_right _ h9))) (by decide) (List.mem_cons_of_mem _ (List.mem_append_left _ (List.mem_append_left _ (List.mem_of_getElem? (i := 1) rfl)))) rfl dX0_byPaper_14 ?_
  refine go_iload_n X dX0_byPaper_17 3 rfl rfl ?_
  refine go_aald5 X (n := 35) (k := lt) (by omega) rfl rfl (by omega) (by omega) dX0_byPaper_18 ?_
  refine go_iload X dX0_byPaper_19 4 rfl ?_
  refine go_iconst X (v := 1) dX0_byPaper_21 (by decide) ?_
  refine go_isub X dX0_byPaper_22 ?_
  refine go_lald X (n := 25 + lt) (k := pp - 1) (by omega) (sh_hope (by omega)) (pk_sub (by omega)) (by omega) (by omega) dX0_byPaper_23 ?_
  refine go_topl (v := hp) (h_hp) ?_
  refine go_ladd X dX0_byPaper_24 ?_
  exact go_lreturn X hr hlk dX0_byPaper_25 (⟨rfl, rfl, rfl⟩)

theorem hdX0_byNone : yX0_byNone.cls = RX0 ∧ yX0_byNone.cls ≠ "java/lang/invoke/MethodHandle" ∧ yX0_byNone.cls ≠ "java/lang/invoke/VarHandle" ∧ (parseMethodDescriptor yX0_byNone.desc).map (fun d => d.parameters.length) = some 5 := by decide +kernel
set_option maxHeartbeats 4000000 in
set_option maxRecDepth 100000 in
theorem kX0_byNone (l : Launch) (D : va_G) (cs : Nat → ClassId) (ad : Nat → Nat) (N kt : Nat) (hN : 58 ≤ N) (σ : vSg) (τ : vTa) (i : Nat) (j : Nat) (lt : Nat) (pp : Nat) (kd : Int32) (h_kd : σ 8 i = kd) (wo : Int32) (h_wo : σ (20 + j) 0 = wo) (rk : Int32) (h_rk : σ (20 + j) 1 = rk) (hu : Int32) (h_hu : σ (20 + j) 2 = hu) (sc : Int64) (h_sc : τ 36 lt = sc) (hp : Int64) (h_hp : τ (25 + lt) pp = hp) (hi : i < 4) (hj : j < 5) (hlt : lt < 9) (hp4 : pp < 4) : CtL l yX0_byNone wsX0_byNone ({ frames := 2, cells := 0, slots := 0, locals := 45 }) D cs ad N (shP kt) [.ref (ad (4)), .ref (ad (2)), .int (nI i), .int (nI j), .int (nI lt), .int (nI pp)] σ τ 0 0 (fun r9 σ9 τ9 => bnS sc hp (valS kd wo rk hu) = r9 ∧ σ = σ9 ∧ τ = τ9) := by
  refine ct_L (cc := cX0_byNone) (maxL := 6) (by decide) rfl (Nat.le_of_ble_eq_true rfl) rfl rfl ?_
  intro p e s m args below meth c A X hr hlk
  refine go_iconst X (v := 0) dX0_byNone_0 (by decide) ?_
  refine go_aload_n X dX0_byNone_1 1 rfl rfl ?_
  refine go_iload_n X dX0_byNone_2 2 rfl rfl ?_
  refine go_iload_n X dX0_byNone_3 3 rfl rfl ?_
  refine go_callVI X (n := 2) (As := [.int (nI i), .int (nI j)]) (rest := [.int 0]) (kX2_unpardonedValue l D cs ad N kt (by omega) σ τ i j kd (h_kd) wo (h_wo) rk (h_rk) hu (h_hu) (by omega) (by omega)) gX0_byNone_X2_unpardonedValue rfl hdX2_unpardonedValue ⟨rfl, rfl, by decide, by decide, by decide, by decide⟩ (by omega) rfl rfl rfl rfl (Nat.le_of_ble_eq_true rfl) dX0_byNone_4 (fun r9 σ9 τ9 h9 => ?_)
  obtain ⟨rfl, rfl, rfl⟩ := h9
  refine go_mmax X (List.mem_cons_of_mem _ (List.mem_append_left _ (List.mem_append_left _ (List.mem_of_getElem? (i := 0) rfl)))) (List.mem_cons_of_mem _ (List.mem_append_left _ (List.mem_append_left _ (List.mem_of_getElem? (i := 1) rfl)))) (List.mem_cons_of_mem _ (List.mem_append_left _ (List.mem_append_left _ (List.mem_of_getElem? (i := 2) rfl)))) (List.mem_cons_of_mem _ (List.mem_append_left _ (List.mem_append_left _ (List.mem_of_getElem? (i := 3) rfl)))) ⟨Nat.le_of_ble_eq_true rfl, Nat.le_of_ble_eq_true rfl, Nat.le_of_ble_eq_true rfl, Nat.le_of_ble_eq_true rfl⟩ dX0_byNone_7 ?_
  refine go_i2l X (v := (if 0 < (valS kd wo rk hu) then valS kd wo rk hu else 0).toInt64) dX0_byNone_10 rfl ?_
  refine go_aload_n X dX0_byNone_11 0 rfl rfl ?_
  refine go_getr X (n := 4) (j := 1) (by omega) rfl rfl (fun _ h9 => List.mem_cons_of_mem _ (List.mem_append_left _ (List.mem_append_right _ h9))) (by decide) (List.mem_cons_of_mem _ (List.mem_append_left _ (List.mem_append_left _ (List.mem_of_getElem? (i := 4) rfl)))) rfl dX0_byNone_12 ?_
  refine go_iload X dX0_byNone_15 4 rfl ?_
  refine go_lald X (n := 36) (k := lt) (by omega) rfl rfl (by omega) (by omega) dX0_byNone_17 ?_
  refine go_topl (v := sc) (h_sc) ?_
  refine go_lmul X dX0_byNone_18 ?_
  refine go_aload_n X dX0_byNone_19 0 rfl rfl ?_
  refine go_getr X (n := 4) (j := 0) (by omega) rfl rfl (fun _ h9 => List.mem_cons_of_mem _ (List.mem_append_left _ (List.mem_append_right _ h9))) (by decide) (List.mem_cons_of_mem _ (List.mem_append_left _ (List.mem_append_left _ (List.mem_of_getElem? (i := 5) rfl)))) rfl dX0_byNone_20 ?_
  refine go_iload X dX0_byNone_23 4 rfl ?_
  refine go_aald5 X (n := 35) (k := lt) (by omega) rfl rfl (by omega) (by omega) dX0_byNone_25 ?_
  refine go_iload X dX0_byNone_26 5 rfl ?_
  refine go_lald X (n := 25 + lt) (k := pp) (by omega) (sh_hope (by omega)) rfl (by omega) (by omega) dX0_byNone_28 ?_
  refine go_topl (v := hp) (h_hp) ?_
  refine go_ladd X dX0_byNone_29 ?_
  exact go_lreturn X hr hlk dX0_byNone_30 (⟨rfl, rfl, rfl⟩)

theorem hdX0_sumOfBest : yX0_sumOfBest.cls = RX0 ∧ yX0_sumOfBest.cls ≠ "java/lang/invoke/MethodHandle" ∧ yX0_sumOfBest.cls ≠ "java/lang/invoke/VarHandle" ∧ (parseMethodDescriptor yX0_sumOfBest.desc).map (fun d => d.parameters.length) = some 4 := by decide +kernel
set_option maxHeartbeats 4000000 in
set_option maxRecDepth 100000 in
theorem kX0_sumOfBest (l : Launch) (D : va_G) (cs : Nat → ClassId) (ad : Nat → Nat) (N kt : Nat) (hN : 58 ≤ N) (σ : vSg) (τ : vTa) (i : Nat) (lt : Nat) (pp : Nat) (nd : Nat)  (sc : Int64) (h_sc : τ 36 lt = sc) (hp : Int64) (h_hp : τ (25 + lt) pp = hp) (hp1 : Int64) (h_hp1 : τ (25 + lt) (pp - 1) = hp1) (hnd : σ 2 3 = nI nd) (hle : nd ≤ 5) (hi : i < 4) (hlt : lt < 9) (hp4 : pp < 4) : CtL l yX0_sumOfBest wsX0_sumOfBest ({ frames := 3, cells := 0, slots := 0, locals := 70 }) D cs ad N (shP kt) [.ref (ad (4)), .ref (ad (2)), .int (nI i), .int (nI lt), .int (nI pp)] σ τ 0 0 (fun r9 σ9 τ9 => sumL (fun z9 => bestS sc hp hp1 pp (uvX σ i z9) (pvX σ z9)) nd = r9 ∧ σ = σ9 ∧ τ = τ9) := by
  refine ct_L (cc := cX0_sumOfBest) (maxL := 10) (by decide) rfl (Nat.le_of_ble_eq_true rfl) rfl rfl ?_
  intro p e s m args below meth c A X hr hlk
  refine go_lconst X (v := 0) dX0_sumOfBest_0 (by decide) ?_
  refine go_lstore X (lv2 := [(5, .long 0), (0, .ref (ad (4))), (1, .ref (ad (2))), (2, .int (nI i)), (3, .int (nI lt)), (4, .int (nI pp))]) dX0_sumOfBest_1 (by decide) rfl ?_
  refine go_iconst X (v := 0) dX0_sumOfBest_3 (by decide) ?_
  refine go_istore X (lv2 := [(7, .int 0), (5, .long 0), (0, .ref (ad (4))), (1, .ref (ad (2))), (2, .int (nI i)), (3, .int (nI lt)), (4, .int (nI pp))]) dX0_sumOfBest_4 (by decide) rfl ?_
  refine go_loop (ι := Nat) (fun i9 => (i9 ≤ nd)) (fun i9 => nd - i9) (fun i9 => σ) (fun i9 => τ) (fun i9 => [(7, .int (nI i9)), (5, .long (sumL (fun z9 => bestS sc hp hp1 pp (uvX σ i z9) (pvX σ z9)) i9)), (0, .ref (ad (4))), (1, .ref (ad (2))), (2, .int (nI i)), (3, .int (nI lt)), (4, .int (nI pp))]) (fun i9 => []) 0 (by (try dsimp only); exact (Nat.zero_le _)) ?_
  intro i9 hi9 ih6
  obtain ⟨d, hv9⟩ : ∃ z, z = i9 := ⟨_, rfl⟩; subst hv9
  (try dsimp only at hi9); (try dsimp only at ih6); (try dsimp only)
  have hd := hi9
  refine go_iload X dX0_sumOfBest_6 0 rfl ?_
  refine go_aload_n X dX0_sumOfBest_8 3 rfl rfl ?_
  refine go_geti X (n := 2) (j := 3) (by omega) rfl rfl (fun _ h9 => List.mem_cons_of_mem _ (List.mem_append_left _ (List.mem_append_right _ h9))) (by decide) (List.mem_cons_of_mem _ (List.mem_append_left _ (List.mem_append_left _ (List.mem_append_left _ (List.mem_of_getElem? (i := 0) rfl))))) rfl dX0_sumOfBest_9 ?_
  refine go_topi (v := nI nd) (hnd) ?_
  refine go_icmpn_ge X (tgt := 63) dX0_sumOfBest_12 (by decide) (a := d) (b := nd) rfl rfl (by omega) (by omega) (fun c12 => ?_) (fun c12 => ?_)
  · skip
    refine go_lload X dX0_sumOfBest_63 1 rfl ?_
    exact go_lreturn X hr hlk dX0_sumOfBest_65 (⟨by rw [show d = nd by omega], rfl, rfl⟩)
  · skip
    refine go_aload_n X dX0_sumOfBest_15 2 rfl rfl ?_
    refine go_aload_n X dX0_sumOfBest_16 3 rfl rfl ?_
    refine go_iload_n X dX0_sumOfBest_17 4 rfl rfl ?_
    refine go_iload X dX0_sumOfBest_18 0 rfl ?_
    refine go_iload_n X dX0_sumOfBest_20 5 rfl rfl ?_
    refine go_iload X dX0_sumOfBest_21 6 rfl ?_
    refine go_callVL X (n := 4) (As := [.ref (ad (2)), .int (nI i), .int (nI d), .int (nI lt), .int (nI pp)]) (rest := []) (kX0_byNone l D cs ad N kt (by omega) σ τ i d lt pp (σ 8 i) (rfl) (σ (20 + d) 0) (rfl) (σ (20 + d) 1) (rfl) (σ (20 + d) 2) (rfl) sc (h_sc) hp (h_hp) (by omega) (by omega) (by omega) (by omega)) gX0_sumOfBest_X0_byNone rfl hdX0_byNone ⟨rfl, rfl, by decide, by decide, by decide, by decide⟩ (by omega) rfl rfl rfl rfl (Nat.le_of_ble_eq_true rfl) dX0_sumOfBest_23 (fun r9 σ9 τ9 h9 => ?_)
    obtain ⟨rfl, rfl, rfl⟩ := h9
    refine go_lstore X (lv2 := [(8, .long (bnS sc hp (valS (σ 8 i) (σ (20 + d) 0) (σ (20 + d) 1) (σ (20 + d) 2)))), (7, .int (nI d)), (5, .long (sumL (fun z9 => bestS sc hp hp1 pp (uvX σ i z9) (pvX σ z9)) d)), (0, .ref (ad (4))), (1, .ref (ad (2))), (2, .int (nI i)), (3, .int (nI lt)), (4, .int (nI pp))]) dX0_sumOfBest_26 (by decide) rfl ?_
    refine go_iload X dX0_sumOfBest_28 7 rfl ?_
    refine go_ifn_le X (tgt := 50) dX0_sumOfBest_30 (by decide) (a := pp) rfl (by omega) (fun c30 => ?_) (fun c30 => ?_)
    · skip
      refine go_lload X dX0_sumOfBest_50 2 rfl ?_
      refine go_lload X dX0_sumOfBest_52 0 rfl ?_
      refine go_ladd X dX0_sumOfBest_54 ?_
      refine go_topl (v := sumL (fun z9 => bestS sc hp hp1 pp (uvX σ i z9) (pvX σ z9)) (d + 1)) (by rw [sumL_1]; show _ = _ + bestS sc hp hp1 pp (uvX σ i d) (pvX σ d); rw [bestS_0 c30]; rfl) ?_
      refine go_lstore X (lv2 := [(5, .long (sumL (fun z9 => bestS sc hp hp1 pp (uvX σ i z9) (pvX σ z9)) (d + 1))), (8, .long (bnS sc hp (valS (σ 8 i) (σ (20 + d) 0) (σ (20 + d) 1) (σ (20 + d) 2)))), (7, .int (nI d)), (0, .ref (ad (4))), (1, .ref (ad (2))), (2, .int (nI i)), (3, .int (nI lt)), (4, .int (nI pp))]) dX0_sumOfBest_55 (by decide) rfl ?_
      refine go_iinc X (v := nI (d + 1)) (lv2 := [(7, .int (nI (d + 1))), (5, .long (sumL (fun z9 => bestS sc hp hp1 pp (uvX σ i z9) (pvX σ z9)) (d + 1))), (8, .long (bnS sc hp (valS (σ 8 i) (σ (20 + d) 0) (σ (20 + d) 1) (σ (20 + d) 2)))), (0, .ref (ad (4))), (1, .ref (ad (2))), (2, .int (nI i)), (3, .int (nI lt)), (4, .int (nI pp))]) dX0_sumOfBest_57 (k := 2) rfl (nI_add d 1) (by decide) rfl ?_
      refine go_goto X (tgt := 6) dX0_sumOfBest_60 (by decide) ?_
      refine go_lvsub [0, 1, 3, 4, 5, 6, 7] rfl ?_
      exact ih6 (d + 1) (by (try dsimp only); exact (by omega)) (by (try dsimp only); omega)
    · skip
      refine go_lload X dX0_sumOfBest_33 0 rfl ?_
      refine go_aload_n X dX0_sumOfBest_35 3 rfl rfl ?_
      refine go_aload_n X dX0_sumOfBest_36 4 rfl rfl ?_
      refine go_iload X dX0_sumOfBest_37 1 rfl ?_
      refine go_iload_n X dX0_sumOfBest_39 6 rfl rfl ?_
      refine go_iload X dX0_sumOfBest_40 7 rfl ?_
      refine go_callVL X (n := 4) (As := [.ref (ad (2)), .int (nI d), .int (nI lt), .int (nI pp)]) (rest := [.long (bnS sc hp (valS (σ 8 i) (σ (20 + d) 0) (σ (20 + d) 1) (σ (20 + d) 2)))]) (kX0_byPaper l D cs ad N kt (by omega) σ τ d lt pp (σ (20 + d) 0) (rfl) sc (h_sc) hp1 (h_hp1) (by omega) (by omega) (by omega) (by omega)) gX0_sumOfBest_X0_byPaper rfl hdX0_byPaper ⟨rfl, rfl, by decide, by decide, by decide, by decide⟩ (by omega) rfl rfl rfl rfl (Nat.le_of_ble_eq_true rfl) dX0_sumOfBest_42 (fun r9 σ9 τ9 h9 => ?_)
      obtain ⟨rfl, rfl, rfl⟩ := h9
      refine go_mmaxl X (List.mem_cons_of_mem _ (List.mem_append_left _ (List.mem_append_left _ (List.mem_append_left _ (List.mem_of_getElem? (i := 1) rfl))))) (List.mem_cons_of_mem _ (List.mem_append_left _ (List.mem_append_left _ (List.mem_append_left _ (List.mem_of_getElem? (i := 2) rfl))))) (List.mem_cons_of_mem _ (List.mem_append_left _ (List.mem_append_left _ (List.mem_append_left _ (List.mem_of_getElem? (i := 3) rfl))))) (List.mem_cons_of_mem _ (List.mem_append_left _ (List.mem_append_left _ (List.mem_append_left _ (List.mem_of_getElem? (i := 4) rfl))))) ⟨Nat.le_of_ble_eq_true rfl, Nat.le_of_ble_eq_true rfl, Nat.le_of_ble_eq_true rfl, Nat.le_of_ble_eq_true rfl⟩ dX0_sumOfBest_45 ?_
      refine go_lstore X (lv2 := [(8, .long (if bpS sc hp1 (10 * (σ (20 + d) 0)) < bnS sc hp (valS (σ 8 i) (σ (20 + d) 0) (σ (20 + d) 1) (σ (20 + d) 2)) then bnS sc hp (valS (σ 8 i) (σ (20 + d) 0) (σ (20 + d) 1) (σ (20 + d) 2)) else bpS sc hp1 (10 * (σ (20 + d) 0)))), (7, .int (nI d)), (5, .long (sumL (fun z9 => bestS sc hp hp1 pp (uvX σ i z9) (pvX σ z9)) d)), (0, .ref (ad (4))), (1, .ref (ad (2))), (2, .int (nI i)), (3, .int (nI lt)), (4, .int (nI pp))]) dX0_sumOfBest_48 (by decide) rfl ?_
      refine go_lload X dX0_sumOfBest_50 2 rfl ?_
      refine go_lload X dX0_sumOfBest_52 0 rfl ?_
      refine go_ladd X dX0_sumOfBest_54 ?_
      refine go_topl (v := sumL (fun z9 => bestS sc hp hp1 pp (uvX σ i z9) (pvX σ z9)) (d + 1)) (by rw [sumL_1]; show _ = _ + bestS sc hp hp1 pp (uvX σ i d) (pvX σ d); rw [bestS_p c30]; rfl) ?_
      refine go_lstore X (lv2 := [(5, .long (sumL (fun z9 => bestS sc hp hp1 pp (uvX σ i z9) (pvX σ z9)) (d + 1))), (8, .long (if bpS sc hp1 (10 * (σ (20 + d) 0)) < bnS sc hp (valS (σ 8 i) (σ (20 + d) 0) (σ (20 + d) 1) (σ (20 + d) 2)) then bnS sc hp (valS (σ 8 i) (σ (20 + d) 0) (σ (20 + d) 1) (σ (20 + d) 2)) else bpS sc hp1 (10 * (σ (20 + d) 0)))), (7, .int (nI d)), (0, .ref (ad (4))), (1, .ref (ad (2))), (2, .int (nI i)), (3, .int (nI lt)), (4, .int (nI pp))]) dX0_sumOfBest_55 (by decide) rfl ?_
      refine go_iinc X (v := nI (d + 1)) (lv2 := [(7, .int (nI (d + 1))), (5, .long (sumL (fun z9 => bestS sc hp hp1 pp (uvX σ i z9) (pvX σ z9)) (d + 1))), (8, .long (if bpS sc hp1 (10 * (σ (20 + d) 0)) < bnS sc hp (valS (σ 8 i) (σ (20 + d) 0) (σ (20 + d) 1) (σ (20 + d) 2)) then bnS sc hp (valS (σ 8 i) (σ (20 + d) 0) (σ (20 + d) 1) (σ (20 + d) 2)) else bpS sc hp1 (10 * (σ (20 + d) 0)))), (0, .ref (ad (4))), (1, .ref (ad (2))), (2, .int (nI i)), (3, .int (nI lt)), (4, .int (nI pp))]) dX0_sumOfBest_57 (k := 2) rfl (nI_add d 1) (by decide) rfl ?_
      refine go_goto X (tgt := 6) dX0_sumOfBest_60 (by decide) ?_
      refine go_lvsub [0, 1, 3, 4, 5, 6, 7] rfl ?_
      exact ih6 (d + 1) (by (try dsimp only); exact (by omega)) (by (try dsimp only); omega)

theorem scS_1 {nd day : Nat} (h : 1 ≤ day) : scS nd (day - 1) * lN nd = scS nd day := by
  obtain ⟨k, rfl⟩ : ∃ k, day = k + 1 := ⟨day - 1, by omega⟩
  rfl
theorem hpS_1 {nd day pp : Nat} {u v : Nat → Int32} (h : 1 ≤ day) : sumL (fun z9 => bestS (scS nd (day - 1)) (hpS nd u v (day - 1) pp) (hpS nd u v (day - 1) (pp - 1)) pp (u z9) (v z9)) nd = hpS nd u v day pp := by
  obtain ⟨k, rfl⟩ : ∃ k, day = k + 1 := ⟨day - 1, by omega⟩
  rfl
theorem hdX0_lookAhead : yX0_lookAhead.cls = RX0 ∧ yX0_lookAhead.cls ≠ "java/lang/invoke/MethodHandle" ∧ yX0_lookAhead.cls ≠ "java/lang/invoke/VarHandle" ∧ (parseMethodDescriptor yX0_lookAhead.desc).map (fun d => d.parameters.length) = some 3 := by decide +kernel
set_option maxHeartbeats 4000000 in
set_option maxRecDepth 100000 in
theorem kX0_lookAhead (l : Launch) (D : va_G) (cs : Nat → ClassId) (ad : Nat → Nat) (N kt : Nat) (hN : 58 ≤ N) (σ : vSg) (τ : vTa) (i : Nat) (n : Nat) (nd : Nat)  (hnd : σ 2 3 = nI nd) (hle : nd ≤ 5) (hi : i < 4) (hn : n < 9) : CtV l yX0_lookAhead wsX0_lookAhead ({ frames := 4, cells := 0, slots := 0, locals := 99 }) D cs ad N (shP kt) [.ref (ad (4)), .ref (ad (2)), .int (nI i), .int (nI n)] σ τ 0 0 (fun σ9 τ9 => σ = σ9 ∧ lookP τ nd (uvX σ i) (pvX σ) (n + 1) τ9) := by
  refine ct_V (cc := cX0_lookAhead) (maxL := 6) (by decide) rfl (Nat.le_of_ble_eq_true rfl) rfl rfl ?_
  intro p e s m args below meth c A X hr hlk
  refine go_aload_n X dX0_lookAhead_0 0 rfl rfl ?_
  refine go_getr X (n := 4) (j := 1) (by omega) rfl rfl (fun _ h9 => List.mem_cons_of_mem _ (List.mem_append_left _ (List.mem_append_right _ h9))) (by decide) (List.mem_cons_of_mem _ (List.mem_append_left _ (List.mem_append_left _ (List.mem_append_left _ (List.mem_of_getElem? (i := 0) rfl))))) rfl dX0_lookAhead_1 ?_
  refine go_iconst X (v := 0) dX0_lookAhead_4 (by decide) ?_
  refine go_lconst X (v := 1) dX0_lookAhead_5 (by decide) ?_
  refine go_last X (n := 36) (k := 0) (by omega) rfl rfl (by omega) (by omega) dX0_lookAhead_6 ?_
  refine go_iconst X (v := 0) dX0_lookAhead_7 (by decide) ?_
  refine go_istore X (lv2 := [(4, .int 0), (0, .ref (ad (4))), (1, .ref (ad (2))), (2, .int (nI i)), (3, .int (nI n))]) dX0_lookAhead_8 (by decide) rfl ?_
  refine go_loop (ι := Nat × vTa) (fun i9 => (i9.1 ≤ 4) ∧ (∀ q, q < 25 ∨ 34 ≤ q → q ≠ 36 → i9.2 q = τ q) ∧ (i9.2 36 0 = 1) ∧ (∀ b, b < i9.1 → i9.2 (25 + 0) b = 0)) (fun i9 => 4 - i9.1) (fun i9 => σ) (fun i9 => i9.2) (fun i9 => [(4, .int (nI i9.1)), (0, .ref (ad (4))), (1, .ref (ad (2))), (2, .int (nI i)), (3, .int (nI n))]) (fun i9 => []) (0, (up2 τ 36 0 1)) (by (try dsimp only); exact ⟨Nat.zero_le _, fun q _ h => up2_row h, up2_self, fun _ h => absurd h (Nat.not_lt_zero _)⟩) ?_
  intro i9 hi9 ih10
  obtain ⟨pp, ω⟩ := i9
  (try dsimp only at hi9); (try dsimp only at ih10); (try dsimp only)
  obtain ⟨hpp, hoff, h1, h0⟩ := hi9
  refine go_iload X dX0_lookAhead_10 0 rfl ?_
  refine go_iconst X (v := 3) dX0_lookAhead_12 (by decide) ?_
  refine go_icmpn_gt X (tgt := 32) dX0_lookAhead_13 (by decide) (a := pp) (b := 3) rfl rfl (by omega) (by omega) (fun c13 => ?_) (fun c13 => ?_)
  · skip
    refine go_iconst X (v := 1) dX0_lookAhead_32 (by decide) ?_
    refine go_istore X (lv2 := [(4, .int 1), (0, .ref (ad (4))), (1, .ref (ad (2))), (2, .int (nI i)), (3, .int (nI n))]) dX0_lookAhead_33 (by decide) rfl ?_
    refine go_loop (ι := Nat × vTa) (fun i9 => (1 ≤ i9.1) ∧ (i9.1 ≤ n + 1) ∧ (lookP τ nd (uvX σ i) (pvX σ) i9.1 i9.2)) (fun i9 => n + 1 - i9.1) (fun i9 => σ) (fun i9 => i9.2) (fun i9 => [(4, .int (nI i9.1)), (0, .ref (ad (4))), (1, .ref (ad (2))), (2, .int (nI i)), (3, .int (nI n))]) (fun i9 => []) (1, ω) (by (try dsimp only); exact ⟨by omega, by omega, hoff, fun q hq => by rw [show q = 0 by omega]; exact ⟨h1, fun b hb => h0 b (by omega)⟩⟩) ?_
    intro i9 hi9 ih35
    obtain ⟨day, ω⟩ := i9
    (try dsimp only at hi9); (try dsimp only at ih35); (try dsimp only)
    obtain ⟨hd1, hd2, hP⟩ := hi9
    refine go_iload X dX0_lookAhead_35 0 rfl ?_
    refine go_iload_n X dX0_lookAhead_37 4 rfl rfl ?_
    refine go_icmpn_gt X (tgt := 106) dX0_lookAhead_38 (by decide) (a := day) (b := n) rfl rfl (by omega) (by omega) (fun c38 => ?_) (fun c38 => ?_)
    · skip
      exact go_return X hr hlk dX0_lookAhead_106 (⟨rfl, by rw [show n + 1 = day by omega]; exact hP⟩)
    · skip
      refine go_aload_n X dX0_lookAhead_41 1 rfl rfl ?_
      refine go_getr X (n := 4) (j := 1) (by omega) rfl rfl (fun _ h9 => List.mem_cons_of_mem _ (List.mem_append_left _ (List.mem_append_right _ h9))) (by decide) (List.mem_cons_of_mem _ (List.mem_append_left _ (List.mem_append_left _ (List.mem_append_left _ (List.mem_of_getElem? (i := 0) rfl))))) rfl dX0_lookAhead_42 ?_
      refine go_iload X dX0_lookAhead_45 0 rfl ?_
      refine go_aload_n X dX0_lookAhead_47 1 rfl rfl ?_
      refine go_getr X (n := 4) (j := 1) (by omega) rfl rfl (fun _ h9 => List.mem_cons_of_mem _ (List.mem_append_left _ (List.mem_append_right _ h9))) (by decide) (List.mem_cons_of_mem _ (List.mem_append_left _ (List.mem_append_left _ (List.mem_append_left _ (List.mem_of_getElem? (i := 0) rfl))))) rfl dX0_lookAhead_48 ?_
      refine go_iload X dX0_lookAhead_51 0 rfl ?_
      refine go_iconst X (v := 1) dX0_lookAhead_53 (by decide) ?_
      refine go_isub X dX0_lookAhead_54 ?_
      refine go_topi (v := nI (day - 1)) (pk_sub (by omega)) ?_
      refine go_lald X (n := 36) (k := day - 1) (by omega) rfl rfl (by omega) (by omega) dX0_lookAhead_55 ?_
      refine go_aload_n X dX0_lookAhead_56 2 rfl rfl ?_
      refine go_geti X (n := 2) (j := 3) (by omega) rfl rfl (fun _ h9 => List.mem_cons_of_mem _ (List.mem_append_right _ h9)) (by decide) (List.mem_cons_of_mem _ (List.mem_append_left _ (List.mem_append_left _ (List.mem_append_left _ (List.mem_of_getElem? (i := 2) rfl))))) rfl dX0_lookAhead_57 ?_
      refine go_topi (v := nI nd) (hnd) ?_
      refine go_i2l X (v := lN nd) dX0_lookAhead_60 (nI_l (by omega)) ?_
      refine go_lmul X dX0_lookAhead_61 ?_
      refine go_last X (n := 36) (k := day) (by omega) rfl rfl (by omega) (by omega) dX0_lookAhead_62 ?_
      refine go_iconst X (v := 0) dX0_lookAhead_63 (by decide) ?_
      refine go_istore X (lv2 := [(5, .int 0), (4, .int (nI day)), (0, .ref (ad (4))), (1, .ref (ad (2))), (2, .int (nI i)), (3, .int (nI n))]) dX0_lookAhead_64 (by decide) rfl ?_
      refine go_loop (ι := Nat × vTa) (fun i9 => (i9.1 ≤ 4) ∧ (lookP τ nd (uvX σ i) (pvX σ) day i9.2) ∧ (i9.2 36 day = scS nd day) ∧ (∀ b, b < i9.1 → i9.2 (25 + day) b = hpS nd (uvX σ i) (pvX σ) day b)) (fun i9 => 4 - i9.1) (fun i9 => σ) (fun i9 => i9.2) (fun i9 => [(5, .int (nI i9.1)), (4, .int (nI day)), (0, .ref (ad (4))), (1, .ref (ad (2))), (2, .int (nI i)), (3, .int (nI n))]) (fun i9 => []) (0, (up2 ω 36 day ((ω 36 (day - 1)) * (lN nd)))) (by (try dsimp only); exact ⟨Nat.zero_le _, ⟨fun q h1 h2 => by rw [up2_row h2]; exact hP.1 q h1 h2, fun q hq => ⟨by rw [up2_ne (by omega)]; exact (hP.2 q hq).1, fun b hb => by rw [up2_ne (by omega)]; exact (hP.2 q hq).2 b hb⟩⟩, by rw [up2_self, (hP.2 (day - 1) (by omega)).1]; exact scS_1 hd1, fun _ h => absurd h (Nat.not_lt_zero _)⟩) ?_
      intro i9 hi9 ih66
      obtain ⟨pp, ω2⟩ := i9
      (try dsimp only at hi9); (try dsimp only at ih66); (try dsimp only)
      obtain ⟨hpp, hQ, hs, hrow⟩ := hi9
      refine go_iload X dX0_lookAhead_66 0 rfl ?_
      refine go_iconst X (v := 3) dX0_lookAhead_68 (by decide) ?_
      refine go_icmpn_gt X (tgt := 100) dX0_lookAhead_69 (by decide) (a := pp) (b := 3) rfl rfl (by omega) (by omega) (fun c69 => ?_) (fun c69 => ?_)
      · skip
        refine go_iinc X (v := nI (day + 1)) (lv2 := [(4, .int (nI (day + 1))), (5, .int (nI pp)), (0, .ref (ad (4))), (1, .ref (ad (2))), (2, .int (nI i)), (3, .int (nI n))]) dX0_lookAhead_100 (k := 1) rfl (nI_add day 1) (by decide) rfl ?_
        refine go_goto X (tgt := 35) dX0_lookAhead_103 (by decide) ?_
        refine go_lvsub [0, 2, 3, 4, 5] rfl ?_
        exact ih35 (day + 1, ω2) (by (try dsimp only); exact ⟨by omega, by omega, hQ.1, fun q hq => by rcases Nat.lt_succ_iff_lt_or_eq.mp hq with h | h; exact hQ.2 q h; rw [h]; exact ⟨hs, fun b hb => hrow b (by omega)⟩⟩) (by (try dsimp only); omega)
      · skip
        refine go_aload_n X dX0_lookAhead_72 2 rfl rfl ?_
        refine go_getr X (n := 4) (j := 0) (by omega) rfl rfl (fun _ h9 => List.mem_cons_of_mem _ (List.mem_append_left _ (List.mem_append_right _ h9))) (by decide) (List.mem_cons_of_mem _ (List.mem_append_left _ (List.mem_append_left _ (List.mem_append_left _ (List.mem_of_getElem? (i := 1) rfl))))) rfl dX0_lookAhead_73 ?_
        refine go_iload X dX0_lookAhead_76 1 rfl ?_
        refine go_aald5 X (n := 35) (k := day) (by omega) rfl rfl (by omega) (by omega) dX0_lookAhead_78 ?_
        refine go_iload X dX0_lookAhead_79 0 rfl ?_
        refine go_aload_n X dX0_lookAhead_81 2 rfl rfl ?_
        refine go_aload_n X dX0_lookAhead_82 3 rfl rfl ?_
        refine go_iload_n X dX0_lookAhead_83 4 rfl rfl ?_
        refine go_iload X dX0_lookAhead_84 1 rfl ?_
        refine go_iconst X (v := 1) dX0_lookAhead_86 (by decide) ?_
        refine go_isub X dX0_lookAhead_87 ?_
        refine go_topi (v := nI (day - 1)) (pk_sub (by omega)) ?_
        refine go_iload X dX0_lookAhead_88 0 rfl ?_
        refine go_callVL X (n := 4) (As := [.ref (ad (2)), .int (nI i), .int (nI (day - 1)), .int (nI pp)]) (rest := [.int (nI pp), .ref (ad (25 + day))]) (kX0_sumOfBest l D cs ad N kt (by omega) σ ω2 i (day - 1) pp nd (ω2 36 (day - 1)) (rfl) (ω2 (25 + (day - 1)) pp) (rfl) (ω2 (25 + (day - 1)) (pp - 1)) (rfl) (by omega) (by omega) (by omega) (by omega) (by omega)) gX0_lookAhead_X0_sumOfBest rfl hdX0_sumOfBest ⟨rfl, rfl, by decide, by decide, by decide, by decide⟩ (by omega) rfl rfl rfl rfl (Nat.le_of_ble_eq_true rfl) dX0_lookAhead_90 (fun r9 σ9 τ9 h9 => ?_)
        obtain ⟨rfl, rfl, rfl⟩ := h9
        refine go_last X (n := 25 + day) (k := pp) (by omega) (sh_hope (by omega)) rfl (by omega) (by omega) dX0_lookAhead_93 ?_
        refine go_iinc X (v := nI (pp + 1)) (lv2 := [(5, .int (nI (pp + 1))), (4, .int (nI day)), (0, .ref (ad (4))), (1, .ref (ad (2))), (2, .int (nI i)), (3, .int (nI n))]) dX0_lookAhead_94 (k := 0) rfl (nI_add pp 1) (by decide) rfl ?_
        refine go_goto X (tgt := 66) dX0_lookAhead_97 (by decide) ?_
        exact ih66 (pp + 1, (up2 ω2 (25 + day) pp (sumL (fun z9 => bestS (ω2 36 (day - 1)) (ω2 (25 + (day - 1)) pp) (ω2 (25 + (day - 1)) (pp - 1)) pp (uvX σ i z9) (pvX σ z9)) nd))) (by (try dsimp only); exact ⟨by omega, ⟨fun q h1 h2 => by rw [up2_row (by omega)]; exact hQ.1 q h1 h2, fun q hq => ⟨by rw [up2_ne (by omega)]; exact (hQ.2 q hq).1, fun b hb => by rw [up2_ne (by omega)]; exact (hQ.2 q hq).2 b hb⟩⟩, by rw [up2_ne (by omega)]; exact hs, fun b hb => by rcases Nat.lt_succ_iff_lt_or_eq.mp hb with h | h; rw [up2_ne (by omega)]; exact hrow b h; rw [h, up2_self, (hQ.2 (day - 1) (by omega)).1, (hQ.2 (day - 1) (by omega)).2 pp (by omega), (hQ.2 (day - 1) (by omega)).2 (pp - 1) (by omega)]; exact hpS_1 hd1⟩) (by (try dsimp only); omega)
  · skip
    refine go_aload_n X dX0_lookAhead_16 1 rfl rfl ?_
    refine go_getr X (n := 4) (j := 0) (by omega) rfl rfl (fun _ h9 => List.mem_cons_of_mem _ (List.mem_append_left _ (List.mem_append_right _ h9))) (by decide) (List.mem_cons_of_mem _ (List.mem_append_left _ (List.mem_append_left _ (List.mem_append_left _ (List.mem_of_getElem? (i := 1) rfl))))) rfl dX0_lookAhead_17 ?_
    refine go_iconst X (v := 0) dX0_lookAhead_20 (by decide) ?_
    refine go_aald5 X (n := 35) (k := 0) (by omega) rfl rfl (by omega) (by omega) dX0_lookAhead_21 ?_
    refine go_iload X dX0_lookAhead_22 0 rfl ?_
    refine go_lconst X (v := 0) dX0_lookAhead_24 (by decide) ?_
    refine go_last X (n := 25 + 0) (k := pp) (by omega) (sh_hope (by omega)) rfl (by omega) (by omega) dX0_lookAhead_25 ?_
    refine go_iinc X (v := nI (pp + 1)) (lv2 := [(4, .int (nI (pp + 1))), (0, .ref (ad (4))), (1, .ref (ad (2))), (2, .int (nI i)), (3, .int (nI n))]) dX0_lookAhead_26 (k := 0) rfl (nI_add pp 1) (by decide) rfl ?_
    refine go_goto X (tgt := 10) dX0_lookAhead_29 (by decide) ?_
    exact ih10 (pp + 1, (up2 ω (25 + 0) pp 0)) (by (try dsimp only); exact ⟨by omega, fun q h1 h2 => by rw [up2_row (by omega)]; exact hoff q h1 h2, by rw [up2_ne (by omega)]; exact h1, fun b hb => by rcases Nat.lt_succ_iff_lt_or_eq.mp hb with h | h; rw [up2_ne (by omega)]; exact h0 b h; rw [h, up2_self]⟩) (by (try dsimp only); omega)

