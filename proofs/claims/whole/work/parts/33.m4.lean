def unM (σ : vSg) (a d : Nat) : Nat := 10 * toN (σ 39 d) - fearN (toN (σ 42 a)) (toN (σ 40 d)) (toN (σ 41 d))
def vnM (σ : vSg) (d : Nat) : Nat := 10 * toN (σ 39 d)
def grS (a b : Int64) : Int64 := if a ≤ b then b else a
theorem grS_N {a b : Nat} (ha : a < 2 ^ 63) (hb : b < 2 ^ 63) : grS (lN a) (lN b) = lN (max a b) := by
  unfold grS
  by_cases h : a ≤ b
  · rw [if_pos ((pk_lLE ha hb).mpr h), Nat.max_eq_right h]
  · rw [if_neg (fun q => h ((pk_lLE ha hb).mp q)), Nat.max_eq_left (by omega)]
theorem neg_le0 {z : Nat} (h : z < 2 ^ 62) (h0 : 0 < z) : ¬ (0 : Int64) ≤ - lN z := by
  rw [Int64.le_iff_toInt_le, Int64.toInt_neg, pk_lT (by omega), show (0 : Int64).toInt = 0 from rfl]
  rw [Int.bmod_eq_of_le (by omega) (by omega)]
  omega
theorem sub64 {x y : Nat} (hx : x < 2 ^ 30) (hy : y < 2 ^ 30) (h : x ≤ y) : (nI x - nI y).toInt64 = - lN (y - x) := by
  apply Int64.toInt_inj.mp
  rw [Int32.toInt_toInt64, pk_sub_toInt hx hy, Int64.toInt_neg, pk_lT (by omega)]
  rw [Int.bmod_eq_of_le (by omega) (by omega)]
  omega
/-- what is best without a paper, both ways of reckoning -/
theorem grM {x y sc : Nat} (hx : x < 2 ^ 30) (hy : y < 2 ^ 30) (hs : sc < 2 ^ 30) : grS 0 ((nI x - nI y).toInt64 * lN sc) = lN ((x - y) * sc) := by
  unfold grS
  by_cases h : y < x
  · have h1 : (x - y) * sc < 2 ^ 30 * 2 ^ 30 := Nat.mul_lt_mul'' (by omega) hs
    rw [pk_sub (by omega), nI_l (by omega), lN_mul]
    rw [if_pos (by rw [← lN_0]; exact (pk_lLE (by decide) (by omega)).mpr (Nat.zero_le _))]
  · have h1 : (y - x) * sc < 2 ^ 30 * 2 ^ 30 := Nat.mul_lt_mul'' (by omega) hs
    rw [sub64 hx hy (by omega), Int64.neg_mul, lN_mul, show x - y = 0 by omega, Nat.zero_mul, lN_0]
    rcases Nat.eq_zero_or_pos ((y - x) * sc) with q | q
    · rw [q, if_pos (by decide)]; rfl
    · rw [if_neg (neg_le0 (by omega) q)]
theorem IM_val {σ : vSg} {nd ns nr : Nat} (h : IM σ nd ns nr) {a d : Nat} (ha : a < ns) (hd : d < nd) : ∃ x y : Nat, x ≤ 90 ∧ y ≤ 182 ∧ valS (σ 42 a) (σ 39 d) (σ 40 d) (σ 41 d) = nI x - nI y ∧ unM σ a d = x - y ∧ vnM σ d = x ∧ 10 * (σ 39 d).toInt64 = lN x ∧ pvM σ d = nI x := by
  obtain ⟨-, -, hdd, hkp, -⟩ := h
  have hk := isB_toN (b := 3) (hkp a ha).1 (by omega)
  obtain ⟨g0, g1, g2⟩ := hdd d hd
  have h0 := isB_toN (b := 10) g0 (by omega)
  have h1 := isB_toN (b := 10) g1 (by omega)
  have h2 := isB_toN (b := 10) g2 (by omega)
  have hf := fearN_le (k := toN (σ 42 a)) h1.1 h2.1
  refine ⟨10 * toN (σ 39 d), fearN (toN (σ 42 a)) (toN (σ 40 d)) (toN (σ 41 d)), by omega, hf, ?_, rfl, rfl, ?_, ?_⟩
  · rw [show valS (σ 42 a) (σ 39 d) (σ 40 d) (σ 41 d) = valS (nI (toN (σ 42 a))) (nI (toN (σ 39 d))) (nI (toN (σ 40 d))) (nI (toN (σ 41 d))) by rw [← hk.2, ← h0.2, ← h1.2, ← h2.2]]
    exact valS_N hk.1
  · rw [show 10 * (σ 39 d).toInt64 = lN 10 * (nI (toN (σ 39 d))).toInt64 by rw [← h0.2]; rfl, nI_l (by omega), lN_mul]
  · unfold pvM
    rw [show 10 * σ 39 d = nI 10 * nI (toN (σ 39 d)) by rw [← h0.2]; rfl]
    exact pk_mul 10 _
theorem IM_b {σ : vSg} {nd ns nr : Nat} (h : IM σ nd ns nr) {a : Nat} (ha : a < ns) : ∀ d, d < nd → unM σ a d ≤ 90 ∧ vnM σ d ≤ 90 := fun d hd => by
  obtain ⟨x, y, hx, hy, -, e1, e2, -⟩ := IM_val h ha hd
  omega
theorem grV {σ : vSg} {nd ns nr : Nat} (h : IM σ nd ns nr) {a d : Nat} (ha : a < ns) (hd : d < nd) {sc : Nat} (hs : sc < 2 ^ 30) : grS 0 ((valS (σ 42 a) (σ 39 d) (σ 40 d) (σ 41 d)).toInt64 * lN sc) = lN (unM σ a d * sc) := by
  obtain ⟨x, y, hx, hy, e0, e1, -⟩ := IM_val h ha hd
  rw [e0, e1]
  exact grM (by omega) (by omega) hs
theorem vnV {σ : vSg} {nd ns nr : Nat} (h : IM σ nd ns nr) {a d : Nat} (ha : a < ns) (hd : d < nd) : 10 * (σ 39 d).toInt64 = lN (vnM σ d) := by
  obtain ⟨x, y, hx, hy, e0, e1, e2, e3, -⟩ := IM_val h ha hd
  rw [e3, e2]
def goHP (τ : vTa) (nd : Nat) (u v : Nat → Nat) (day : Nat) (ω : vTa) : Prop := (∀ q, q ≠ 50 → ω q = τ q) ∧ ∀ k, k < day → ∀ pp, pp < 4 → ω 50 (4 * k + pp) = lN (hpN nd u v k pp)
theorem nI_posN {n : Nat} (h : 0 < n) (hn : n < 2 ^ 31) : 0 < nI n := nI_lt (a := 0) h hn
theorem hdX7_timesOf : yX7_timesOf.cls = RX7 ∧ yX7_timesOf.cls ≠ "java/lang/invoke/MethodHandle" ∧ yX7_timesOf.cls ≠ "java/lang/invoke/VarHandle" ∧ (parseMethodDescriptor yX7_timesOf.desc).map (fun d => d.parameters.length) = some 1 := by decide +kernel
set_option maxHeartbeats 4000000 in
set_option maxRecDepth 100000 in
theorem kX7_timesOf (l : Launch) (D : va_G) (cs : Nat → ClassId) (ad : Nat → Nat) (N kt : Nat) (hN : 58 ≤ N) (σ : vSg) (τ : vTa) (n : Nat) (nd : Nat)   (hnd : σ 38 1 = nI nd) (hd5 : nd ≤ 5) (hn : n < 100) : CtL l yX7_timesOf wsX7_timesOf ({ frames := 0, cells := 0, slots := 0, locals := 0 }) D cs ad N (shP kt) [.ref (ad (38)), .int (nI n)] σ τ 0 0 (fun r9 σ9 τ9 => lN (nd ^ n) = r9 ∧ σ = σ9 ∧ τ = τ9) := by
  refine ct_L (cc := cX7_timesOf) (maxL := 5) (by decide) rfl (Nat.le_of_ble_eq_true rfl) rfl rfl ?_
  intro p e s m args below meth c A X hr hlk
  refine go_lconst X (v := 1) dX7_timesOf_0 (by decide) ?_
  refine go_lstore_n X (lv2 := [(2, .long 1), (0, .ref (ad (38))), (1, .int (nI n))]) dX7_timesOf_1 rfl (by decide) rfl ?_
  refine go_iconst X (v := 0) dX7_timesOf_2 (by decide) ?_
  refine go_istore X (lv2 := [(4, .int 0), (2, .long 1), (0, .ref (ad (38))), (1, .int (nI n))]) dX7_timesOf_3 (by decide) rfl ?_
  refine go_loop (ι := Nat) (fun i9 => (i9 ≤ n)) (fun i9 => n - i9) (fun i9 => σ) (fun i9 => τ) (fun i9 => [(4, .int (nI i9)), (2, .long (lN (nd ^ i9))), (0, .ref (ad (38))), (1, .int (nI n))]) (fun i9 => []) 0 (by (try dsimp only); exact (Nat.zero_le _)) ?_
  intro i9 hi9 ih5
  obtain ⟨x, hv9⟩ : ∃ z, z = i9 := ⟨_, rfl⟩; subst hv9
  (try dsimp only at hi9); (try dsimp only at ih5); (try dsimp only)
  have hx := hi9
  refine go_iload X dX7_timesOf_5 0 rfl ?_
  refine go_iload_n X dX7_timesOf_7 3 rfl rfl ?_
  refine go_icmpn_ge X (tgt := 25) dX7_timesOf_8 (by decide) (a := x) (b := n) rfl rfl (by omega) (by omega) (fun c8 => ?_) (fun c8 => ?_)
  · skip
    refine go_lload_n X dX7_timesOf_25 1 rfl rfl ?_
    exact go_lreturn X hr hlk dX7_timesOf_26 (⟨by rw [show x = n by omega], rfl, rfl⟩)
  · skip
    refine go_lload_n X dX7_timesOf_11 1 rfl rfl ?_
    refine go_aload_n X dX7_timesOf_12 2 rfl rfl ?_
    refine go_geti X (n := 38) (j := 1) (by omega) rfl rfl (fun _ h9 => List.mem_cons_of_mem _ (List.mem_append_right _ h9)) (by decide) (List.mem_cons_of_mem _ (List.mem_append_left _ (List.mem_of_getElem? (i := 0) rfl))) rfl dX7_timesOf_13 ?_
    refine go_topi (v := nI nd) (hnd) ?_
    refine go_i2l X (v := lN nd) dX7_timesOf_16 (nI_l (by omega)) ?_
    refine go_lmul X dX7_timesOf_17 ?_
    refine go_topl (v := lN (nd ^ (x + 1))) (by rw [lN_mul, Nat.pow_succ]) ?_
    refine go_lstore_n X (lv2 := [(2, .long (lN (nd ^ (x + 1)))), (4, .int (nI x)), (0, .ref (ad (38))), (1, .int (nI n))]) dX7_timesOf_18 rfl (by decide) rfl ?_
    refine go_iinc X (v := nI (x + 1)) (lv2 := [(4, .int (nI (x + 1))), (2, .long (lN (nd ^ (x + 1)))), (0, .ref (ad (38))), (1, .int (nI n))]) dX7_timesOf_19 (k := 1) rfl (nI_add x 1) (by decide) rfl ?_
    refine go_goto X (tgt := 5) dX7_timesOf_22 (by decide) ?_
    exact ih5 (x + 1) (by (try dsimp only); exact (by omega)) (by (try dsimp only); omega)

theorem hdX7_greater : yX7_greater.cls = RX7 ∧ yX7_greater.cls ≠ "java/lang/invoke/MethodHandle" ∧ yX7_greater.cls ≠ "java/lang/invoke/VarHandle" ∧ (parseMethodDescriptor yX7_greater.desc).map (fun d => d.parameters.length) = some 2 := by decide +kernel
set_option maxHeartbeats 4000000 in
set_option maxRecDepth 100000 in
theorem kX7_greater (l : Launch) (D : va_G) (cs : Nat → ClassId) (ad : Nat → Nat) (N kt : Nat) (hN : 58 ≤ N) (σ : vSg) (τ : vTa) (a : Int64) (b : Int64)    : CtL l yX7_greater wsX7_greater ({ frames := 0, cells := 0, slots := 0, locals := 0 }) D cs ad N (shP kt) [.ref (ad (38)), .long a, .long b] σ τ 0 0 (fun r9 σ9 τ9 => grS a b = r9 ∧ σ = σ9 ∧ τ = τ9) := by
  refine ct_L (cc := cX7_greater) (maxL := 5) (by decide) rfl (Nat.le_of_ble_eq_true rfl) rfl rfl ?_
  intro p e s m args below meth c A X hr hlk
  refine go_lload_n X dX7_greater_0 1 rfl rfl ?_
  refine go_lload_n X dX7_greater_1 2 rfl rfl ?_
  refine go_lcmp X dX7_greater_2 ?_
  refine go_lcmp_le X (tgt := 10) dX7_greater_3 (by decide) (fun c3 => ?_) (fun c3 => ?_)
  · skip
    refine go_lload_n X dX7_greater_10 2 rfl rfl ?_
    exact go_lreturn X hr hlk dX7_greater_11 (⟨if_pos c3, rfl, rfl⟩)
  · skip
    refine go_lload_n X dX7_greater_6 1 rfl rfl ?_
    refine go_goto X (tgt := 11) dX7_greater_7 (by decide) ?_
    exact go_lreturn X hr hlk dX7_greater_11 (⟨if_neg c3, rfl, rfl⟩)

theorem hdX7_bestBy : yX7_bestBy.cls = RX7 ∧ yX7_bestBy.cls ≠ "java/lang/invoke/MethodHandle" ∧ yX7_bestBy.cls ≠ "java/lang/invoke/VarHandle" ∧ (parseMethodDescriptor yX7_bestBy.desc).map (fun d => d.parameters.length) = some 4 := by decide +kernel
set_option maxHeartbeats 4000000 in
set_option maxRecDepth 100000 in
theorem kX7_bestBy (l : Launch) (D : va_G) (cs : Nat → ClassId) (ad : Nat → Nat) (N kt : Nat) (hN : 58 ≤ N) (σ : vSg) (τ : vTa) (i : Nat) (j : Nat) (mo : Nat) (pp : Nat) (nd : Nat) (ns : Nat) (nr : Nat) (h : Nat) (h1 : Nat)   (hI : IM σ nd ns nr) (hi : i < ns) (hj : j < nd) (hmo : mo ≤ 8) (hpp : pp < 4) (hh : τ 50 (4 * mo + pp) = lN h) (hh1 : 0 < pp → τ 50 (4 * mo + pp - 1) = lN h1) (hb : h ≤ 281250000) (hb1 : h1 ≤ 281250000) : CtL l yX7_bestBy wsX7_bestBy ({ frames := 2, cells := 0, slots := 0, locals := 45 }) D cs ad N (shP kt) [.ref (ad (38)), .int (nI i), .int (nI j), .int (nI mo), .int (nI pp)] σ τ 0 0 (fun r9 σ9 τ9 => lN (bestN (nd ^ mo) h h1 pp (unM σ i j) (vnM σ j)) = r9 ∧ σ = σ9 ∧ τ = τ9) := by
  refine ct_L (cc := cX7_bestBy) (maxL := 11) (by decide) rfl (Nat.le_of_ble_eq_true rfl) rfl rfl ?_
  intro p e s m args below meth c A X hr hlk
  obtain ⟨⟨hnd, hnd5⟩, ⟨hns, hns4⟩, hdd, hkp, ⟨hnr, hnr8⟩, hrd, hsh, hpos⟩ := id hI
  have hp58 := pow58 hnd5 hmo
  have hu9 := IM_b hI hi j hj
  have b4 : unM σ i j * nd ^ mo ≤ 90 * 390625 := Nat.mul_le_mul hu9.1 hp58
  have b5 : vnM σ j * nd ^ mo ≤ 90 * 390625 := Nat.mul_le_mul hu9.2 hp58
  refine go_aload_n X dX7_bestBy_0 0 rfl rfl ?_
  refine go_iload_n X dX7_bestBy_1 3 rfl rfl ?_
  refine go_callVL X (n := 38) (As := [.int (nI mo)]) (rest := []) (kX7_timesOf l D cs ad N kt (by omega) σ τ mo nd hnd (by omega) (by omega)) gX7_bestBy_X7_timesOf rfl hdX7_timesOf ⟨rfl, rfl, by decide, by decide, by decide, by decide⟩ (by omega) rfl rfl rfl rfl (Nat.le_of_ble_eq_true rfl) dX7_bestBy_2 (fun r9 σ9 τ9 h9 => ?_)
  obtain ⟨rfl, rfl, rfl⟩ := h9
  refine go_lstore X (lv2 := [(5, .long (lN (nd ^ mo))), (0, .ref (ad (38))), (1, .int (nI i)), (2, .int (nI j)), (3, .int (nI mo)), (4, .int (nI pp))]) dX7_bestBy_5 (by decide) rfl ?_
  refine go_aload_n X dX7_bestBy_7 1 rfl rfl ?_
  refine go_getr X (n := 38) (j := 20) (by omega) rfl rfl (fun _ h9 => List.mem_cons_of_mem _ (List.mem_append_right _ h9)) (by decide) (List.mem_cons_of_mem _ (List.mem_append_left _ (List.mem_of_getElem? (i := 0) rfl))) rfl dX7_bestBy_8 ?_
  refine go_iconst X (v := 4) dX7_bestBy_11 (by decide) ?_
  refine go_iload_n X dX7_bestBy_12 4 rfl rfl ?_
  refine go_imul X dX7_bestBy_13 ?_
  refine go_topi (v := nI (4 * mo)) (pk_mul 4 mo) ?_
  refine go_iload X dX7_bestBy_14 5 rfl ?_
  refine go_iadd X dX7_bestBy_16 ?_
  refine go_topi (v := nI ((4 * mo) + pp)) (nI_add (4 * mo) pp) ?_
  refine go_lald X (n := 50) (k := (4 * mo) + pp) (by omega) rfl rfl (by omega) (by omega) dX7_bestBy_17 ?_
  refine go_topl (v := lN h) hh ?_
  refine go_lstore X (lv2 := [(7, .long (lN h)), (5, .long (lN (nd ^ mo))), (0, .ref (ad (38))), (1, .int (nI i)), (2, .int (nI j)), (3, .int (nI mo)), (4, .int (nI pp))]) dX7_bestBy_18 (by decide) rfl ?_
  refine go_lload X dX7_bestBy_20 0 rfl ?_
  refine go_aload_n X dX7_bestBy_22 2 rfl rfl ?_
  refine go_lconst X (v := 0) dX7_bestBy_23 (by decide) ?_
  refine go_aload_n X dX7_bestBy_24 2 rfl rfl ?_
  refine go_iload_n X dX7_bestBy_25 3 rfl rfl ?_
  refine go_iload_n X dX7_bestBy_26 4 rfl rfl ?_
  refine go_callVI X (n := 38) (As := [.int (nI i), .int (nI j)]) (rest := [.long 0, .ref (ad (38)), .long (lN h)]) (kX7_valueOf l D cs ad N kt (by omega) σ τ i j (σ 42 i) (rfl) (σ 39 j) (rfl) (σ 40 j) (rfl) (σ 41 j) (rfl) (by omega) (by omega) ((hkp i (by omega)).1)) gX7_bestBy_X7_valueOf rfl hdX7_valueOf ⟨rfl, rfl, by decide, by decide, by decide, by decide⟩ (by omega) rfl rfl rfl rfl (Nat.le_of_ble_eq_true rfl) dX7_bestBy_27 (fun r9 σ9 τ9 h9 => ?_)
  obtain ⟨rfl, rfl, rfl⟩ := h9
  refine go_i2l X (v := (valS (σ 42 i) (σ 39 j) (σ 40 j) (σ 41 j)).toInt64) dX7_bestBy_30 rfl ?_
  refine go_lload X dX7_bestBy_31 1 rfl ?_
  refine go_lmul X dX7_bestBy_33 ?_
  refine go_callVL X (n := 38) (As := [.long 0, .long (((valS (σ 42 i) (σ 39 j) (σ 40 j) (σ 41 j)).toInt64) * (lN (nd ^ mo)))]) (rest := [.long (lN h)]) (kX7_greater l D cs ad N kt (by omega) σ τ 0 (((valS (σ 42 i) (σ 39 j) (σ 40 j) (σ 41 j)).toInt64) * (lN (nd ^ mo)))) gX7_bestBy_X7_greater rfl hdX7_greater ⟨rfl, rfl, by decide, by decide, by decide, by decide⟩ (by omega) rfl rfl rfl rfl (Nat.le_of_ble_eq_true rfl) dX7_bestBy_34 (fun r9 σ9 τ9 h9 => ?_)
  obtain ⟨rfl, rfl, rfl⟩ := h9
  refine go_topl (v := lN (unM σ i j * nd ^ mo)) (grV hI hi hj (by omega)) ?_
  refine go_ladd X dX7_bestBy_37 ?_
  refine go_topl (v := lN (h + unM σ i j * nd ^ mo)) (lN_add _ _) ?_
  refine go_lstore X (lv2 := [(9, .long (lN (h + unM σ i j * nd ^ mo))), (7, .long (lN h)), (5, .long (lN (nd ^ mo))), (0, .ref (ad (38))), (1, .int (nI i)), (2, .int (nI j)), (3, .int (nI mo)), (4, .int (nI pp))]) dX7_bestBy_38 (by decide) rfl ?_
  refine go_iload X dX7_bestBy_40 7 rfl ?_
  refine go_ifn_ne X (tgt := 50) dX7_bestBy_42 (by decide) (a := pp) rfl (by omega) (fun c42 => ?_) (fun c42 => ?_)
  · skip
    refine go_aload_n X dX7_bestBy_50 3 rfl rfl ?_
    refine go_lload X dX7_bestBy_51 0 rfl ?_
    refine go_aload_n X dX7_bestBy_53 3 rfl rfl ?_
    refine go_getr X (n := 38) (j := 20) (by omega) rfl rfl (fun _ h9 => List.mem_cons_of_mem _ (List.mem_append_right _ h9)) (by decide) (List.mem_cons_of_mem _ (List.mem_append_left _ (List.mem_of_getElem? (i := 0) rfl))) rfl dX7_bestBy_54 ?_
    refine go_iconst X (v := 4) dX7_bestBy_57 (by decide) ?_
    refine go_iload_n X dX7_bestBy_58 6 rfl rfl ?_
    refine go_imul X dX7_bestBy_59 ?_
    refine go_topi (v := nI (4 * mo)) (pk_mul 4 mo) ?_
    refine go_iload X dX7_bestBy_60 7 rfl ?_
    refine go_iadd X dX7_bestBy_62 ?_
    refine go_topi (v := nI ((4 * mo) + pp)) (nI_add (4 * mo) pp) ?_
    refine go_iconst X (v := 1) dX7_bestBy_63 (by decide) ?_
    refine go_isub X dX7_bestBy_64 ?_
    refine go_lald X (n := 50) (k := 4 * mo + pp - 1) (by omega) rfl (pk_sub (a := 4 * mo + pp) (b := 1) (by omega)) (by omega) (by omega) dX7_bestBy_65 ?_
    refine go_topl (v := lN h1) (hh1 (by omega)) ?_
    refine go_ldc2 X (v := 10) (List.mem_cons_of_mem _ (List.mem_append_left _ (List.mem_of_getElem? (i := 1) rfl))) dX7_bestBy_66 ?_
    refine go_aload_n X dX7_bestBy_69 3 rfl rfl ?_
    refine go_getr X (n := 38) (j := 2) (by omega) rfl rfl (fun _ h9 => List.mem_cons_of_mem _ (List.mem_append_right _ h9)) (by decide) (List.mem_cons_of_mem _ (List.mem_append_left _ (List.mem_of_getElem? (i := 2) rfl))) rfl dX7_bestBy_70 ?_
    refine go_iload_n X dX7_bestBy_73 5 rfl rfl ?_
    refine go_iald X (n := 39) (k := j) (by omega) rfl rfl (by omega) (by omega) dX7_bestBy_74 ?_
    refine go_i2l X (v := (σ 39 j).toInt64) dX7_bestBy_75 rfl ?_
    refine go_lmul X dX7_bestBy_76 ?_
    refine go_topl (v := lN (vnM σ j)) (vnV hI hi hj) ?_
    refine go_lload X dX7_bestBy_77 2 rfl ?_
    refine go_lmul X dX7_bestBy_79 ?_
    refine go_topl (v := lN (vnM σ j * nd ^ mo)) (lN_mul _ _) ?_
    refine go_ladd X dX7_bestBy_80 ?_
    refine go_topl (v := lN (h1 + vnM σ j * nd ^ mo)) (lN_add _ _) ?_
    refine go_callVL X (n := 38) (As := [.long (lN (h + unM σ i j * nd ^ mo)), .long (lN (h1 + vnM σ j * nd ^ mo))]) (rest := []) (kX7_greater l D cs ad N kt (by omega) σ τ (lN (h + unM σ i j * nd ^ mo)) (lN (h1 + vnM σ j * nd ^ mo))) gX7_bestBy_X7_greater rfl hdX7_greater ⟨rfl, rfl, by decide, by decide, by decide, by decide⟩ (by omega) rfl rfl rfl rfl (Nat.le_of_ble_eq_true rfl) dX7_bestBy_81 (fun r9 σ9 τ9 h9 => ?_)
    obtain ⟨rfl, rfl, rfl⟩ := h9
    exact go_lreturn X hr hlk dX7_bestBy_84 (⟨by unfold bestN; rw [if_pos (by omega), grS_N (by omega) (by omega), Nat.add_comm h, Nat.add_comm h1], rfl, rfl⟩)
  · skip
    refine go_lload X dX7_bestBy_45 0 rfl ?_
    refine go_goto X (tgt := 84) dX7_bestBy_47 (by decide) ?_
    exact go_lreturn X hr hlk dX7_bestBy_84 (⟨by unfold bestN; rw [if_neg (by omega), Nat.add_comm], rfl, rfl⟩)

theorem hpN_1 {nd day pp : Nat} {u v : Nat → Nat} (h : 1 ≤ day) : sumN (fun z9 => bestN (nd ^ (day - 1)) (hpN nd u v (day - 1) pp) (hpN nd u v (day - 1) (pp - 1)) pp (u z9) (v z9)) nd = hpN nd u v day pp := by
  obtain ⟨k, rfl⟩ : ∃ k, day = k + 1 := ⟨day - 1, by omega⟩
  rfl
theorem sumN_1 {f : Nat → Nat} {n : Nat} : sumN f (n + 1) = sumN f n + f n := rfl
theorem hdX7_goHope : yX7_goHope.cls = RX7 ∧ yX7_goHope.cls ≠ "java/lang/invoke/MethodHandle" ∧ yX7_goHope.cls ≠ "java/lang/invoke/VarHandle" ∧ (parseMethodDescriptor yX7_goHope.desc).map (fun d => d.parameters.length) = some 2 := by decide +kernel
set_option maxHeartbeats 4000000 in
set_option maxRecDepth 100000 in
theorem kX7_goHope (l : Launch) (D : va_G) (cs : Nat → ClassId) (ad : Nat → Nat) (N kt : Nat) (hN : 58 ≤ N) (σ : vSg) (τ : vTa) (i : Nat) (n : Nat) (nd : Nat) (ns : Nat) (nr : Nat)  (hI : IM σ nd ns nr) (hi : i < ns) (hn : n < 9) : CtV l yX7_goHope wsX7_goHope ({ frames := 3, cells := 0, slots := 0, locals := 75 }) D cs ad N (shP kt) [.ref (ad (38)), .int (nI i), .int (nI n)] σ τ 0 0 (fun σ9 τ9 => σ = σ9 ∧ goHP τ nd (unM σ i) (vnM σ) (n + 1) τ9) := by
  refine ct_V (cc := cX7_goHope) (maxL := 8) (by decide) rfl (Nat.le_of_ble_eq_true rfl) rfl rfl ?_
  intro p e s m args below meth c A X hr hlk
  obtain ⟨⟨hnd, hnd5⟩, ⟨hns, hns4⟩, hdd, hkp, ⟨hnr, hnr8⟩, hrd, hsh, hpos⟩ := id hI
  refine go_iconst X (v := 0) dX7_goHope_0 (by decide) ?_
  refine go_istore_n X (lv2 := [(3, .int 0), (0, .ref (ad (38))), (1, .int (nI i)), (2, .int (nI n))]) dX7_goHope_1 rfl (by decide) rfl ?_
  refine go_loop (ι := Nat × vTa) (fun i9 => (i9.1 ≤ 4) ∧ (∀ q, q ≠ 50 → i9.2 q = τ q) ∧ (∀ b, b < i9.1 → i9.2 50 b = 0)) (fun i9 => 4 - i9.1) (fun i9 => σ) (fun i9 => i9.2) (fun i9 => [(3, .int (nI i9.1)), (0, .ref (ad (38))), (1, .int (nI i)), (2, .int (nI n))]) (fun i9 => []) (0, τ) (by (try dsimp only); exact ⟨Nat.zero_le _, fun _ _ => rfl, fun _ h => absurd h (Nat.not_lt_zero _)⟩) ?_
  intro i9 hi9 ih2
  obtain ⟨pp, ω⟩ := i9
  (try dsimp only at hi9); (try dsimp only at ih2); (try dsimp only)
  obtain ⟨hpp, hoff, h0⟩ := hi9
  refine go_iload_n X dX7_goHope_2 0 rfl rfl ?_
  refine go_iconst X (v := 4) dX7_goHope_3 (by decide) ?_
  refine go_icmpn_ge X (tgt := 20) dX7_goHope_4 (by decide) (a := pp) (b := 4) rfl rfl (by omega) (by omega) (fun c4 => ?_) (fun c4 => ?_)
  · skip
    refine go_iconst X (v := 1) dX7_goHope_20 (by decide) ?_
    refine go_istore_n X (lv2 := [(3, .int 1), (0, .ref (ad (38))), (1, .int (nI i)), (2, .int (nI n))]) dX7_goHope_21 rfl (by decide) rfl ?_
    refine go_loop (ι := Nat × vTa) (fun i9 => (1 ≤ i9.1) ∧ (i9.1 ≤ n + 1) ∧ (goHP τ nd (unM σ i) (vnM σ) i9.1 i9.2)) (fun i9 => n + 1 - i9.1) (fun i9 => σ) (fun i9 => i9.2) (fun i9 => [(3, .int (nI i9.1)), (0, .ref (ad (38))), (1, .int (nI i)), (2, .int (nI n))]) (fun i9 => []) (1, ω) (by (try dsimp only); exact ⟨by omega, by omega, hoff, fun q hq b hb => by rw [show 4 * q + b = b by omega, show q = 0 by omega, h0 b (by omega)]; rfl⟩) ?_
    intro i9 hi9 ih22
    obtain ⟨day, ω⟩ := i9
    (try dsimp only at hi9); (try dsimp only at ih22); (try dsimp only)
    obtain ⟨hd1, hd2, hP⟩ := hi9
    refine go_iload_n X dX7_goHope_22 0 rfl rfl ?_
    refine go_iload_n X dX7_goHope_23 3 rfl rfl ?_
    refine go_icmpn_gt X (tgt := 99) dX7_goHope_24 (by decide) (a := day) (b := n) rfl rfl (by omega) (by omega) (fun c24 => ?_) (fun c24 => ?_)
    · skip
      exact go_return X hr hlk dX7_goHope_99 (⟨rfl, by rw [show n + 1 = day by omega]; exact hP⟩)
    · skip
      refine go_iconst X (v := 0) dX7_goHope_27 (by decide) ?_
      refine go_istore X (lv2 := [(4, .int 0), (3, .int (nI day)), (0, .ref (ad (38))), (1, .int (nI i)), (2, .int (nI n))]) dX7_goHope_28 (by decide) rfl ?_
      refine go_loop (ι := Nat × vTa) (fun i9 => (i9.1 ≤ 4) ∧ (goHP τ nd (unM σ i) (vnM σ) day i9.2) ∧ (∀ b, b < i9.1 → i9.2 50 (4 * day + b) = lN (hpN nd (unM σ i) (vnM σ) day b))) (fun i9 => 4 - i9.1) (fun i9 => σ) (fun i9 => i9.2) (fun i9 => [(4, .int (nI i9.1)), (3, .int (nI day)), (0, .ref (ad (38))), (1, .int (nI i)), (2, .int (nI n))]) (fun i9 => []) (0, ω) (by (try dsimp only); exact ⟨Nat.zero_le _, hP, fun _ h => absurd h (Nat.not_lt_zero _)⟩) ?_
      intro i9 hi9 ih30
      obtain ⟨pp, ω2⟩ := i9
      (try dsimp only at hi9); (try dsimp only at ih30); (try dsimp only)
      obtain ⟨hpp, hQ, hrow⟩ := hi9
      refine go_iload X dX7_goHope_30 0 rfl ?_
      refine go_iconst X (v := 4) dX7_goHope_32 (by decide) ?_
      refine go_icmpn_ge X (tgt := 93) dX7_goHope_33 (by decide) (a := pp) (b := 4) rfl rfl (by omega) (by omega) (fun c33 => ?_) (fun c33 => ?_)
      · skip
        refine go_iinc X (v := nI (day + 1)) (lv2 := [(3, .int (nI (day + 1))), (4, .int (nI pp)), (0, .ref (ad (38))), (1, .int (nI i)), (2, .int (nI n))]) dX7_goHope_93 (k := 1) rfl (nI_add day 1) (by decide) rfl ?_
        refine go_goto X (tgt := 22) dX7_goHope_96 (by decide) ?_
        refine go_lvsub [0, 2, 3, 4] rfl ?_
        exact ih22 (day + 1, ω2) (by (try dsimp only); exact ⟨by omega, by omega, hQ.1, fun q hq b hb => by rcases Nat.lt_succ_iff_lt_or_eq.mp hq with h | h; exact hQ.2 q h b hb; rw [h]; exact hrow b (by omega)⟩) (by (try dsimp only); omega)
      · skip
        refine go_lconst X (v := 0) dX7_goHope_36 (by decide) ?_
        refine go_lstore X (lv2 := [(5, .long 0), (4, .int (nI pp)), (3, .int (nI day)), (0, .ref (ad (38))), (1, .int (nI i)), (2, .int (nI n))]) dX7_goHope_37 (by decide) rfl ?_
        refine go_iconst X (v := 0) dX7_goHope_39 (by decide) ?_
        refine go_istore X (lv2 := [(7, .int 0), (5, .long 0), (4, .int (nI pp)), (3, .int (nI day)), (0, .ref (ad (38))), (1, .int (nI i)), (2, .int (nI n))]) dX7_goHope_40 (by decide) rfl ?_
        refine go_loop (ι := Nat) (fun i9 => (i9 ≤ nd)) (fun i9 => nd - i9) (fun i9 => σ) (fun i9 => ω2) (fun i9 => [(7, .int (nI i9)), (5, .long (lN (sumN (fun z9 => bestN (nd ^ (day - 1)) (hpN nd (unM σ i) (vnM σ) (day - 1) pp) (hpN nd (unM σ i) (vnM σ) (day - 1) (pp - 1)) pp (unM σ i z9) (vnM σ z9)) i9))), (4, .int (nI pp)), (3, .int (nI day)), (0, .ref (ad (38))), (1, .int (nI i)), (2, .int (nI n))]) (fun i9 => []) 0 (by (try dsimp only); exact (Nat.zero_le _)) ?_
        intro i9 hi9 ih42
        obtain ⟨d, hv9⟩ : ∃ z, z = i9 := ⟨_, rfl⟩; subst hv9
        (try dsimp only at hi9); (try dsimp only at ih42); (try dsimp only)
        have hd := hi9
        refine go_iload X dX7_goHope_42 0 rfl ?_
        refine go_aload_n X dX7_goHope_44 4 rfl rfl ?_
        refine go_geti X (n := 38) (j := 1) (by omega) rfl rfl (fun _ h9 => List.mem_cons_of_mem _ (List.mem_append_right _ h9)) (by decide) (List.mem_cons_of_mem _ (List.mem_append_left _ (List.mem_append_left _ (List.mem_of_getElem? (i := 1) rfl)))) rfl dX7_goHope_45 ?_
        refine go_topi (v := nI nd) (hnd) ?_
        refine go_icmpn_ge X (tgt := 74) dX7_goHope_48 (by decide) (a := d) (b := nd) rfl rfl (by omega) (by omega) (fun c48 => ?_) (fun c48 => ?_)
        · skip
          refine go_aload_n X dX7_goHope_74 4 rfl rfl ?_
          refine go_getr X (n := 38) (j := 20) (by omega) rfl rfl (fun _ h9 => List.mem_cons_of_mem _ (List.mem_append_right _ h9)) (by decide) (List.mem_cons_of_mem _ (List.mem_append_left _ (List.mem_append_left _ (List.mem_of_getElem? (i := 0) rfl)))) rfl dX7_goHope_75 ?_
          refine go_iconst X (v := 4) dX7_goHope_78 (by decide) ?_
          refine go_iload_n X dX7_goHope_79 3 rfl rfl ?_
          refine go_imul X dX7_goHope_80 ?_
          refine go_topi (v := nI (4 * day)) (pk_mul 4 day) ?_
          refine go_iload X dX7_goHope_81 2 rfl ?_
          refine go_iadd X dX7_goHope_83 ?_
          refine go_topi (v := nI ((4 * day) + pp)) (nI_add (4 * day) pp) ?_
          refine go_lload X dX7_goHope_84 1 rfl ?_
          refine go_topl (v := lN (hpN nd (unM σ i) (vnM σ) day pp)) (by rw [show d = nd by omega, hpN_1 hd1]) ?_
          refine go_last X (n := 50) (k := (4 * day) + pp) (by omega) rfl rfl (by omega) (by omega) dX7_goHope_86 ?_
          refine go_iinc X (v := nI (pp + 1)) (lv2 := [(4, .int (nI (pp + 1))), (7, .int (nI d)), (5, .long (lN (sumN (fun z9 => bestN (nd ^ (day - 1)) (hpN nd (unM σ i) (vnM σ) (day - 1) pp) (hpN nd (unM σ i) (vnM σ) (day - 1) (pp - 1)) pp (unM σ i z9) (vnM σ z9)) d))), (3, .int (nI day)), (0, .ref (ad (38))), (1, .int (nI i)), (2, .int (nI n))]) dX7_goHope_87 (k := 2) rfl (nI_add pp 1) (by decide) rfl ?_
          refine go_goto X (tgt := 30) dX7_goHope_90 (by decide) ?_
          refine go_lvsub [0, 3, 4, 5, 6] rfl ?_
          exact ih30 (pp + 1, (up2 ω2 50 ((4 * day) + pp) (lN (hpN nd (unM σ i) (vnM σ) day pp)))) (by (try dsimp only); exact ⟨by omega, ⟨fun q h => by rw [up2_row h]; exact hQ.1 q h, fun q hq b hb => by rw [up2_ne (by omega)]; exact hQ.2 q hq b hb⟩, fun b hb => by rcases Nat.lt_succ_iff_lt_or_eq.mp hb with h | h; rw [up2_ne (by omega)]; exact hrow b h; rw [h, up2_self]⟩) (by (try dsimp only); omega)
        · skip
          refine go_lload X dX7_goHope_51 1 rfl ?_
          refine go_aload_n X dX7_goHope_53 4 rfl rfl ?_
          refine go_iload_n X dX7_goHope_54 5 rfl rfl ?_
          refine go_iload X dX7_goHope_55 0 rfl ?_
          refine go_iload_n X dX7_goHope_57 3 rfl rfl ?_
          refine go_iconst X (v := 1) dX7_goHope_58 (by decide) ?_
          refine go_isub X dX7_goHope_59 ?_
          refine go_topi (v := nI (day - 1)) (pk_sub (by omega)) ?_
          refine go_iload X dX7_goHope_60 2 rfl ?_
          refine go_callVL X (n := 38) (As := [.int (nI i), .int (nI d), .int (nI (day - 1)), .int (nI pp)]) (rest := [.long (lN (sumN (fun z9 => bestN (nd ^ (day - 1)) (hpN nd (unM σ i) (vnM σ) (day - 1) pp) (hpN nd (unM σ i) (vnM σ) (day - 1) (pp - 1)) pp (unM σ i z9) (vnM σ z9)) d))]) (kX7_bestBy l D cs ad N kt (by omega) σ ω2 i d (day - 1) pp nd ns nr (hpN nd (unM σ i) (vnM σ) (day - 1) pp) (hpN nd (unM σ i) (vnM σ) (day - 1) (pp - 1)) (by omega) (by omega) (by omega) (by omega) (by omega) (hQ.2 (day - 1) (by omega) pp (by omega)) (fun hp0 => by rw [show 4 * (day - 1) + pp - 1 = 4 * (day - 1) + (pp - 1) by omega]; exact hQ.2 (day - 1) (by omega) (pp - 1) (by omega)) (hpN_b (IM_b hI hi) hnd5 (by omega) _) (hpN_b (IM_b hI hi) hnd5 (by omega) _)) gX7_goHope_X7_bestBy rfl hdX7_bestBy ⟨rfl, rfl, by decide, by decide, by decide, by decide⟩ (by omega) rfl rfl rfl rfl (Nat.le_of_ble_eq_true rfl) dX7_goHope_62 (fun r9 σ9 τ9 h9 => ?_)
          obtain ⟨rfl, rfl, rfl⟩ := h9
          refine go_ladd X dX7_goHope_65 ?_
          refine go_topl (v := lN (sumN (fun z9 => bestN (nd ^ (day - 1)) (hpN nd (unM σ i) (vnM σ) (day - 1) pp) (hpN nd (unM σ i) (vnM σ) (day - 1) (pp - 1)) pp (unM σ i z9) (vnM σ z9)) (d + 1))) (by rw [lN_add, sumN_1]) ?_
          refine go_lstore X (lv2 := [(5, .long (lN (sumN (fun z9 => bestN (nd ^ (day - 1)) (hpN nd (unM σ i) (vnM σ) (day - 1) pp) (hpN nd (unM σ i) (vnM σ) (day - 1) (pp - 1)) pp (unM σ i z9) (vnM σ z9)) (d + 1)))), (7, .int (nI d)), (4, .int (nI pp)), (3, .int (nI day)), (0, .ref (ad (38))), (1, .int (nI i)), (2, .int (nI n))]) dX7_goHope_66 (by decide) rfl ?_
          refine go_iinc X (v := nI (d + 1)) (lv2 := [(7, .int (nI (d + 1))), (5, .long (lN (sumN (fun z9 => bestN (nd ^ (day - 1)) (hpN nd (unM σ i) (vnM σ) (day - 1) pp) (hpN nd (unM σ i) (vnM σ) (day - 1) (pp - 1)) pp (unM σ i z9) (vnM σ z9)) (d + 1)))), (4, .int (nI pp)), (3, .int (nI day)), (0, .ref (ad (38))), (1, .int (nI i)), (2, .int (nI n))]) dX7_goHope_68 (k := 1) rfl (nI_add d 1) (by decide) rfl ?_
          refine go_goto X (tgt := 42) dX7_goHope_71 (by decide) ?_
          exact ih42 (d + 1) (by (try dsimp only); exact (by omega)) (by (try dsimp only); omega)
  · skip
    refine go_aload_n X dX7_goHope_7 1 rfl rfl ?_
    refine go_getr X (n := 38) (j := 20) (by omega) rfl rfl (fun _ h9 => List.mem_cons_of_mem _ (List.mem_append_right _ h9)) (by decide) (List.mem_cons_of_mem _ (List.mem_append_left _ (List.mem_append_left _ (List.mem_of_getElem? (i := 0) rfl)))) rfl dX7_goHope_8 ?_
    refine go_iload_n X dX7_goHope_11 0 rfl rfl ?_
    refine go_lconst X (v := 0) dX7_goHope_12 (by decide) ?_
    refine go_last X (n := 50) (k := pp) (by omega) rfl rfl (by omega) (by omega) dX7_goHope_13 ?_
    refine go_iinc X (v := nI (pp + 1)) (lv2 := [(3, .int (nI (pp + 1))), (0, .ref (ad (38))), (1, .int (nI i)), (2, .int (nI n))]) dX7_goHope_14 (k := 0) rfl (nI_add pp 1) (by decide) rfl ?_
    refine go_goto X (tgt := 2) dX7_goHope_17 (by decide) ?_
    exact ih2 (pp + 1, (up2 ω 50 pp 0)) (by (try dsimp only); exact ⟨by omega, fun q h => by rw [up2_row h]; exact hoff q h, fun b hb => by rcases Nat.lt_succ_iff_lt_or_eq.mp hb with h | h; rw [up2_ne (by omega)]; exact h0 b h; rw [h, up2_self]⟩) (by (try dsimp only); omega)

theorem hdX7_hope : yX7_hope.cls = RX7 ∧ yX7_hope.cls ≠ "java/lang/invoke/MethodHandle" ∧ yX7_hope.cls ≠ "java/lang/invoke/VarHandle" ∧ (parseMethodDescriptor yX7_hope.desc).map (fun d => d.parameters.length) = some 4 := by decide +kernel
set_option maxHeartbeats 4000000 in
set_option maxRecDepth 100000 in
theorem kX7_hope (l : Launch) (D : va_G) (cs : Nat → ClassId) (ad : Nat → Nat) (N kt : Nat) (hN : 58 ≤ N) (σ : vSg) (τ : vTa) (a : Int32) (n : Int32) (pp : Int32) (which : Int32) (nd : Nat) (ns : Nat) (nr : Nat)   (hI : IM σ nd ns nr) : CtL l yX7_hope wsX7_hope ({ frames := 4, cells := 0, slots := 0, locals := 102 }) D cs ad N (shP kt) [.ref (ad (38)), .int a, .int n, .int pp, .int which] σ τ 0 0 (fun r9 σ9 τ9 => hopeS (nI ns) nd (unM σ) (vnM σ) a n pp which = r9 ∧ σ = σ9) := by
  refine ct_L (cc := cX7_hope) (maxL := 5) (by decide) rfl (Nat.le_of_ble_eq_true rfl) rfl rfl ?_
  intro p e s m args below meth c A X hr hlk
  obtain ⟨⟨hnd, hnd5⟩, ⟨hns, hns4⟩, hdd, hkp, ⟨hnr, hnr8⟩, hrd, hsh, hpos⟩ := id hI
  refine go_aload_n X dX7_hope_0 0 rfl rfl ?_
  refine go_iload_n X dX7_hope_1 1 rfl rfl ?_
  refine go_callVI X (n := 38) (As := [.int a]) (rest := []) (kX7_noSubject l D cs ad N kt (by omega) σ τ a (nI ns) (hns)) gX7_hope_X7_noSubject rfl hdX7_noSubject ⟨rfl, rfl, by decide, by decide, by decide, by decide⟩ (by omega) rfl rfl rfl rfl (Nat.le_of_ble_eq_true rfl) dX7_hope_2 (fun r9 σ9 τ9 h9 => ?_)
  obtain ⟨rfl, rfl, rfl⟩ := h9
  refine go_ifb_ne X (tgt := 43) dX7_hope_5 (by decide) (fun c5 => ?_) (fun c5 => ?_)
  · skip
    refine go_callSL X (As := []) (rest := []) (kX7_lost l D cs ad N kt (by omega) σ τ ) gX7_hope_X7_lost rfl hdX7_lost ⟨rfl, rfl, by decide, by decide, by decide, by decide⟩ rfl rfl (Nat.le_of_ble_eq_true rfl) dX7_hope_43 (fun r9 σ9 τ9 h9 => ?_)
    obtain ⟨rfl, rfl, rfl⟩ := h9
    exact go_lreturn X hr hlk dX7_hope_46 ((have hE : hopeS (nI ns) nd (unM σ) (vnM σ) a n pp which = LOST9 := (by unfold hopeS; (try dsimp only); exact (cif_f c5).trans (rfl)); ⟨hE, rfl⟩))
  · skip
    obtain ⟨i, hi, rfl⟩ := isB_nat (Classical.not_not.mp c5) (by omega)
    refine go_iload_n X dX7_hope_8 2 rfl rfl ?_
    refine go_i2l X (v := n.toInt64) dX7_hope_9 rfl ?_
    refine go_lconst X (v := 0) dX7_hope_10 (by decide) ?_
    refine go_ldc2 X (v := 8) (List.mem_cons_of_mem _ (List.mem_append_left _ (List.mem_append_left _ (List.mem_of_getElem? (i := 0) rfl)))) dX7_hope_11 ?_
    refine go_callSI X (As := [.long n.toInt64, .long 0, .long 8]) (rest := []) (kX7_in l D cs ad N kt (by omega) σ τ n.toInt64 0 8) gX7_hope_X7_in rfl hdX7_in ⟨rfl, rfl, by decide, by decide, by decide, by decide⟩ rfl rfl (Nat.le_of_ble_eq_true rfl) dX7_hope_14 (fun r9 σ9 τ9 h9 => ?_)
    obtain ⟨rfl, rfl, rfl⟩ := h9
    refine go_topi (v := b2i (isB n 9)) (b2i_c (in_iff rfl rfl)) ?_
    refine go_ifb_eq X (tgt := 43) dX7_hope_17 (by decide) (fun c17 => ?_) (fun c17 => ?_)
    · skip
      refine go_callSL X (As := []) (rest := []) (kX7_lost l D cs ad N kt (by omega) σ τ ) gX7_hope_X7_lost rfl hdX7_lost ⟨rfl, rfl, by decide, by decide, by decide, by decide⟩ rfl rfl (Nat.le_of_ble_eq_true rfl) dX7_hope_43 (fun r9 σ9 τ9 h9 => ?_)
      obtain ⟨rfl, rfl, rfl⟩ := h9
      exact go_lreturn X hr hlk dX7_hope_46 ((have hE : hopeS (nI ns) nd (unM σ) (vnM σ) (nI i) n pp which = LOST9 := (by unfold hopeS; (try dsimp only); (try rw [toN_nI (k := i) (by omega)]); exact (cif_t (Classical.not_not.mp c5)).trans ((cif_f c17).trans (rfl))); ⟨hE, rfl⟩))
    · skip
      obtain ⟨nn, hnn, rfl⟩ := isB_nat (b := 9) c17 (by omega)
      refine go_iload_n X dX7_hope_20 3 rfl rfl ?_
      refine go_i2l X (v := pp.toInt64) dX7_hope_21 rfl ?_
      refine go_lconst X (v := 0) dX7_hope_22 (by decide) ?_
      refine go_ldc2 X (v := 3) (List.mem_cons_of_mem _ (List.mem_append_left _ (List.mem_append_left _ (List.mem_of_getElem? (i := 1) rfl)))) dX7_hope_23 ?_
      refine go_callSI X (As := [.long pp.toInt64, .long 0, .long 3]) (rest := []) (kX7_in l D cs ad N kt (by omega) σ τ pp.toInt64 0 3) gX7_hope_X7_in rfl hdX7_in ⟨rfl, rfl, by decide, by decide, by decide, by decide⟩ rfl rfl (Nat.le_of_ble_eq_true rfl) dX7_hope_26 (fun r9 σ9 τ9 h9 => ?_)
      obtain ⟨rfl, rfl, rfl⟩ := h9
      refine go_topi (v := b2i (isB pp 4)) (b2i_c (in_iff rfl rfl)) ?_
      refine go_ifb_eq X (tgt := 43) dX7_hope_29 (by decide) (fun c29 => ?_) (fun c29 => ?_)
      · skip
        refine go_callSL X (As := []) (rest := []) (kX7_lost l D cs ad N kt (by omega) σ τ ) gX7_hope_X7_lost rfl hdX7_lost ⟨rfl, rfl, by decide, by decide, by decide, by decide⟩ rfl rfl (Nat.le_of_ble_eq_true rfl) dX7_hope_43 (fun r9 σ9 τ9 h9 => ?_)
        obtain ⟨rfl, rfl, rfl⟩ := h9
        exact go_lreturn X hr hlk dX7_hope_46 ((have hE : hopeS (nI ns) nd (unM σ) (vnM σ) (nI i) (nI nn) pp which = LOST9 := (by unfold hopeS; (try dsimp only); (try rw [toN_nI (k := i) (by omega)]); (try rw [toN_nI (k := nn) (by omega)]); exact (cif_t (Classical.not_not.mp c5)).trans ((cif_t c17).trans ((cif_f c29).trans (rfl)))); ⟨hE, rfl⟩))
      · skip
        obtain ⟨qq, hqq, rfl⟩ := isB_nat (b := 4) c29 (by omega)
        refine go_iload X dX7_hope_32 4 rfl ?_
        refine go_i2l X (v := which.toInt64) dX7_hope_34 rfl ?_
        refine go_lconst X (v := 0) dX7_hope_35 (by decide) ?_
        refine go_lconst X (v := 1) dX7_hope_36 (by decide) ?_
        refine go_callSI X (As := [.long which.toInt64, .long 0, .long 1]) (rest := []) (kX7_in l D cs ad N kt (by omega) σ τ which.toInt64 0 1) gX7_hope_X7_in rfl hdX7_in ⟨rfl, rfl, by decide, by decide, by decide, by decide⟩ rfl rfl (Nat.le_of_ble_eq_true rfl) dX7_hope_37 (fun r9 σ9 τ9 h9 => ?_)
        obtain ⟨rfl, rfl, rfl⟩ := h9
        refine go_topi (v := b2i (isB which 2)) (b2i_c (in_iff rfl rfl)) ?_
        refine go_ifb_ne X (tgt := 47) dX7_hope_40 (by decide) (fun c40 => ?_) (fun c40 => ?_)
        · skip
          refine go_aload_n X dX7_hope_47 0 rfl rfl ?_
          refine go_iload_n X dX7_hope_48 1 rfl rfl ?_
          refine go_iload_n X dX7_hope_49 2 rfl rfl ?_
          refine go_callVV X (n := 38) (As := [.int (nI i), .int (nI nn)]) (rest := []) (kX7_goHope l D cs ad N kt (by omega) σ τ i nn nd ns nr (by omega) (by omega) (by omega)) gX7_hope_X7_goHope rfl hdX7_goHope ⟨rfl, rfl, by decide, by decide, by decide, by decide⟩ (by omega) rfl rfl rfl rfl (Nat.le_of_ble_eq_true rfl) dX7_hope_50 (fun σ1z τ1z h1z => ?_)
          obtain ⟨rfl, hτ1z⟩ := h1z
          refine go_aload_n X dX7_hope_53 0 rfl rfl ?_
          refine go_getr X (n := 38) (j := 20) (by omega) rfl rfl (fun _ h9 => List.mem_cons_of_mem _ (List.mem_append_right _ h9)) (by decide) (List.mem_cons_of_mem _ (List.mem_append_left _ (List.mem_append_left _ (List.mem_of_getElem? (i := 2) rfl)))) rfl dX7_hope_54 ?_
          refine go_iconst X (v := 4) dX7_hope_57 (by decide) ?_
          refine go_iload_n X dX7_hope_58 2 rfl rfl ?_
          refine go_imul X dX7_hope_59 ?_
          refine go_topi (v := nI (4 * nn)) (pk_mul 4 nn) ?_
          refine go_iload_n X dX7_hope_60 3 rfl rfl ?_
          refine go_iadd X dX7_hope_61 ?_
          refine go_topi (v := nI ((4 * nn) + qq)) (nI_add (4 * nn) qq) ?_
          refine go_lald X (n := 50) (k := (4 * nn) + qq) (by omega) rfl rfl (by omega) (by omega) dX7_hope_62 ?_
          refine go_topl (v := lN (hpN nd (unM σ i) (vnM σ) nn qq)) (hτ1z.2 nn (by omega) qq (by omega)) ?_
          refine go_aload_n X dX7_hope_63 0 rfl rfl ?_
          refine go_iload_n X dX7_hope_64 2 rfl rfl ?_
          refine go_callVL X (n := 38) (As := [.int (nI nn)]) (rest := [.long (lN (hpN nd (unM σ i) (vnM σ) nn qq))]) (kX7_timesOf l D cs ad N kt (by omega) σ τ1z nn nd hnd (by omega) (by omega)) gX7_hope_X7_timesOf rfl hdX7_timesOf ⟨rfl, rfl, by decide, by decide, by decide, by decide⟩ (by omega) rfl rfl rfl rfl (Nat.le_of_ble_eq_true rfl) dX7_hope_65 (fun r9 σ9 τ9 h9 => ?_)
          obtain ⟨rfl, rfl, rfl⟩ := h9
          refine go_iload X dX7_hope_68 4 rfl ?_
          have hb9 := sh_b hnd5 (show nn ≤ 8 by omega) (hpos (by omega)) (hpN_b (IM_b hI (show i < ns by omega)) hnd5 (show nn ≤ 8 by omega) qq)
          refine go_callSL X (As := [.long (lN (hpN nd (unM σ i) (vnM σ) nn qq)), .long (lN (nd ^ nn)), .int which]) (rest := []) (kX7_share l D cs ad N kt (by omega) σ τ1z (hpN nd (unM σ i) (vnM σ) nn qq) (nd ^ nn) which hb9.1 hb9.2.1 hb9.2.2.2) gX7_hope_X7_share rfl hdX7_share ⟨rfl, rfl, by decide, by decide, by decide, by decide⟩ rfl rfl (Nat.le_of_ble_eq_true rfl) dX7_hope_70 (fun r9 σ9 τ9 h9 => ?_)
          obtain ⟨rfl, rfl, rfl⟩ := h9
          exact go_lreturn X hr hlk dX7_hope_73 ((have hE : hopeS (nI ns) nd (unM σ) (vnM σ) (nI i) (nI nn) (nI qq) which = lN (shN (hpN nd (unM σ i) (vnM σ) nn qq) (nd ^ nn) which) := (by unfold hopeS; (try dsimp only); (try rw [toN_nI (k := i) (by omega)]); (try rw [toN_nI (k := nn) (by omega)]); (try rw [toN_nI (k := qq) (by omega)]); exact (cif_t (Classical.not_not.mp c5)).trans ((cif_t c17).trans ((cif_t c29).trans ((cif_t c40).trans (rfl))))); ⟨hE, rfl⟩))
        · skip
          refine go_callSL X (As := []) (rest := []) (kX7_lost l D cs ad N kt (by omega) σ τ ) gX7_hope_X7_lost rfl hdX7_lost ⟨rfl, rfl, by decide, by decide, by decide, by decide⟩ rfl rfl (Nat.le_of_ble_eq_true rfl) dX7_hope_43 (fun r9 σ9 τ9 h9 => ?_)
          obtain ⟨rfl, rfl, rfl⟩ := h9
          exact go_lreturn X hr hlk dX7_hope_46 ((have hE : hopeS (nI ns) nd (unM σ) (vnM σ) (nI i) (nI nn) (nI qq) which = LOST9 := (by unfold hopeS; (try dsimp only); (try rw [toN_nI (k := i) (by omega)]); (try rw [toN_nI (k := nn) (by omega)]); (try rw [toN_nI (k := qq) (by omega)]); exact (cif_t (Classical.not_not.mp c5)).trans ((cif_t c17).trans ((cif_t c29).trans ((cif_f c40).trans (rfl))))); ⟨hE, rfl⟩))

theorem usesS_2 {ns : Int32} {nd : Nat} {u : Nat → Nat → Nat} {v : Nat → Nat} {a n pp : Int32} (ha : isB a ns) (h : ¬ ((1 ≤ n ∧ n ≤ 8) ∧ (1 ≤ pp ∧ pp ≤ 3))) : usesS ns nd u v a n pp = -2 := by
  unfold usesS
  rw [cif_t ha]
  by_cases h1 : n < 1
  · exact cif_t h1
  · rw [cif_f h1]
    by_cases h2 : 8 < n
    · exact cif_t h2
    · rw [cif_f h2]
      by_cases h3 : pp < 1
      · exact cif_t h3
      · rw [cif_f h3]
        exact cif_f (fun h4 => h ⟨⟨Int32.not_lt.mp h1, Int32.not_lt.mp h2⟩, Int32.not_lt.mp h3, h4⟩)
theorem hdX7_uses : yX7_uses.cls = RX7 ∧ yX7_uses.cls ≠ "java/lang/invoke/MethodHandle" ∧ yX7_uses.cls ≠ "java/lang/invoke/VarHandle" ∧ (parseMethodDescriptor yX7_uses.desc).map (fun d => d.parameters.length) = some 3 := by decide +kernel
set_option maxHeartbeats 4000000 in
set_option maxRecDepth 100000 in
theorem kX7_uses (l : Launch) (D : va_G) (cs : Nat → ClassId) (ad : Nat → Nat) (N kt : Nat) (hN : 58 ≤ N) (σ : vSg) (τ : vTa) (a : Int32) (n : Int32) (pp : Int32) (nd : Nat) (ns : Nat) (nr : Nat)   (hI : IM σ nd ns nr) : CtI l yX7_uses wsX7_uses ({ frames := 4, cells := 0, slots := 0, locals := 102 }) D cs ad N (shP kt) [.ref (ad (38)), .int a, .int n, .int pp] σ τ 0 0 (fun r9 σ9 τ9 => usesS (nI ns) nd (unM σ) (vnM σ) a n pp = r9 ∧ σ = σ9) := by
  refine ct_I (cc := cX7_uses) (maxL := 14) (by decide) rfl (Nat.le_of_ble_eq_true rfl) rfl rfl ?_
  intro p e s m args below meth c A X hr hlk
  obtain ⟨⟨hnd, hnd5⟩, ⟨hns, hns4⟩, hdd, hkp, ⟨hnr, hnr8⟩, hrd, hsh, hpos⟩ := id hI
  refine go_aload_n X dX7_uses_0 0 rfl rfl ?_
  refine go_iload_n X dX7_uses_1 1 rfl rfl ?_
  refine go_callVI X (n := 38) (As := [.int a]) (rest := []) (kX7_noSubject l D cs ad N kt (by omega) σ τ a (nI ns) (hns)) gX7_uses_X7_noSubject rfl hdX7_noSubject ⟨rfl, rfl, by decide, by decide, by decide, by decide⟩ (by omega) rfl rfl rfl rfl (Nat.le_of_ble_eq_true rfl) dX7_uses_2 (fun r9 σ9 τ9 h9 => ?_)
  obtain ⟨rfl, rfl, rfl⟩ := h9
  refine go_ifb_eq X (tgt := 10) dX7_uses_5 (by decide) (fun c5 => ?_) (fun c5 => ?_)
  · skip
    obtain ⟨i, hi, rfl⟩ := isB_nat (Classical.not_not.mp c5) (by omega)
    refine go_iload_n X dX7_uses_10 2 rfl rfl ?_
    refine go_i2l X (v := n.toInt64) dX7_uses_11 rfl ?_
    refine go_lconst X (v := 1) dX7_uses_12 (by decide) ?_
    refine go_ldc2 X (v := 8) (List.mem_cons_of_mem _ (List.mem_append_left _ (List.mem_append_left _ (List.mem_of_getElem? (i := 0) rfl)))) dX7_uses_13 ?_
    refine go_callSI X (As := [.long n.toInt64, .long 1, .long 8]) (rest := []) (kX7_in l D cs ad N kt (by omega) σ τ n.toInt64 1 8) gX7_uses_X7_in rfl hdX7_in ⟨rfl, rfl, by decide, by decide, by decide, by decide⟩ rfl rfl (Nat.le_of_ble_eq_true rfl) dX7_uses_16 (fun r9 σ9 τ9 h9 => ?_)
    obtain ⟨rfl, rfl, rfl⟩ := h9
    refine go_topi (v := b2i (1 ≤ n ∧ n ≤ 8)) (b2i_c (in_gen rfl rfl)) ?_
    refine go_ifb_eq X (tgt := 34) dX7_uses_19 (by decide) (fun c19 => ?_) (fun c19 => ?_)
    · skip
      refine go_bipush X (v := (-2)) dX7_uses_34 (by decide) ?_
      exact go_ireturn X hr hlk dX7_uses_36 (⟨usesS_2 (Classical.not_not.mp c5) (fun q => c19 q.1), rfl⟩)
    · skip
      refine go_iload_n X dX7_uses_22 3 rfl rfl ?_
      refine go_i2l X (v := pp.toInt64) dX7_uses_23 rfl ?_
      refine go_lconst X (v := 1) dX7_uses_24 (by decide) ?_
      refine go_ldc2 X (v := 3) (List.mem_cons_of_mem _ (List.mem_append_left _ (List.mem_append_left _ (List.mem_of_getElem? (i := 1) rfl)))) dX7_uses_25 ?_
      refine go_callSI X (As := [.long pp.toInt64, .long 1, .long 3]) (rest := []) (kX7_in l D cs ad N kt (by omega) σ τ pp.toInt64 1 3) gX7_uses_X7_in rfl hdX7_in ⟨rfl, rfl, by decide, by decide, by decide, by decide⟩ rfl rfl (Nat.le_of_ble_eq_true rfl) dX7_uses_28 (fun r9 σ9 τ9 h9 => ?_)
      obtain ⟨rfl, rfl, rfl⟩ := h9
      refine go_topi (v := b2i (1 ≤ pp ∧ pp ≤ 3)) (b2i_c (in_gen rfl rfl)) ?_
      refine go_ifb_ne X (tgt := 37) dX7_uses_31 (by decide) (fun c31 => ?_) (fun c31 => ?_)
      · skip
        obtain ⟨nn, hn1, hn8, rfl⟩ := rng_nat (lo := 1) (hi := 8) (Int32.not_lt.mpr c19.1) c19.2 (by omega) (by omega)
        obtain ⟨qq, hq1, hq3, rfl⟩ := rng_nat (lo := 1) (hi := 3) (Int32.not_lt.mpr c31.1) c31.2 (by omega) (by omega)
        have hp58 := pow58 hnd5 (show nn - 1 ≤ 8 by omega)
        refine go_aload_n X dX7_uses_37 0 rfl rfl ?_
        refine go_iload_n X dX7_uses_38 1 rfl rfl ?_
        refine go_iload_n X dX7_uses_39 2 rfl rfl ?_
        refine go_callVV X (n := 38) (As := [.int (nI i), .int (nI nn)]) (rest := []) (kX7_goHope l D cs ad N kt (by omega) σ τ i nn nd ns nr (by omega) (by omega) (by omega)) gX7_uses_X7_goHope rfl hdX7_goHope ⟨rfl, rfl, by decide, by decide, by decide, by decide⟩ (by omega) rfl rfl rfl rfl (Nat.le_of_ble_eq_true rfl) dX7_uses_40 (fun σ1z τ1z h1z => ?_)
        obtain ⟨rfl, hτ1z⟩ := h1z
        refine go_iconst X (v := 0) dX7_uses_43 (by decide) ?_
        refine go_istore X (lv2 := [(4, .int 0), (0, .ref (ad (38))), (1, .int (nI i)), (2, .int (nI nn)), (3, .int (nI qq))]) dX7_uses_44 (by decide) rfl ?_
        refine go_aload_n X dX7_uses_46 1 rfl rfl ?_
        refine go_iload_n X dX7_uses_47 3 rfl rfl ?_
        refine go_iconst X (v := 1) dX7_uses_48 (by decide) ?_
        refine go_isub X dX7_uses_49 ?_
        refine go_topi (v := nI (nn - 1)) (pk_sub (by omega)) ?_
        refine go_callVL X (n := 38) (As := [.int (nI (nn - 1))]) (rest := []) (kX7_timesOf l D cs ad N kt (by omega) σ τ1z (nn - 1) nd hnd (by omega) (by omega)) gX7_uses_X7_timesOf rfl hdX7_timesOf ⟨rfl, rfl, by decide, by decide, by decide, by decide⟩ (by omega) rfl rfl rfl rfl (Nat.le_of_ble_eq_true rfl) dX7_uses_50 (fun r9 σ9 τ9 h9 => ?_)
        obtain ⟨rfl, rfl, rfl⟩ := h9
        refine go_lstore X (lv2 := [(5, .long (lN (nd ^ (nn - 1)))), (4, .int 0), (0, .ref (ad (38))), (1, .int (nI i)), (2, .int (nI nn)), (3, .int (nI qq))]) dX7_uses_53 (by decide) rfl ?_
        refine go_aload_n X dX7_uses_55 2 rfl rfl ?_
        refine go_getr X (n := 38) (j := 20) (by omega) rfl rfl (fun _ h9 => List.mem_cons_of_mem _ (List.mem_append_right _ h9)) (by decide) (List.mem_cons_of_mem _ (List.mem_append_left _ (List.mem_append_left _ (List.mem_of_getElem? (i := 2) rfl)))) rfl dX7_uses_56 ?_
        refine go_iconst X (v := 4) dX7_uses_59 (by decide) ?_
        refine go_iload_n X dX7_uses_60 4 rfl rfl ?_
        refine go_iconst X (v := 1) dX7_uses_61 (by decide) ?_
        refine go_isub X dX7_uses_62 ?_
        refine go_topi (v := nI (nn - 1)) (pk_sub (by omega)) ?_
        refine go_imul X dX7_uses_63 ?_
        refine go_topi (v := nI (4 * (nn - 1))) (pk_mul 4 (nn - 1)) ?_
        refine go_iload_n X dX7_uses_64 5 rfl rfl ?_
        refine go_iadd X dX7_uses_65 ?_
        refine go_topi (v := nI ((4 * (nn - 1)) + qq)) (nI_add (4 * (nn - 1)) qq) ?_
        refine go_lald X (n := 50) (k := (4 * (nn - 1)) + qq) (by omega) rfl rfl (by omega) (by omega) dX7_uses_66 ?_
        refine go_topl (v := lN (hpN nd (unM σ i) (vnM σ) (nn - 1) qq)) (hτ1z.2 (nn - 1) (by omega) qq (by omega)) ?_
        refine go_lstore X (lv2 := [(7, .long (lN (hpN nd (unM σ i) (vnM σ) (nn - 1) qq))), (5, .long (lN (nd ^ (nn - 1)))), (4, .int 0), (0, .ref (ad (38))), (1, .int (nI i)), (2, .int (nI nn)), (3, .int (nI qq))]) dX7_uses_67 (by decide) rfl ?_
        refine go_aload_n X dX7_uses_69 3 rfl rfl ?_
        refine go_getr X (n := 38) (j := 20) (by omega) rfl rfl (fun _ h9 => List.mem_cons_of_mem _ (List.mem_append_right _ h9)) (by decide) (List.mem_cons_of_mem _ (List.mem_append_left _ (List.mem_append_left _ (List.mem_of_getElem? (i := 2) rfl)))) rfl dX7_uses_70 ?_
        refine go_iconst X (v := 4) dX7_uses_73 (by decide) ?_
        refine go_iload_n X dX7_uses_74 5 rfl rfl ?_
        refine go_iconst X (v := 1) dX7_uses_75 (by decide) ?_
        refine go_isub X dX7_uses_76 ?_
        refine go_topi (v := nI (nn - 1)) (pk_sub (by omega)) ?_
        refine go_imul X dX7_uses_77 ?_
        refine go_topi (v := nI (4 * (nn - 1))) (pk_mul 4 (nn - 1)) ?_
        refine go_iload_n X dX7_uses_78 6 rfl rfl ?_
        refine go_iadd X dX7_uses_79 ?_
        refine go_topi (v := nI ((4 * (nn - 1)) + qq)) (nI_add (4 * (nn - 1)) qq) ?_
        refine go_iconst X (v := 1) dX7_uses_80 (by decide) ?_
        refine go_isub X dX7_uses_81 ?_
        refine go_lald X (n := 50) (k := 4 * (nn - 1) + qq - 1) (by omega) rfl (pk_sub (a := 4 * (nn - 1) + qq) (b := 1) (by omega)) (by omega) (by omega) dX7_uses_82 ?_
        refine go_topl (v := lN (hpN nd (unM σ i) (vnM σ) (nn - 1) (qq - 1))) (by rw [show 4 * (nn - 1) + qq - 1 = 4 * (nn - 1) + (qq - 1) by omega]; exact hτ1z.2 (nn - 1) (by omega) (qq - 1) (by omega)) ?_
        refine go_lstore X (lv2 := [(9, .long (lN (hpN nd (unM σ i) (vnM σ) (nn - 1) (qq - 1)))), (7, .long (lN (hpN nd (unM σ i) (vnM σ) (nn - 1) qq))), (5, .long (lN (nd ^ (nn - 1)))), (4, .int 0), (0, .ref (ad (38))), (1, .int (nI i)), (2, .int (nI nn)), (3, .int (nI qq))]) dX7_uses_83 (by decide) rfl ?_
        refine go_iconst X (v := 0) dX7_uses_85 (by decide) ?_
        refine go_istore X (lv2 := [(11, .int 0), (9, .long (lN (hpN nd (unM σ i) (vnM σ) (nn - 1) (qq - 1)))), (7, .long (lN (hpN nd (unM σ i) (vnM σ) (nn - 1) qq))), (5, .long (lN (nd ^ (nn - 1)))), (4, .int 0), (0, .ref (ad (38))), (1, .int (nI i)), (2, .int (nI nn)), (3, .int (nI qq))]) dX7_uses_86 (by decide) rfl ?_
        refine go_loop (ι := Nat) (fun i9 => (i9 ≤ nd)) (fun i9 => nd - i9) (fun i9 => σ) (fun i9 => τ1z) (fun i9 => [(11, .int (nI i9)), (9, .long (lN (hpN nd (unM σ i) (vnM σ) (nn - 1) (qq - 1)))), (7, .long (lN (hpN nd (unM σ i) (vnM σ) (nn - 1) qq))), (5, .long (lN (nd ^ (nn - 1)))), (4, .int (setS (useP nd (unM σ i) (vnM σ) (nn - 1) qq) i9)), (0, .ref (ad (38))), (1, .int (nI i)), (2, .int (nI nn)), (3, .int (nI qq))]) (fun i9 => []) 0 (by (try dsimp only); exact (Nat.zero_le _)) ?_
        intro i9 hi9 ih88
        obtain ⟨d, hv9⟩ : ∃ z, z = i9 := ⟨_, rfl⟩; subst hv9
        (try dsimp only at hi9); (try dsimp only at ih88); (try dsimp only)
        have hd := hi9
        refine go_iload X dX7_uses_88 0 rfl ?_
        refine go_aload_n X dX7_uses_90 5 rfl rfl ?_
        refine go_geti X (n := 38) (j := 1) (by omega) rfl rfl (fun _ h9 => List.mem_cons_of_mem _ (List.mem_append_right _ h9)) (by decide) (List.mem_cons_of_mem _ (List.mem_append_left _ (List.mem_append_left _ (List.mem_of_getElem? (i := 3) rfl)))) rfl dX7_uses_91 ?_
        refine go_topi (v := nI nd) (hnd) ?_
        refine go_icmpn_ge X (tgt := 161) dX7_uses_94 (by decide) (a := d) (b := nd) rfl rfl (by omega) (by omega) (fun c94 => ?_) (fun c94 => ?_)
        · skip
          refine go_iload X dX7_uses_161 4 rfl ?_
          exact go_ireturn X hr hlk dX7_uses_163 ((have hE : usesS (nI ns) nd (unM σ) (vnM σ) (nI i) (nI nn) (nI qq) = setS (useP nd (unM σ i) (vnM σ) (nn - 1) qq) d := (by unfold usesS; (try dsimp only); (try rw [toN_nI (k := i) (by omega)]); (try rw [toN_nI (k := nn) (by omega)]); (try rw [toN_nI (k := qq) (by omega)]); exact (cif_t (Classical.not_not.mp c5)).trans ((cif_f (Int32.not_lt.mpr c19.1)).trans ((cif_f (Int32.not_lt.mpr c19.2)).trans ((cif_f (Int32.not_lt.mpr c31.1)).trans ((cif_t c31.2).trans ((by rw [show d = nd by omega]))))))); ⟨hE, rfl⟩))
        · skip
          refine go_lload X dX7_uses_97 2 rfl ?_
          refine go_aload_n X dX7_uses_99 5 rfl rfl ?_
          refine go_lconst X (v := 0) dX7_uses_100 (by decide) ?_
          refine go_aload_n X dX7_uses_101 5 rfl rfl ?_
          refine go_iload_n X dX7_uses_102 6 rfl rfl ?_
          refine go_iload X dX7_uses_103 0 rfl ?_
          refine go_callVI X (n := 38) (As := [.int (nI i), .int (nI d)]) (rest := [.long 0, .ref (ad (38)), .long (lN (hpN nd (unM σ i) (vnM σ) (nn - 1) qq))]) (kX7_valueOf l D cs ad N kt (by omega) σ τ1z i d (σ 42 i) (rfl) (σ 39 d) (rfl) (σ 40 d) (rfl) (σ 41 d) (rfl) (by omega) (by omega) ((hkp i (by omega)).1)) gX7_uses_X7_valueOf rfl hdX7_valueOf ⟨rfl, rfl, by decide, by decide, by decide, by decide⟩ (by omega) rfl rfl rfl rfl (Nat.le_of_ble_eq_true rfl) dX7_uses_105 (fun r9 σ9 τ9 h9 => ?_)
          obtain ⟨rfl, rfl, rfl⟩ := h9
          refine go_i2l X (v := (valS (σ 42 i) (σ 39 d) (σ 40 d) (σ 41 d)).toInt64) dX7_uses_108 rfl ?_
          refine go_lload X dX7_uses_109 3 rfl ?_
          refine go_lmul X dX7_uses_111 ?_
          refine go_callVL X (n := 38) (As := [.long 0, .long (((valS (σ 42 i) (σ 39 d) (σ 40 d) (σ 41 d)).toInt64) * (lN (nd ^ (nn - 1))))]) (rest := [.long (lN (hpN nd (unM σ i) (vnM σ) (nn - 1) qq))]) (kX7_greater l D cs ad N kt (by omega) σ τ1z 0 (((valS (σ 42 i) (σ 39 d) (σ 40 d) (σ 41 d)).toInt64) * (lN (nd ^ (nn - 1))))) gX7_uses_X7_greater rfl hdX7_greater ⟨rfl, rfl, by decide, by decide, by decide, by decide⟩ (by omega) rfl rfl rfl rfl (Nat.le_of_ble_eq_true rfl) dX7_uses_112 (fun r9 σ9 τ9 h9 => ?_)
          obtain ⟨rfl, rfl, rfl⟩ := h9
          refine go_topl (v := lN (unM σ i d * nd ^ (nn - 1))) (grV hI (by omega) (by omega) (by omega)) ?_
          refine go_ladd X dX7_uses_115 ?_
          refine go_topl (v := lN (unM σ i d * nd ^ (nn - 1) + hpN nd (unM σ i) (vnM σ) (nn - 1) qq)) (by rw [lN_add, Nat.add_comm]) ?_
          refine go_lstore X (lv2 := [(12, .long (lN (unM σ i d * nd ^ (nn - 1) + hpN nd (unM σ i) (vnM σ) (nn - 1) qq))), (11, .int (nI d)), (9, .long (lN (hpN nd (unM σ i) (vnM σ) (nn - 1) (qq - 1)))), (7, .long (lN (hpN nd (unM σ i) (vnM σ) (nn - 1) qq))), (5, .long (lN (nd ^ (nn - 1)))), (4, .int (setS (useP nd (unM σ i) (vnM σ) (nn - 1) qq) d)), (0, .ref (ad (38))), (1, .int (nI i)), (2, .int (nI nn)), (3, .int (nI qq))]) dX7_uses_116 (by decide) rfl ?_
          refine go_iload X dX7_uses_118 5 rfl ?_
          refine go_lload X dX7_uses_120 2 rfl ?_
          refine go_ldc2 X (v := 10) (List.mem_cons_of_mem _ (List.mem_append_left _ (List.mem_append_left _ (List.mem_of_getElem? (i := 4) rfl)))) dX7_uses_122 ?_
          refine go_aload_n X dX7_uses_125 6 rfl rfl ?_
          refine go_getr X (n := 38) (j := 2) (by omega) rfl rfl (fun _ h9 => List.mem_cons_of_mem _ (List.mem_append_right _ h9)) (by decide) (List.mem_cons_of_mem _ (List.mem_append_left _ (List.mem_append_left _ (List.mem_of_getElem? (i := 5) rfl)))) rfl dX7_uses_126 ?_
          refine go_iload X dX7_uses_129 1 rfl ?_
          refine go_iald X (n := 39) (k := d) (by omega) rfl rfl (by omega) (by omega) dX7_uses_131 ?_
          refine go_i2l X (v := (σ 39 d).toInt64) dX7_uses_132 rfl ?_
          refine go_lmul X dX7_uses_133 ?_
          refine go_topl (v := lN (vnM σ d)) (vnV hI (show i < ns by omega) (by omega)) ?_
          refine go_lload X dX7_uses_134 4 rfl ?_
          refine go_lmul X dX7_uses_136 ?_
          refine go_topl (v := lN (vnM σ d * nd ^ (nn - 1))) (lN_mul _ _) ?_
          refine go_ladd X dX7_uses_137 ?_
          refine go_topl (v := lN (vnM σ d * nd ^ (nn - 1) + hpN nd (unM σ i) (vnM σ) (nn - 1) (qq - 1))) (by rw [lN_add, Nat.add_comm]) ?_
          refine go_lload X dX7_uses_138 0 rfl ?_
          refine go_lcmp X dX7_uses_140 ?_
          refine go_lcmp_le X (tgt := 151) dX7_uses_141 (by decide) (fun c141 => ?_) (fun c141 => ?_)
          · skip
            refine go_iconst X (v := 0) dX7_uses_151 (by decide) ?_
            refine go_ior X dX7_uses_152 ?_
            refine go_topi (v := setS (useP nd (unM σ i) (vnM σ) (nn - 1) qq) (d + 1)) (by rw [setS_f (P := useP nd (unM σ i) (vnM σ) (nn - 1) qq) (n := d) ((useP_le (IM_b hI (by omega)) hnd5 (by omega) (by omega)).mp c141), or_0]) ?_
            refine go_istore X (lv2 := [(4, .int (setS (useP nd (unM σ i) (vnM σ) (nn - 1) qq) (d + 1))), (12, .long (lN (unM σ i d * nd ^ (nn - 1) + hpN nd (unM σ i) (vnM σ) (nn - 1) qq))), (11, .int (nI d)), (9, .long (lN (hpN nd (unM σ i) (vnM σ) (nn - 1) (qq - 1)))), (7, .long (lN (hpN nd (unM σ i) (vnM σ) (nn - 1) qq))), (5, .long (lN (nd ^ (nn - 1)))), (0, .ref (ad (38))), (1, .int (nI i)), (2, .int (nI nn)), (3, .int (nI qq))]) dX7_uses_153 (by decide) rfl ?_
            refine go_iinc X (v := nI (d + 1)) (lv2 := [(11, .int (nI (d + 1))), (4, .int (setS (useP nd (unM σ i) (vnM σ) (nn - 1) qq) (d + 1))), (12, .long (lN (unM σ i d * nd ^ (nn - 1) + hpN nd (unM σ i) (vnM σ) (nn - 1) qq))), (9, .long (lN (hpN nd (unM σ i) (vnM σ) (nn - 1) (qq - 1)))), (7, .long (lN (hpN nd (unM σ i) (vnM σ) (nn - 1) qq))), (5, .long (lN (nd ^ (nn - 1)))), (0, .ref (ad (38))), (1, .int (nI i)), (2, .int (nI nn)), (3, .int (nI qq))]) dX7_uses_155 (k := 2) rfl (nI_add d 1) (by decide) rfl ?_
            refine go_goto X (tgt := 88) dX7_uses_158 (by decide) ?_
            refine go_lvsub [0, 3, 4, 5, 1, 6, 7, 8, 9] rfl ?_
            exact ih88 (d + 1) (by (try dsimp only); exact (by omega)) (by (try dsimp only); omega)
          · skip
            refine go_iconst X (v := 1) dX7_uses_144 (by decide) ?_
            refine go_iload X dX7_uses_145 1 rfl ?_
            refine go_ishl X dX7_uses_147 ?_
            refine go_goto X (tgt := 152) dX7_uses_148 (by decide) ?_
            refine go_ior X dX7_uses_152 ?_
            refine go_topi (v := setS (useP nd (unM σ i) (vnM σ) (nn - 1) qq) (d + 1)) (by rw [setS_t (P := useP nd (unM σ i) (vnM σ) (nn - 1) qq) (n := d) (Classical.byContradiction fun q => c141 ((useP_le (IM_b hI (by omega)) hnd5 (by omega) (by omega)).mpr q))]) ?_
            refine go_istore X (lv2 := [(4, .int (setS (useP nd (unM σ i) (vnM σ) (nn - 1) qq) (d + 1))), (12, .long (lN (unM σ i d * nd ^ (nn - 1) + hpN nd (unM σ i) (vnM σ) (nn - 1) qq))), (11, .int (nI d)), (9, .long (lN (hpN nd (unM σ i) (vnM σ) (nn - 1) (qq - 1)))), (7, .long (lN (hpN nd (unM σ i) (vnM σ) (nn - 1) qq))), (5, .long (lN (nd ^ (nn - 1)))), (0, .ref (ad (38))), (1, .int (nI i)), (2, .int (nI nn)), (3, .int (nI qq))]) dX7_uses_153 (by decide) rfl ?_
            refine go_iinc X (v := nI (d + 1)) (lv2 := [(11, .int (nI (d + 1))), (4, .int (setS (useP nd (unM σ i) (vnM σ) (nn - 1) qq) (d + 1))), (12, .long (lN (unM σ i d * nd ^ (nn - 1) + hpN nd (unM σ i) (vnM σ) (nn - 1) qq))), (9, .long (lN (hpN nd (unM σ i) (vnM σ) (nn - 1) (qq - 1)))), (7, .long (lN (hpN nd (unM σ i) (vnM σ) (nn - 1) qq))), (5, .long (lN (nd ^ (nn - 1)))), (0, .ref (ad (38))), (1, .int (nI i)), (2, .int (nI nn)), (3, .int (nI qq))]) dX7_uses_155 (k := 2) rfl (nI_add d 1) (by decide) rfl ?_
            refine go_goto X (tgt := 88) dX7_uses_158 (by decide) ?_
            refine go_lvsub [0, 3, 4, 5, 1, 6, 7, 8, 9] rfl ?_
            exact ih88 (d + 1) (by (try dsimp only); exact (by omega)) (by (try dsimp only); omega)
      · skip
        refine go_bipush X (v := (-2)) dX7_uses_34 (by decide) ?_
        exact go_ireturn X hr hlk dX7_uses_36 (⟨usesS_2 (Classical.not_not.mp c5) (fun q => c31 q.2), rfl⟩)
  · skip
    refine go_iconst X (v := (-1)) dX7_uses_8 (by decide) ?_
    exact go_ireturn X hr hlk dX7_uses_9 ((have hE : usesS (nI ns) nd (unM σ) (vnM σ) a n pp = (-1) := (by unfold usesS; (try dsimp only); exact (cif_f c5).trans (rfl)); ⟨hE, rfl⟩))

theorem hdX7_buyersAt : yX7_buyersAt.cls = RX7 ∧ yX7_buyersAt.cls ≠ "java/lang/invoke/MethodHandle" ∧ yX7_buyersAt.cls ≠ "java/lang/invoke/VarHandle" ∧ (parseMethodDescriptor yX7_buyersAt.desc).map (fun d => d.parameters.length) = some 2 := by decide +kernel
set_option maxHeartbeats 4000000 in
set_option maxRecDepth 100000 in
theorem kX7_buyersAt (l : Launch) (D : va_G) (cs : Nat → ClassId) (ad : Nat → Nat) (N kt : Nat) (hN : 58 ≤ N) (σ : vSg) (τ : vTa) (price : Int32) (n : Nat) (nd : Nat) (ns : Nat) (nr : Nat)   (hI : IM σ nd ns nr) (hn : n < 9) : CtI l yX7_buyersAt wsX7_buyersAt ({ frames := 4, cells := 0, slots := 0, locals := 102 }) D cs ad N (shP kt) [.ref (ad (38)), .int price, .int (nI n)] σ τ 0 0 (fun r9 σ9 τ9 => buyS ns nd n (unM σ) (vnM σ) price = r9 ∧ σ = σ9) := by
  refine ct_I (cc := cX7_buyersAt) (maxL := 5) (by decide) rfl (Nat.le_of_ble_eq_true rfl) rfl rfl ?_
  intro p e s m args below meth c A X hr hlk
  obtain ⟨⟨hnd, hnd5⟩, ⟨hns, hns4⟩, hdd, hkp, ⟨hnr, hnr8⟩, hrd, hsh, hpos⟩ := id hI
  refine go_iconst X (v := 0) dX7_buyersAt_0 (by decide) ?_
  refine go_istore_n X (lv2 := [(3, .int 0), (0, .ref (ad (38))), (1, .int price), (2, .int (nI n))]) dX7_buyersAt_1 rfl (by decide) rfl ?_
  refine go_iconst X (v := 0) dX7_buyersAt_2 (by decide) ?_
  refine go_istore X (lv2 := [(4, .int 0), (3, .int 0), (0, .ref (ad (38))), (1, .int price), (2, .int (nI n))]) dX7_buyersAt_3 (by decide) rfl ?_
  refine go_loop (ι := Nat × vTa) (fun i9 => (i9.1 ≤ ns)) (fun i9 => ns - i9.1) (fun i9 => σ) (fun i9 => i9.2) (fun i9 => [(4, .int (nI i9.1)), (3, .int (setS (buyP nd n (unM σ) (vnM σ) price) i9.1)), (0, .ref (ad (38))), (1, .int price), (2, .int (nI n))]) (fun i9 => []) (0, τ) (by (try dsimp only); exact (Nat.zero_le _)) ?_
  intro i9 hi9 ih5
  obtain ⟨a, ω⟩ := i9
  (try dsimp only at hi9); (try dsimp only at ih5); (try dsimp only)
  have ha := hi9
  refine go_iload X dX7_buyersAt_5 0 rfl ?_
  refine go_aload_n X dX7_buyersAt_7 2 rfl rfl ?_
  refine go_geti X (n := 38) (j := 5) (by omega) rfl rfl (fun _ h9 => List.mem_cons_of_mem _ (List.mem_append_right _ h9)) (by decide) (List.mem_cons_of_mem _ (List.mem_append_left _ (List.mem_append_left _ (List.mem_of_getElem? (i := 0) rfl)))) rfl dX7_buyersAt_8 ?_
  refine go_topi (v := nI ns) (hns) ?_
  refine go_icmpn_ge X (tgt := 69) dX7_buyersAt_11 (by decide) (a := a) (b := ns) rfl rfl (by omega) (by omega) (fun c11 => ?_) (fun c11 => ?_)
  · skip
    refine go_iload_n X dX7_buyersAt_69 1 rfl rfl ?_
    exact go_ireturn X hr hlk dX7_buyersAt_70 (⟨by rw [show a = ns by omega]; rfl, rfl⟩)
  · skip
    refine go_aload_n X dX7_buyersAt_14 2 rfl rfl ?_
    refine go_iload X dX7_buyersAt_15 0 rfl ?_
    refine go_iload_n X dX7_buyersAt_17 4 rfl rfl ?_
    refine go_callVV X (n := 38) (As := [.int (nI a), .int (nI n)]) (rest := []) (kX7_goHope l D cs ad N kt (by omega) σ ω a n nd ns nr (by omega) (by omega) (by omega)) gX7_buyersAt_X7_goHope rfl hdX7_goHope ⟨rfl, rfl, by decide, by decide, by decide, by decide⟩ (by omega) rfl rfl rfl rfl (Nat.le_of_ble_eq_true rfl) dX7_buyersAt_18 (fun σ1z τ1z h1z => ?_)
    obtain ⟨rfl, hτ1z⟩ := h1z
    refine go_iload_n X dX7_buyersAt_21 1 rfl rfl ?_
    refine go_aload_n X dX7_buyersAt_22 2 rfl rfl ?_
    refine go_getr X (n := 38) (j := 20) (by omega) rfl rfl (fun _ h9 => List.mem_cons_of_mem _ (List.mem_append_right _ h9)) (by decide) (List.mem_cons_of_mem _ (List.mem_append_left _ (List.mem_append_left _ (List.mem_of_getElem? (i := 1) rfl)))) rfl dX7_buyersAt_23 ?_
    refine go_iconst X (v := 4) dX7_buyersAt_26 (by decide) ?_
    refine go_iload_n X dX7_buyersAt_27 4 rfl rfl ?_
    refine go_imul X dX7_buyersAt_28 ?_
    refine go_topi (v := nI (4 * n)) (pk_mul 4 n) ?_
    refine go_iconst X (v := 1) dX7_buyersAt_29 (by decide) ?_
    refine go_iadd X dX7_buyersAt_30 ?_
    refine go_topi (v := nI ((4 * n) + 1)) (nI_add (4 * n) 1) ?_
    refine go_lald X (n := 50) (k := (4 * n) + 1) (by omega) rfl rfl (by omega) (by omega) dX7_buyersAt_31 ?_
    refine go_topl (v := lN (hpN nd (unM σ a) (vnM σ) n 1)) (hτ1z.2 n (by omega) 1 (by omega)) ?_
    refine go_aload_n X dX7_buyersAt_32 2 rfl rfl ?_
    refine go_getr X (n := 38) (j := 20) (by omega) rfl rfl (fun _ h9 => List.mem_cons_of_mem _ (List.mem_append_right _ h9)) (by decide) (List.mem_cons_of_mem _ (List.mem_append_left _ (List.mem_append_left _ (List.mem_of_getElem? (i := 1) rfl)))) rfl dX7_buyersAt_33 ?_
    refine go_iconst X (v := 4) dX7_buyersAt_36 (by decide) ?_
    refine go_iload_n X dX7_buyersAt_37 4 rfl rfl ?_
    refine go_imul X dX7_buyersAt_38 ?_
    refine go_topi (v := nI (4 * n)) (pk_mul 4 n) ?_
    refine go_lald X (n := 50) (k := 4 * n) (by omega) rfl rfl (by omega) (by omega) dX7_buyersAt_39 ?_
    refine go_topl (v := lN (hpN nd (unM σ a) (vnM σ) n 0)) (hτ1z.2 n (by omega) 0 (by omega)) ?_
    refine go_lsub X dX7_buyersAt_40 ?_
    refine go_iload_n X dX7_buyersAt_41 3 rfl rfl ?_
    refine go_i2l X (v := price.toInt64) dX7_buyersAt_42 rfl ?_
    refine go_aload_n X dX7_buyersAt_43 2 rfl rfl ?_
    refine go_iload_n X dX7_buyersAt_44 4 rfl rfl ?_
    refine go_callVL X (n := 38) (As := [.int (nI n)]) (rest := [.long price.toInt64, .long ((lN (hpN nd (unM σ a) (vnM σ) n 1)) - (lN (hpN nd (unM σ a) (vnM σ) n 0))), .int (setS (buyP nd n (unM σ) (vnM σ) price) a)]) (kX7_timesOf l D cs ad N kt (by omega) σ τ1z n nd hnd (by omega) (by omega)) gX7_buyersAt_X7_timesOf rfl hdX7_timesOf ⟨rfl, rfl, by decide, by decide, by decide, by decide⟩ (by omega) rfl rfl rfl rfl (Nat.le_of_ble_eq_true rfl) dX7_buyersAt_45 (fun r9 σ9 τ9 h9 => ?_)
    obtain ⟨rfl, rfl, rfl⟩ := h9
    refine go_lmul X dX7_buyersAt_48 ?_
    refine go_lcmp X dX7_buyersAt_49 ?_
    refine go_lcmp_lt X (tgt := 60) dX7_buyersAt_50 (by decide) (fun c50 => ?_) (fun c50 => ?_)
    · skip
      refine go_iconst X (v := 0) dX7_buyersAt_60 (by decide) ?_
      refine go_ior X dX7_buyersAt_61 ?_
      refine go_topi (v := setS (buyP nd n (unM σ) (vnM σ) price) (a + 1)) (by rw [setS_f (P := buyP nd n (unM σ) (vnM σ) price) (n := a) (fun q => q c50), or_0]) ?_
      refine go_istore_n X (lv2 := [(3, .int (setS (buyP nd n (unM σ) (vnM σ) price) (a + 1))), (4, .int (nI a)), (0, .ref (ad (38))), (1, .int price), (2, .int (nI n))]) dX7_buyersAt_62 rfl (by decide) rfl ?_
      refine go_iinc X (v := nI (a + 1)) (lv2 := [(4, .int (nI (a + 1))), (3, .int (setS (buyP nd n (unM σ) (vnM σ) price) (a + 1))), (0, .ref (ad (38))), (1, .int price), (2, .int (nI n))]) dX7_buyersAt_63 (k := 1) rfl (nI_add a 1) (by decide) rfl ?_
      refine go_goto X (tgt := 5) dX7_buyersAt_66 (by decide) ?_
      exact ih5 (a + 1, τ1z) (by (try dsimp only); exact (by omega)) (by (try dsimp only); omega)
    · skip
      refine go_iconst X (v := 1) dX7_buyersAt_53 (by decide) ?_
      refine go_iload X dX7_buyersAt_54 0 rfl ?_
      refine go_ishl X dX7_buyersAt_56 ?_
      refine go_goto X (tgt := 61) dX7_buyersAt_57 (by decide) ?_
      refine go_ior X dX7_buyersAt_61 ?_
      refine go_topi (v := setS (buyP nd n (unM σ) (vnM σ) price) (a + 1)) (by rw [setS_t (P := buyP nd n (unM σ) (vnM σ) price) (n := a) c50]) ?_
      refine go_istore_n X (lv2 := [(3, .int (setS (buyP nd n (unM σ) (vnM σ) price) (a + 1))), (4, .int (nI a)), (0, .ref (ad (38))), (1, .int price), (2, .int (nI n))]) dX7_buyersAt_62 rfl (by decide) rfl ?_
      refine go_iinc X (v := nI (a + 1)) (lv2 := [(4, .int (nI (a + 1))), (3, .int (setS (buyP nd n (unM σ) (vnM σ) price) (a + 1))), (0, .ref (ad (38))), (1, .int price), (2, .int (nI n))]) dX7_buyersAt_63 (k := 1) rfl (nI_add a 1) (by decide) rfl ?_
      refine go_goto X (tgt := 5) dX7_buyersAt_66 (by decide) ?_
      exact ih5 (a + 1, τ1z) (by (try dsimp only); exact (by omega)) (by (try dsimp only); omega)

theorem hdX7_buyers : yX7_buyers.cls = RX7 ∧ yX7_buyers.cls ≠ "java/lang/invoke/MethodHandle" ∧ yX7_buyers.cls ≠ "java/lang/invoke/VarHandle" ∧ (parseMethodDescriptor yX7_buyers.desc).map (fun d => d.parameters.length) = some 2 := by decide +kernel
set_option maxHeartbeats 4000000 in
set_option maxRecDepth 100000 in
theorem kX7_buyers (l : Launch) (D : va_G) (cs : Nat → ClassId) (ad : Nat → Nat) (N kt : Nat) (hN : 58 ≤ N) (σ : vSg) (τ : vTa) (price : Int32) (n : Int32) (nd : Nat) (ns : Nat) (nr : Nat)   (hI : IM σ nd ns nr) : CtI l yX7_buyers wsX7_buyers ({ frames := 5, cells := 0, slots := 0, locals := 126 }) D cs ad N (shP kt) [.ref (ad (38)), .int price, .int n] σ τ 0 0 (fun r9 σ9 τ9 => buyersS ns nd (unM σ) (vnM σ) price n = r9 ∧ σ = σ9) := by
  refine ct_I (cc := cX7_buyers) (maxL := 3) (by decide) rfl (Nat.le_of_ble_eq_true rfl) rfl rfl ?_
  intro p e s m args below meth c A X hr hlk
  obtain ⟨⟨hnd, hnd5⟩, ⟨hns, hns4⟩, hdd, hkp, ⟨hnr, hnr8⟩, hrd, hsh, hpos⟩ := id hI
  refine go_iload_n X dX7_buyers_0 1 rfl rfl ?_
  refine go_i2l X (v := price.toInt64) dX7_buyers_1 rfl ?_
  refine go_lconst X (v := 0) dX7_buyers_2 (by decide) ?_
  refine go_ldc2 X (v := 99) (List.mem_cons_of_mem _ (List.mem_append_left _ (List.mem_append_left _ (List.mem_of_getElem? (i := 0) rfl)))) dX7_buyers_3 ?_
  refine go_callSI X (As := [.long price.toInt64, .long 0, .long 99]) (rest := []) (kX7_in l D cs ad N kt (by omega) σ τ price.toInt64 0 99) gX7_buyers_X7_in rfl hdX7_in ⟨rfl, rfl, by decide, by decide, by decide, by decide⟩ rfl rfl (Nat.le_of_ble_eq_true rfl) dX7_buyers_6 (fun r9 σ9 τ9 h9 => ?_)
  obtain ⟨rfl, rfl, rfl⟩ := h9
  refine go_topi (v := b2i (isB price 100)) (b2i_c (in_iff rfl rfl)) ?_
  refine go_ifb_eq X (tgt := 24) dX7_buyers_9 (by decide) (fun c9 => ?_) (fun c9 => ?_)
  · skip
    refine go_bipush X (v := (-2)) dX7_buyers_24 (by decide) ?_
    exact go_ireturn X hr hlk dX7_buyers_26 ((have hE : buyersS ns nd (unM σ) (vnM σ) price n = (-2) := (by unfold buyersS; (try dsimp only); exact (cif_f c9).trans (rfl)); ⟨hE, rfl⟩))
  · skip
    refine go_iload_n X dX7_buyers_12 2 rfl rfl ?_
    refine go_i2l X (v := n.toInt64) dX7_buyers_13 rfl ?_
    refine go_lconst X (v := 0) dX7_buyers_14 (by decide) ?_
    refine go_ldc2 X (v := 8) (List.mem_cons_of_mem _ (List.mem_append_left _ (List.mem_append_left _ (List.mem_of_getElem? (i := 1) rfl)))) dX7_buyers_15 ?_
    refine go_callSI X (As := [.long n.toInt64, .long 0, .long 8]) (rest := []) (kX7_in l D cs ad N kt (by omega) σ τ n.toInt64 0 8) gX7_buyers_X7_in rfl hdX7_in ⟨rfl, rfl, by decide, by decide, by decide, by decide⟩ rfl rfl (Nat.le_of_ble_eq_true rfl) dX7_buyers_18 (fun r9 σ9 τ9 h9 => ?_)
    obtain ⟨rfl, rfl, rfl⟩ := h9
    refine go_topi (v := b2i (isB n 9)) (b2i_c (in_iff rfl rfl)) ?_
    refine go_ifb_ne X (tgt := 27) dX7_buyers_21 (by decide) (fun c21 => ?_) (fun c21 => ?_)
    · skip
      obtain ⟨nn, hnn, rfl⟩ := isB_nat (b := 9) c21 (by omega)
      refine go_aload_n X dX7_buyers_27 0 rfl rfl ?_
      refine go_geti X (n := 38) (j := 5) (by omega) rfl rfl (fun _ h9 => List.mem_cons_of_mem _ (List.mem_append_right _ h9)) (by decide) (List.mem_cons_of_mem _ (List.mem_append_left _ (List.mem_append_left _ (List.mem_of_getElem? (i := 2) rfl)))) rfl dX7_buyers_28 ?_
      refine go_topi (v := nI ns) (hns) ?_
      refine go_ifn_ne X (tgt := 39) dX7_buyers_31 (by decide) (a := ns) rfl (by omega) (fun c31 => ?_) (fun c31 => ?_)
      · skip
        refine go_aload_n X dX7_buyers_39 0 rfl rfl ?_
        refine go_iload_n X dX7_buyers_40 1 rfl rfl ?_
        refine go_iload_n X dX7_buyers_41 2 rfl rfl ?_
        refine go_callVI X (n := 38) (As := [.int price, .int (nI nn)]) (rest := []) (kX7_buyersAt l D cs ad N kt (by omega) σ τ price nn nd ns nr (by omega) (by omega)) gX7_buyers_X7_buyersAt rfl hdX7_buyersAt ⟨rfl, rfl, by decide, by decide, by decide, by decide⟩ (by omega) rfl rfl rfl rfl (Nat.le_of_ble_eq_true rfl) dX7_buyers_42 (fun r9 σ9 τ1w h9 => ?_)
        obtain ⟨rfl, rfl⟩ := h9
        exact go_ireturn X hr hlk dX7_buyers_45 ((have hE : buyersS ns nd (unM σ) (vnM σ) price (nI nn) = buyS ns nd nn (unM σ) (vnM σ) price := (by unfold buyersS; (try dsimp only); (try rw [toN_nI (k := nn) (by omega)]); exact (cif_t c9).trans ((cif_t c21).trans ((cif_t (nI_posN (Nat.pos_of_ne_zero c31) (by omega))).trans (rfl)))); ⟨hE, rfl⟩))
      · skip
        refine go_bipush X (v := (-3)) dX7_buyers_34 (by decide) ?_
        refine go_goto X (tgt := 45) dX7_buyers_36 (by decide) ?_
        exact go_ireturn X hr hlk dX7_buyers_45 ((have hE : buyersS ns nd (unM σ) (vnM σ) price (nI nn) = (-3) := (by unfold buyersS; (try dsimp only); (try rw [toN_nI (k := nn) (by omega)]); exact (cif_t c9).trans ((cif_t c21).trans ((cif_f (by rw [c31]; decide)).trans (rfl)))); ⟨hE, rfl⟩))
    · skip
      refine go_bipush X (v := (-2)) dX7_buyers_24 (by decide) ?_
      exact go_ireturn X hr hlk dX7_buyers_26 ((have hE : buyersS ns nd (unM σ) (vnM σ) price n = (-2) := (by unfold buyersS; (try dsimp only); exact (cif_t c9).trans ((cif_f c21).trans (rfl))); ⟨hE, rfl⟩))

theorem hdX7_best : yX7_best.cls = RX7 ∧ yX7_best.cls ≠ "java/lang/invoke/MethodHandle" ∧ yX7_best.cls ≠ "java/lang/invoke/VarHandle" ∧ (parseMethodDescriptor yX7_best.desc).map (fun d => d.parameters.length) = some 1 := by decide +kernel
set_option maxHeartbeats 4000000 in
set_option maxRecDepth 100000 in
theorem kX7_best (l : Launch) (D : va_G) (cs : Nat → ClassId) (ad : Nat → Nat) (N kt : Nat) (hN : 58 ≤ N) (σ : vSg) (τ : vTa) (n : Int32) (nd : Nat) (ns : Nat) (nr : Nat)   (hI : IM σ nd ns nr) : CtI l yX7_best wsX7_best ({ frames := 5, cells := 0, slots := 0, locals := 126 }) D cs ad N (shP kt) [.ref (ad (38)), .int n] σ τ 0 0 (fun r9 σ9 τ9 => bestOS ns nd (unM σ) (vnM σ) n = r9 ∧ σ = σ9) := by
  refine ct_I (cc := cX7_best) (maxL := 6) (by decide) rfl (Nat.le_of_ble_eq_true rfl) rfl rfl ?_
  intro p e s m args below meth c A X hr hlk
  obtain ⟨⟨hnd, hnd5⟩, ⟨hns, hns4⟩, hdd, hkp, ⟨hnr, hnr8⟩, hrd, hsh, hpos⟩ := id hI
  refine go_iload_n X dX7_best_0 1 rfl rfl ?_
  refine go_i2l X (v := n.toInt64) dX7_best_1 rfl ?_
  refine go_lconst X (v := 0) dX7_best_2 (by decide) ?_
  refine go_ldc2 X (v := 8) (List.mem_cons_of_mem _ (List.mem_append_left _ (List.mem_append_left _ (List.mem_of_getElem? (i := 0) rfl)))) dX7_best_3 ?_
  refine go_callSI X (As := [.long n.toInt64, .long 0, .long 8]) (rest := []) (kX7_in l D cs ad N kt (by omega) σ τ n.toInt64 0 8) gX7_best_X7_in rfl hdX7_in ⟨rfl, rfl, by decide, by decide, by decide, by decide⟩ rfl rfl (Nat.le_of_ble_eq_true rfl) dX7_best_6 (fun r9 σ9 τ9 h9 => ?_)
  obtain ⟨rfl, rfl, rfl⟩ := h9
  refine go_topi (v := b2i (isB n 9)) (b2i_c (in_iff rfl rfl)) ?_
  refine go_ifb_ne X (tgt := 15) dX7_best_9 (by decide) (fun c9 => ?_) (fun c9 => ?_)
  · skip
    obtain ⟨nn, hnn, rfl⟩ := isB_nat (b := 9) c9 (by omega)
    refine go_aload_n X dX7_best_15 0 rfl rfl ?_
    refine go_geti X (n := 38) (j := 5) (by omega) rfl rfl (fun _ h9 => List.mem_cons_of_mem _ (List.mem_append_right _ h9)) (by decide) (List.mem_cons_of_mem _ (List.mem_append_left _ (List.mem_append_left _ (List.mem_of_getElem? (i := 1) rfl)))) rfl dX7_best_16 ?_
    refine go_topi (v := nI ns) (hns) ?_
    refine go_ifn_ne X (tgt := 25) dX7_best_19 (by decide) (a := ns) rfl (by omega) (fun c19 => ?_) (fun c19 => ?_)
    · skip
      refine go_bipush X (v := (-9)) dX7_best_25 (by decide) ?_
      refine go_istore_n X (lv2 := [(2, .int (-9)), (0, .ref (ad (38))), (1, .int (nI nn))]) dX7_best_27 rfl (by decide) rfl ?_
      refine go_iconst X (v := 0) dX7_best_28 (by decide) ?_
      refine go_istore_n X (lv2 := [(3, .int 0), (2, .int (-9)), (0, .ref (ad (38))), (1, .int (nI nn))]) dX7_best_29 rfl (by decide) rfl ?_
      refine go_iconst X (v := 1) dX7_best_30 (by decide) ?_
      refine go_istore X (lv2 := [(4, .int 1), (3, .int 0), (2, .int (-9)), (0, .ref (ad (38))), (1, .int (nI nn))]) dX7_best_31 (by decide) rfl ?_
      refine go_loop (ι := Nat × vTa) (fun i9 => (i9.1 ≤ 99)) (fun i9 => 100 - i9.1) (fun i9 => σ) (fun i9 => i9.2) (fun i9 => [(4, .int (nI (i9.1 + 1))), (3, .int ((bstS (ctS ns nd nn (unM σ) (vnM σ)) i9.1).2)), (2, .int ((bstS (ctS ns nd nn (unM σ) (vnM σ)) i9.1).1)), (0, .ref (ad (38))), (1, .int (nI nn))]) (fun i9 => []) (0, τ) (by (try dsimp only); exact (Nat.zero_le _)) ?_
      intro i9 hi9 ih33
      obtain ⟨q, ω⟩ := i9
      (try dsimp only at hi9); (try dsimp only at ih33); (try dsimp only)
      have hq := hi9
      refine go_iload X dX7_best_33 0 rfl ?_
      refine go_bipush X (v := 100) dX7_best_35 (by decide) ?_
      refine go_icmpn_ge X (tgt := 87) dX7_best_37 (by decide) (a := q + 1) (b := 100) rfl rfl (by omega) (by omega) (fun c37 => ?_) (fun c37 => ?_)
      · skip
        refine go_iload_n X dX7_best_87 2 rfl rfl ?_
        exact go_ireturn X hr hlk dX7_best_88 ((have hE : bestOS ns nd (unM σ) (vnM σ) (nI nn) = (bstS (ctS ns nd nn (unM σ) (vnM σ)) q).1 := (by unfold bestOS; (try dsimp only); (try rw [toN_nI (k := nn) (by omega)]); exact (cif_t c9).trans ((cif_t (nI_posN (Nat.pos_of_ne_zero c19) (by omega))).trans ((by rw [show q = 99 by omega])))); ⟨hE, rfl⟩))
      · skip
        refine go_iload X dX7_best_40 0 rfl ?_
        refine go_aload_n X dX7_best_42 3 rfl rfl ?_
        refine go_iload X dX7_best_43 0 rfl ?_
        refine go_iload_n X dX7_best_45 4 rfl rfl ?_
        refine go_callVI X (n := 38) (As := [.int (nI (q + 1)), .int (nI nn)]) (rest := [.int (nI (q + 1))]) (kX7_buyersAt l D cs ad N kt (by omega) σ ω (nI (q + 1)) nn nd ns nr (by omega) (by omega)) gX7_best_X7_buyersAt rfl hdX7_buyersAt ⟨rfl, rfl, by decide, by decide, by decide, by decide⟩ (by omega) rfl rfl rfl rfl (Nat.le_of_ble_eq_true rfl) dX7_best_46 (fun r9 σ9 τ1w h9 => ?_)
        obtain ⟨rfl, rfl⟩ := h9
        have h16 := setS_16 (P := buyP nd nn (unM σ) (vnM σ) (nI (q + 1))) hns4
        refine go_topi (v := nI (toN (buyS ns nd nn (unM σ) (vnM σ) (nI (q + 1))))) h16.1 ?_
        refine go_callSI X (As := [.int (nI (toN (buyS ns nd nn (unM σ) (vnM σ) (nI (q + 1)))))]) (rest := [.int (nI (q + 1))]) (kX7_bits l D cs ad N kt (by omega) σ τ1w (toN (buyS ns nd nn (unM σ) (vnM σ) (nI (q + 1)))) h16.2) gX7_best_X7_bits rfl hdX7_bits ⟨rfl, rfl, by decide, by decide, by decide, by decide⟩ rfl rfl (Nat.le_of_ble_eq_true rfl) dX7_best_49 (fun r9 σ9 τ9 h9 => ?_)
        obtain ⟨rfl, rfl, rfl⟩ := h9
        refine go_imul X dX7_best_52 ?_
        refine go_topi (v := nI ((q + 1) * (popN (toN (buyS ns nd nn (unM σ) (vnM σ) (nI (q + 1))))))) (pk_mul (q + 1) (popN (toN (buyS ns nd nn (unM σ) (vnM σ) (nI (q + 1)))))) ?_
        refine go_topi (v := nI ((q + 1) * (ctS ns nd nn (unM σ) (vnM σ)) (q + 1))) rfl ?_
        refine go_istore X (lv2 := [(5, .int (nI ((q + 1) * (ctS ns nd nn (unM σ) (vnM σ)) (q + 1)))), (4, .int (nI (q + 1))), (3, .int ((bstS (ctS ns nd nn (unM σ) (vnM σ)) q).2)), (2, .int ((bstS (ctS ns nd nn (unM σ) (vnM σ)) q).1)), (0, .ref (ad (38))), (1, .int (nI nn))]) dX7_best_53 (by decide) rfl ?_
        refine go_iload X dX7_best_55 0 rfl ?_
        refine go_iload_n X dX7_best_57 2 rfl rfl ?_
        refine go_icmp_le X (tgt := 66) dX7_best_58 (by decide) (fun c58 => ?_) (fun c58 => ?_)
        · skip
          refine go_iload_n X dX7_best_66 3 rfl rfl ?_
          refine go_istore_n X (lv2 := [(2, .int ((bstS (ctS ns nd nn (unM σ) (vnM σ)) q).1)), (5, .int (nI ((q + 1) * (ctS ns nd nn (unM σ) (vnM σ)) (q + 1)))), (4, .int (nI (q + 1))), (3, .int ((bstS (ctS ns nd nn (unM σ) (vnM σ)) q).2)), (0, .ref (ad (38))), (1, .int (nI nn))]) dX7_best_67 rfl (by decide) rfl ?_
          refine go_iload X dX7_best_68 1 rfl ?_
          refine go_iload_n X dX7_best_70 3 rfl rfl ?_
          refine go_icmp_le X (tgt := 79) dX7_best_71 (by decide) (fun c71 => ?_) (fun h9 => absurd c58 h9)
          refine go_iload_n X dX7_best_79 3 rfl rfl ?_
          refine go_istore_n X (lv2 := [(3, .int ((bstS (ctS ns nd nn (unM σ) (vnM σ)) q).2)), (2, .int ((bstS (ctS ns nd nn (unM σ) (vnM σ)) q).1)), (5, .int (nI ((q + 1) * (ctS ns nd nn (unM σ) (vnM σ)) (q + 1)))), (4, .int (nI (q + 1))), (0, .ref (ad (38))), (1, .int (nI nn))]) dX7_best_80 rfl (by decide) rfl ?_
          refine go_lv (lv2 := [(3, .int ((bstS (ctS ns nd nn (unM σ) (vnM σ)) (q + 1)).2)), (2, .int ((bstS (ctS ns nd nn (unM σ) (vnM σ)) (q + 1)).1)), (5, .int (nI ((q + 1) * (ctS ns nd nn (unM σ) (vnM σ)) (q + 1)))), (4, .int (nI (q + 1))), (0, .ref (ad (38))), (1, .int (nI nn))]) (by rw [bstS_t (ct := (ctS ns nd nn (unM σ) (vnM σ))) (q := q) c58]) ?_
          refine go_iinc X (v := nI (q + 1 + 1)) (lv2 := [(4, .int (nI (q + 1 + 1))), (3, .int ((bstS (ctS ns nd nn (unM σ) (vnM σ)) (q + 1)).2)), (2, .int ((bstS (ctS ns nd nn (unM σ) (vnM σ)) (q + 1)).1)), (5, .int (nI ((q + 1) * (ctS ns nd nn (unM σ) (vnM σ)) (q + 1)))), (0, .ref (ad (38))), (1, .int (nI nn))]) dX7_best_81 (k := 3) rfl (nI_add (q + 1) 1) (by decide) rfl ?_
          refine go_goto X (tgt := 33) dX7_best_84 (by decide) ?_
          refine go_lvsub [0, 1, 2, 4, 5] rfl ?_
          exact ih33 (q + 1, τ1w) (by (try dsimp only); exact (by omega)) (by (try dsimp only); omega)
        · skip
          refine go_iload X dX7_best_61 1 rfl ?_
          refine go_goto X (tgt := 67) dX7_best_63 (by decide) ?_
          refine go_istore_n X (lv2 := [(2, .int (nI (q + 1))), (5, .int (nI ((q + 1) * (ctS ns nd nn (unM σ) (vnM σ)) (q + 1)))), (4, .int (nI (q + 1))), (3, .int ((bstS (ctS ns nd nn (unM σ) (vnM σ)) q).2)), (0, .ref (ad (38))), (1, .int (nI nn))]) dX7_best_67 rfl (by decide) rfl ?_
          refine go_iload X dX7_best_68 1 rfl ?_
          refine go_iload_n X dX7_best_70 3 rfl rfl ?_
          refine go_icmp_le X (tgt := 79) dX7_best_71 (by decide) (fun h9 => absurd h9 c58) (fun c71 => ?_)
          refine go_iload X dX7_best_74 1 rfl ?_
          refine go_goto X (tgt := 80) dX7_best_76 (by decide) ?_
          refine go_istore_n X (lv2 := [(3, .int (nI ((q + 1) * (ctS ns nd nn (unM σ) (vnM σ)) (q + 1)))), (2, .int (nI (q + 1))), (5, .int (nI ((q + 1) * (ctS ns nd nn (unM σ) (vnM σ)) (q + 1)))), (4, .int (nI (q + 1))), (0, .ref (ad (38))), (1, .int (nI nn))]) dX7_best_80 rfl (by decide) rfl ?_
          refine go_lv (lv2 := [(3, .int ((bstS (ctS ns nd nn (unM σ) (vnM σ)) (q + 1)).2)), (2, .int ((bstS (ctS ns nd nn (unM σ) (vnM σ)) (q + 1)).1)), (5, .int (nI ((q + 1) * (ctS ns nd nn (unM σ) (vnM σ)) (q + 1)))), (4, .int (nI (q + 1))), (0, .ref (ad (38))), (1, .int (nI nn))]) (by rw [bstS_f (ct := (ctS ns nd nn (unM σ) (vnM σ))) (q := q) c58]) ?_
          refine go_iinc X (v := nI (q + 1 + 1)) (lv2 := [(4, .int (nI (q + 1 + 1))), (3, .int ((bstS (ctS ns nd nn (unM σ) (vnM σ)) (q + 1)).2)), (2, .int ((bstS (ctS ns nd nn (unM σ) (vnM σ)) (q + 1)).1)), (5, .int (nI ((q + 1) * (ctS ns nd nn (unM σ) (vnM σ)) (q + 1)))), (0, .ref (ad (38))), (1, .int (nI nn))]) dX7_best_81 (k := 3) rfl (nI_add (q + 1) 1) (by decide) rfl ?_
          refine go_goto X (tgt := 33) dX7_best_84 (by decide) ?_
          refine go_lvsub [0, 1, 2, 4, 5] rfl ?_
          exact ih33 (q + 1, τ1w) (by (try dsimp only); exact (by omega)) (by (try dsimp only); omega)
    · skip
      refine go_bipush X (v := (-3)) dX7_best_22 (by decide) ?_
      exact go_ireturn X hr hlk dX7_best_24 ((have hE : bestOS ns nd (unM σ) (vnM σ) (nI nn) = (-3) := (by unfold bestOS; (try dsimp only); (try rw [toN_nI (k := nn) (by omega)]); exact (cif_t c9).trans ((cif_f (by rw [c19]; decide)).trans (rfl))); ⟨hE, rfl⟩))
  · skip
    refine go_bipush X (v := (-2)) dX7_best_12 (by decide) ?_
    exact go_ireturn X hr hlk dX7_best_14 ((have hE : bestOS ns nd (unM σ) (vnM σ) n = (-2) := (by unfold bestOS; (try dsimp only); exact (cif_f c9).trans (rfl)); ⟨hE, rfl⟩))

