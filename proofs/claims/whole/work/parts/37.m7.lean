section PT
variable {c : Nat → Int32} {n d a : Nat} {P : Int32 × Nat × Nat}
theorem pk_A0 (hp : P = pDeed c n (5 - d) d) (h0 : d = 0) (hA : ¬ c (1 + 4 * d) = 47) : P.1 = nI (1 + 4 * d) := by
  rw [hp, pDeed_1 (by omega), cif_f hA]
  unfold pAft
  rw [cif_t h0, h0]
theorem pk_A5 (hp : P = pDeed c n (5 - d) d) (h5 : d = 5) (h47 : c (1 + 4 * d) = 47) : P.1 = nI (1 + 4 * d) := by
  subst h5
  rw [hp]
  show (pAft c n 5).1 = _
  unfold pAft
  rw [cif_f (by omega)]
  show (pSub c n 5 4 0).1 = _
  rw [pSub_1 (by omega), cif_f (by rw [show 1 + 4 * 5 + 3 * 0 = 1 + 4 * 5 from rfl, h47]; decide)]
  unfold pEnd
  rw [cif_f (by omega)]
theorem pk_B (hp : P = pDeed c n (5 - d) d) (hd : d ≤ 5) (h : ¬ d = 5 ∧ c (1 + 4 * d) = 47) (g1 : ¬ dg (c (1 + 4 * d + 1)) 57) : P.1 = nI (1 + 4 * d + 1) := by
  rw [hp, pDeed_1 (by omega), cif_t h.2, cif_f g1]
theorem pk_C (hp : P = pDeed c n (5 - d) d) (hd : d ≤ 5) (h : ¬ d = 5 ∧ c (1 + 4 * d) = 47) (g1 : dg (c (1 + 4 * d + 1)) 57) (g2 : ¬ dg (c (1 + 4 * d + 1 + 1)) 57) : P.1 = nI (1 + 4 * d + 1 + 1) := by
  rw [hp, pDeed_1 (by omega), cif_t h.2, cif_t g1, cif_f g2]
theorem pk_D (hp : P = pDeed c n (5 - d) d) (hd : d ≤ 5) (h : ¬ d = 5 ∧ c (1 + 4 * d) = 47) (g1 : dg (c (1 + 4 * d + 1)) 57) (g2 : dg (c (1 + 4 * d + 1 + 1)) 57) (g3 : ¬ dg (c (1 + 4 * d + 1 + 1 + 1)) 57) : P.1 = nI (1 + 4 * d + 1 + 1 + 1) := by
  rw [hp, pDeed_1 (by omega), cif_t h.2, cif_t g1, cif_t g2, cif_f g3]
theorem pk_E (hp : P = pDeed c n (5 - d) d) (hd : d ≤ 5) (h : ¬ d = 5 ∧ c (1 + 4 * d) = 47) (g1 : dg (c (1 + 4 * d + 1)) 57) (g2 : dg (c (1 + 4 * d + 1 + 1)) 57) (g3 : dg (c (1 + 4 * d + 1 + 1 + 1)) 57) : P = pDeed c n (5 - (d + 1)) (d + 1) := by
  rw [hp, pDeed_1 (by omega), cif_t h.2, cif_t g1, cif_t g2, cif_t g3, show 5 - d - 1 = 5 - (d + 1) by omega]
theorem pk_X (hp : P = pDeed c n (5 - d) d) (hd : d ≤ 5) (h0 : ¬ d = 0) (h47 : ¬ c (1 + 4 * d) = 47) : P = ((pSub c n d 4 0).1, d, (pSub c n d 4 0).2) := by
  have e : P = pAft c n d := by
    by_cases h5 : d = 5
    · rw [hp, h5]; rfl
    · rw [hp, pDeed_1 (by omega), cif_f h47]
  rw [e]
  exact cif_f h0
theorem ps_e (hq : pSub c n d 4 0 = pSub c n d (4 - a) a) (ha : a ≤ 4) (hA : a = 4 ∨ ¬ c (1 + 4 * d + 3 * a) = 59) : pSub c n d 4 0 = pEnd n d a := by
  by_cases h4 : a = 4
  · rw [hq, h4]; rfl
  · rw [hq, pSub_1 (by omega), cif_f (hA.resolve_left h4)]
theorem ps_A (hq : pSub c n d 4 0 = pSub c n d (4 - a) a) (ha : a ≤ 4) (hA : a = 4 ∨ ¬ c (1 + 4 * d + 3 * a) = 59) (he : a = 0 ∨ 1 + 4 * d + 3 * a < n) : (pSub c n d 4 0).1 = nI (1 + 4 * d + 3 * a) := by
  rw [ps_e hq ha hA]
  unfold pEnd
  by_cases h0 : 0 < a
  · rw [cif_t h0, cif_f (by omega)]
  · rw [cif_f h0]
theorem ps_T (hq : pSub c n d 4 0 = pSub c n d (4 - a) a) (ha : a ≤ 4) (h0 : ¬ a = 0) (hn : 1 + 4 * d + 3 * a = n) (hc : ¬ c n = 59) : pSub c n d 4 0 = (-1, a) := by
  rw [ps_e hq ha (Or.inr (by rw [hn]; exact hc))]
  unfold pEnd
  rw [cif_t (by omega), cif_t hn]
theorem ps_B (hq : pSub c n d 4 0 = pSub c n d (4 - a) a) (ha : a ≤ 4) (h : ¬ a = 4 ∧ c (1 + 4 * d + 3 * a) = 59) (g1 : kndS (c (1 + 4 * d + 3 * a + 1)) = -9) : (pSub c n d 4 0).1 = nI (1 + 4 * d + 3 * a + 1) := by
  rw [hq, pSub_1 (by omega), cif_t h.2, cif_t g1]
theorem ps_C (hq : pSub c n d 4 0 = pSub c n d (4 - a) a) (ha : a ≤ 4) (h : ¬ a = 4 ∧ c (1 + 4 * d + 3 * a) = 59) (g1 : ¬ kndS (c (1 + 4 * d + 3 * a + 1)) = -9) (g2 : ¬ dg (c (1 + 4 * d + 3 * a + 1 + 1)) 51) : (pSub c n d 4 0).1 = nI (1 + 4 * d + 3 * a + 1 + 1) := by
  rw [hq, pSub_1 (by omega), cif_t h.2, cif_f g1, cif_f g2]
theorem ps_D (hq : pSub c n d 4 0 = pSub c n d (4 - a) a) (ha : a ≤ 4) (h : ¬ a = 4 ∧ c (1 + 4 * d + 3 * a) = 59) (g1 : ¬ kndS (c (1 + 4 * d + 3 * a + 1)) = -9) (g2 : dg (c (1 + 4 * d + 3 * a + 1 + 1)) 51) : pSub c n d 4 0 = pSub c n d (4 - (a + 1)) (a + 1) := by
  rw [hq, pSub_1 (by omega), cif_t h.2, cif_f g1, cif_t g2, show 4 - a - 1 = 4 - (a + 1) by omega]
end PT
def offK (σ ρ : vSg) : Prop := (∀ q, q ≠ 38 → q < 44 ∨ 48 < q → ρ q = σ q) ∧ ∀ j, j < 8 ∨ 10 < j → ρ 38 j = σ 38 j
theorem offK_1 {σ ρ : vSg} {j : Nat} {v : Int32} (h : offK σ ρ) (h1 : 8 ≤ j) (h2 : j ≤ 10) : offK σ (up2 ρ 38 j v) := ⟨fun q hq h9 => by rw [up2_row hq]; exact h.1 q hq h9, fun i hi => by rw [up2_ne (by omega)]; exact h.2 i hi⟩
theorem offK_2 {σ ρ : vSg} {m j : Nat} {v : Int32} (h : offK σ ρ) (h1 : 44 ≤ m) (h2 : m ≤ 48) : offK σ (up2 ρ m j v) := ⟨fun q hq h9 => by rw [up2_row (by omega)]; exact h.1 q hq h9, fun i hi => by rw [up2_ne (by omega)]; exact h.2 i hi⟩
theorem offK_0 {σ : vSg} : offK σ σ := ⟨fun _ _ _ => rfl, fun _ _ => rfl⟩
def arrD (ρ : vSg) (c : Nat → Int32) (d : Nat) : Prop := ∀ e, e < d → ρ 44 e = c (4 * e + 2) - 48 ∧ ρ 45 e = c (4 * e + 3) - 48 ∧ ρ 46 e = c (4 * e + 4) - 48
def arrA (ρ : vSg) (c : Nat → Int32) (nd a : Nat) : Prop := ∀ e, e < a → ρ 47 e = kndS (c (4 * nd + 3 * e + 2)) ∧ ρ 48 e = c (4 * nd + 3 * e + 3) - 48
theorem arrD_off {ρ ϕ : vSg} {c : Nat → Int32} {d : Nat} (h : arrD ρ c d) (h1 : ϕ 44 = ρ 44) (h2 : ϕ 45 = ρ 45) (h3 : ϕ 46 = ρ 46) : arrD ϕ c d := fun e he => by rw [h1, h2, h3]; exact h e he
theorem arrA_off {ρ ϕ : vSg} {c : Nat → Int32} {nd a : Nat} (h : arrA ρ c nd a) (h1 : ϕ 47 = ρ 47) (h2 : ϕ 48 = ρ 48) : arrA ϕ c nd a := fun e he => by rw [h1, h2]; exact h e he
/-- behind readsKingdom -/
def rkP (σ : vSg) (c : Nat → Int32) (P : Int32 × Nat × Nat) (r : Int32) (ρ : vSg) : Prop := offK σ ρ ∧ b2i (P.1 = -1) = r ∧ (¬ P.1 = -1 → ρ 38 8 = P.1) ∧ (P.1 = -1 → P.2.1 ≤ 5 ∧ P.2.2 ≤ 4 ∧ 0 < P.2.1 ∧ 0 < P.2.2 ∧ ρ 38 9 = nI P.2.1 ∧ ρ 38 10 = nI P.2.2 ∧ arrD ρ c P.2.1 ∧ arrA ρ c P.2.1 P.2.2)
theorem rk_no {σ ρ : vSg} {c : Nat → Int32} {P : Int32 × Nat × Nat} {x : Nat} (ho : offK σ ρ) (h : P.1 = nI x) (hx : x < 2 ^ 31) (h8 : ρ 38 8 = nI x) : rkP σ c P 0 ρ := by
  have hne : ¬ P.1 = -1 := by rw [h]; exact nI_nem1 hx
  exact ⟨ho, b2i_f hne, fun _ => by rw [h8, h], fun q => absurd q hne⟩
theorem rk_yes {σ ρ : vSg} {c : Nat → Int32} {P : Int32 × Nat × Nat} {d a : Nat} (ho : offK σ ρ) (h : P = (-1, d, a)) (hd : d ≤ 5) (ha : a ≤ 4) (hd0 : ¬ d = 0) (ha0 : ¬ a = 0) (h9 : ρ 38 9 = nI d) (h10 : ρ 38 10 = nI a) (hD : arrD ρ c d) (hA : arrA ρ c d a) : rkP σ c P 1 ρ := by
  rw [h]
  exact ⟨ho, b2i_t rfl, fun q => absurd rfl q, fun _ => ⟨hd, ha, by show 0 < d; omega, by show 0 < a; omega, h9, h10, hD, hA⟩⟩
theorem hdX7_readsKingdom : yX7_readsKingdom.cls = RX7 ∧ yX7_readsKingdom.cls ≠ "java/lang/invoke/MethodHandle" ∧ yX7_readsKingdom.cls ≠ "java/lang/invoke/VarHandle" ∧ (parseMethodDescriptor yX7_readsKingdom.desc).map (fun d => d.parameters.length) = some 2 := by decide +kernel
set_option maxHeartbeats 4000000 in
set_option maxRecDepth 100000 in
theorem kX7_readsKingdom (l : Launch) (D : va_G) (cs : Nat → ClassId) (ad : Nat → Nat) (N kt : Nat) (hN : 58 ≤ N) (σ : vSg) (τ : vTa) (fr : Nat) (n : Nat) (ce : Nat → Int32)  (hce : σ 56 = ce) (hle : fr + n ≤ 240) : CtI l yX7_readsKingdom wsX7_readsKingdom ({ frames := 3, cells := 0, slots := 0, locals := 76 }) D cs ad N (shP kt) [.ref (ad (38)), .int (nI fr), .int (nI n)] σ τ 0 0 (fun r9 σ9 τ9 => rkP σ (cdS ce fr n) (pText (cdS ce fr n) n) r9 σ9 ∧ τ = τ9) := by
  refine ct_I (cc := cX7_readsKingdom) (maxL := 4) (by decide) rfl (Nat.le_of_ble_eq_true rfl) rfl rfl ?_
  intro p e s m args below meth c A X hr hlk
  refine go_aload_n X dX7_readsKingdom_0 0 rfl rfl ?_
  refine go_iconst X (v := 0) dX7_readsKingdom_1 (by decide) ?_
  refine go_puti X (n := 38) (j := 8) (ty := .int) (by omega) rfl rfl (fun _ h9 => List.mem_cons_of_mem _ (List.mem_append_right _ h9)) (by decide) (List.mem_cons_of_mem _ (List.mem_append_left _ (List.mem_append_left _ (List.mem_of_getElem? (i := 0) rfl)))) rfl tyX7 tyX7_ok nmX7 rfl (by decide +kernel) rfl rfl dX7_readsKingdom_2 ?_
  refine go_aload_n X dX7_readsKingdom_5 0 rfl rfl ?_
  refine go_iconst X (v := 0) dX7_readsKingdom_6 (by decide) ?_
  refine go_puti X (n := 38) (j := 9) (ty := .int) (by omega) rfl rfl (fun _ h9 => List.mem_cons_of_mem _ (List.mem_append_right _ h9)) (by decide) (List.mem_cons_of_mem _ (List.mem_append_left _ (List.mem_append_left _ (List.mem_of_getElem? (i := 1) rfl)))) rfl tyX7 tyX7_ok nmX7 rfl (by decide +kernel) rfl rfl dX7_readsKingdom_7 ?_
  refine go_aload_n X dX7_readsKingdom_10 0 rfl rfl ?_
  refine go_iconst X (v := 0) dX7_readsKingdom_11 (by decide) ?_
  refine go_puti X (n := 38) (j := 10) (ty := .int) (by omega) rfl rfl (fun _ h9 => List.mem_cons_of_mem _ (List.mem_append_right _ h9)) (by decide) (List.mem_cons_of_mem _ (List.mem_append_left _ (List.mem_append_left _ (List.mem_of_getElem? (i := 2) rfl)))) rfl tyX7 tyX7_ok nmX7 rfl (by decide +kernel) rfl rfl dX7_readsKingdom_12 ?_
  refine go_aload_n X dX7_readsKingdom_15 0 rfl rfl ?_
  refine go_iload_n X dX7_readsKingdom_16 1 rfl rfl ?_
  refine go_iload_n X dX7_readsKingdom_17 2 rfl rfl ?_
  refine go_callVI X (n := 38) (As := [.int (nI fr), .int (nI n)]) (rest := []) (kX7_codeAt l D cs ad N kt (by omega) (up2 (up2 (up2 σ 38 8 0) 38 9 0) 38 10 0) τ fr n ce 0 ((up2_row (by omega)).trans ((up2_row (by omega)).trans ((up2_row (by omega)).trans hce))) (by omega) ((up2_ne (by omega)).trans ((up2_ne (by omega)).trans up2_self)) (by omega)) gX7_readsKingdom_X7_codeAt rfl hdX7_codeAt ⟨rfl, rfl, by decide, by decide, by decide, by decide⟩ (by omega) rfl rfl rfl rfl (Nat.le_of_ble_eq_true rfl) dX7_readsKingdom_18 (fun r9 σ9 τ9 h9 => ?_)
  obtain ⟨rfl, rfl, rfl⟩ := h9
  refine go_bipush X (v := 112) dX7_readsKingdom_21 (by decide) ?_
  refine go_icmp_ne X (tgt := 30) dX7_readsKingdom_23 (by decide) (fun c23 => ?_) (fun c23 => ?_)
  · skip
    refine go_iconst X (v := 0) dX7_readsKingdom_30 (by decide) ?_
    refine go_istore_n X (lv2 := [(3, .int 0), (0, .ref (ad (38))), (1, .int (nI fr)), (2, .int (nI n))]) dX7_readsKingdom_31 rfl (by decide) rfl ?_
    refine go_aload_n X dX7_readsKingdom_32 1 rfl rfl ?_
    refine go_dup X dX7_readsKingdom_33 rfl ?_
    refine go_geti X (n := 38) (j := 8) (by omega) rfl rfl (fun _ h9 => List.mem_cons_of_mem _ (List.mem_append_right _ h9)) (by decide) (List.mem_cons_of_mem _ (List.mem_append_left _ (List.mem_append_left _ (List.mem_of_getElem? (i := 0) rfl)))) rfl dX7_readsKingdom_34 ?_
    refine go_topi (v := 0) ((up2_ne (by omega)).trans ((up2_ne (by omega)).trans up2_self)) ?_
    refine go_iload_n X dX7_readsKingdom_37 0 rfl rfl ?_
    refine go_if_eq X (tgt := 45) dX7_readsKingdom_38 (by decide) (fun _ => ?_) (fun h9 => absurd h9 (by decide))
    refine go_iconst X (v := 0) dX7_readsKingdom_45 (by decide) ?_
    refine go_iadd X dX7_readsKingdom_46 ?_
    refine go_topi (v := nI (0 + 0)) (nI_add 0 0) ?_
    refine go_puti X (n := 38) (j := 8) (ty := .int) (by omega) rfl rfl (fun _ h9 => List.mem_cons_of_mem _ (List.mem_append_right _ h9)) (by decide) (List.mem_cons_of_mem _ (List.mem_append_left _ (List.mem_append_left _ (List.mem_of_getElem? (i := 0) rfl)))) rfl tyX7 tyX7_ok nmX7 rfl (by decide +kernel) rfl rfl dX7_readsKingdom_47 ?_
    refine go_iload_n X dX7_readsKingdom_50 0 rfl rfl ?_
    refine go_if_eq X (tgt := 82) dX7_readsKingdom_51 (by decide) (fun _ => ?_) (fun h9 => absurd h9 (by decide))
    refine go_iload_n X dX7_readsKingdom_82 0 rfl rfl ?_
    refine go_if_eq X (tgt := 111) dX7_readsKingdom_83 (by decide) (fun _ => ?_) (fun h9 => absurd h9 (by decide))
    refine go_iload_n X dX7_readsKingdom_111 0 rfl rfl ?_
    exact go_zreturn X hr hlk dX7_readsKingdom_112 (by first | exact Or.inl rfl | exact Or.inr rfl) (⟨rk_no (offK_1 (offK_1 (offK_1 (offK_1 offK_0 (by omega) (by omega)) (by omega) (by omega)) (by omega) (by omega)) (by omega) (by omega)) (x := 0) (by rw [show pText (cdS ce fr n) n = (0, 0, 0) from cif_f c23]; rfl) (by omega) up2_self, rfl⟩)
  · skip
    refine go_iconst X (v := 1) dX7_readsKingdom_26 (by decide) ?_
    refine go_goto X (tgt := 31) dX7_readsKingdom_27 (by decide) ?_
    refine go_istore_n X (lv2 := [(3, .int 1), (0, .ref (ad (38))), (1, .int (nI fr)), (2, .int (nI n))]) dX7_readsKingdom_31 rfl (by decide) rfl ?_
    refine go_aload_n X dX7_readsKingdom_32 1 rfl rfl ?_
    refine go_dup X dX7_readsKingdom_33 rfl ?_
    refine go_geti X (n := 38) (j := 8) (by omega) rfl rfl (fun _ h9 => List.mem_cons_of_mem _ (List.mem_append_right _ h9)) (by decide) (List.mem_cons_of_mem _ (List.mem_append_left _ (List.mem_append_left _ (List.mem_of_getElem? (i := 0) rfl)))) rfl dX7_readsKingdom_34 ?_
    refine go_topi (v := 0) ((up2_ne (by omega)).trans ((up2_ne (by omega)).trans up2_self)) ?_
    refine go_iload_n X dX7_readsKingdom_37 0 rfl rfl ?_
    refine go_if_eq X (tgt := 45) dX7_readsKingdom_38 (by decide) (fun h9 => absurd h9 (by decide)) (fun _ => ?_)
    refine go_iconst X (v := 1) dX7_readsKingdom_41 (by decide) ?_
    refine go_goto X (tgt := 46) dX7_readsKingdom_42 (by decide) ?_
    refine go_iadd X dX7_readsKingdom_46 ?_
    refine go_topi (v := nI (0 + 1)) (nI_add 0 1) ?_
    refine go_puti X (n := 38) (j := 8) (ty := .int) (by omega) rfl rfl (fun _ h9 => List.mem_cons_of_mem _ (List.mem_append_right _ h9)) (by decide) (List.mem_cons_of_mem _ (List.mem_append_left _ (List.mem_append_left _ (List.mem_of_getElem? (i := 0) rfl)))) rfl tyX7 tyX7_ok nmX7 rfl (by decide +kernel) rfl rfl dX7_readsKingdom_47 ?_
    refine go_loop (ι := Nat × vSg) (fun i9 => (i9.1 ≤ 5) ∧ (offK σ i9.2) ∧ (i9.2 38 8 = nI (1 + 4 * i9.1)) ∧ (i9.2 38 9 = nI i9.1) ∧ (i9.2 38 10 = nI 0) ∧ (pText (cdS ce fr n) n = pDeed (cdS ce fr n) n (5 - i9.1) i9.1) ∧ (arrD i9.2 (cdS ce fr n) i9.1)) (fun i9 => 5 - i9.1) (fun i9 => i9.2) (fun i9 => τ) (fun i9 => [(3, .int 1), (0, .ref (ad (38))), (1, .int (nI fr)), (2, .int (nI n))]) (fun i9 => []) (0, (up2 (up2 (up2 (up2 σ 38 8 0) 38 9 0) 38 10 0) 38 8 (nI (0 + 1)))) (by (try dsimp only); exact ⟨by omega, offK_1 (offK_1 (offK_1 (offK_1 offK_0 (by omega) (by omega)) (by omega) (by omega)) (by omega) (by omega)) (by omega) (by omega), up2_self, by rw [up2_ne (by omega), up2_ne (by omega), up2_self]; rfl, by rw [up2_ne (by omega), up2_self]; rfl, cif_t c23, fun _ h => absurd h (Nat.not_lt_zero _)⟩) ?_
    intro i9 hi9 ih50
    obtain ⟨d, ρ⟩ := i9
    (try dsimp only at hi9); (try dsimp only at ih50); (try dsimp only)
    obtain ⟨hd5, hof, h8, h9, h10, hp, hD⟩ := hi9
    refine go_iload_n X dX7_readsKingdom_50 0 rfl rfl ?_
    refine go_if_eq X (tgt := 82) dX7_readsKingdom_51 (by decide) (fun h9 => absurd h9 (by decide)) (fun _ => ?_)
    refine go_aload_n X dX7_readsKingdom_54 1 rfl rfl ?_
    refine go_geti X (n := 38) (j := 9) (by omega) rfl rfl (fun _ h9 => List.mem_cons_of_mem _ (List.mem_append_right _ h9)) (by decide) (List.mem_cons_of_mem _ (List.mem_append_left _ (List.mem_append_left _ (List.mem_of_getElem? (i := 1) rfl)))) rfl dX7_readsKingdom_55 ?_
    refine go_topi (v := nI d) (h9) ?_
    refine go_ifn_eq X (tgt := 72) dX7_readsKingdom_58 (by decide) (a := d) rfl (by omega) (fun c58 => ?_) (fun c58 => ?_)
    · skip
      refine go_aload_n X dX7_readsKingdom_72 1 rfl rfl ?_
      refine go_iload_n X dX7_readsKingdom_73 2 rfl rfl ?_
      refine go_iload_n X dX7_readsKingdom_74 3 rfl rfl ?_
      refine go_callVI X (n := 38) (As := [.int (nI fr), .int (nI n)]) (rest := []) (kX7_readsDeed l D cs ad N kt (by omega) ρ τ fr n ce (1 + 4 * d) d ((hof.1 56 (by omega) (by omega)).trans hce) (by omega) h8 (by omega) (by omega) h9) gX7_readsKingdom_X7_readsDeed rfl hdX7_readsDeed ⟨rfl, rfl, by decide, by decide, by decide, by decide⟩ (by omega) rfl rfl rfl rfl (Nat.le_of_ble_eq_true rfl) dX7_readsKingdom_75 (fun r1z σ1z τ1z h1z => ?_)
      obtain ⟨hx9, rfl⟩ := h1z
      rcases hx9 with ⟨hA9, er9, es9⟩ | ⟨hB9, g1, er9, es9⟩ | ⟨hB9, g1, g2, er9, es9⟩ | ⟨hB9, g1, g2, g3, er9, es9⟩ | ⟨hB9, g1, g2, g3, er9, es9⟩
      · skip
        refine go_topi (v := 0) er9 ?_
        refine go_sg (σ2 := ρ) es9 ?_
        refine go_istore_n X (lv2 := [(3, .int 0), (0, .ref (ad (38))), (1, .int (nI fr)), (2, .int (nI n))]) dX7_readsKingdom_78 rfl (by decide) rfl ?_
        refine go_goto X (tgt := 50) dX7_readsKingdom_79 (by decide) ?_
        refine go_iload_n X dX7_readsKingdom_50 0 rfl rfl ?_
        refine go_if_eq X (tgt := 82) dX7_readsKingdom_51 (by decide) (fun _ => ?_) (fun h9 => absurd h9 (by decide))
        refine go_iload_n X dX7_readsKingdom_82 0 rfl rfl ?_
        refine go_if_eq X (tgt := 111) dX7_readsKingdom_83 (by decide) (fun _ => ?_) (fun h9 => absurd h9 (by decide))
        refine go_iload_n X dX7_readsKingdom_111 0 rfl rfl ?_
        exact go_zreturn X hr hlk dX7_readsKingdom_112 (by first | exact Or.inl rfl | exact Or.inr rfl) (⟨rk_no hof (pk_A0 hp c58 (hA9.resolve_left (by omega))) (by omega) h8, rfl⟩)
      · skip
        refine go_topi (v := 0) er9 ?_
        refine go_sg (σ2 := (up2 ρ 38 8 (nI (1 + 4 * d + 1)))) es9 ?_
        refine go_istore_n X (lv2 := [(3, .int 0), (0, .ref (ad (38))), (1, .int (nI fr)), (2, .int (nI n))]) dX7_readsKingdom_78 rfl (by decide) rfl ?_
        refine go_goto X (tgt := 50) dX7_readsKingdom_79 (by decide) ?_
        refine go_iload_n X dX7_readsKingdom_50 0 rfl rfl ?_
        refine go_if_eq X (tgt := 82) dX7_readsKingdom_51 (by decide) (fun _ => ?_) (fun h9 => absurd h9 (by decide))
        refine go_iload_n X dX7_readsKingdom_82 0 rfl rfl ?_
        refine go_if_eq X (tgt := 111) dX7_readsKingdom_83 (by decide) (fun _ => ?_) (fun h9 => absurd h9 (by decide))
        refine go_iload_n X dX7_readsKingdom_111 0 rfl rfl ?_
        exact go_zreturn X hr hlk dX7_readsKingdom_112 (by first | exact Or.inl rfl | exact Or.inr rfl) (⟨rk_no (offK_1 hof (by omega) (by omega)) (pk_B hp hd5 hB9 g1) (by omega) up2_self, rfl⟩)
      · skip
        refine go_topi (v := 0) er9 ?_
        refine go_sg (σ2 := (up2 ρ 38 8 (nI (1 + 4 * d + 1 + 1)))) es9 ?_
        refine go_istore_n X (lv2 := [(3, .int 0), (0, .ref (ad (38))), (1, .int (nI fr)), (2, .int (nI n))]) dX7_readsKingdom_78 rfl (by decide) rfl ?_
        refine go_goto X (tgt := 50) dX7_readsKingdom_79 (by decide) ?_
        refine go_iload_n X dX7_readsKingdom_50 0 rfl rfl ?_
        refine go_if_eq X (tgt := 82) dX7_readsKingdom_51 (by decide) (fun _ => ?_) (fun h9 => absurd h9 (by decide))
        refine go_iload_n X dX7_readsKingdom_82 0 rfl rfl ?_
        refine go_if_eq X (tgt := 111) dX7_readsKingdom_83 (by decide) (fun _ => ?_) (fun h9 => absurd h9 (by decide))
        refine go_iload_n X dX7_readsKingdom_111 0 rfl rfl ?_
        exact go_zreturn X hr hlk dX7_readsKingdom_112 (by first | exact Or.inl rfl | exact Or.inr rfl) (⟨rk_no (offK_1 hof (by omega) (by omega)) (pk_C hp hd5 hB9 g1 g2) (by omega) up2_self, rfl⟩)
      · skip
        refine go_topi (v := 0) er9 ?_
        refine go_sg (σ2 := (up2 ρ 38 8 (nI (1 + 4 * d + 1 + 1 + 1)))) es9 ?_
        refine go_istore_n X (lv2 := [(3, .int 0), (0, .ref (ad (38))), (1, .int (nI fr)), (2, .int (nI n))]) dX7_readsKingdom_78 rfl (by decide) rfl ?_
        refine go_goto X (tgt := 50) dX7_readsKingdom_79 (by decide) ?_
        refine go_iload_n X dX7_readsKingdom_50 0 rfl rfl ?_
        refine go_if_eq X (tgt := 82) dX7_readsKingdom_51 (by decide) (fun _ => ?_) (fun h9 => absurd h9 (by decide))
        refine go_iload_n X dX7_readsKingdom_82 0 rfl rfl ?_
        refine go_if_eq X (tgt := 111) dX7_readsKingdom_83 (by decide) (fun _ => ?_) (fun h9 => absurd h9 (by decide))
        refine go_iload_n X dX7_readsKingdom_111 0 rfl rfl ?_
        exact go_zreturn X hr hlk dX7_readsKingdom_112 (by first | exact Or.inl rfl | exact Or.inr rfl) (⟨rk_no (offK_1 hof (by omega) (by omega)) (pk_D hp hd5 hB9 g1 g2 g3) (by omega) up2_self, rfl⟩)
      · skip
        refine go_topi (v := 1) er9 ?_
        refine go_sg (σ2 := (up2 (up2 (up2 (up2 (up2 ρ 38 8 (nI (1 + 4 * d + 1 + 1 + 1 + 1))) 44 d (cdS ce fr n (1 + 4 * d + 1) - 48)) 45 d (cdS ce fr n (1 + 4 * d + 1 + 1) - 48)) 46 d (cdS ce fr n (1 + 4 * d + 1 + 1 + 1) - 48)) 38 9 (nI (d + 1)))) es9 ?_
        refine go_istore_n X (lv2 := [(3, .int 1), (0, .ref (ad (38))), (1, .int (nI fr)), (2, .int (nI n))]) dX7_readsKingdom_78 rfl (by decide) rfl ?_
        refine go_goto X (tgt := 50) dX7_readsKingdom_79 (by decide) ?_
        exact ih50 (d + 1, (up2 (up2 (up2 (up2 (up2 ρ 38 8 (nI (1 + 4 * d + 1 + 1 + 1 + 1))) 44 d (cdS ce fr n (1 + 4 * d + 1) - 48)) 45 d (cdS ce fr n (1 + 4 * d + 1 + 1) - 48)) 46 d (cdS ce fr n (1 + 4 * d + 1 + 1 + 1) - 48)) 38 9 (nI (d + 1)))) (by (try dsimp only); exact ⟨by omega, offK_1 (offK_2 (offK_2 (offK_2 (offK_1 hof (by omega) (by omega)) (by omega) (by omega)) (by omega) (by omega)) (by omega) (by omega)) (by omega) (by omega), by rw [up2_ne (by omega), up2_ne (by omega), up2_ne (by omega), up2_ne (by omega), up2_self, show 1 + 4 * d + 1 + 1 + 1 + 1 = 1 + 4 * (d + 1) by omega], up2_self, by rw [up2_ne (by omega), up2_ne (by omega), up2_ne (by omega), up2_ne (by omega), up2_ne (by omega)]; exact h10, pk_E hp hd5 hB9 g1 g2 g3, fun e9 he9 => by rcases Nat.lt_succ_iff_lt_or_eq.mp he9 with h | h; rw [up2_ne (by omega), up2_ne (by omega), up2_ne (by omega), up2_ne (by omega), up2_ne (by omega), up2_ne (by omega), up2_ne (by omega), up2_ne (by omega), up2_ne (by omega), up2_ne (by omega), up2_ne (by omega), up2_ne (by omega), up2_ne (by omega), up2_ne (by omega), up2_ne (by omega)]; exact hD e9 h; rw [h]; refine ⟨?_, ?_, ?_⟩; rw [up2_ne (by omega), up2_ne (by omega), up2_ne (by omega), up2_self, show 1 + 4 * d + 1 = 4 * d + 2 by omega]; rw [up2_ne (by omega), up2_ne (by omega), up2_self, show 1 + 4 * d + 1 + 1 = 4 * d + 3 by omega]; rw [up2_ne (by omega), up2_self, show 1 + 4 * d + 1 + 1 + 1 = 4 * d + 4 by omega]⟩) (by (try dsimp only); omega)
    · skip
      refine go_aload_n X dX7_readsKingdom_61 1 rfl rfl ?_
      refine go_iload_n X dX7_readsKingdom_62 2 rfl rfl ?_
      refine go_iload_n X dX7_readsKingdom_63 3 rfl rfl ?_
      refine go_callVI X (n := 38) (As := [.int (nI fr), .int (nI n)]) (rest := []) (kX7_codeAt l D cs ad N kt (by omega) ρ τ fr n ce (1 + 4 * d) ((hof.1 56 (by omega) (by omega)).trans hce) (by omega) h8 (by omega)) gX7_readsKingdom_X7_codeAt rfl hdX7_codeAt ⟨rfl, rfl, by decide, by decide, by decide, by decide⟩ (by omega) rfl rfl rfl rfl (Nat.le_of_ble_eq_true rfl) dX7_readsKingdom_64 (fun r9 σ9 τ9 h9 => ?_)
      obtain ⟨rfl, rfl, rfl⟩ := h9
      refine go_bipush X (v := 47) dX7_readsKingdom_67 (by decide) ?_
      refine go_icmp_ne X (tgt := 82) dX7_readsKingdom_69 (by decide) (fun c69 => ?_) (fun c69 => ?_)
      · skip
        have hX := pk_X hp hd5 c58 c69
        have hd0 := c58
        refine go_loop (ι := Nat × vSg) (fun i9 => (i9.1 ≤ 4) ∧ (offK σ i9.2) ∧ (i9.2 38 8 = nI (1 + 4 * d + 3 * i9.1)) ∧ (i9.2 38 9 = nI d) ∧ (i9.2 38 10 = nI i9.1) ∧ (pSub (cdS ce fr n) n d 4 0 = pSub (cdS ce fr n) n d (4 - i9.1) i9.1) ∧ (arrD i9.2 (cdS ce fr n) d) ∧ (arrA i9.2 (cdS ce fr n) d i9.1) ∧ (¬ i9.1 = 0 → 1 + 4 * d + 3 * i9.1 ≤ n)) (fun i9 => 4 - i9.1) (fun i9 => i9.2) (fun i9 => τ) (fun i9 => [(3, .int 1), (0, .ref (ad (38))), (1, .int (nI fr)), (2, .int (nI n))]) (fun i9 => []) (0, ρ) (by (try dsimp only); exact ⟨by omega, hof, h8, h9, h10, rfl, hD, fun _ h => absurd h (Nat.not_lt_zero _), fun h => absurd rfl h⟩) ?_
        intro i9 hi9 ih82
        obtain ⟨a, ϕ⟩ := i9
        (try dsimp only at hi9); (try dsimp only at ih82); (try dsimp only)
        obtain ⟨ha4, hof, h8, h9, h10, hq, hD, hA, han⟩ := hi9
        refine go_iload_n X dX7_readsKingdom_82 0 rfl rfl ?_
        refine go_if_eq X (tgt := 111) dX7_readsKingdom_83 (by decide) (fun h9 => absurd h9 (by decide)) (fun _ => ?_)
        refine go_aload_n X dX7_readsKingdom_86 1 rfl rfl ?_
        refine go_geti X (n := 38) (j := 10) (by omega) rfl rfl (fun _ h9 => List.mem_cons_of_mem _ (List.mem_append_right _ h9)) (by decide) (List.mem_cons_of_mem _ (List.mem_append_left _ (List.mem_append_left _ (List.mem_of_getElem? (i := 2) rfl)))) rfl dX7_readsKingdom_87 ?_
        refine go_topi (v := nI a) (h10) ?_
        refine go_ifn_eq X (tgt := 101) dX7_readsKingdom_90 (by decide) (a := a) rfl (by omega) (fun c90 => ?_) (fun c90 => ?_)
        · skip
          refine go_aload_n X dX7_readsKingdom_101 1 rfl rfl ?_
          refine go_iload_n X dX7_readsKingdom_102 2 rfl rfl ?_
          refine go_iload_n X dX7_readsKingdom_103 3 rfl rfl ?_
          refine go_callVI X (n := 38) (As := [.int (nI fr), .int (nI n)]) (rest := []) (kX7_readsSubject l D cs ad N kt (by omega) ϕ τ fr n ce (1 + 4 * d + 3 * a) a ((hof.1 56 (by omega) (by omega)).trans hce) (by omega) h8 (by omega) (by omega) h10) gX7_readsKingdom_X7_readsSubject rfl hdX7_readsSubject ⟨rfl, rfl, by decide, by decide, by decide, by decide⟩ (by omega) rfl rfl rfl rfl (Nat.le_of_ble_eq_true rfl) dX7_readsKingdom_104 (fun r2z σ2z τ2z h2z => ?_)
          obtain ⟨hx9, rfl⟩ := h2z
          rcases hx9 with ⟨hA9, er9, es9⟩ | ⟨hB9, g1, er9, es9⟩ | ⟨hB9, g1, g2, er9, es9⟩ | ⟨hB9, g1, g2, er9, es9⟩
          · skip
            refine go_topi (v := 0) er9 ?_
            refine go_sg (σ2 := ϕ) es9 ?_
            refine go_istore_n X (lv2 := [(3, .int 0), (0, .ref (ad (38))), (1, .int (nI fr)), (2, .int (nI n))]) dX7_readsKingdom_107 rfl (by decide) rfl ?_
            refine go_goto X (tgt := 82) dX7_readsKingdom_108 (by decide) ?_
            refine go_iload_n X dX7_readsKingdom_82 0 rfl rfl ?_
            refine go_if_eq X (tgt := 111) dX7_readsKingdom_83 (by decide) (fun _ => ?_) (fun h9 => absurd h9 (by decide))
            refine go_iload_n X dX7_readsKingdom_111 0 rfl rfl ?_
            exact go_zreturn X hr hlk dX7_readsKingdom_112 (by first | exact Or.inl rfl | exact Or.inr rfl) (⟨rk_no hof (by rw [hX]; exact ps_A hq ha4 hA9 (Or.inl c90)) (by omega) h8, rfl⟩)
          · skip
            refine go_topi (v := 0) er9 ?_
            refine go_sg (σ2 := (up2 ϕ 38 8 (nI (1 + 4 * d + 3 * a + 1)))) es9 ?_
            refine go_istore_n X (lv2 := [(3, .int 0), (0, .ref (ad (38))), (1, .int (nI fr)), (2, .int (nI n))]) dX7_readsKingdom_107 rfl (by decide) rfl ?_
            refine go_goto X (tgt := 82) dX7_readsKingdom_108 (by decide) ?_
            refine go_iload_n X dX7_readsKingdom_82 0 rfl rfl ?_
            refine go_if_eq X (tgt := 111) dX7_readsKingdom_83 (by decide) (fun _ => ?_) (fun h9 => absurd h9 (by decide))
            refine go_iload_n X dX7_readsKingdom_111 0 rfl rfl ?_
            exact go_zreturn X hr hlk dX7_readsKingdom_112 (by first | exact Or.inl rfl | exact Or.inr rfl) (⟨rk_no (offK_1 hof (by omega) (by omega)) (by rw [hX]; exact ps_B hq ha4 hB9 g1) (by omega) up2_self, rfl⟩)
          · skip
            refine go_topi (v := 0) er9 ?_
            refine go_sg (σ2 := (up2 ϕ 38 8 (nI (1 + 4 * d + 3 * a + 1 + 1)))) es9 ?_
            refine go_istore_n X (lv2 := [(3, .int 0), (0, .ref (ad (38))), (1, .int (nI fr)), (2, .int (nI n))]) dX7_readsKingdom_107 rfl (by decide) rfl ?_
            refine go_goto X (tgt := 82) dX7_readsKingdom_108 (by decide) ?_
            refine go_iload_n X dX7_readsKingdom_82 0 rfl rfl ?_
            refine go_if_eq X (tgt := 111) dX7_readsKingdom_83 (by decide) (fun _ => ?_) (fun h9 => absurd h9 (by decide))
            refine go_iload_n X dX7_readsKingdom_111 0 rfl rfl ?_
            exact go_zreturn X hr hlk dX7_readsKingdom_112 (by first | exact Or.inl rfl | exact Or.inr rfl) (⟨rk_no (offK_1 hof (by omega) (by omega)) (by rw [hX]; exact ps_C hq ha4 hB9 g1 g2) (by omega) up2_self, rfl⟩)
          · skip
            refine go_topi (v := 1) er9 ?_
            refine go_sg (σ2 := (up2 (up2 (up2 (up2 ϕ 38 8 (nI (1 + 4 * d + 3 * a + 1 + 1 + 1))) 47 a (kndS (cdS ce fr n (1 + 4 * d + 3 * a + 1)))) 48 a (cdS ce fr n (1 + 4 * d + 3 * a + 1 + 1) - 48)) 38 10 (nI (a + 1)))) es9 ?_
            refine go_istore_n X (lv2 := [(3, .int 1), (0, .ref (ad (38))), (1, .int (nI fr)), (2, .int (nI n))]) dX7_readsKingdom_107 rfl (by decide) rfl ?_
            refine go_goto X (tgt := 82) dX7_readsKingdom_108 (by decide) ?_
            exact ih82 (a + 1, (up2 (up2 (up2 (up2 ϕ 38 8 (nI (1 + 4 * d + 3 * a + 1 + 1 + 1))) 47 a (kndS (cdS ce fr n (1 + 4 * d + 3 * a + 1)))) 48 a (cdS ce fr n (1 + 4 * d + 3 * a + 1 + 1) - 48)) 38 10 (nI (a + 1)))) (by (try dsimp only); exact ⟨by omega, offK_1 (offK_2 (offK_2 (offK_1 hof (by omega) (by omega)) (by omega) (by omega)) (by omega) (by omega)) (by omega) (by omega), by rw [up2_ne (by omega), up2_ne (by omega), up2_ne (by omega), up2_self, show 1 + 4 * d + 3 * a + 1 + 1 + 1 = 1 + 4 * d + 3 * (a + 1) by omega], by rw [up2_ne (by omega), up2_ne (by omega), up2_ne (by omega), up2_ne (by omega)]; exact h9, up2_self, ps_D hq ha4 hB9 g1 g2, fun e9 he9 => by rw [up2_row (by omega), up2_row (by omega), up2_row (by omega), up2_row (by omega), up2_row (by omega), up2_row (by omega), up2_row (by omega), up2_row (by omega), up2_row (by omega), up2_row (by omega), up2_row (by omega), up2_row (by omega)]; exact hD e9 he9, fun e9 he9 => by rcases Nat.lt_succ_iff_lt_or_eq.mp he9 with h | h; rw [up2_ne (by omega), up2_ne (by omega), up2_ne (by omega), up2_ne (by omega), up2_ne (by omega), up2_ne (by omega), up2_ne (by omega), up2_ne (by omega)]; exact hA e9 h; rw [h]; refine ⟨?_, ?_⟩; rw [up2_ne (by omega), up2_ne (by omega), up2_self, show 1 + 4 * d + 3 * a + 1 = 4 * d + 3 * a + 2 by omega]; rw [up2_ne (by omega), up2_self, show 1 + 4 * d + 3 * a + 1 + 1 = 4 * d + 3 * a + 3 by omega], fun _ => by have := dg_lt g2; omega⟩) (by (try dsimp only); omega)
        · skip
          refine go_aload_n X dX7_readsKingdom_93 1 rfl rfl ?_
          refine go_geti X (n := 38) (j := 8) (by omega) rfl rfl (fun _ h9 => List.mem_cons_of_mem _ (List.mem_append_right _ h9)) (by decide) (List.mem_cons_of_mem _ (List.mem_append_left _ (List.mem_append_left _ (List.mem_of_getElem? (i := 0) rfl)))) rfl dX7_readsKingdom_94 ?_
          refine go_topi (v := nI (1 + 4 * d + 3 * a)) (h8) ?_
          refine go_iload_n X dX7_readsKingdom_97 3 rfl rfl ?_
          refine go_icmpn_ge X (tgt := 111) dX7_readsKingdom_98 (by decide) (a := 1 + 4 * d + 3 * a) (b := n) rfl rfl (by omega) (by omega) (fun c98 => ?_) (fun c98 => ?_)
          · skip
            refine go_iload_n X dX7_readsKingdom_111 0 rfl rfl ?_
            exact go_zreturn X hr hlk dX7_readsKingdom_112 (by first | exact Or.inl rfl | exact Or.inr rfl) ((have hn9 : 1 + 4 * d + 3 * a = n := (by have := han c90; omega); ⟨rk_yes hof (by rw [hX, ps_T hq ha4 c90 hn9 (by rw [cd_end (Nat.le_refl _)]; decide)]) hd5 ha4 hd0 c90 h9 h10 hD hA, rfl⟩))
          · skip
            refine go_aload_n X dX7_readsKingdom_101 1 rfl rfl ?_
            refine go_iload_n X dX7_readsKingdom_102 2 rfl rfl ?_
            refine go_iload_n X dX7_readsKingdom_103 3 rfl rfl ?_
            refine go_callVI X (n := 38) (As := [.int (nI fr), .int (nI n)]) (rest := []) (kX7_readsSubject l D cs ad N kt (by omega) ϕ τ fr n ce (1 + 4 * d + 3 * a) a ((hof.1 56 (by omega) (by omega)).trans hce) (by omega) h8 (by omega) (by omega) h10) gX7_readsKingdom_X7_readsSubject rfl hdX7_readsSubject ⟨rfl, rfl, by decide, by decide, by decide, by decide⟩ (by omega) rfl rfl rfl rfl (Nat.le_of_ble_eq_true rfl) dX7_readsKingdom_104 (fun r3z σ3z τ3z h3z => ?_)
            obtain ⟨hx9, rfl⟩ := h3z
            rcases hx9 with ⟨hA9, er9, es9⟩ | ⟨hB9, g1, er9, es9⟩ | ⟨hB9, g1, g2, er9, es9⟩ | ⟨hB9, g1, g2, er9, es9⟩
            · skip
              refine go_topi (v := 0) er9 ?_
              refine go_sg (σ2 := ϕ) es9 ?_
              refine go_istore_n X (lv2 := [(3, .int 0), (0, .ref (ad (38))), (1, .int (nI fr)), (2, .int (nI n))]) dX7_readsKingdom_107 rfl (by decide) rfl ?_
              refine go_goto X (tgt := 82) dX7_readsKingdom_108 (by decide) ?_
              refine go_iload_n X dX7_readsKingdom_82 0 rfl rfl ?_
              refine go_if_eq X (tgt := 111) dX7_readsKingdom_83 (by decide) (fun _ => ?_) (fun h9 => absurd h9 (by decide))
              refine go_iload_n X dX7_readsKingdom_111 0 rfl rfl ?_
              exact go_zreturn X hr hlk dX7_readsKingdom_112 (by first | exact Or.inl rfl | exact Or.inr rfl) (⟨rk_no hof (by rw [hX]; exact ps_A hq ha4 hA9 (Or.inr (by omega))) (by omega) h8, rfl⟩)
            · skip
              refine go_topi (v := 0) er9 ?_
              refine go_sg (σ2 := (up2 ϕ 38 8 (nI (1 + 4 * d + 3 * a + 1)))) es9 ?_
              refine go_istore_n X (lv2 := [(3, .int 0), (0, .ref (ad (38))), (1, .int (nI fr)), (2, .int (nI n))]) dX7_readsKingdom_107 rfl (by decide) rfl ?_
              refine go_goto X (tgt := 82) dX7_readsKingdom_108 (by decide) ?_
              refine go_iload_n X dX7_readsKingdom_82 0 rfl rfl ?_
              refine go_if_eq X (tgt := 111) dX7_readsKingdom_83 (by decide) (fun _ => ?_) (fun h9 => absurd h9 (by decide))
              refine go_iload_n X dX7_readsKingdom_111 0 rfl rfl ?_
              exact go_zreturn X hr hlk dX7_readsKingdom_112 (by first | exact Or.inl rfl | exact Or.inr rfl) (⟨rk_no (offK_1 hof (by omega) (by omega)) (by rw [hX]; exact ps_B hq ha4 hB9 g1) (by omega) up2_self, rfl⟩)
            · skip
              refine go_topi (v := 0) er9 ?_
              refine go_sg (σ2 := (up2 ϕ 38 8 (nI (1 + 4 * d + 3 * a + 1 + 1)))) es9 ?_
              refine go_istore_n X (lv2 := [(3, .int 0), (0, .ref (ad (38))), (1, .int (nI fr)), (2, .int (nI n))]) dX7_readsKingdom_107 rfl (by decide) rfl ?_
              refine go_goto X (tgt := 82) dX7_readsKingdom_108 (by decide) ?_
              refine go_iload_n X dX7_readsKingdom_82 0 rfl rfl ?_
              refine go_if_eq X (tgt := 111) dX7_readsKingdom_83 (by decide) (fun _ => ?_) (fun h9 => absurd h9 (by decide))
              refine go_iload_n X dX7_readsKingdom_111 0 rfl rfl ?_
              exact go_zreturn X hr hlk dX7_readsKingdom_112 (by first | exact Or.inl rfl | exact Or.inr rfl) (⟨rk_no (offK_1 hof (by omega) (by omega)) (by rw [hX]; exact ps_C hq ha4 hB9 g1 g2) (by omega) up2_self, rfl⟩)
            · skip
              refine go_topi (v := 1) er9 ?_
              refine go_sg (σ2 := (up2 (up2 (up2 (up2 ϕ 38 8 (nI (1 + 4 * d + 3 * a + 1 + 1 + 1))) 47 a (kndS (cdS ce fr n (1 + 4 * d + 3 * a + 1)))) 48 a (cdS ce fr n (1 + 4 * d + 3 * a + 1 + 1) - 48)) 38 10 (nI (a + 1)))) es9 ?_
              refine go_istore_n X (lv2 := [(3, .int 1), (0, .ref (ad (38))), (1, .int (nI fr)), (2, .int (nI n))]) dX7_readsKingdom_107 rfl (by decide) rfl ?_
              refine go_goto X (tgt := 82) dX7_readsKingdom_108 (by decide) ?_
              exact ih82 (a + 1, (up2 (up2 (up2 (up2 ϕ 38 8 (nI (1 + 4 * d + 3 * a + 1 + 1 + 1))) 47 a (kndS (cdS ce fr n (1 + 4 * d + 3 * a + 1)))) 48 a (cdS ce fr n (1 + 4 * d + 3 * a + 1 + 1) - 48)) 38 10 (nI (a + 1)))) (by (try dsimp only); exact ⟨by omega, offK_1 (offK_2 (offK_2 (offK_1 hof (by omega) (by omega)) (by omega) (by omega)) (by omega) (by omega)) (by omega) (by omega), by rw [up2_ne (by omega), up2_ne (by omega), up2_ne (by omega), up2_self, show 1 + 4 * d + 3 * a + 1 + 1 + 1 = 1 + 4 * d + 3 * (a + 1) by omega], by rw [up2_ne (by omega), up2_ne (by omega), up2_ne (by omega), up2_ne (by omega)]; exact h9, up2_self, ps_D hq ha4 hB9 g1 g2, fun e9 he9 => by rw [up2_row (by omega), up2_row (by omega), up2_row (by omega), up2_row (by omega), up2_row (by omega), up2_row (by omega), up2_row (by omega), up2_row (by omega), up2_row (by omega), up2_row (by omega), up2_row (by omega), up2_row (by omega)]; exact hD e9 he9, fun e9 he9 => by rcases Nat.lt_succ_iff_lt_or_eq.mp he9 with h | h; rw [up2_ne (by omega), up2_ne (by omega), up2_ne (by omega), up2_ne (by omega), up2_ne (by omega), up2_ne (by omega), up2_ne (by omega), up2_ne (by omega)]; exact hA e9 h; rw [h]; refine ⟨?_, ?_⟩; rw [up2_ne (by omega), up2_ne (by omega), up2_self, show 1 + 4 * d + 3 * a + 1 = 4 * d + 3 * a + 2 by omega]; rw [up2_ne (by omega), up2_self, show 1 + 4 * d + 3 * a + 1 + 1 = 4 * d + 3 * a + 3 by omega], fun _ => by have := dg_lt g2; omega⟩) (by (try dsimp only); omega)
      · skip
        refine go_aload_n X dX7_readsKingdom_72 1 rfl rfl ?_
        refine go_iload_n X dX7_readsKingdom_73 2 rfl rfl ?_
        refine go_iload_n X dX7_readsKingdom_74 3 rfl rfl ?_
        refine go_callVI X (n := 38) (As := [.int (nI fr), .int (nI n)]) (rest := []) (kX7_readsDeed l D cs ad N kt (by omega) ρ τ fr n ce (1 + 4 * d) d ((hof.1 56 (by omega) (by omega)).trans hce) (by omega) h8 (by omega) (by omega) h9) gX7_readsKingdom_X7_readsDeed rfl hdX7_readsDeed ⟨rfl, rfl, by decide, by decide, by decide, by decide⟩ (by omega) rfl rfl rfl rfl (Nat.le_of_ble_eq_true rfl) dX7_readsKingdom_75 (fun r4z σ4z τ4z h4z => ?_)
        obtain ⟨hx9, rfl⟩ := h4z
        rcases hx9 with ⟨hA9, er9, es9⟩ | ⟨hB9, g1, er9, es9⟩ | ⟨hB9, g1, g2, er9, es9⟩ | ⟨hB9, g1, g2, g3, er9, es9⟩ | ⟨hB9, g1, g2, g3, er9, es9⟩
        · skip
          refine go_topi (v := 0) er9 ?_
          refine go_sg (σ2 := ρ) es9 ?_
          refine go_istore_n X (lv2 := [(3, .int 0), (0, .ref (ad (38))), (1, .int (nI fr)), (2, .int (nI n))]) dX7_readsKingdom_78 rfl (by decide) rfl ?_
          refine go_goto X (tgt := 50) dX7_readsKingdom_79 (by decide) ?_
          refine go_iload_n X dX7_readsKingdom_50 0 rfl rfl ?_
          refine go_if_eq X (tgt := 82) dX7_readsKingdom_51 (by decide) (fun _ => ?_) (fun h9 => absurd h9 (by decide))
          refine go_iload_n X dX7_readsKingdom_82 0 rfl rfl ?_
          refine go_if_eq X (tgt := 111) dX7_readsKingdom_83 (by decide) (fun _ => ?_) (fun h9 => absurd h9 (by decide))
          refine go_iload_n X dX7_readsKingdom_111 0 rfl rfl ?_
          exact go_zreturn X hr hlk dX7_readsKingdom_112 (by first | exact Or.inl rfl | exact Or.inr rfl) (⟨rk_no hof (pk_A5 hp (hA9.resolve_right (fun z => z c69)) c69) (by omega) h8, rfl⟩)
        · skip
          refine go_topi (v := 0) er9 ?_
          refine go_sg (σ2 := (up2 ρ 38 8 (nI (1 + 4 * d + 1)))) es9 ?_
          refine go_istore_n X (lv2 := [(3, .int 0), (0, .ref (ad (38))), (1, .int (nI fr)), (2, .int (nI n))]) dX7_readsKingdom_78 rfl (by decide) rfl ?_
          refine go_goto X (tgt := 50) dX7_readsKingdom_79 (by decide) ?_
          refine go_iload_n X dX7_readsKingdom_50 0 rfl rfl ?_
          refine go_if_eq X (tgt := 82) dX7_readsKingdom_51 (by decide) (fun _ => ?_) (fun h9 => absurd h9 (by decide))
          refine go_iload_n X dX7_readsKingdom_82 0 rfl rfl ?_
          refine go_if_eq X (tgt := 111) dX7_readsKingdom_83 (by decide) (fun _ => ?_) (fun h9 => absurd h9 (by decide))
          refine go_iload_n X dX7_readsKingdom_111 0 rfl rfl ?_
          exact go_zreturn X hr hlk dX7_readsKingdom_112 (by first | exact Or.inl rfl | exact Or.inr rfl) (⟨rk_no (offK_1 hof (by omega) (by omega)) (pk_B hp hd5 hB9 g1) (by omega) up2_self, rfl⟩)
        · skip
          refine go_topi (v := 0) er9 ?_
          refine go_sg (σ2 := (up2 ρ 38 8 (nI (1 + 4 * d + 1 + 1)))) es9 ?_
          refine go_istore_n X (lv2 := [(3, .int 0), (0, .ref (ad (38))), (1, .int (nI fr)), (2, .int (nI n))]) dX7_readsKingdom_78 rfl (by decide) rfl ?_
          refine go_goto X (tgt := 50) dX7_readsKingdom_79 (by decide) ?_
          refine go_iload_n X dX7_readsKingdom_50 0 rfl rfl ?_
          refine go_if_eq X (tgt := 82) dX7_readsKingdom_51 (by decide) (fun _ => ?_) (fun h9 => absurd h9 (by decide))
          refine go_iload_n X dX7_readsKingdom_82 0 rfl rfl ?_
          refine go_if_eq X (tgt := 111) dX7_readsKingdom_83 (by decide) (fun _ => ?_) (fun h9 => absurd h9 (by decide))
          refine go_iload_n X dX7_readsKingdom_111 0 rfl rfl ?_
          exact go_zreturn X hr hlk dX7_readsKingdom_112 (by first | exact Or.inl rfl | exact Or.inr rfl) (⟨rk_no (offK_1 hof (by omega) (by omega)) (pk_C hp hd5 hB9 g1 g2) (by omega) up2_self, rfl⟩)
        · skip
          refine go_topi (v := 0) er9 ?_
          refine go_sg (σ2 := (up2 ρ 38 8 (nI (1 + 4 * d + 1 + 1 + 1)))) es9 ?_
          refine go_istore_n X (lv2 := [(3, .int 0), (0, .ref (ad (38))), (1, .int (nI fr)), (2, .int (nI n))]) dX7_readsKingdom_78 rfl (by decide) rfl ?_
          refine go_goto X (tgt := 50) dX7_readsKingdom_79 (by decide) ?_
          refine go_iload_n X dX7_readsKingdom_50 0 rfl rfl ?_
          refine go_if_eq X (tgt := 82) dX7_readsKingdom_51 (by decide) (fun _ => ?_) (fun h9 => absurd h9 (by decide))
          refine go_iload_n X dX7_readsKingdom_82 0 rfl rfl ?_
          refine go_if_eq X (tgt := 111) dX7_readsKingdom_83 (by decide) (fun _ => ?_) (fun h9 => absurd h9 (by decide))
          refine go_iload_n X dX7_readsKingdom_111 0 rfl rfl ?_
          exact go_zreturn X hr hlk dX7_readsKingdom_112 (by first | exact Or.inl rfl | exact Or.inr rfl) (⟨rk_no (offK_1 hof (by omega) (by omega)) (pk_D hp hd5 hB9 g1 g2 g3) (by omega) up2_self, rfl⟩)
        · skip
          refine go_topi (v := 1) er9 ?_
          refine go_sg (σ2 := (up2 (up2 (up2 (up2 (up2 ρ 38 8 (nI (1 + 4 * d + 1 + 1 + 1 + 1))) 44 d (cdS ce fr n (1 + 4 * d + 1) - 48)) 45 d (cdS ce fr n (1 + 4 * d + 1 + 1) - 48)) 46 d (cdS ce fr n (1 + 4 * d + 1 + 1 + 1) - 48)) 38 9 (nI (d + 1)))) es9 ?_
          refine go_istore_n X (lv2 := [(3, .int 1), (0, .ref (ad (38))), (1, .int (nI fr)), (2, .int (nI n))]) dX7_readsKingdom_78 rfl (by decide) rfl ?_
          refine go_goto X (tgt := 50) dX7_readsKingdom_79 (by decide) ?_
          exact ih50 (d + 1, (up2 (up2 (up2 (up2 (up2 ρ 38 8 (nI (1 + 4 * d + 1 + 1 + 1 + 1))) 44 d (cdS ce fr n (1 + 4 * d + 1) - 48)) 45 d (cdS ce fr n (1 + 4 * d + 1 + 1) - 48)) 46 d (cdS ce fr n (1 + 4 * d + 1 + 1 + 1) - 48)) 38 9 (nI (d + 1)))) (by (try dsimp only); exact ⟨by omega, offK_1 (offK_2 (offK_2 (offK_2 (offK_1 hof (by omega) (by omega)) (by omega) (by omega)) (by omega) (by omega)) (by omega) (by omega)) (by omega) (by omega), by rw [up2_ne (by omega), up2_ne (by omega), up2_ne (by omega), up2_ne (by omega), up2_self, show 1 + 4 * d + 1 + 1 + 1 + 1 = 1 + 4 * (d + 1) by omega], up2_self, by rw [up2_ne (by omega), up2_ne (by omega), up2_ne (by omega), up2_ne (by omega), up2_ne (by omega)]; exact h10, pk_E hp hd5 hB9 g1 g2 g3, fun e9 he9 => by rcases Nat.lt_succ_iff_lt_or_eq.mp he9 with h | h; rw [up2_ne (by omega), up2_ne (by omega), up2_ne (by omega), up2_ne (by omega), up2_ne (by omega), up2_ne (by omega), up2_ne (by omega), up2_ne (by omega), up2_ne (by omega), up2_ne (by omega), up2_ne (by omega), up2_ne (by omega), up2_ne (by omega), up2_ne (by omega), up2_ne (by omega)]; exact hD e9 h; rw [h]; refine ⟨?_, ?_, ?_⟩; rw [up2_ne (by omega), up2_ne (by omega), up2_ne (by omega), up2_self, show 1 + 4 * d + 1 = 4 * d + 2 by omega]; rw [up2_ne (by omega), up2_ne (by omega), up2_self, show 1 + 4 * d + 1 + 1 = 4 * d + 3 by omega]; rw [up2_ne (by omega), up2_self, show 1 + 4 * d + 1 + 1 + 1 = 4 * d + 4 by omega]⟩) (by (try dsimp only); omega)

