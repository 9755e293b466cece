theorem yFw_or {pa ta td tc : Nat → Nat} {uv : Nat → Nat → Int32} : ∀ t, yFw pa ta td tc uv t = -9 ∨ ∃ q, q < t ∧ yFw pa ta td tc uv t = nI q
  | 0 => Or.inl rfl
  | t + 1 => by
    by_cases h : yFw pa ta td tc uv t = -9
    · by_cases hb : yBad pa ta td tc uv t
      · exact Or.inr ⟨t, by omega, yFw_bad h hb⟩
      · exact Or.inl (yFw_go h hb)
    · rcases yFw_or t with q | ⟨q, hq, e⟩
      · exact absurd q h
      · exact Or.inr ⟨q, by omega, (yFw_stay h 1).trans e⟩
theorem yFw_neg {pa ta td tc : Nat → Nat} {uv : Nat → Nat → Int32} {t : Nat} (ht : t < 2 ^ 31) : ¬ 0 ≤ yFw pa ta td tc uv t ↔ yFw pa ta td tc uv t = -9 := by
  rcases yFw_or (pa := pa) (ta := ta) (td := td) (tc := tc) (uv := uv) t with e | ⟨q, hq, e⟩
  · rw [e]; exact ⟨fun _ => rfl, fun _ => by decide⟩
  · rw [e]; exact ⟨fun h => absurd (nI_pos' (by omega)) h, fun h => absurd h (nI_ne9 (by omega))⟩
/-- behind goYear -/
def gyP (σ : vSg) (ns : Nat) (pa ta td tc : Nat → Nat) (t : Nat) (ρ : vSg) : Prop := (∀ q, q ≠ 38 → q ≠ 49 → ρ q = σ q) ∧ (∀ j, j ≠ 16 → j ≠ 17 → j ≠ 18 → ρ 38 j = σ 38 j) ∧ ρ 38 16 = yFw pa ta td tc (uvM σ) t ∧ (yFw pa ta td tc (uvM σ) t = -9 → ρ 38 17 = ySum ta td tc (uvM σ) (pvM σ) t ∧ ρ 38 18 = nI (yPd tc t) ∧ ∀ a, a < ns → ρ 49 a = nI (yLf pa ta tc t a))
theorem gyP_end {σ ρ : vSg} {ns : Nat} {pa ta td tc : Nat → Nat} {t n : Nat} (h : gyP σ ns pa ta td tc t ρ) (hf : ¬ yFw pa ta td tc (uvM σ) t = -9) (ht : t ≤ n) : gyP σ ns pa ta td tc n ρ := by
  have e : yFw pa ta td tc (uvM σ) n = yFw pa ta td tc (uvM σ) t := by
    have := yFw_stay hf (n - t)
    rw [show t + (n - t) = n by omega] at this
    exact this
  exact ⟨h.1, h.2.1, by rw [e]; exact h.2.2.1, fun q => absurd (by rw [← e]; exact q) hf⟩
/-- one triple more: fw, s, d, l: what becomes of the four cells -/
def gyU (ρ : vSg) (a : Nat) (fw su pd lf : Int32) : vSg := up2 (up2 (up2 (up2 ρ 38 16 fw) 38 17 su) 38 18 pd) 49 a lf
theorem gyP_bad {σ ρ : vSg} {ns : Nat} {pa ta td tc : Nat → Nat} {t a : Nat} {su pd lf : Int32} (h : gyP σ ns pa ta td tc t ρ) (hf : yFw pa ta td tc (uvM σ) t = -9) (ht : t < 2 ^ 31) (hb : yBad pa ta td tc (uvM σ) t) : gyP σ ns pa ta td tc (t + 1) (gyU ρ a (nI t) su pd lf) := by
  have hf2 := yFw_bad hf hb
  unfold gyU
  refine ⟨fun q h38 h49 => by rw [up2_row h49, up2_row h38, up2_row h38, up2_row h38]; exact h.1 q h38 h49, fun j h16 h17 h18 => by rw [up2_ne (by omega), up2_ne (by omega), up2_ne (by omega), up2_ne (by omega)]; exact h.2.1 j h16 h17 h18, by rw [up2_ne (by omega), up2_ne (by omega), up2_ne (by omega), up2_self, hf2], fun q => ?_⟩
  rw [hf2] at q
  exact absurd q (nI_ne9 ht)
theorem gyP_go {σ ρ : vSg} {ns : Nat} {pa ta td tc : Nat → Nat} {t : Nat} {su pd lf : Int32} (h : gyP σ ns pa ta td tc t ρ) (hf : yFw pa ta td tc (uvM σ) t = -9) (hb : ¬ yBad pa ta td tc (uvM σ) t) (ha : ta t < ns) (hs : su = ySum ta td tc (uvM σ) (pvM σ) (t + 1)) (hp : pd = nI (yPd tc (t + 1))) (hl : lf = nI (yLf pa ta tc (t + 1) (ta t))) : gyP σ ns pa ta td tc (t + 1) (gyU ρ (ta t) (-9) su pd lf) := by
  have hf2 := yFw_go hf hb
  obtain ⟨h4, h5, h6⟩ := h.2.2.2 hf
  unfold gyU
  refine ⟨fun q h38 h49 => by rw [up2_row h49, up2_row h38, up2_row h38, up2_row h38]; exact h.1 q h38 h49, fun j h16 h17 h18 => by rw [up2_ne (by omega), up2_ne (by omega), up2_ne (by omega), up2_ne (by omega)]; exact h.2.1 j h16 h17 h18, by rw [up2_ne (by omega), up2_ne (by omega), up2_ne (by omega), up2_self, hf2], fun _ => ⟨?_, ?_, fun a hA => ?_⟩⟩
  · rw [up2_ne (by omega), up2_ne (by omega), up2_self, hs]
  · rw [up2_ne (by omega), up2_self, hp]
  · by_cases e : a = ta t
    · rw [e, up2_self, hl]
    · rw [up2_ne (by omega), up2_ne (by omega), up2_ne (by omega), up2_ne (by omega), h6 a hA]
      simp only [yLf]
      rw [if_neg (fun q => e q.2)]
theorem uvM_off {σ ρ : vSg} (h : ∀ q, q ≠ 38 → q ≠ 49 → ρ q = σ q) {i j : Nat} : valS (ρ 42 i) (ρ 39 j) (ρ 40 j) (ρ 41 j) = uvM σ i j := by
  rw [h 42 (by omega) (by omega), h 39 (by omega) (by omega), h 40 (by omega) (by omega), h 41 (by omega) (by omega)]; rfl
theorem hdX7_goYear : yX7_goYear.cls = RX7 ∧ yX7_goYear.cls ≠ "java/lang/invoke/MethodHandle" ∧ yX7_goYear.cls ≠ "java/lang/invoke/VarHandle" ∧ (parseMethodDescriptor yX7_goYear.desc).map (fun d => d.parameters.length) = some 2 := by decide +kernel
set_option maxHeartbeats 4000000 in
set_option maxRecDepth 100000 in
theorem kX7_goYear (l : Launch) (D : va_G) (cs : Nat → ClassId) (ad : Nat → Nat) (N kt : Nat) (hN : 58 ≤ N) (σ : vSg) (τ : vTa) (fr : Nat) (n : Nat) (ns : Nat) (pa : Nat → Nat) (ta : Nat → Nat) (td : Nat → Nat) (tc : Nat → Nat)  (hfr : fr + 3 * n ≤ 240) (hns : σ 38 5 = nI ns) (hn4 : ns ≤ 4) (hpa : ∀ a, a < ns → σ 43 a = nI (pa a) ∧ pa a ≤ 3) (hT : ∀ t, t < n → σ 56 (fr + 3 * t) = nI (ta t) ∧ ta t < ns ∧ σ 56 (fr + 3 * t + 1) = nI (td t) ∧ td t < 5 ∧ σ 56 (fr + 3 * t + 2) = nI (tc t) ∧ tc t ≤ 2 ∧ isB (σ 42 (ta t)) 3) : CtV l yX7_goYear wsX7_goYear ({ frames := 2, cells := 0, slots := 0, locals := 45 }) D cs ad N (shP kt) [.ref (ad (38)), .int (nI fr), .int (nI n)] σ τ 0 0 (fun σ9 τ9 => τ = τ9 ∧ gyP σ ns pa ta td tc n σ9) := by
  refine ct_V (cc := cX7_goYear) (maxL := 8) (by decide) rfl (Nat.le_of_ble_eq_true rfl) rfl rfl ?_
  intro p e s m args below meth c A X hr hlk
  refine go_aload_n X dX7_goYear_0 0 rfl rfl ?_
  refine go_bipush X (v := (-9)) dX7_goYear_1 (by decide) ?_
  refine go_puti X (n := 38) (j := 16) (ty := .int) (by omega) rfl rfl (fun _ h9 => List.mem_cons_of_mem _ (List.mem_append_right _ h9)) (by decide) (List.mem_cons_of_mem _ (List.mem_append_left _ (List.mem_of_getElem? (i := 0) rfl))) rfl tyX7 tyX7_ok nmX7 rfl (by decide +kernel) rfl rfl dX7_goYear_3 ?_
  refine go_aload_n X dX7_goYear_6 0 rfl rfl ?_
  refine go_iconst X (v := 0) dX7_goYear_7 (by decide) ?_
  refine go_puti X (n := 38) (j := 17) (ty := .int) (by omega) rfl rfl (fun _ h9 => List.mem_cons_of_mem _ (List.mem_append_right _ h9)) (by decide) (List.mem_cons_of_mem _ (List.mem_append_left _ (List.mem_of_getElem? (i := 1) rfl))) rfl tyX7 tyX7_ok nmX7 rfl (by decide +kernel) rfl rfl dX7_goYear_8 ?_
  refine go_aload_n X dX7_goYear_11 0 rfl rfl ?_
  refine go_iconst X (v := 0) dX7_goYear_12 (by decide) ?_
  refine go_puti X (n := 38) (j := 18) (ty := .int) (by omega) rfl rfl (fun _ h9 => List.mem_cons_of_mem _ (List.mem_append_right _ h9)) (by decide) (List.mem_cons_of_mem _ (List.mem_append_left _ (List.mem_of_getElem? (i := 2) rfl))) rfl tyX7 tyX7_ok nmX7 rfl (by decide +kernel) rfl rfl dX7_goYear_13 ?_
  refine go_iconst X (v := 0) dX7_goYear_16 (by decide) ?_
  refine go_istore_n X (lv2 := [(3, .int 0), (0, .ref (ad (38))), (1, .int (nI fr)), (2, .int (nI n))]) dX7_goYear_17 rfl (by decide) rfl ?_
  refine go_loop (ι := Nat × vSg) (fun i9 => (i9.1 ≤ ns) ∧ (∀ q, q ≠ 38 → q ≠ 49 → i9.2 q = σ q) ∧ (∀ j, j ≠ 16 → j ≠ 17 → j ≠ 18 → i9.2 38 j = σ 38 j) ∧ (i9.2 38 16 = -9) ∧ (i9.2 38 17 = 0) ∧ (i9.2 38 18 = 0) ∧ (∀ b, b < i9.1 → i9.2 49 b = nI (pa b))) (fun i9 => ns - i9.1) (fun i9 => i9.2) (fun i9 => τ) (fun i9 => [(3, .int (nI i9.1)), (0, .ref (ad (38))), (1, .int (nI fr)), (2, .int (nI n))]) (fun i9 => []) (0, (up2 (up2 (up2 σ 38 16 (-9)) 38 17 0) 38 18 0)) (by (try dsimp only); exact ⟨Nat.zero_le _, fun q h38 _ => by rw [up2_row h38, up2_row h38, up2_row h38], fun j h16 h17 h18 => by rw [up2_ne (by omega), up2_ne (by omega), up2_ne (by omega)], by rw [up2_ne (by omega), up2_ne (by omega), up2_self], by rw [up2_ne (by omega), up2_self], up2_self, fun _ h => absurd h (Nat.not_lt_zero _)⟩) ?_
  intro i9 hi9 ih18
  obtain ⟨a, ρ⟩ := i9
  (try dsimp only at hi9); (try dsimp only at ih18); (try dsimp only)
  obtain ⟨ha, hag, haj, h16, h17, h18, hlf⟩ := hi9
  refine go_iload_n X dX7_goYear_18 0 rfl rfl ?_
  refine go_aload_n X dX7_goYear_19 1 rfl rfl ?_
  refine go_geti X (n := 38) (j := 5) (by omega) rfl rfl (fun _ h9 => List.mem_cons_of_mem _ (List.mem_append_right _ h9)) (by decide) (List.mem_cons_of_mem _ (List.mem_append_left _ (List.mem_of_getElem? (i := 3) rfl))) rfl dX7_goYear_20 ?_
  refine go_topi (v := nI ns) (((haj 5 (by omega) (by omega) (by omega)).trans hns)) ?_
  refine go_icmpn_ge X (tgt := 44) dX7_goYear_23 (by decide) (a := a) (b := ns) rfl rfl (by omega) (by omega) (fun c23 => ?_) (fun c23 => ?_)
  · skip
    refine go_iconst X (v := 0) dX7_goYear_44 (by decide) ?_
    refine go_istore_n X (lv2 := [(3, .int 0), (0, .ref (ad (38))), (1, .int (nI fr)), (2, .int (nI n))]) dX7_goYear_45 rfl (by decide) rfl ?_
    refine go_loop (ι := Nat × vSg) (fun i9 => (i9.1 ≤ n) ∧ (gyP σ ns pa ta td tc i9.1 i9.2)) (fun i9 => n - i9.1) (fun i9 => i9.2) (fun i9 => τ) (fun i9 => [(3, .int (nI i9.1)), (0, .ref (ad (38))), (1, .int (nI fr)), (2, .int (nI n))]) (fun i9 => []) (0, ρ) (by (try dsimp only); exact ⟨Nat.zero_le _, hag, haj, by rw [h16]; rfl, fun _ => ⟨by rw [h17]; rfl, by rw [h18]; rfl, fun b hb => by rw [hlf b (by omega)]; rfl⟩⟩) ?_
    intro i9 hi9 ih46
    obtain ⟨t, ρ⟩ := i9
    (try dsimp only at hi9); (try dsimp only at ih46); (try dsimp only)
    obtain ⟨ht, hP⟩ := hi9
    refine go_iload_n X dX7_goYear_46 0 rfl rfl ?_
    refine go_iload_n X dX7_goYear_47 3 rfl rfl ?_
    refine go_icmpn_ge X (tgt := 260) dX7_goYear_48 (by decide) (a := t) (b := n) rfl rfl (by omega) (by omega) (fun c48 => ?_) (fun c48 => ?_)
    · skip
      exact go_return X hr hlk dX7_goYear_260 (⟨rfl, by rw [show n = t by omega]; exact hP⟩)
    · skip
      refine go_aload_n X dX7_goYear_51 1 rfl rfl ?_
      refine go_geti X (n := 38) (j := 16) (by omega) rfl rfl (fun _ h9 => List.mem_cons_of_mem _ (List.mem_append_right _ h9)) (by decide) (List.mem_cons_of_mem _ (List.mem_append_left _ (List.mem_of_getElem? (i := 0) rfl))) rfl dX7_goYear_52 ?_
      refine go_topi (v := yFw pa ta td tc (uvM σ) t) hP.2.2.1 ?_
      refine go_if_ge X (tgt := 260) dX7_goYear_55 (by decide) (fun c55 => ?_) (fun c55 => ?_)
      · skip
        exact go_return X hr hlk dX7_goYear_260 (⟨rfl, gyP_end hP (fun q => absurd c55 ((yFw_neg (by omega)).mpr q)) ht⟩)
      · skip
        have hfw := (yFw_neg (by omega)).mp c55
        refine go_aload_n X dX7_goYear_58 1 rfl rfl ?_
        refine go_getr X (n := 38) (j := 27) (by omega) rfl rfl (fun _ h9 => List.mem_cons_of_mem _ (List.mem_append_right _ h9)) (by decide) (List.mem_cons_of_mem _ (List.mem_append_left _ (List.mem_of_getElem? (i := 6) rfl))) rfl dX7_goYear_59 ?_
        refine go_iload_n X dX7_goYear_62 2 rfl rfl ?_
        refine go_iconst X (v := 3) dX7_goYear_63 (by decide) ?_
        refine go_iload_n X dX7_goYear_64 0 rfl rfl ?_
        refine go_imul X dX7_goYear_65 ?_
        refine go_topi (v := nI (3 * t)) (pk_mul 3 t) ?_
        refine go_iadd X dX7_goYear_66 ?_
        refine go_topi (v := nI (fr + (3 * t))) (nI_add fr (3 * t)) ?_
        refine go_iald X (n := 56) (k := fr + (3 * t)) (by omega) rfl rfl (by omega) (by omega) dX7_goYear_67 ?_
        obtain ⟨ta1, ta2, td1, td2, tc1, tc2, hk3⟩ := hT t (by omega)
        refine go_topi (v := nI (ta t)) ((congrFun (hP.1 56 (by omega) (by omega)) _).trans ta1) ?_
        refine go_istore X (lv2 := [(4, .int (nI (ta t))), (3, .int (nI t)), (0, .ref (ad (38))), (1, .int (nI fr)), (2, .int (nI n))]) dX7_goYear_68 (by decide) rfl ?_
        refine go_aload_n X dX7_goYear_70 2 rfl rfl ?_
        refine go_getr X (n := 38) (j := 27) (by omega) rfl rfl (fun _ h9 => List.mem_cons_of_mem _ (List.mem_append_right _ h9)) (by decide) (List.mem_cons_of_mem _ (List.mem_append_left _ (List.mem_of_getElem? (i := 6) rfl))) rfl dX7_goYear_71 ?_
        refine go_iload_n X dX7_goYear_74 3 rfl rfl ?_
        refine go_iconst X (v := 3) dX7_goYear_75 (by decide) ?_
        refine go_iload_n X dX7_goYear_76 1 rfl rfl ?_
        refine go_imul X dX7_goYear_77 ?_
        refine go_topi (v := nI (3 * t)) (pk_mul 3 t) ?_
        refine go_iadd X dX7_goYear_78 ?_
        refine go_topi (v := nI (fr + (3 * t))) (nI_add fr (3 * t)) ?_
        refine go_iconst X (v := 1) dX7_goYear_79 (by decide) ?_
        refine go_iadd X dX7_goYear_80 ?_
        refine go_topi (v := nI ((fr + (3 * t)) + 1)) (nI_add (fr + (3 * t)) 1) ?_
        refine go_iald X (n := 56) (k := (fr + (3 * t)) + 1) (by omega) rfl rfl (by omega) (by omega) dX7_goYear_81 ?_
        refine go_topi (v := nI (td t)) ((congrFun (hP.1 56 (by omega) (by omega)) _).trans td1) ?_
        refine go_istore X (lv2 := [(5, .int (nI (td t))), (4, .int (nI (ta t))), (3, .int (nI t)), (0, .ref (ad (38))), (1, .int (nI fr)), (2, .int (nI n))]) dX7_goYear_82 (by decide) rfl ?_
        refine go_aload_n X dX7_goYear_84 3 rfl rfl ?_
        refine go_getr X (n := 38) (j := 27) (by omega) rfl rfl (fun _ h9 => List.mem_cons_of_mem _ (List.mem_append_right _ h9)) (by decide) (List.mem_cons_of_mem _ (List.mem_append_left _ (List.mem_of_getElem? (i := 6) rfl))) rfl dX7_goYear_85 ?_
        refine go_iload_n X dX7_goYear_88 4 rfl rfl ?_
        refine go_iconst X (v := 3) dX7_goYear_89 (by decide) ?_
        refine go_iload_n X dX7_goYear_90 2 rfl rfl ?_
        refine go_imul X dX7_goYear_91 ?_
        refine go_topi (v := nI (3 * t)) (pk_mul 3 t) ?_
        refine go_iadd X dX7_goYear_92 ?_
        refine go_topi (v := nI (fr + (3 * t))) (nI_add fr (3 * t)) ?_
        refine go_iconst X (v := 2) dX7_goYear_93 (by decide) ?_
        refine go_iadd X dX7_goYear_94 ?_
        refine go_topi (v := nI ((fr + (3 * t)) + 2)) (nI_add (fr + (3 * t)) 2) ?_
        refine go_iald X (n := 56) (k := (fr + (3 * t)) + 2) (by omega) rfl rfl (by omega) (by omega) dX7_goYear_95 ?_
        refine go_topi (v := nI (tc t)) ((congrFun (hP.1 56 (by omega) (by omega)) _).trans tc1) ?_
        rcases (show tc t = 0 ∨ tc t = 1 ∨ tc t = 2 by omega) with e9 | e9 | e9
        · skip
          refine go_topi (v := 0) (by rw [e9]; rfl) ?_
          refine go_istore X (lv2 := [(6, .int 0), (5, .int (nI (td t))), (4, .int (nI (ta t))), (3, .int (nI t)), (0, .ref (ad (38))), (1, .int (nI fr)), (2, .int (nI n))]) dX7_goYear_96 (by decide) rfl ?_
          refine go_iload X dX7_goYear_98 0 rfl ?_
          refine go_iconst X (v := 1) dX7_goYear_100 (by decide) ?_
          refine go_icmp_ne X (tgt := 115) dX7_goYear_101 (by decide) (fun _ => ?_) (fun h9 => absurd h9 (by decide))
          refine go_iload X dX7_goYear_115 0 rfl ?_
          refine go_iconst X (v := 2) dX7_goYear_117 (by decide) ?_
          refine go_icmp_ne X (tgt := 135) dX7_goYear_118 (by decide) (fun _ => ?_) (fun h9 => absurd h9 (by decide))
          refine go_iconst X (v := 0) dX7_goYear_135 (by decide) ?_
          refine go_istore X (lv2 := [(7, .int 0), (6, .int 0), (5, .int (nI (td t))), (4, .int (nI (ta t))), (3, .int (nI t)), (0, .ref (ad (38))), (1, .int (nI fr)), (2, .int (nI n))]) dX7_goYear_136 (by decide) rfl ?_
          refine go_aload_n X dX7_goYear_138 5 rfl rfl ?_
          refine go_iload X dX7_goYear_139 0 rfl ?_
          refine go_if_eq X (tgt := 148) dX7_goYear_141 (by decide) (fun _ => ?_) (fun h9 => absurd h9 (by decide))
          refine go_bipush X (v := (-9)) dX7_goYear_148 (by decide) ?_
          refine go_puti X (n := 38) (j := 16) (ty := .int) (by omega) rfl rfl (fun _ h9 => List.mem_cons_of_mem _ (List.mem_append_right _ h9)) (by decide) (List.mem_cons_of_mem _ (List.mem_append_left _ (List.mem_of_getElem? (i := 0) rfl))) rfl tyX7 tyX7_ok nmX7 rfl (by decide +kernel) rfl rfl dX7_goYear_150 ?_
          refine go_aload_n X dX7_goYear_153 5 rfl rfl ?_
          refine go_dup X dX7_goYear_154 rfl ?_
          refine go_geti X (n := 38) (j := 17) (by omega) rfl rfl (fun _ h9 => List.mem_cons_of_mem _ (List.mem_append_right _ h9)) (by decide) (List.mem_cons_of_mem _ (List.mem_append_left _ (List.mem_of_getElem? (i := 1) rfl))) rfl dX7_goYear_155 ?_
          refine go_topi (v := ρ 38 17) ((up2_ne (by omega))) ?_
          refine go_iload X dX7_goYear_158 0 rfl ?_
          refine go_if_ne X (tgt := 168) dX7_goYear_160 (by decide) (fun h9 => absurd h9 (by decide)) (fun _ => ?_)
          refine go_iload X dX7_goYear_163 1 rfl ?_
          refine go_if_ne X (tgt := 172) dX7_goYear_165 (by decide) (fun h9 => absurd h9 (by decide)) (fun _ => ?_)
          refine go_iconst X (v := 0) dX7_goYear_168 (by decide) ?_
          refine go_goto X (tgt := 199) dX7_goYear_169 (by decide) ?_
          refine go_iadd X dX7_goYear_199 ?_
          refine go_puti X (n := 38) (j := 17) (ty := .int) (by omega) rfl rfl (fun _ h9 => List.mem_cons_of_mem _ (List.mem_append_right _ h9)) (by decide) (List.mem_cons_of_mem _ (List.mem_append_left _ (List.mem_of_getElem? (i := 1) rfl))) rfl tyX7 tyX7_ok nmX7 rfl (by decide +kernel) rfl rfl dX7_goYear_200 ?_
          refine go_aload_n X dX7_goYear_203 5 rfl rfl ?_
          refine go_dup X dX7_goYear_204 rfl ?_
          refine go_geti X (n := 38) (j := 18) (by omega) rfl rfl (fun _ h9 => List.mem_cons_of_mem _ (List.mem_append_right _ h9)) (by decide) (List.mem_cons_of_mem _ (List.mem_append_left _ (List.mem_of_getElem? (i := 2) rfl))) rfl dX7_goYear_205 ?_
          refine go_topi (v := ρ 38 18) ((up2_ne (by omega)).trans (up2_ne (by omega))) ?_
          refine go_iload X dX7_goYear_208 0 rfl ?_
          refine go_if_ne X (tgt := 223) dX7_goYear_210 (by decide) (fun h9 => absurd h9 (by decide)) (fun _ => ?_)
          refine go_iload X dX7_goYear_213 1 rfl ?_
          refine go_iconst X (v := 2) dX7_goYear_215 (by decide) ?_
          refine go_icmp_ne X (tgt := 223) dX7_goYear_216 (by decide) (fun _ => ?_) (fun h9 => absurd h9 (by decide))
          refine go_iconst X (v := 0) dX7_goYear_223 (by decide) ?_
          refine go_iadd X dX7_goYear_224 ?_
          refine go_puti X (n := 38) (j := 18) (ty := .int) (by omega) rfl rfl (fun _ h9 => List.mem_cons_of_mem _ (List.mem_append_right _ h9)) (by decide) (List.mem_cons_of_mem _ (List.mem_append_left _ (List.mem_of_getElem? (i := 2) rfl))) rfl tyX7 tyX7_ok nmX7 rfl (by decide +kernel) rfl rfl dX7_goYear_225 ?_
          refine go_aload_n X dX7_goYear_228 5 rfl rfl ?_
          refine go_getr X (n := 38) (j := 19) (by omega) rfl rfl (fun _ h9 => List.mem_cons_of_mem _ (List.mem_append_right _ h9)) (by decide) (List.mem_cons_of_mem _ (List.mem_append_left _ (List.mem_of_getElem? (i := 4) rfl))) rfl dX7_goYear_229 ?_
          refine go_iload X dX7_goYear_232 3 rfl ?_
          refine go_dup2 X dX7_goYear_234 rfl rfl ?_
          refine go_iald X (n := 49) (k := ta t) (by omega) rfl rfl (by omega) (by omega) dX7_goYear_235 ?_
          refine go_topi (v := ρ 49 (ta t)) ((up2_ne (by omega)).trans ((up2_ne (by omega)).trans (up2_ne (by omega)))) ?_
          refine go_topi (v := nI (yLf pa ta tc t (ta t))) ((hP.2.2.2 hfw).2.2 _ ta2) ?_
          refine go_iload X dX7_goYear_236 0 rfl ?_
          refine go_if_ne X (tgt := 251) dX7_goYear_238 (by decide) (fun h9 => absurd h9 (by decide)) (fun _ => ?_)
          refine go_iload X dX7_goYear_241 1 rfl ?_
          refine go_iconst X (v := 2) dX7_goYear_243 (by decide) ?_
          refine go_icmp_ne X (tgt := 251) dX7_goYear_244 (by decide) (fun _ => ?_) (fun h9 => absurd h9 (by decide))
          refine go_iconst X (v := 0) dX7_goYear_251 (by decide) ?_
          refine go_isub X dX7_goYear_252 ?_
          refine go_iast X (n := 49) (k := ta t) (by omega) rfl rfl (by omega) (by omega) dX7_goYear_253 ?_
          refine go_iinc X (v := nI (t + 1)) (lv2 := [(3, .int (nI (t + 1))), (7, .int 0), (6, .int 0), (5, .int (nI (td t))), (4, .int (nI (ta t))), (0, .ref (ad (38))), (1, .int (nI fr)), (2, .int (nI n))]) dX7_goYear_254 (k := 4) rfl (nI_add t 1) (by decide) rfl ?_
          refine go_goto X (tgt := 46) dX7_goYear_257 (by decide) ?_
          refine go_lvsub [0, 5, 6, 7] rfl ?_
          exact ih46 (t + 1, (up2 (up2 (up2 (up2 ρ 38 16 (-9)) 38 17 ((ρ 38 17) + 0)) 38 18 ((ρ 38 18) + 0)) 49 (ta t) ((nI (yLf pa ta tc t (ta t))) - 0))) (by (try dsimp only); exact ⟨by omega, gyP_go hP hfw (by rintro (⟨q, -⟩ | ⟨q, -⟩) <;> omega) ta2 (by rw [(hP.2.2.2 hfw).1]; simp only [ySum]; rw [if_neg (by omega), if_neg (by omega)]) (by rw [(hP.2.2.2 hfw).2.1]; simp only [yPd]; rw [if_neg (by omega)]; exact Int32.add_zero _) (by simp only [yLf]; rw [if_neg (fun q => by omega)]; exact Int32.sub_zero _)⟩) (by (try dsimp only); omega)
        · skip
          refine go_topi (v := 1) (by rw [e9]; rfl) ?_
          refine go_istore X (lv2 := [(6, .int 1), (5, .int (nI (td t))), (4, .int (nI (ta t))), (3, .int (nI t)), (0, .ref (ad (38))), (1, .int (nI fr)), (2, .int (nI n))]) dX7_goYear_96 (by decide) rfl ?_
          refine go_iload X dX7_goYear_98 0 rfl ?_
          refine go_iconst X (v := 1) dX7_goYear_100 (by decide) ?_
          refine go_icmp_ne X (tgt := 115) dX7_goYear_101 (by decide) (fun h9 => absurd h9 (by decide)) (fun _ => ?_)
          refine go_aload_n X dX7_goYear_104 4 rfl rfl ?_
          refine go_iload X dX7_goYear_105 2 rfl ?_
          refine go_iload X dX7_goYear_107 1 rfl ?_
          refine go_callVI X (n := 38) (As := [.int (nI (ta t)), .int (nI (td t))]) (rest := []) (kX7_valueOf l D cs ad N kt (by omega) ρ τ (ta t) (td t) (ρ 42 (ta t)) (rfl) (ρ 39 (td t)) (rfl) (ρ 40 (td t)) (rfl) (ρ 41 (td t)) (rfl) (by omega) (by omega) (by rw [hP.1 42 (by omega) (by omega)]; exact hk3)) gX7_goYear_X7_valueOf rfl hdX7_valueOf ⟨rfl, rfl, by decide, by decide, by decide, by decide⟩ (by omega) rfl rfl rfl rfl (Nat.le_of_ble_eq_true rfl) dX7_goYear_109 (fun r9 σ9 τ9 h9 => ?_)
          obtain ⟨rfl, rfl, rfl⟩ := h9
          refine go_topi (v := uvM σ (ta t) (td t)) (uvM_off hP.1) ?_
          refine go_if_le X (tgt := 131) dX7_goYear_112 (by decide) (fun c112 => ?_) (fun c112 => ?_)
          · skip
            refine go_iconst X (v := 1) dX7_goYear_131 (by decide) ?_
            refine go_goto X (tgt := 136) dX7_goYear_132 (by decide) ?_
            refine go_istore X (lv2 := [(7, .int 1), (6, .int 1), (5, .int (nI (td t))), (4, .int (nI (ta t))), (3, .int (nI t)), (0, .ref (ad (38))), (1, .int (nI fr)), (2, .int (nI n))]) dX7_goYear_136 (by decide) rfl ?_
            refine go_aload_n X dX7_goYear_138 5 rfl rfl ?_
            refine go_iload X dX7_goYear_139 0 rfl ?_
            refine go_if_eq X (tgt := 148) dX7_goYear_141 (by decide) (fun h9 => absurd h9 (by decide)) (fun _ => ?_)
            refine go_iload_n X dX7_goYear_144 4 rfl rfl ?_
            refine go_goto X (tgt := 150) dX7_goYear_145 (by decide) ?_
            refine go_puti X (n := 38) (j := 16) (ty := .int) (by omega) rfl rfl (fun _ h9 => List.mem_cons_of_mem _ (List.mem_append_right _ h9)) (by decide) (List.mem_cons_of_mem _ (List.mem_append_left _ (List.mem_of_getElem? (i := 0) rfl))) rfl tyX7 tyX7_ok nmX7 rfl (by decide +kernel) rfl rfl dX7_goYear_150 ?_
            refine go_aload_n X dX7_goYear_153 5 rfl rfl ?_
            refine go_dup X dX7_goYear_154 rfl ?_
            refine go_geti X (n := 38) (j := 17) (by omega) rfl rfl (fun _ h9 => List.mem_cons_of_mem _ (List.mem_append_right _ h9)) (by decide) (List.mem_cons_of_mem _ (List.mem_append_left _ (List.mem_of_getElem? (i := 1) rfl))) rfl dX7_goYear_155 ?_
            refine go_topi (v := ρ 38 17) ((up2_ne (by omega))) ?_
            refine go_iload X dX7_goYear_158 0 rfl ?_
            refine go_if_ne X (tgt := 168) dX7_goYear_160 (by decide) (fun _ => ?_) (fun h9 => absurd h9 (by decide))
            refine go_iconst X (v := 0) dX7_goYear_168 (by decide) ?_
            refine go_goto X (tgt := 199) dX7_goYear_169 (by decide) ?_
            refine go_iadd X dX7_goYear_199 ?_
            refine go_puti X (n := 38) (j := 17) (ty := .int) (by omega) rfl rfl (fun _ h9 => List.mem_cons_of_mem _ (List.mem_append_right _ h9)) (by decide) (List.mem_cons_of_mem _ (List.mem_append_left _ (List.mem_of_getElem? (i := 1) rfl))) rfl tyX7 tyX7_ok nmX7 rfl (by decide +kernel) rfl rfl dX7_goYear_200 ?_
            refine go_aload_n X dX7_goYear_203 5 rfl rfl ?_
            refine go_dup X dX7_goYear_204 rfl ?_
            refine go_geti X (n := 38) (j := 18) (by omega) rfl rfl (fun _ h9 => List.mem_cons_of_mem _ (List.mem_append_right _ h9)) (by decide) (List.mem_cons_of_mem _ (List.mem_append_left _ (List.mem_of_getElem? (i := 2) rfl))) rfl dX7_goYear_205 ?_
            refine go_topi (v := ρ 38 18) ((up2_ne (by omega)).trans (up2_ne (by omega))) ?_
            refine go_iload X dX7_goYear_208 0 rfl ?_
            refine go_if_ne X (tgt := 223) dX7_goYear_210 (by decide) (fun _ => ?_) (fun h9 => absurd h9 (by decide))
            refine go_iconst X (v := 0) dX7_goYear_223 (by decide) ?_
            refine go_iadd X dX7_goYear_224 ?_
            refine go_puti X (n := 38) (j := 18) (ty := .int) (by omega) rfl rfl (fun _ h9 => List.mem_cons_of_mem _ (List.mem_append_right _ h9)) (by decide) (List.mem_cons_of_mem _ (List.mem_append_left _ (List.mem_of_getElem? (i := 2) rfl))) rfl tyX7 tyX7_ok nmX7 rfl (by decide +kernel) rfl rfl dX7_goYear_225 ?_
            refine go_aload_n X dX7_goYear_228 5 rfl rfl ?_
            refine go_getr X (n := 38) (j := 19) (by omega) rfl rfl (fun _ h9 => List.mem_cons_of_mem _ (List.mem_append_right _ h9)) (by decide) (List.mem_cons_of_mem _ (List.mem_append_left _ (List.mem_of_getElem? (i := 4) rfl))) rfl dX7_goYear_229 ?_
            refine go_iload X dX7_goYear_232 3 rfl ?_
            refine go_dup2 X dX7_goYear_234 rfl rfl ?_
            refine go_iald X (n := 49) (k := ta t) (by omega) rfl rfl (by omega) (by omega) dX7_goYear_235 ?_
            refine go_topi (v := ρ 49 (ta t)) ((up2_ne (by omega)).trans ((up2_ne (by omega)).trans (up2_ne (by omega)))) ?_
            refine go_topi (v := nI (yLf pa ta tc t (ta t))) ((hP.2.2.2 hfw).2.2 _ ta2) ?_
            refine go_iload X dX7_goYear_236 0 rfl ?_
            refine go_if_ne X (tgt := 251) dX7_goYear_238 (by decide) (fun _ => ?_) (fun h9 => absurd h9 (by decide))
            refine go_iconst X (v := 0) dX7_goYear_251 (by decide) ?_
            refine go_isub X dX7_goYear_252 ?_
            refine go_iast X (n := 49) (k := ta t) (by omega) rfl rfl (by omega) (by omega) dX7_goYear_253 ?_
            refine go_iinc X (v := nI (t + 1)) (lv2 := [(3, .int (nI (t + 1))), (7, .int 1), (6, .int 1), (5, .int (nI (td t))), (4, .int (nI (ta t))), (0, .ref (ad (38))), (1, .int (nI fr)), (2, .int (nI n))]) dX7_goYear_254 (k := 4) rfl (nI_add t 1) (by decide) rfl ?_
            refine go_goto X (tgt := 46) dX7_goYear_257 (by decide) ?_
            refine go_lvsub [0, 5, 6, 7] rfl ?_
            exact ih46 (t + 1, (up2 (up2 (up2 (up2 ρ 38 16 (nI t)) 38 17 ((ρ 38 17) + 0)) 38 18 ((ρ 38 18) + 0)) 49 (ta t) ((nI (yLf pa ta tc t (ta t))) - 0))) (by (try dsimp only); exact ⟨by omega, gyP_bad hP hfw (by omega) (Or.inr ⟨e9, Int32.not_lt.mpr c112⟩)⟩) (by (try dsimp only); omega)
          · skip
            refine go_iload X dX7_goYear_115 0 rfl ?_
            refine go_iconst X (v := 2) dX7_goYear_117 (by decide) ?_
            refine go_icmp_ne X (tgt := 135) dX7_goYear_118 (by decide) (fun _ => ?_) (fun h9 => absurd h9 (by decide))
            refine go_iconst X (v := 0) dX7_goYear_135 (by decide) ?_
            refine go_istore X (lv2 := [(7, .int 0), (6, .int 1), (5, .int (nI (td t))), (4, .int (nI (ta t))), (3, .int (nI t)), (0, .ref (ad (38))), (1, .int (nI fr)), (2, .int (nI n))]) dX7_goYear_136 (by decide) rfl ?_
            refine go_aload_n X dX7_goYear_138 5 rfl rfl ?_
            refine go_iload X dX7_goYear_139 0 rfl ?_
            refine go_if_eq X (tgt := 148) dX7_goYear_141 (by decide) (fun _ => ?_) (fun h9 => absurd h9 (by decide))
            refine go_bipush X (v := (-9)) dX7_goYear_148 (by decide) ?_
            refine go_puti X (n := 38) (j := 16) (ty := .int) (by omega) rfl rfl (fun _ h9 => List.mem_cons_of_mem _ (List.mem_append_right _ h9)) (by decide) (List.mem_cons_of_mem _ (List.mem_append_left _ (List.mem_of_getElem? (i := 0) rfl))) rfl tyX7 tyX7_ok nmX7 rfl (by decide +kernel) rfl rfl dX7_goYear_150 ?_
            refine go_aload_n X dX7_goYear_153 5 rfl rfl ?_
            refine go_dup X dX7_goYear_154 rfl ?_
            refine go_geti X (n := 38) (j := 17) (by omega) rfl rfl (fun _ h9 => List.mem_cons_of_mem _ (List.mem_append_right _ h9)) (by decide) (List.mem_cons_of_mem _ (List.mem_append_left _ (List.mem_of_getElem? (i := 1) rfl))) rfl dX7_goYear_155 ?_
            refine go_topi (v := ρ 38 17) ((up2_ne (by omega))) ?_
            refine go_iload X dX7_goYear_158 0 rfl ?_
            refine go_if_ne X (tgt := 168) dX7_goYear_160 (by decide) (fun h9 => absurd h9 (by decide)) (fun _ => ?_)
            refine go_iload X dX7_goYear_163 1 rfl ?_
            refine go_if_ne X (tgt := 172) dX7_goYear_165 (by decide) (fun _ => ?_) (fun h9 => absurd h9 (by decide))
            refine go_iload X dX7_goYear_172 1 rfl ?_
            refine go_iconst X (v := 1) dX7_goYear_174 (by decide) ?_
            refine go_icmp_ne X (tgt := 189) dX7_goYear_175 (by decide) (fun h9 => absurd h9 (by decide)) (fun _ => ?_)
            refine go_aload_n X dX7_goYear_178 5 rfl rfl ?_
            refine go_iload X dX7_goYear_179 3 rfl ?_
            refine go_iload X dX7_goYear_181 2 rfl ?_
            refine go_callVI X (n := 38) (As := [.int (nI (ta t)), .int (nI (td t))]) (rest := [.int (ρ 38 17), .ref (ad (38))]) (kX7_valueOf l D cs ad N kt (by omega) (up2 ρ 38 16 (-9)) τ (ta t) (td t) (ρ 42 (ta t)) ((up2_ne (by omega))) (ρ 39 (td t)) ((up2_ne (by omega))) (ρ 40 (td t)) ((up2_ne (by omega))) (ρ 41 (td t)) ((up2_ne (by omega))) (by omega) (by omega) (by rw [hP.1 42 (by omega) (by omega)]; exact hk3)) gX7_goYear_X7_valueOf rfl hdX7_valueOf ⟨rfl, rfl, by decide, by decide, by decide, by decide⟩ (by omega) rfl rfl rfl rfl (Nat.le_of_ble_eq_true rfl) dX7_goYear_183 (fun r9 σ9 τ9 h9 => ?_)
            obtain ⟨rfl, rfl, rfl⟩ := h9
            refine go_topi (v := uvM σ (ta t) (td t)) (uvM_off hP.1) ?_
            refine go_goto X (tgt := 199) dX7_goYear_186 (by decide) ?_
            refine go_iadd X dX7_goYear_199 ?_
            refine go_puti X (n := 38) (j := 17) (ty := .int) (by omega) rfl rfl (fun _ h9 => List.mem_cons_of_mem _ (List.mem_append_right _ h9)) (by decide) (List.mem_cons_of_mem _ (List.mem_append_left _ (List.mem_of_getElem? (i := 1) rfl))) rfl tyX7 tyX7_ok nmX7 rfl (by decide +kernel) rfl rfl dX7_goYear_200 ?_
            refine go_aload_n X dX7_goYear_203 5 rfl rfl ?_
            refine go_dup X dX7_goYear_204 rfl ?_
            refine go_geti X (n := 38) (j := 18) (by omega) rfl rfl (fun _ h9 => List.mem_cons_of_mem _ (List.mem_append_right _ h9)) (by decide) (List.mem_cons_of_mem _ (List.mem_append_left _ (List.mem_of_getElem? (i := 2) rfl))) rfl dX7_goYear_205 ?_
            refine go_topi (v := ρ 38 18) ((up2_ne (by omega)).trans (up2_ne (by omega))) ?_
            refine go_iload X dX7_goYear_208 0 rfl ?_
            refine go_if_ne X (tgt := 223) dX7_goYear_210 (by decide) (fun h9 => absurd h9 (by decide)) (fun _ => ?_)
            refine go_iload X dX7_goYear_213 1 rfl ?_
            refine go_iconst X (v := 2) dX7_goYear_215 (by decide) ?_
            refine go_icmp_ne X (tgt := 223) dX7_goYear_216 (by decide) (fun _ => ?_) (fun h9 => absurd h9 (by decide))
            refine go_iconst X (v := 0) dX7_goYear_223 (by decide) ?_
            refine go_iadd X dX7_goYear_224 ?_
            refine go_puti X (n := 38) (j := 18) (ty := .int) (by omega) rfl rfl (fun _ h9 => List.mem_cons_of_mem _ (List.mem_append_right _ h9)) (by decide) (List.mem_cons_of_mem _ (List.mem_append_left _ (List.mem_of_getElem? (i := 2) rfl))) rfl tyX7 tyX7_ok nmX7 rfl (by decide +kernel) rfl rfl dX7_goYear_225 ?_
            refine go_aload_n X dX7_goYear_228 5 rfl rfl ?_
            refine go_getr X (n := 38) (j := 19) (by omega) rfl rfl (fun _ h9 => List.mem_cons_of_mem _ (List.mem_append_right _ h9)) (by decide) (List.mem_cons_of_mem _ (List.mem_append_left _ (List.mem_of_getElem? (i := 4) rfl))) rfl dX7_goYear_229 ?_
            refine go_iload X dX7_goYear_232 3 rfl ?_
            refine go_dup2 X dX7_goYear_234 rfl rfl ?_
            refine go_iald X (n := 49) (k := ta t) (by omega) rfl rfl (by omega) (by omega) dX7_goYear_235 ?_
            refine go_topi (v := ρ 49 (ta t)) ((up2_ne (by omega)).trans ((up2_ne (by omega)).trans (up2_ne (by omega)))) ?_
            refine go_topi (v := nI (yLf pa ta tc t (ta t))) ((hP.2.2.2 hfw).2.2 _ ta2) ?_
            refine go_iload X dX7_goYear_236 0 rfl ?_
            refine go_if_ne X (tgt := 251) dX7_goYear_238 (by decide) (fun h9 => absurd h9 (by decide)) (fun _ => ?_)
            refine go_iload X dX7_goYear_241 1 rfl ?_
            refine go_iconst X (v := 2) dX7_goYear_243 (by decide) ?_
            refine go_icmp_ne X (tgt := 251) dX7_goYear_244 (by decide) (fun _ => ?_) (fun h9 => absurd h9 (by decide))
            refine go_iconst X (v := 0) dX7_goYear_251 (by decide) ?_
            refine go_isub X dX7_goYear_252 ?_
            refine go_iast X (n := 49) (k := ta t) (by omega) rfl rfl (by omega) (by omega) dX7_goYear_253 ?_
            refine go_iinc X (v := nI (t + 1)) (lv2 := [(3, .int (nI (t + 1))), (7, .int 0), (6, .int 1), (5, .int (nI (td t))), (4, .int (nI (ta t))), (0, .ref (ad (38))), (1, .int (nI fr)), (2, .int (nI n))]) dX7_goYear_254 (k := 4) rfl (nI_add t 1) (by decide) rfl ?_
            refine go_goto X (tgt := 46) dX7_goYear_257 (by decide) ?_
            refine go_lvsub [0, 5, 6, 7] rfl ?_
            exact ih46 (t + 1, (up2 (up2 (up2 (up2 ρ 38 16 (-9)) 38 17 ((ρ 38 17) + (uvM σ (ta t) (td t)))) 38 18 ((ρ 38 18) + 0)) 49 (ta t) ((nI (yLf pa ta tc t (ta t))) - 0))) (by (try dsimp only); exact ⟨by omega, gyP_go hP hfw (by rintro (⟨q, -⟩ | ⟨-, q⟩); omega; exact q (Int32.not_le.mp c112)) ta2 (by rw [(hP.2.2.2 hfw).1]; simp only [ySum]; rw [if_neg (by omega), if_pos e9]) (by rw [(hP.2.2.2 hfw).2.1]; simp only [yPd]; rw [if_neg (by omega)]; exact Int32.add_zero _) (by simp only [yLf]; rw [if_neg (fun q => by omega)]; exact Int32.sub_zero _)⟩) (by (try dsimp only); omega)
        · skip
          refine go_topi (v := 2) (by rw [e9]; rfl) ?_
          refine go_istore X (lv2 := [(6, .int 2), (5, .int (nI (td t))), (4, .int (nI (ta t))), (3, .int (nI t)), (0, .ref (ad (38))), (1, .int (nI fr)), (2, .int (nI n))]) dX7_goYear_96 (by decide) rfl ?_
          refine go_iload X dX7_goYear_98 0 rfl ?_
          refine go_iconst X (v := 1) dX7_goYear_100 (by decide) ?_
          refine go_icmp_ne X (tgt := 115) dX7_goYear_101 (by decide) (fun _ => ?_) (fun h9 => absurd h9 (by decide))
          refine go_iload X dX7_goYear_115 0 rfl ?_
          refine go_iconst X (v := 2) dX7_goYear_117 (by decide) ?_
          refine go_icmp_ne X (tgt := 135) dX7_goYear_118 (by decide) (fun h9 => absurd h9 (by decide)) (fun _ => ?_)
          refine go_aload_n X dX7_goYear_121 4 rfl rfl ?_
          refine go_getr X (n := 38) (j := 19) (by omega) rfl rfl (fun _ h9 => List.mem_cons_of_mem _ (List.mem_append_right _ h9)) (by decide) (List.mem_cons_of_mem _ (List.mem_append_left _ (List.mem_of_getElem? (i := 4) rfl))) rfl dX7_goYear_122 ?_
          refine go_iload X dX7_goYear_125 2 rfl ?_
          refine go_iald X (n := 49) (k := ta t) (by omega) rfl rfl (by omega) (by omega) dX7_goYear_127 ?_
          have hlf3 := Nat.le_trans (yLf_le pa ta tc t (ta t)) (hpa _ ta2).2
          refine go_topi (v := nI (yLf pa ta tc t (ta t))) ((hP.2.2.2 hfw).2.2 _ ta2) ?_
          refine go_ifn_ne X (tgt := 135) dX7_goYear_128 (by decide) (a := yLf pa ta tc t (ta t)) rfl (by omega) (fun c128 => ?_) (fun c128 => ?_)
          · skip
            refine go_iconst X (v := 0) dX7_goYear_135 (by decide) ?_
            refine go_istore X (lv2 := [(7, .int 0), (6, .int 2), (5, .int (nI (td t))), (4, .int (nI (ta t))), (3, .int (nI t)), (0, .ref (ad (38))), (1, .int (nI fr)), (2, .int (nI n))]) dX7_goYear_136 (by decide) rfl ?_
            refine go_aload_n X dX7_goYear_138 5 rfl rfl ?_
            refine go_iload X dX7_goYear_139 0 rfl ?_
            refine go_if_eq X (tgt := 148) dX7_goYear_141 (by decide) (fun _ => ?_) (fun h9 => absurd h9 (by decide))
            refine go_bipush X (v := (-9)) dX7_goYear_148 (by decide) ?_
            refine go_puti X (n := 38) (j := 16) (ty := .int) (by omega) rfl rfl (fun _ h9 => List.mem_cons_of_mem _ (List.mem_append_right _ h9)) (by decide) (List.mem_cons_of_mem _ (List.mem_append_left _ (List.mem_of_getElem? (i := 0) rfl))) rfl tyX7 tyX7_ok nmX7 rfl (by decide +kernel) rfl rfl dX7_goYear_150 ?_
            refine go_aload_n X dX7_goYear_153 5 rfl rfl ?_
            refine go_dup X dX7_goYear_154 rfl ?_
            refine go_geti X (n := 38) (j := 17) (by omega) rfl rfl (fun _ h9 => List.mem_cons_of_mem _ (List.mem_append_right _ h9)) (by decide) (List.mem_cons_of_mem _ (List.mem_append_left _ (List.mem_of_getElem? (i := 1) rfl))) rfl dX7_goYear_155 ?_
            refine go_topi (v := ρ 38 17) ((up2_ne (by omega))) ?_
            refine go_iload X dX7_goYear_158 0 rfl ?_
            refine go_if_ne X (tgt := 168) dX7_goYear_160 (by decide) (fun h9 => absurd h9 (by decide)) (fun _ => ?_)
            refine go_iload X dX7_goYear_163 1 rfl ?_
            refine go_if_ne X (tgt := 172) dX7_goYear_165 (by decide) (fun _ => ?_) (fun h9 => absurd h9 (by decide))
            refine go_iload X dX7_goYear_172 1 rfl ?_
            refine go_iconst X (v := 1) dX7_goYear_174 (by decide) ?_
            refine go_icmp_ne X (tgt := 189) dX7_goYear_175 (by decide) (fun _ => ?_) (fun h9 => absurd h9 (by decide))
            refine go_bipush X (v := 10) dX7_goYear_189 (by decide) ?_
            refine go_aload_n X dX7_goYear_191 5 rfl rfl ?_
            refine go_getr X (n := 38) (j := 2) (by omega) rfl rfl (fun _ h9 => List.mem_cons_of_mem _ (List.mem_append_right _ h9)) (by decide) (List.mem_cons_of_mem _ (List.mem_append_left _ (List.mem_of_getElem? (i := 7) rfl))) rfl dX7_goYear_192 ?_
            refine go_iload X dX7_goYear_195 2 rfl ?_
            refine go_iald X (n := 39) (k := td t) (by omega) rfl rfl (by omega) (by omega) dX7_goYear_197 ?_
            refine go_topi (v := ρ 39 (td t)) ((up2_ne (by omega))) ?_
            refine go_imul X dX7_goYear_198 ?_
            refine go_iadd X dX7_goYear_199 ?_
            refine go_puti X (n := 38) (j := 17) (ty := .int) (by omega) rfl rfl (fun _ h9 => List.mem_cons_of_mem _ (List.mem_append_right _ h9)) (by decide) (List.mem_cons_of_mem _ (List.mem_append_left _ (List.mem_of_getElem? (i := 1) rfl))) rfl tyX7 tyX7_ok nmX7 rfl (by decide +kernel) rfl rfl dX7_goYear_200 ?_
            refine go_aload_n X dX7_goYear_203 5 rfl rfl ?_
            refine go_dup X dX7_goYear_204 rfl ?_
            refine go_geti X (n := 38) (j := 18) (by omega) rfl rfl (fun _ h9 => List.mem_cons_of_mem _ (List.mem_append_right _ h9)) (by decide) (List.mem_cons_of_mem _ (List.mem_append_left _ (List.mem_of_getElem? (i := 2) rfl))) rfl dX7_goYear_205 ?_
            refine go_topi (v := ρ 38 18) ((up2_ne (by omega)).trans (up2_ne (by omega))) ?_
            refine go_iload X dX7_goYear_208 0 rfl ?_
            refine go_if_ne X (tgt := 223) dX7_goYear_210 (by decide) (fun h9 => absurd h9 (by decide)) (fun _ => ?_)
            refine go_iload X dX7_goYear_213 1 rfl ?_
            refine go_iconst X (v := 2) dX7_goYear_215 (by decide) ?_
            refine go_icmp_ne X (tgt := 223) dX7_goYear_216 (by decide) (fun h9 => absurd h9 (by decide)) (fun _ => ?_)
            refine go_iconst X (v := 1) dX7_goYear_219 (by decide) ?_
            refine go_goto X (tgt := 224) dX7_goYear_220 (by decide) ?_
            refine go_iadd X dX7_goYear_224 ?_
            refine go_puti X (n := 38) (j := 18) (ty := .int) (by omega) rfl rfl (fun _ h9 => List.mem_cons_of_mem _ (List.mem_append_right _ h9)) (by decide) (List.mem_cons_of_mem _ (List.mem_append_left _ (List.mem_of_getElem? (i := 2) rfl))) rfl tyX7 tyX7_ok nmX7 rfl (by decide +kernel) rfl rfl dX7_goYear_225 ?_
            refine go_aload_n X dX7_goYear_228 5 rfl rfl ?_
            refine go_getr X (n := 38) (j := 19) (by omega) rfl rfl (fun _ h9 => List.mem_cons_of_mem _ (List.mem_append_right _ h9)) (by decide) (List.mem_cons_of_mem _ (List.mem_append_left _ (List.mem_of_getElem? (i := 4) rfl))) rfl dX7_goYear_229 ?_
            refine go_iload X dX7_goYear_232 3 rfl ?_
            refine go_dup2 X dX7_goYear_234 rfl rfl ?_
            refine go_iald X (n := 49) (k := ta t) (by omega) rfl rfl (by omega) (by omega) dX7_goYear_235 ?_
            refine go_topi (v := ρ 49 (ta t)) ((up2_ne (by omega)).trans ((up2_ne (by omega)).trans (up2_ne (by omega)))) ?_
            refine go_topi (v := nI (yLf pa ta tc t (ta t))) ((hP.2.2.2 hfw).2.2 _ ta2) ?_
            refine go_iload X dX7_goYear_236 0 rfl ?_
            refine go_if_ne X (tgt := 251) dX7_goYear_238 (by decide) (fun h9 => absurd h9 (by decide)) (fun _ => ?_)
            refine go_iload X dX7_goYear_241 1 rfl ?_
            refine go_iconst X (v := 2) dX7_goYear_243 (by decide) ?_
            refine go_icmp_ne X (tgt := 251) dX7_goYear_244 (by decide) (fun h9 => absurd h9 (by decide)) (fun _ => ?_)
            refine go_iconst X (v := 1) dX7_goYear_247 (by decide) ?_
            refine go_goto X (tgt := 252) dX7_goYear_248 (by decide) ?_
            refine go_isub X dX7_goYear_252 ?_
            refine go_iast X (n := 49) (k := ta t) (by omega) rfl rfl (by omega) (by omega) dX7_goYear_253 ?_
            refine go_iinc X (v := nI (t + 1)) (lv2 := [(3, .int (nI (t + 1))), (7, .int 0), (6, .int 2), (5, .int (nI (td t))), (4, .int (nI (ta t))), (0, .ref (ad (38))), (1, .int (nI fr)), (2, .int (nI n))]) dX7_goYear_254 (k := 4) rfl (nI_add t 1) (by decide) rfl ?_
            refine go_goto X (tgt := 46) dX7_goYear_257 (by decide) ?_
            refine go_lvsub [0, 5, 6, 7] rfl ?_
            exact ih46 (t + 1, (up2 (up2 (up2 (up2 ρ 38 16 (-9)) 38 17 ((ρ 38 17) + (10 * (ρ 39 (td t))))) 38 18 ((ρ 38 18) + 1)) 49 (ta t) ((nI (yLf pa ta tc t (ta t))) - 1))) (by (try dsimp only); exact ⟨by omega, gyP_go hP hfw (by rintro (⟨-, q⟩ | ⟨q, -⟩); exact c128 q; omega) ta2 (by rw [(hP.2.2.2 hfw).1]; simp only [ySum]; rw [if_pos e9]; unfold pvM; rw [hP.1 39 (by omega) (by omega)]) (by rw [(hP.2.2.2 hfw).2.1]; simp only [yPd]; rw [if_pos e9]; exact nI_1 _) (by simp only [yLf]; rw [if_pos ⟨e9, trivial⟩]; exact pk_sub (a := yLf pa ta tc t (ta t)) (b := 1) (Nat.pos_of_ne_zero c128))⟩) (by (try dsimp only); omega)
          · skip
            refine go_iconst X (v := 1) dX7_goYear_131 (by decide) ?_
            refine go_goto X (tgt := 136) dX7_goYear_132 (by decide) ?_
            refine go_istore X (lv2 := [(7, .int 1), (6, .int 2), (5, .int (nI (td t))), (4, .int (nI (ta t))), (3, .int (nI t)), (0, .ref (ad (38))), (1, .int (nI fr)), (2, .int (nI n))]) dX7_goYear_136 (by decide) rfl ?_
            refine go_aload_n X dX7_goYear_138 5 rfl rfl ?_
            refine go_iload X dX7_goYear_139 0 rfl ?_
            refine go_if_eq X (tgt := 148) dX7_goYear_141 (by decide) (fun h9 => absurd h9 (by decide)) (fun _ => ?_)
            refine go_iload_n X dX7_goYear_144 4 rfl rfl ?_
            refine go_goto X (tgt := 150) dX7_goYear_145 (by decide) ?_
            refine go_puti X (n := 38) (j := 16) (ty := .int) (by omega) rfl rfl (fun _ h9 => List.mem_cons_of_mem _ (List.mem_append_right _ h9)) (by decide) (List.mem_cons_of_mem _ (List.mem_append_left _ (List.mem_of_getElem? (i := 0) rfl))) rfl tyX7 tyX7_ok nmX7 rfl (by decide +kernel) rfl rfl dX7_goYear_150 ?_
            refine go_aload_n X dX7_goYear_153 5 rfl rfl ?_
            refine go_dup X dX7_goYear_154 rfl ?_
            refine go_geti X (n := 38) (j := 17) (by omega) rfl rfl (fun _ h9 => List.mem_cons_of_mem _ (List.mem_append_right _ h9)) (by decide) (List.mem_cons_of_mem _ (List.mem_append_left _ (List.mem_of_getElem? (i := 1) rfl))) rfl dX7_goYear_155 ?_
            refine go_topi (v := ρ 38 17) ((up2_ne (by omega))) ?_
            refine go_iload X dX7_goYear_158 0 rfl ?_
            refine go_if_ne X (tgt := 168) dX7_goYear_160 (by decide) (fun _ => ?_) (fun h9 => absurd h9 (by decide))
            refine go_iconst X (v := 0) dX7_goYear_168 (by decide) ?_
            refine go_goto X (tgt := 199) dX7_goYear_169 (by decide) ?_
            refine go_iadd X dX7_goYear_199 ?_
            refine go_puti X (n := 38) (j := 17) (ty := .int) (by omega) rfl rfl (fun _ h9 => List.mem_cons_of_mem _ (List.mem_append_right _ h9)) (by decide) (List.mem_cons_of_mem _ (List.mem_append_left _ (List.mem_of_getElem? (i := 1) rfl))) rfl tyX7 tyX7_ok nmX7 rfl (by decide +kernel) rfl rfl dX7_goYear_200 ?_
            refine go_aload_n X dX7_goYear_203 5 rfl rfl ?_
            refine go_dup X dX7_goYear_204 rfl ?_
            refine go_geti X (n := 38) (j := 18) (by omega) rfl rfl (fun _ h9 => List.mem_cons_of_mem _ (List.mem_append_right _ h9)) (by decide) (List.mem_cons_of_mem _ (List.mem_append_left _ (List.mem_of_getElem? (i := 2) rfl))) rfl dX7_goYear_205 ?_
            refine go_topi (v := ρ 38 18) ((up2_ne (by omega)).trans (up2_ne (by omega))) ?_
            refine go_iload X dX7_goYear_208 0 rfl ?_
            refine go_if_ne X (tgt := 223) dX7_goYear_210 (by decide) (fun _ => ?_) (fun h9 => absurd h9 (by decide))
            refine go_iconst X (v := 0) dX7_goYear_223 (by decide) ?_
            refine go_iadd X dX7_goYear_224 ?_
            refine go_puti X (n := 38) (j := 18) (ty := .int) (by omega) rfl rfl (fun _ h9 => List.mem_cons_of_mem _ (List.mem_append_right _ h9)) (by decide) (List.mem_cons_of_mem _ (List.mem_append_left _ (List.mem_of_getElem? (i := 2) rfl))) rfl tyX7 tyX7_ok nmX7 rfl (by decide +kernel) rfl rfl dX7_goYear_225 ?_
            refine go_aload_n X dX7_goYear_228 5 rfl rfl ?_
            refine go_getr X (n := 38) (j := 19) (by omega) rfl rfl (fun _ h9 => List.mem_cons_of_mem _ (List.mem_append_right _ h9)) (by decide) (List.mem_cons_of_mem _ (List.mem_append_left _ (List.mem_of_getElem? (i := 4) rfl))) rfl dX7_goYear_229 ?_
            refine go_iload X dX7_goYear_232 3 rfl ?_
            refine go_dup2 X dX7_goYear_234 rfl rfl ?_
            refine go_iald X (n := 49) (k := ta t) (by omega) rfl rfl (by omega) (by omega) dX7_goYear_235 ?_
            refine go_topi (v := ρ 49 (ta t)) ((up2_ne (by omega)).trans ((up2_ne (by omega)).trans (up2_ne (by omega)))) ?_
            refine go_topi (v := nI (yLf pa ta tc t (ta t))) ((hP.2.2.2 hfw).2.2 _ ta2) ?_
            refine go_iload X dX7_goYear_236 0 rfl ?_
            refine go_if_ne X (tgt := 251) dX7_goYear_238 (by decide) (fun _ => ?_) (fun h9 => absurd h9 (by decide))
            refine go_iconst X (v := 0) dX7_goYear_251 (by decide) ?_
            refine go_isub X dX7_goYear_252 ?_
            refine go_iast X (n := 49) (k := ta t) (by omega) rfl rfl (by omega) (by omega) dX7_goYear_253 ?_
            refine go_iinc X (v := nI (t + 1)) (lv2 := [(3, .int (nI (t + 1))), (7, .int 1), (6, .int 2), (5, .int (nI (td t))), (4, .int (nI (ta t))), (0, .ref (ad (38))), (1, .int (nI fr)), (2, .int (nI n))]) dX7_goYear_254 (k := 4) rfl (nI_add t 1) (by decide) rfl ?_
            refine go_goto X (tgt := 46) dX7_goYear_257 (by decide) ?_
            refine go_lvsub [0, 5, 6, 7] rfl ?_
            exact ih46 (t + 1, (up2 (up2 (up2 (up2 ρ 38 16 (nI t)) 38 17 ((ρ 38 17) + 0)) 38 18 ((ρ 38 18) + 0)) 49 (ta t) ((nI (yLf pa ta tc t (ta t))) - 0))) (by (try dsimp only); exact ⟨by omega, gyP_bad hP hfw (by omega) (Or.inl ⟨e9, c128⟩)⟩) (by (try dsimp only); omega)
  · skip
    refine go_aload_n X dX7_goYear_26 1 rfl rfl ?_
    refine go_getr X (n := 38) (j := 19) (by omega) rfl rfl (fun _ h9 => List.mem_cons_of_mem _ (List.mem_append_right _ h9)) (by decide) (List.mem_cons_of_mem _ (List.mem_append_left _ (List.mem_of_getElem? (i := 4) rfl))) rfl dX7_goYear_27 ?_
    refine go_iload_n X dX7_goYear_30 0 rfl rfl ?_
    refine go_aload_n X dX7_goYear_31 1 rfl rfl ?_
    refine go_getr X (n := 38) (j := 7) (by omega) rfl rfl (fun _ h9 => List.mem_cons_of_mem _ (List.mem_append_right _ h9)) (by decide) (List.mem_cons_of_mem _ (List.mem_append_left _ (List.mem_of_getElem? (i := 5) rfl))) rfl dX7_goYear_32 ?_
    refine go_iload_n X dX7_goYear_35 0 rfl rfl ?_
    refine go_iald X (n := 43) (k := a) (by omega) rfl rfl (by omega) (by omega) dX7_goYear_36 ?_
    refine go_topi (v := nI (pa a)) ((congrFun (hag 43 (by omega) (by omega)) a).trans (hpa a (by omega)).1) ?_
    refine go_iast X (n := 49) (k := a) (by omega) rfl rfl (by omega) (by omega) dX7_goYear_37 ?_
    refine go_iinc X (v := nI (a + 1)) (lv2 := [(3, .int (nI (a + 1))), (0, .ref (ad (38))), (1, .int (nI fr)), (2, .int (nI n))]) dX7_goYear_38 (k := 0) rfl (nI_add a 1) (by decide) rfl ?_
    refine go_goto X (tgt := 18) dX7_goYear_41 (by decide) ?_
    exact ih18 (a + 1, (up2 ρ 49 a (nI (pa a)))) (by (try dsimp only); exact ⟨by omega, fun q h38 h49 => by rw [up2_row h49]; exact hag q h38 h49, fun j j1 j2 j3 => by rw [up2_ne (by omega)]; exact haj j j1 j2 j3, by rw [up2_ne (by omega)]; exact h16, by rw [up2_ne (by omega)]; exact h17, by rw [up2_ne (by omega)]; exact h18, fun b hb => by rcases Nat.lt_succ_iff_lt_or_eq.mp hb with h | h; rw [up2_ne (by omega)]; exact hlf b h; rw [h, up2_self]⟩) (by (try dsimp only); omega)

theorem fAs_c {th la lane : Int32} : fAsS th la lane = 0 ∨ fAsS th la lane = 1 ∨ fAsS th la lane = 2 := by
  by_cases h : th = 0
  · exact Or.inr (Or.inl (fAs_0 h))
  · by_cases h2 : la = lane
    · exact Or.inl (fAs_1 h h2)
    · exact Or.inr (Or.inr (fAs_2 h h2))
theorem cbF_c {th la le lane i n : Int32} : (fAsS th la lane = 0 ∧ 0 ≤ n ∧ spanS le i n ∧ cbF th la le lane i n = 0) ∨ (fAsS th la lane = 0 ∧ 0 ≤ n ∧ ¬ spanS le i n ∧ cbF th la le lane i n = 3) ∨ (fAsS th la lane = 0 ∧ ¬ 0 ≤ n ∧ cbF th la le lane i n = 4) ∨ (fAsS th la lane = 1 ∧ cbF th la le lane i n = 1) ∨ (fAsS th la lane = 2 ∧ cbF th la le lane i n = 2) := by
  rcases fAs_c (th := th) (la := la) (lane := lane) with f | f | f
  · by_cases hn : 0 ≤ n
    · by_cases hs : spanS le i n
      · exact Or.inl ⟨f, hn, hs, (cif_t f).trans ((cif_t hn).trans (cif_t hs))⟩
      · exact Or.inr (Or.inl ⟨f, hn, hs, (cif_t f).trans ((cif_t hn).trans (cif_f hs))⟩)
    · exact Or.inr (Or.inr (Or.inl ⟨f, hn, (cif_t f).trans (cif_f hn)⟩))
  · exact Or.inr (Or.inr (Or.inr (Or.inl ⟨f, (cif_f (by rw [f]; decide)).trans f⟩)))
  · exact Or.inr (Or.inr (Or.inr (Or.inr ⟨f, (cif_f (by rw [f]; decide)).trans f⟩)))
theorem cb_0 {σ : vSg} {f : Int32} (h : f = 0) : cbR f = 0 ∧ cbG σ f = σ := cbRG0 h
theorem ask_2 {what : Int32} (h : 10 ≤ what ∧ what ≤ 13) : askP what := Or.inr ⟨h.1, by
  have := h.2
  rw [Int32.le_iff_toInt_le] at this
  rw [Int32.lt_iff_toInt_lt]
  rw [show (13 : Int32).toInt = 13 from rfl] at this
  rw [show (14 : Int32).toInt = 14 from rfl]
  omega⟩
theorem ask_n {what : Int32} (h1 : ¬ isB what 3) (h2 : ¬ (10 ≤ what ∧ what ≤ 13)) : ¬ askP what := by
  rintro (q | q)
  · exact h1 q
  · refine h2 ⟨q.1, ?_⟩
    have := q.2
    rw [Int32.lt_iff_toInt_lt] at this
    rw [Int32.le_iff_toInt_le]
    rw [show (14 : Int32).toInt = 14 from rfl] at this
    rw [show (13 : Int32).toInt = 13 from rfl]
    omega
theorem gyear_tie {σ ρ : vSg} {ns : Nat} {kk ii nn : Nat} {what : Int32} (h : gyP σ ns (fun z => toN (σ 43 z)) (fun t => toN (σ 56 (60 * kk + (ii + 3 * t)))) (fun t => toN (σ 56 (60 * kk + (ii + 3 * t + 1)))) (fun t => toN (σ 56 (60 * kk + (ii + 3 * t + 2)))) nn ρ) (hn : ns ≤ 4) : yrS (fun y => σ 56 (60 * kk + y)) (σ 43) (uvM σ) (pvM σ) ns ii nn what = ofYS what (ρ 38 16) (ρ 38 17) (ρ 38 18) (nI ns) (ρ 49) := by
  obtain ⟨-, -, h2, h3⟩ := h
  unfold yrS
  rw [h2]
  exact ofYS_c (by omega) (fun h9 => ⟨(h3 h9).1.symm, (h3 h9).2.1.symm, fun a ha => ((h3 h9).2.2 a ha).symm⟩)
/-- the reference asks in another order -/
theorem ofYS_m {what fw vs pd ns : Int32} {lf : Nat → Int32} (ha : askP what) (h1 : ¬ what = 1) (hf : fw = -9) : ofYS what fw vs pd ns lf = cif (what ≤ 9) (cif (what = 0) vs pd) (cif (isB (what - 10) ns) (lf (toN (what - 10))) (-9)) := by
  unfold ofYS
  rw [cif_f h1, cif_t hf]
  rcases ha with q | q
  · obtain ⟨k, hk, rfl⟩ := isB_nat (b := 3) q (by omega)
    rw [cif_t (show nI k ≤ 9 from nI_le (b := 9) (by omega) (by omega))]
    rcases (show k = 0 ∨ k = 1 ∨ k = 2 by omega) with rfl | rfl | rfl
    · rw [cif_t (by decide), cif_t (by decide)]
    · exact absurd rfl h1
    · rw [cif_f (by decide), cif_t (by decide), cif_f (by decide)]
  · have h0 : ¬ what = 0 := fun e => by rw [e] at q; exact absurd q.1 (by decide)
    have h2 : ¬ what = 2 := fun e => by rw [e] at q; exact absurd q.1 (by decide)
    have h9 : ¬ what ≤ 9 := fun z => by
      have z1 := q.1
      rw [Int32.le_iff_toInt_le] at z z1
      rw [show (10 : Int32).toInt = 10 from rfl] at z1
      rw [show (9 : Int32).toInt = 9 from rfl] at z
      omega
    rw [cif_f h0, cif_f h2, cif_f h9]
theorem hdX7_year : yX7_year.cls = RX7 ∧ yX7_year.cls ≠ "java/lang/invoke/MethodHandle" ∧ yX7_year.cls ≠ "java/lang/invoke/VarHandle" ∧ (parseMethodDescriptor yX7_year.desc).map (fun d => d.parameters.length) = some 5 := by decide +kernel
set_option maxHeartbeats 4000000 in
set_option maxRecDepth 100000 in
theorem kX7_year (l : Launch) (D : va_G) (cs : Nat → ClassId) (ad : Nat → Nat) (N kt : Nat) (hN : 58 ≤ N) (σ : vSg) (τ : vTa) (k : Int32) (lane : Int32) (i : Int32) (n : Int32) (what : Int32) (nd : Nat) (ns : Nat) (nr : Nat)  (hI : IM σ nd ns nr) : CtI l yX7_year wsX7_year ({ frames := 3, cells := 0, slots := 0, locals := 72 }) D cs ad N (shP kt) [.ref (ad (38)), .int k, .int lane, .int i, .int n, .int what] σ τ 0 0 (fun r9 σ9 τ9 => (yearS (thM σ) (σ 55) (σ 54) (fun z9 y9 => σ 56 (60 * z9 + y9)) (σ 43) (uvM σ) (pvM σ) ns nd k lane i n what).1 = r9 ∧ (∀ q, q ≠ 38 → q ≠ 49 → σ9 q = σ q) ∧ (∀ j, j ≠ 0 → j ≠ 16 → j ≠ 17 → j ≠ 18 → σ9 38 j = σ 38 j) ∧ σ9 38 0 = (yearS (thM σ) (σ 55) (σ 54) (fun z9 y9 => σ 56 (60 * z9 + y9)) (σ 43) (uvM σ) (pvM σ) ns nd k lane i n what).2 ∧ τ = τ9) := by
  refine ct_I (cc := cX7_year) (maxL := 10) (by decide) rfl (Nat.le_of_ble_eq_true rfl) rfl rfl ?_
  intro p e s m args below meth c A X hr hlk
  obtain ⟨⟨hnd, hnd5⟩, ⟨hns, hns4⟩, hdd, hkp, ⟨hnr, hnr8⟩, hrd, hsh, hpos⟩ := id hI
  refine go_iload_n X dX7_year_0 1 rfl rfl ?_
  refine go_callSI X (As := [.int k]) (rest := []) (kX7_noSheet l D cs ad N kt (by omega) σ τ k) gX7_year_X7_noSheet rfl hdX7_noSheet ⟨rfl, rfl, by decide, by decide, by decide, by decide⟩ rfl rfl (Nat.le_of_ble_eq_true rfl) dX7_year_1 (fun r9 σ9 τ9 h9 => ?_)
  obtain ⟨rfl, rfl, rfl⟩ := h9
  refine go_ifb_eq X (tgt := 13) dX7_year_4 (by decide) (fun c4 => ?_) (fun c4 => ?_)
  · skip
    obtain ⟨kk, hkk, rfl⟩ := isB_nat (b := 4) (Classical.not_not.mp c4) (by omega)
    refine go_iload X dX7_year_13 5 rfl ?_
    refine go_i2l X (v := what.toInt64) dX7_year_15 rfl ?_
    refine go_lconst X (v := 0) dX7_year_16 (by decide) ?_
    refine go_ldc2 X (v := 2) (List.mem_cons_of_mem _ (List.mem_append_left _ (List.mem_append_left _ (List.mem_of_getElem? (i := 0) rfl)))) dX7_year_17 ?_
    refine go_callSI X (As := [.long what.toInt64, .long 0, .long 2]) (rest := []) (kX7_in l D cs ad N kt (by omega) σ τ what.toInt64 0 2) gX7_year_X7_in rfl hdX7_in ⟨rfl, rfl, by decide, by decide, by decide, by decide⟩ rfl rfl (Nat.le_of_ble_eq_true rfl) dX7_year_20 (fun r9 σ9 τ9 h9 => ?_)
    obtain ⟨rfl, rfl, rfl⟩ := h9
    refine go_topi (v := b2i (isB what 3)) (b2i_c (in_iff rfl rfl)) ?_
    refine go_ifb_ne X (tgt := 41) dX7_year_23 (by decide) (fun c23 => ?_) (fun c23 => ?_)
    · skip
      refine go_iconst X (v := 1) dX7_year_41 (by decide) ?_
      refine go_goto X (tgt := 46) dX7_year_42 (by decide) ?_
      refine go_istore X (lv2 := [(6, .int 1), (0, .ref (ad (38))), (1, .int (nI kk)), (2, .int lane), (3, .int i), (4, .int n), (5, .int what)]) dX7_year_46 (by decide) rfl ?_
      refine go_iload_n X dX7_year_48 3 rfl rfl ?_
      refine go_i2l X (v := lane.toInt64) dX7_year_49 rfl ?_
      refine go_lconst X (v := 0) dX7_year_50 (by decide) ?_
      refine go_ldc2 X (v := 2) (List.mem_cons_of_mem _ (List.mem_append_left _ (List.mem_append_left _ (List.mem_of_getElem? (i := 0) rfl)))) dX7_year_51 ?_
      refine go_callSI X (As := [.long lane.toInt64, .long 0, .long 2]) (rest := []) (kX7_in l D cs ad N kt (by omega) σ τ lane.toInt64 0 2) gX7_year_X7_in rfl hdX7_in ⟨rfl, rfl, by decide, by decide, by decide, by decide⟩ rfl rfl (Nat.le_of_ble_eq_true rfl) dX7_year_54 (fun r9 σ9 τ9 h9 => ?_)
      obtain ⟨rfl, rfl, rfl⟩ := h9
      refine go_topi (v := b2i (isB lane 3)) (b2i_c (in_iff rfl rfl)) ?_
      refine go_ifb_eq X (tgt := 78) dX7_year_57 (by decide) (fun c57 => ?_) (fun c57 => ?_)
      · skip
        refine go_aload_n X dX7_year_78 1 rfl rfl ?_
        refine go_bipush X (v := (-2)) dX7_year_79 (by decide) ?_
        refine go_callVI X (n := 38) (As := [.int (-2)]) (rest := []) (kX7_refused l D cs ad N kt (by omega) σ τ (-2)) gX7_year_X7_refused rfl hdX7_refused ⟨rfl, rfl, by decide, by decide, by decide, by decide⟩ (by omega) rfl rfl rfl rfl (Nat.le_of_ble_eq_true rfl) dX7_year_81 (fun r9 σ9 τ9 h9 => ?_)
        obtain ⟨rfl, rfl, rfl⟩ := h9
        exact go_ireturn X hr hlk dX7_year_84 ((have hE : yearS (thM σ) (σ 55) (σ 54) (fun z9 y9 => σ 56 (60 * z9 + y9)) (σ 43) (uvM σ) (pvM σ) ns nd (nI kk) lane i n what = ((-2), 0) := (by unfold yearS; (try dsimp only); (try rw [toN_nI (k := kk) (by omega)]); exact (cif_t (Classical.not_not.mp c4)).trans ((cif_f c57).trans (rfl))); ⟨by rw [hE], fun q h38 _ => up2_row h38, fun j h0 _ _ _ => up2_ne (by omega), by rw [hE]; exact up2_self, rfl⟩))
      · skip
        refine go_iload X dX7_year_60 5 rfl ?_
        refine go_i2l X (v := n.toInt64) dX7_year_62 rfl ?_
        refine go_lconst X (v := 0) dX7_year_63 (by decide) ?_
        refine go_ldc2 X (v := 20) (List.mem_cons_of_mem _ (List.mem_append_left _ (List.mem_append_left _ (List.mem_of_getElem? (i := 3) rfl)))) dX7_year_64 ?_
        refine go_callSI X (As := [.long n.toInt64, .long 0, .long 20]) (rest := []) (kX7_in l D cs ad N kt (by omega) σ τ n.toInt64 0 20) gX7_year_X7_in rfl hdX7_in ⟨rfl, rfl, by decide, by decide, by decide, by decide⟩ rfl rfl (Nat.le_of_ble_eq_true rfl) dX7_year_67 (fun r9 σ9 τ9 h9 => ?_)
        obtain ⟨rfl, rfl, rfl⟩ := h9
        refine go_topi (v := b2i (isB n 21)) (b2i_c (in_iff rfl rfl)) ?_
        refine go_ifb_eq X (tgt := 78) dX7_year_70 (by decide) (fun c70 => ?_) (fun c70 => ?_)
        · skip
          refine go_aload_n X dX7_year_78 1 rfl rfl ?_
          refine go_bipush X (v := (-2)) dX7_year_79 (by decide) ?_
          refine go_callVI X (n := 38) (As := [.int (-2)]) (rest := []) (kX7_refused l D cs ad N kt (by omega) σ τ (-2)) gX7_year_X7_refused rfl hdX7_refused ⟨rfl, rfl, by decide, by decide, by decide, by decide⟩ (by omega) rfl rfl rfl rfl (Nat.le_of_ble_eq_true rfl) dX7_year_81 (fun r9 σ9 τ9 h9 => ?_)
          obtain ⟨rfl, rfl, rfl⟩ := h9
          exact go_ireturn X hr hlk dX7_year_84 ((have hE : yearS (thM σ) (σ 55) (σ 54) (fun z9 y9 => σ 56 (60 * z9 + y9)) (σ 43) (uvM σ) (pvM σ) ns nd (nI kk) lane i n what = ((-2), 0) := (by unfold yearS; (try dsimp only); (try rw [toN_nI (k := kk) (by omega)]); exact (cif_t (Classical.not_not.mp c4)).trans ((cif_t c57).trans ((cif_f c70).trans (rfl)))); ⟨by rw [hE], fun q h38 _ => up2_row h38, fun j h0 _ _ _ => up2_ne (by omega), by rw [hE]; exact up2_self, rfl⟩))
        · skip
          obtain ⟨nn, hnn, rfl⟩ := isB_nat (b := 21) c70 (by omega)
          refine go_iload X dX7_year_73 0 rfl ?_
          refine go_if_ne X (tgt := 85) dX7_year_75 (by decide) (fun _ => ?_) (fun h9 => absurd h9 (by decide))
          refine go_aload_n X dX7_year_85 1 rfl rfl ?_
          refine go_geti X (n := 38) (j := 5) (by omega) rfl rfl (fun _ h9 => List.mem_cons_of_mem _ (List.mem_append_right _ h9)) (by decide) (List.mem_cons_of_mem _ (List.mem_append_left _ (List.mem_append_left _ (List.mem_of_getElem? (i := 4) rfl)))) rfl dX7_year_86 ?_
          refine go_topi (v := nI ns) (hns) ?_
          refine go_ifn_ne X (tgt := 99) dX7_year_89 (by decide) (a := ns) rfl (by omega) (fun c89 => ?_) (fun c89 => ?_)
          · skip
            refine go_aload_n X dX7_year_99 1 rfl rfl ?_
            refine go_iload_n X dX7_year_100 2 rfl rfl ?_
            refine go_iload_n X dX7_year_101 3 rfl rfl ?_
            refine go_iload_n X dX7_year_102 4 rfl rfl ?_
            refine go_ldc2 X (v := 3) (List.mem_cons_of_mem _ (List.mem_append_left _ (List.mem_append_left _ (List.mem_of_getElem? (i := 5) rfl)))) dX7_year_103 ?_
            refine go_iload X dX7_year_106 5 rfl ?_
            refine go_i2l X (v := lN nn) dX7_year_108 (nI_l (by omega)) ?_
            refine go_lmul X dX7_year_109 ?_
            refine go_topl (v := (nI (3 * nn)).toInt64) (by rw [show (3 : Int64) = lN 3 from rfl, lN_mul, nI_l (by omega)]) ?_
            refine go_callVI X (n := 38) (As := [.int (nI kk), .int lane, .int i, .long ((nI (3 * nn)).toInt64)]) (rest := []) (kX7_cellsBarred l D cs ad N kt (by omega) σ τ kk lane i (nI (3 * nn)) (by omega) (hsh kk (by omega))) gX7_year_X7_cellsBarred rfl hdX7_cellsBarred ⟨rfl, rfl, by decide, by decide, by decide, by decide⟩ (by omega) rfl rfl rfl rfl (Nat.le_of_ble_eq_true rfl) dX7_year_110 (fun r9 σ9 τ9 h9 => ?_)
            obtain ⟨rfl, rfl, rfl⟩ := h9
            rcases cbF_c (th := thM σ kk) (la := σ 55 kk) (le := σ 54 kk) (lane := lane) (i := i) (n := nI (3 * nn)) with ⟨f9, g9, s9, e9⟩ | ⟨f9, g9, s9, e9⟩ | ⟨f9, g9, e9⟩ | ⟨f9, e9⟩ | ⟨f9, e9⟩
            · skip
              have r9 := cb_0 (σ := σ) e9
              refine go_topi (v := 0) r9.1 ?_
              refine go_sg (σ2 := σ) r9.2 ?_
              refine go_istore X (lv2 := [(7, .int 0), (6, .int 1), (0, .ref (ad (38))), (1, .int (nI kk)), (2, .int lane), (3, .int i), (4, .int (nI nn)), (5, .int what)]) dX7_year_113 (by decide) rfl ?_
              refine go_iload X dX7_year_115 0 rfl ?_
              refine go_if_ge X (tgt := 123) dX7_year_117 (by decide) (fun _ => ?_) (fun h9 => absurd h9 (by decide))
              obtain ⟨len, hlen, elen⟩ := isB_nat (b := 61) ((hsh kk (by omega)).resolve_left (fun q => by rw [show σ 54 kk = -1 from q] at s9; exact absurd (Int32.le_trans s9.1 s9.2.1) (by decide))) (by omega)
              obtain ⟨ii, n3, rfl, hn3, hsp⟩ := spanS_nat (len := len) (by rw [← elen]; exact s9) (by omega)
              have hn4 : 3 * nn = n3 := (nI_eq (by omega) (by omega)).mp hn3
              refine go_iconst X (v := 0) dX7_year_123 (by decide) ?_
              refine go_istore X (lv2 := [(8, .int 0), (7, .int 0), (6, .int 1), (0, .ref (ad (38))), (1, .int (nI kk)), (2, .int lane), (3, .int (nI ii)), (4, .int (nI nn)), (5, .int what)]) dX7_year_124 (by decide) rfl ?_
              refine go_loop (ι := Nat) (fun i9 => (i9 ≤ nn) ∧ (tripP (fun y9 => σ 56 (60 * kk + y9)) (nI ns) (nI nd) ii i9)) (fun i9 => nn - i9) (fun i9 => σ) (fun i9 => τ) (fun i9 => [(8, .int (nI i9)), (7, .int 0), (6, .int 1), (0, .ref (ad (38))), (1, .int (nI kk)), (2, .int lane), (3, .int (nI ii)), (4, .int (nI nn)), (5, .int what)]) (fun i9 => []) 0 (by (try dsimp only); exact ⟨Nat.zero_le _, fun _ h => absurd h (Nat.not_lt_zero _)⟩) ?_
              intro i9 hi9 ih126
              obtain ⟨t, hv9⟩ : ∃ z, z = i9 := ⟨_, rfl⟩; subst hv9
              (try dsimp only at hi9); (try dsimp only at ih126); (try dsimp only)
              obtain ⟨ht, hal⟩ := hi9
              refine go_iload X dX7_year_126 0 rfl ?_
              refine go_iload X dX7_year_128 7 rfl ?_
              refine go_icmpn_ge X (tgt := 208) dX7_year_130 (by decide) (a := t) (b := nn) rfl rfl (by omega) (by omega) (fun c130 => ?_) (fun c130 => ?_)
              · skip
                have hTp : tripP (fun y9 => σ 56 (60 * kk + y9)) (nI ns) (nI nd) ii nn := by rw [show nn = t by omega]; exact hal
                refine go_aload_n X dX7_year_208 3 rfl rfl ?_
                refine go_bipush X (v := 60) dX7_year_209 (by decide) ?_
                refine go_iload_n X dX7_year_211 4 rfl rfl ?_
                refine go_imul X dX7_year_212 ?_
                refine go_topi (v := nI (60 * kk)) (pk_mul 60 kk) ?_
                refine go_iload_n X dX7_year_213 6 rfl rfl ?_
                refine go_iadd X dX7_year_214 ?_
                refine go_topi (v := nI ((60 * kk) + ii)) (nI_add (60 * kk) ii) ?_
                refine go_iload X dX7_year_215 7 rfl ?_
                refine go_callVV X (n := 38) (As := [.int (nI ((60 * kk) + ii)), .int (nI nn)]) (rest := []) (kX7_goYear l D cs ad N kt (by omega) σ τ ((60 * kk) + ii) nn ns (fun z => toN (σ 43 z)) (fun t => toN (σ 56 (60 * kk + (ii + 3 * t)))) (fun t => toN (σ 56 (60 * kk + (ii + 3 * t + 1)))) (fun t => toN (σ 56 (60 * kk + (ii + 3 * t + 2)))) (by omega) hns (by omega) (fun a ha => by have h := isB_toN (b := 4) (hkp a ha).2 (by omega); exact ⟨h.2, by omega⟩) (fun t ht => by obtain ⟨t1, t2, t3⟩ := hTp t ht; dsimp only at t1 t2 t3; have e1 := isB_toN t1 (by omega); have e2 := isB_toN t2 (by omega); have e3 := isB_toN (b := 3) t3 (by omega); rw [show 60 * kk + ii + 3 * t = 60 * kk + (ii + 3 * t) by omega, show 60 * kk + (ii + 3 * t) + 1 = 60 * kk + (ii + 3 * t + 1) by omega, show 60 * kk + (ii + 3 * t) + 2 = 60 * kk + (ii + 3 * t + 2) by omega]; exact ⟨e1.2, e1.1, e2.2, by omega, e3.2, by omega, (hkp _ e1.1).1⟩)) gX7_year_X7_goYear rfl hdX7_goYear ⟨rfl, rfl, by decide, by decide, by decide, by decide⟩ (by omega) rfl rfl rfl rfl (Nat.le_of_ble_eq_true rfl) dX7_year_217 (fun σ1z τ1z h1z => ?_)
                obtain ⟨rfl, hL⟩ := h1z
                refine go_iload X dX7_year_220 8 rfl ?_
                refine go_iconst X (v := 1) dX7_year_222 (by decide) ?_
                refine go_icmp_ne X (tgt := 235) dX7_year_223 (by decide) (fun c223 => ?_) (fun c223 => ?_)
                · skip
                  refine go_aload_n X dX7_year_235 3 rfl rfl ?_
                  refine go_geti X (n := 38) (j := 16) (by omega) rfl rfl (fun _ h9 => List.mem_cons_of_mem _ (List.mem_append_right _ h9)) (by decide) (List.mem_cons_of_mem _ (List.mem_append_left _ (List.mem_append_left _ (List.mem_of_getElem? (i := 7) rfl)))) rfl dX7_year_236 ?_
                  refine go_if_lt X (tgt := 254) dX7_year_239 (by decide) (fun c239 => ?_) (fun c239 => ?_)
                  · skip
                    have hfm : σ1z 38 16 = -9 := by rw [hL.2.2.1]; exact (yFw_neg (by omega)).mp (by rw [← hL.2.2.1]; exact Int32.not_le.mpr c239)
                    refine go_iload X dX7_year_254 8 rfl ?_
                    refine go_bipush X (v := 9) dX7_year_256 (by decide) ?_
                    refine go_icmp_le X (tgt := 293) dX7_year_258 (by decide) (fun c258 => ?_) (fun c258 => ?_)
                    · skip
                      refine go_aload_n X dX7_year_293 3 rfl rfl ?_
                      refine go_iload X dX7_year_294 8 rfl ?_
                      refine go_if_ne X (tgt := 306) dX7_year_296 (by decide) (fun c296 => ?_) (fun c296 => ?_)
                      · skip
                        refine go_aload_n X dX7_year_306 3 rfl rfl ?_
                        refine go_geti X (n := 38) (j := 18) (by omega) rfl rfl (fun _ h9 => List.mem_cons_of_mem _ (List.mem_append_right _ h9)) (by decide) (List.mem_cons_of_mem _ (List.mem_append_left _ (List.mem_append_left _ (List.mem_of_getElem? (i := 11) rfl)))) rfl dX7_year_307 ?_
                        refine go_callVI X (n := 38) (As := [.int (σ1z 38 18)]) (rest := []) (kX7_refused l D cs ad N kt (by omega) σ1z τ (σ1z 38 18)) gX7_year_X7_refused rfl hdX7_refused ⟨rfl, rfl, by decide, by decide, by decide, by decide⟩ (by omega) rfl rfl rfl rfl (Nat.le_of_ble_eq_true rfl) dX7_year_310 (fun r9 σ9 τ9 h9 => ?_)
                        obtain ⟨rfl, rfl, rfl⟩ := h9
                        exact go_ireturn X hr hlk dX7_year_313 ((have hE : yearS (thM σ) (σ 55) (σ 54) (fun z9 y9 => σ 56 (60 * z9 + y9)) (σ 43) (uvM σ) (pvM σ) ns nd (nI kk) lane (nI ii) (nI nn) what = ((σ1z 38 18), 0) := (by unfold yearS; (try dsimp only); (try rw [toN_nI (k := kk) (by omega)]); (try rw [toN_nI (k := nn) (by omega)]); (try rw [toN_nI (k := ii) (by omega)]); exact (cif_t (Classical.not_not.mp c4)).trans ((cif_t c57).trans ((cif_t c70).trans ((cif_t (Or.inl c23)).trans ((cif_t (nI_posN (Nat.pos_of_ne_zero c89) (by omega))).trans ((cif_t f9).trans ((cif_t s9).trans ((cif_t hTp).trans ((Prod.ext ((gyear_tie hL hns4).trans ((ofYS_m (Or.inl c23) c223 hfm).trans ((cif_t c258).trans (cif_f c296)))) rfl)))))))))); ⟨by rw [hE], fun q h38 h49 => (up2_row h38).trans (hL.1 q h38 h49), fun j h0 h16 h17 h18 => (up2_ne (by omega)).trans (hL.2.1 j h16 h17 h18), by rw [hE]; exact up2_self, rfl⟩))
                      · skip
                        refine go_aload_n X dX7_year_299 3 rfl rfl ?_
                        refine go_geti X (n := 38) (j := 17) (by omega) rfl rfl (fun _ h9 => List.mem_cons_of_mem _ (List.mem_append_right _ h9)) (by decide) (List.mem_cons_of_mem _ (List.mem_append_left _ (List.mem_append_left _ (List.mem_of_getElem? (i := 10) rfl)))) rfl dX7_year_300 ?_
                        refine go_goto X (tgt := 310) dX7_year_303 (by decide) ?_
                        refine go_callVI X (n := 38) (As := [.int (σ1z 38 17)]) (rest := []) (kX7_refused l D cs ad N kt (by omega) σ1z τ (σ1z 38 17)) gX7_year_X7_refused rfl hdX7_refused ⟨rfl, rfl, by decide, by decide, by decide, by decide⟩ (by omega) rfl rfl rfl rfl (Nat.le_of_ble_eq_true rfl) dX7_year_310 (fun r9 σ9 τ9 h9 => ?_)
                        obtain ⟨rfl, rfl, rfl⟩ := h9
                        exact go_ireturn X hr hlk dX7_year_313 ((have hE : yearS (thM σ) (σ 55) (σ 54) (fun z9 y9 => σ 56 (60 * z9 + y9)) (σ 43) (uvM σ) (pvM σ) ns nd (nI kk) lane (nI ii) (nI nn) what = ((σ1z 38 17), 0) := (by unfold yearS; (try dsimp only); (try rw [toN_nI (k := kk) (by omega)]); (try rw [toN_nI (k := nn) (by omega)]); (try rw [toN_nI (k := ii) (by omega)]); exact (cif_t (Classical.not_not.mp c4)).trans ((cif_t c57).trans ((cif_t c70).trans ((cif_t (Or.inl c23)).trans ((cif_t (nI_posN (Nat.pos_of_ne_zero c89) (by omega))).trans ((cif_t f9).trans ((cif_t s9).trans ((cif_t hTp).trans ((Prod.ext ((gyear_tie hL hns4).trans ((ofYS_m (Or.inl c23) c223 hfm).trans ((cif_t c258).trans (cif_t c296)))) rfl)))))))))); ⟨by rw [hE], fun q h38 h49 => (up2_row h38).trans (hL.1 q h38 h49), fun j h0 h16 h17 h18 => (up2_ne (by omega)).trans (hL.2.1 j h16 h17 h18), by rw [hE]; exact up2_self, rfl⟩))
                    · skip
                      refine go_aload_n X dX7_year_261 3 rfl rfl ?_
                      refine go_aload_n X dX7_year_262 3 rfl rfl ?_
                      refine go_iload X dX7_year_263 8 rfl ?_
                      refine go_bipush X (v := 10) dX7_year_265 (by decide) ?_
                      refine go_isub X dX7_year_267 ?_
                      refine go_callVI X (n := 38) (As := [.int (what - 10)]) (rest := [.ref (ad (38))]) (kX7_noSubject l D cs ad N kt (by omega) σ1z τ (what - 10) (nI ns) (((hL.2.1 5 (by omega) (by omega) (by omega)).trans hns))) gX7_year_X7_noSubject rfl hdX7_noSubject ⟨rfl, rfl, by decide, by decide, by decide, by decide⟩ (by omega) rfl rfl rfl rfl (Nat.le_of_ble_eq_true rfl) dX7_year_268 (fun r9 σ9 τ9 h9 => ?_)
                      obtain ⟨rfl, rfl, rfl⟩ := h9
                      refine go_ifb_eq X (tgt := 279) dX7_year_271 (by decide) (fun c271 => ?_) (fun c271 => ?_)
                      · skip
                        obtain ⟨j, hj, ej⟩ := isB_nat (Classical.not_not.mp c271) (by omega)
                        refine go_aload_n X dX7_year_279 3 rfl rfl ?_
                        refine go_getr X (n := 38) (j := 19) (by omega) rfl rfl (fun _ h9 => List.mem_cons_of_mem _ (List.mem_append_right _ h9)) (by decide) (List.mem_cons_of_mem _ (List.mem_append_left _ (List.mem_append_left _ (List.mem_of_getElem? (i := 9) rfl)))) rfl dX7_year_280 ?_
                        refine go_iload X dX7_year_283 8 rfl ?_
                        refine go_bipush X (v := 10) dX7_year_285 (by decide) ?_
                        refine go_isub X dX7_year_287 ?_
                        refine go_iald X (n := 49) (k := j) (by omega) rfl ej (by omega) (by omega) dX7_year_288 ?_
                        refine go_callVI X (n := 38) (As := [.int (σ1z 49 j)]) (rest := []) (kX7_refused l D cs ad N kt (by omega) σ1z τ (σ1z 49 j)) gX7_year_X7_refused rfl hdX7_refused ⟨rfl, rfl, by decide, by decide, by decide, by decide⟩ (by omega) rfl rfl rfl rfl (Nat.le_of_ble_eq_true rfl) dX7_year_289 (fun r9 σ9 τ9 h9 => ?_)
                        obtain ⟨rfl, rfl, rfl⟩ := h9
                        exact go_ireturn X hr hlk dX7_year_292 ((have hE : yearS (thM σ) (σ 55) (σ 54) (fun z9 y9 => σ 56 (60 * z9 + y9)) (σ 43) (uvM σ) (pvM σ) ns nd (nI kk) lane (nI ii) (nI nn) what = ((σ1z 49 j), 0) := (by unfold yearS; (try dsimp only); (try rw [toN_nI (k := kk) (by omega)]); (try rw [toN_nI (k := nn) (by omega)]); (try rw [toN_nI (k := ii) (by omega)]); exact (cif_t (Classical.not_not.mp c4)).trans ((cif_t c57).trans ((cif_t c70).trans ((cif_t (Or.inl c23)).trans ((cif_t (nI_posN (Nat.pos_of_ne_zero c89) (by omega))).trans ((cif_t f9).trans ((cif_t s9).trans ((cif_t hTp).trans ((Prod.ext ((gyear_tie hL hns4).trans ((ofYS_m (Or.inl c23) c223 hfm).trans ((cif_f c258).trans ((cif_t (Classical.not_not.mp c271)).trans (by rw [ej, toN_nI (by omega)]))))) rfl)))))))))); ⟨by rw [hE], fun q h38 h49 => (up2_row h38).trans (hL.1 q h38 h49), fun j h0 h16 h17 h18 => (up2_ne (by omega)).trans (hL.2.1 j h16 h17 h18), by rw [hE]; exact up2_self, rfl⟩))
                      · skip
                        refine go_bipush X (v := (-9)) dX7_year_274 (by decide) ?_
                        refine go_goto X (tgt := 289) dX7_year_276 (by decide) ?_
                        refine go_callVI X (n := 38) (As := [.int (-9)]) (rest := []) (kX7_refused l D cs ad N kt (by omega) σ1z τ (-9)) gX7_year_X7_refused rfl hdX7_refused ⟨rfl, rfl, by decide, by decide, by decide, by decide⟩ (by omega) rfl rfl rfl rfl (Nat.le_of_ble_eq_true rfl) dX7_year_289 (fun r9 σ9 τ9 h9 => ?_)
                        obtain ⟨rfl, rfl, rfl⟩ := h9
                        exact go_ireturn X hr hlk dX7_year_292 ((have hE : yearS (thM σ) (σ 55) (σ 54) (fun z9 y9 => σ 56 (60 * z9 + y9)) (σ 43) (uvM σ) (pvM σ) ns nd (nI kk) lane (nI ii) (nI nn) what = ((-9), 0) := (by unfold yearS; (try dsimp only); (try rw [toN_nI (k := kk) (by omega)]); (try rw [toN_nI (k := nn) (by omega)]); (try rw [toN_nI (k := ii) (by omega)]); exact (cif_t (Classical.not_not.mp c4)).trans ((cif_t c57).trans ((cif_t c70).trans ((cif_t (Or.inl c23)).trans ((cif_t (nI_posN (Nat.pos_of_ne_zero c89) (by omega))).trans ((cif_t f9).trans ((cif_t s9).trans ((cif_t hTp).trans ((Prod.ext ((gyear_tie hL hns4).trans ((ofYS_m (Or.inl c23) c223 hfm).trans ((cif_f c258).trans (cif_f c271)))) rfl)))))))))); ⟨by rw [hE], fun q h38 h49 => (up2_row h38).trans (hL.1 q h38 h49), fun j h0 h16 h17 h18 => (up2_ne (by omega)).trans (hL.2.1 j h16 h17 h18), by rw [hE]; exact up2_self, rfl⟩))
                  · skip
                    refine go_aload_n X dX7_year_242 3 rfl rfl ?_
                    refine go_ldc X (v := (-100000)) (List.mem_cons_of_mem _ (List.mem_append_left _ (List.mem_append_left _ (List.mem_of_getElem? (i := 8) rfl)))) dX7_year_243 ?_
                    refine go_aload_n X dX7_year_245 3 rfl rfl ?_
                    refine go_geti X (n := 38) (j := 16) (by omega) rfl rfl (fun _ h9 => List.mem_cons_of_mem _ (List.mem_append_right _ h9)) (by decide) (List.mem_cons_of_mem _ (List.mem_append_left _ (List.mem_append_left _ (List.mem_of_getElem? (i := 7) rfl)))) rfl dX7_year_246 ?_
                    refine go_isub X dX7_year_249 ?_
                    refine go_callVI X (n := 38) (As := [.int ((-100000) - (σ1z 38 16))]) (rest := []) (kX7_refused l D cs ad N kt (by omega) σ1z τ ((-100000) - (σ1z 38 16))) gX7_year_X7_refused rfl hdX7_refused ⟨rfl, rfl, by decide, by decide, by decide, by decide⟩ (by omega) rfl rfl rfl rfl (Nat.le_of_ble_eq_true rfl) dX7_year_250 (fun r9 σ9 τ9 h9 => ?_)
                    obtain ⟨rfl, rfl, rfl⟩ := h9
                    exact go_ireturn X hr hlk dX7_year_253 ((have hE : yearS (thM σ) (σ 55) (σ 54) (fun z9 y9 => σ 56 (60 * z9 + y9)) (σ 43) (uvM σ) (pvM σ) ns nd (nI kk) lane (nI ii) (nI nn) what = (((-100000) - (σ1z 38 16)), 0) := (by unfold yearS; (try dsimp only); (try rw [toN_nI (k := kk) (by omega)]); (try rw [toN_nI (k := nn) (by omega)]); (try rw [toN_nI (k := ii) (by omega)]); exact (cif_t (Classical.not_not.mp c4)).trans ((cif_t c57).trans ((cif_t c70).trans ((cif_t (Or.inl c23)).trans ((cif_t (nI_posN (Nat.pos_of_ne_zero c89) (by omega))).trans ((cif_t f9).trans ((cif_t s9).trans ((cif_t hTp).trans ((Prod.ext ((gyear_tie hL hns4).trans ((cif_f c223).trans (cif_f (fun q => by rw [q] at c239; exact absurd c239 (by decide))))) rfl)))))))))); ⟨by rw [hE], fun q h38 h49 => (up2_row h38).trans (hL.1 q h38 h49), fun j h0 h16 h17 h18 => (up2_ne (by omega)).trans (hL.2.1 j h16 h17 h18), by rw [hE]; exact up2_self, rfl⟩))
                · skip
                  refine go_aload_n X dX7_year_226 3 rfl rfl ?_
                  refine go_aload_n X dX7_year_227 3 rfl rfl ?_
                  refine go_geti X (n := 38) (j := 16) (by omega) rfl rfl (fun _ h9 => List.mem_cons_of_mem _ (List.mem_append_right _ h9)) (by decide) (List.mem_cons_of_mem _ (List.mem_append_left _ (List.mem_append_left _ (List.mem_of_getElem? (i := 7) rfl)))) rfl dX7_year_228 ?_
                  refine go_callVI X (n := 38) (As := [.int (σ1z 38 16)]) (rest := []) (kX7_refused l D cs ad N kt (by omega) σ1z τ (σ1z 38 16)) gX7_year_X7_refused rfl hdX7_refused ⟨rfl, rfl, by decide, by decide, by decide, by decide⟩ (by omega) rfl rfl rfl rfl (Nat.le_of_ble_eq_true rfl) dX7_year_231 (fun r9 σ9 τ9 h9 => ?_)
                  obtain ⟨rfl, rfl, rfl⟩ := h9
                  exact go_ireturn X hr hlk dX7_year_234 ((have hE : yearS (thM σ) (σ 55) (σ 54) (fun z9 y9 => σ 56 (60 * z9 + y9)) (σ 43) (uvM σ) (pvM σ) ns nd (nI kk) lane (nI ii) (nI nn) what = ((σ1z 38 16), 0) := (by unfold yearS; (try dsimp only); (try rw [toN_nI (k := kk) (by omega)]); (try rw [toN_nI (k := nn) (by omega)]); (try rw [toN_nI (k := ii) (by omega)]); exact (cif_t (Classical.not_not.mp c4)).trans ((cif_t c57).trans ((cif_t c70).trans ((cif_t (Or.inl c23)).trans ((cif_t (nI_posN (Nat.pos_of_ne_zero c89) (by omega))).trans ((cif_t f9).trans ((cif_t s9).trans ((cif_t hTp).trans ((Prod.ext ((gyear_tie hL hns4).trans (cif_t c223)) rfl)))))))))); ⟨by rw [hE], fun q h38 h49 => (up2_row h38).trans (hL.1 q h38 h49), fun j h0 h16 h17 h18 => (up2_ne (by omega)).trans (hL.2.1 j h16 h17 h18), by rw [hE]; exact up2_self, rfl⟩))
              · skip
                refine go_bipush X (v := 60) dX7_year_133 (by decide) ?_
                refine go_iload_n X dX7_year_135 4 rfl rfl ?_
                refine go_imul X dX7_year_136 ?_
                refine go_topi (v := nI (60 * kk)) (pk_mul 60 kk) ?_
                refine go_iload_n X dX7_year_137 6 rfl rfl ?_
                refine go_iadd X dX7_year_138 ?_
                refine go_topi (v := nI ((60 * kk) + ii)) (nI_add (60 * kk) ii) ?_
                refine go_iconst X (v := 3) dX7_year_139 (by decide) ?_
                refine go_iload X dX7_year_140 0 rfl ?_
                refine go_imul X dX7_year_142 ?_
                refine go_topi (v := nI (3 * t)) (pk_mul 3 t) ?_
                refine go_iadd X dX7_year_143 ?_
                refine go_topi (v := nI (((60 * kk) + ii) + (3 * t))) (nI_add ((60 * kk) + ii) (3 * t)) ?_
                refine go_istore X (lv2 := [(9, .int (nI (((60 * kk) + ii) + (3 * t)))), (8, .int (nI t)), (7, .int 0), (6, .int 1), (0, .ref (ad (38))), (1, .int (nI kk)), (2, .int lane), (3, .int (nI ii)), (4, .int (nI nn)), (5, .int what)]) dX7_year_144 (by decide) rfl ?_
                refine go_lv (lv2 := [(9, .int (nI (60 * kk + (ii + 3 * t)))), (8, .int (nI t)), (7, .int 0), (6, .int 1), (0, .ref (ad (38))), (1, .int (nI kk)), (2, .int lane), (3, .int (nI ii)), (4, .int (nI nn)), (5, .int what)]) (by rw [show 60 * kk + ii + 3 * t = 60 * kk + (ii + 3 * t) by omega]) ?_
                refine go_aload_n X dX7_year_146 4 rfl rfl ?_
                refine go_aload_n X dX7_year_147 4 rfl rfl ?_
                refine go_getr X (n := 38) (j := 27) (by omega) rfl rfl (fun _ h9 => List.mem_cons_of_mem _ (List.mem_append_right _ h9)) (by decide) (List.mem_cons_of_mem _ (List.mem_append_left _ (List.mem_append_left _ (List.mem_of_getElem? (i := 6) rfl)))) rfl dX7_year_148 ?_
                refine go_iload X dX7_year_151 0 rfl ?_
                refine go_iald X (n := 56) (k := 60 * kk + (ii + 3 * t)) (by omega) rfl rfl (by omega) (by omega) dX7_year_153 ?_
                refine go_callVI X (n := 38) (As := [.int (σ 56 (60 * kk + (ii + 3 * t)))]) (rest := []) (kX7_noSubject l D cs ad N kt (by omega) σ τ (σ 56 (60 * kk + (ii + 3 * t))) (nI ns) (hns)) gX7_year_X7_noSubject rfl hdX7_noSubject ⟨rfl, rfl, by decide, by decide, by decide, by decide⟩ (by omega) rfl rfl rfl rfl (Nat.le_of_ble_eq_true rfl) dX7_year_154 (fun r9 σ9 τ9 h9 => ?_)
                obtain ⟨rfl, rfl, rfl⟩ := h9
                refine go_ifb_ne X (tgt := 196) dX7_year_157 (by decide) (fun c157 => ?_) (fun c157 => ?_)
                · skip
                  refine go_aload_n X dX7_year_196 4 rfl rfl ?_
                  refine go_iconst X (v := (-1)) dX7_year_197 (by decide) ?_
                  refine go_callVI X (n := 38) (As := [.int (-1)]) (rest := []) (kX7_refused l D cs ad N kt (by omega) σ τ (-1)) gX7_year_X7_refused rfl hdX7_refused ⟨rfl, rfl, by decide, by decide, by decide, by decide⟩ (by omega) rfl rfl rfl rfl (Nat.le_of_ble_eq_true rfl) dX7_year_198 (fun r9 σ9 τ9 h9 => ?_)
                  obtain ⟨rfl, rfl, rfl⟩ := h9
                  exact go_ireturn X hr hlk dX7_year_201 ((have hE : yearS (thM σ) (σ 55) (σ 54) (fun z9 y9 => σ 56 (60 * z9 + y9)) (σ 43) (uvM σ) (pvM σ) ns nd (nI kk) lane (nI ii) (nI nn) what = ((-1), 0) := (by unfold yearS; (try dsimp only); (try rw [toN_nI (k := kk) (by omega)]); (try rw [toN_nI (k := nn) (by omega)]); (try rw [toN_nI (k := ii) (by omega)]); exact (cif_t (Classical.not_not.mp c4)).trans ((cif_t c57).trans ((cif_t c70).trans ((cif_t (Or.inl c23)).trans ((cif_t (nI_posN (Nat.pos_of_ne_zero c89) (by omega))).trans ((cif_t f9).trans ((cif_t s9).trans ((cif_f (fun q => c157 (q t (by omega)).1)).trans (rfl))))))))); ⟨by rw [hE], fun q h38 _ => up2_row h38, fun j h0 _ _ _ => up2_ne (by omega), by rw [hE]; exact up2_self, rfl⟩))
                · skip
                  refine go_aload_n X dX7_year_160 4 rfl rfl ?_
                  refine go_aload_n X dX7_year_161 4 rfl rfl ?_
                  refine go_getr X (n := 38) (j := 27) (by omega) rfl rfl (fun _ h9 => List.mem_cons_of_mem _ (List.mem_append_right _ h9)) (by decide) (List.mem_cons_of_mem _ (List.mem_append_left _ (List.mem_append_left _ (List.mem_of_getElem? (i := 6) rfl)))) rfl dX7_year_162 ?_
                  refine go_iload X dX7_year_165 0 rfl ?_
                  refine go_iconst X (v := 1) dX7_year_167 (by decide) ?_
                  refine go_iadd X dX7_year_168 ?_
                  refine go_topi (v := nI ((60 * kk + (ii + 3 * t)) + 1)) (nI_add (60 * kk + (ii + 3 * t)) 1) ?_
                  refine go_iald X (n := 56) (k := (60 * kk + (ii + 3 * t)) + 1) (by omega) rfl rfl (by omega) (by omega) dX7_year_169 ?_
                  refine go_callVI X (n := 38) (As := [.int (σ 56 ((60 * kk + (ii + 3 * t)) + 1))]) (rest := []) (kX7_noDeed l D cs ad N kt (by omega) σ τ (σ 56 ((60 * kk + (ii + 3 * t)) + 1)) (nI nd) (hnd)) gX7_year_X7_noDeed rfl hdX7_noDeed ⟨rfl, rfl, by decide, by decide, by decide, by decide⟩ (by omega) rfl rfl rfl rfl (Nat.le_of_ble_eq_true rfl) dX7_year_170 (fun r9 σ9 τ9 h9 => ?_)
                  obtain ⟨rfl, rfl, rfl⟩ := h9
                  refine go_ifb_ne X (tgt := 196) dX7_year_173 (by decide) (fun c173 => ?_) (fun c173 => ?_)
                  · skip
                    refine go_aload_n X dX7_year_196 4 rfl rfl ?_
                    refine go_iconst X (v := (-1)) dX7_year_197 (by decide) ?_
                    refine go_callVI X (n := 38) (As := [.int (-1)]) (rest := []) (kX7_refused l D cs ad N kt (by omega) σ τ (-1)) gX7_year_X7_refused rfl hdX7_refused ⟨rfl, rfl, by decide, by decide, by decide, by decide⟩ (by omega) rfl rfl rfl rfl (Nat.le_of_ble_eq_true rfl) dX7_year_198 (fun r9 σ9 τ9 h9 => ?_)
                    obtain ⟨rfl, rfl, rfl⟩ := h9
                    exact go_ireturn X hr hlk dX7_year_201 ((have hE : yearS (thM σ) (σ 55) (σ 54) (fun z9 y9 => σ 56 (60 * z9 + y9)) (σ 43) (uvM σ) (pvM σ) ns nd (nI kk) lane (nI ii) (nI nn) what = ((-1), 0) := (by unfold yearS; (try dsimp only); (try rw [toN_nI (k := kk) (by omega)]); (try rw [toN_nI (k := nn) (by omega)]); (try rw [toN_nI (k := ii) (by omega)]); exact (cif_t (Classical.not_not.mp c4)).trans ((cif_t c57).trans ((cif_t c70).trans ((cif_t (Or.inl c23)).trans ((cif_t (nI_posN (Nat.pos_of_ne_zero c89) (by omega))).trans ((cif_t f9).trans ((cif_t s9).trans ((cif_f (fun q => c173 (q t (by omega)).2.1)).trans (rfl))))))))); ⟨by rw [hE], fun q h38 _ => up2_row h38, fun j h0 _ _ _ => up2_ne (by omega), by rw [hE]; exact up2_self, rfl⟩))
                  · skip
                    refine go_aload_n X dX7_year_176 4 rfl rfl ?_
                    refine go_getr X (n := 38) (j := 27) (by omega) rfl rfl (fun _ h9 => List.mem_cons_of_mem _ (List.mem_append_right _ h9)) (by decide) (List.mem_cons_of_mem _ (List.mem_append_left _ (List.mem_append_left _ (List.mem_of_getElem? (i := 6) rfl)))) rfl dX7_year_177 ?_
                    refine go_iload X dX7_year_180 0 rfl ?_
                    refine go_iconst X (v := 2) dX7_year_182 (by decide) ?_
                    refine go_iadd X dX7_year_183 ?_
                    refine go_topi (v := nI ((60 * kk + (ii + 3 * t)) + 2)) (nI_add (60 * kk + (ii + 3 * t)) 2) ?_
                    refine go_iald X (n := 56) (k := (60 * kk + (ii + 3 * t)) + 2) (by omega) rfl rfl (by omega) (by omega) dX7_year_184 ?_
                    refine go_i2l X (v := (σ 56 ((60 * kk + (ii + 3 * t)) + 2)).toInt64) dX7_year_185 rfl ?_
                    refine go_lconst X (v := 0) dX7_year_186 (by decide) ?_
                    refine go_ldc2 X (v := 2) (List.mem_cons_of_mem _ (List.mem_append_left _ (List.mem_append_left _ (List.mem_of_getElem? (i := 0) rfl)))) dX7_year_187 ?_
                    refine go_callSI X (As := [.long ((σ 56 ((60 * kk + (ii + 3 * t)) + 2)).toInt64), .long 0, .long 2]) (rest := []) (kX7_in l D cs ad N kt (by omega) σ τ ((σ 56 ((60 * kk + (ii + 3 * t)) + 2)).toInt64) 0 2) gX7_year_X7_in rfl hdX7_in ⟨rfl, rfl, by decide, by decide, by decide, by decide⟩ rfl rfl (Nat.le_of_ble_eq_true rfl) dX7_year_190 (fun r9 σ9 τ9 h9 => ?_)
                    obtain ⟨rfl, rfl, rfl⟩ := h9
                    refine go_topi (v := b2i (isB (σ 56 ((60 * kk + (ii + 3 * t)) + 2)) 3)) (b2i_c (in_iff rfl rfl)) ?_
                    refine go_ifb_ne X (tgt := 202) dX7_year_193 (by decide) (fun c193 => ?_) (fun c193 => ?_)
                    · skip
                      refine go_iinc X (v := nI (t + 1)) (lv2 := [(8, .int (nI (t + 1))), (9, .int (nI (60 * kk + (ii + 3 * t)))), (7, .int 0), (6, .int 1), (0, .ref (ad (38))), (1, .int (nI kk)), (2, .int lane), (3, .int (nI ii)), (4, .int (nI nn)), (5, .int what)]) dX7_year_202 (k := 1) rfl (nI_add t 1) (by decide) rfl ?_
                      refine go_goto X (tgt := 126) dX7_year_205 (by decide) ?_
                      refine go_lvsub [0, 2, 3, 4, 5, 6, 7, 8, 9] rfl ?_
                      exact ih126 (t + 1) (by (try dsimp only); exact ⟨by omega, fun q hq => by rcases Nat.lt_succ_iff_lt_or_eq.mp hq with h | h; exact hal q h; rw [h]; exact ⟨(Classical.not_not.mp c157), (Classical.not_not.mp c173), c193⟩⟩) (by (try dsimp only); omega)
                    · skip
                      refine go_aload_n X dX7_year_196 4 rfl rfl ?_
                      refine go_iconst X (v := (-1)) dX7_year_197 (by decide) ?_
                      refine go_callVI X (n := 38) (As := [.int (-1)]) (rest := []) (kX7_refused l D cs ad N kt (by omega) σ τ (-1)) gX7_year_X7_refused rfl hdX7_refused ⟨rfl, rfl, by decide, by decide, by decide, by decide⟩ (by omega) rfl rfl rfl rfl (Nat.le_of_ble_eq_true rfl) dX7_year_198 (fun r9 σ9 τ9 h9 => ?_)
                      obtain ⟨rfl, rfl, rfl⟩ := h9
                      exact go_ireturn X hr hlk dX7_year_201 ((have hE : yearS (thM σ) (σ 55) (σ 54) (fun z9 y9 => σ 56 (60 * z9 + y9)) (σ 43) (uvM σ) (pvM σ) ns nd (nI kk) lane (nI ii) (nI nn) what = ((-1), 0) := (by unfold yearS; (try dsimp only); (try rw [toN_nI (k := kk) (by omega)]); (try rw [toN_nI (k := nn) (by omega)]); (try rw [toN_nI (k := ii) (by omega)]); exact (cif_t (Classical.not_not.mp c4)).trans ((cif_t c57).trans ((cif_t c70).trans ((cif_t (Or.inl c23)).trans ((cif_t (nI_posN (Nat.pos_of_ne_zero c89) (by omega))).trans ((cif_t f9).trans ((cif_t s9).trans ((cif_f (fun q => c193 (q t (by omega)).2.2)).trans (rfl))))))))); ⟨by rw [hE], fun q h38 _ => up2_row h38, fun j h0 _ _ _ => up2_ne (by omega), by rw [hE]; exact up2_self, rfl⟩))
            · skip
              have r9 := cbRG (σ := σ) e9 (by decide)
              refine go_topi (v := (-10) - 3) r9.1 ?_
              refine go_sg (σ2 := (up2 σ 38 0 3)) r9.2 ?_
              refine go_istore X (lv2 := [(7, .int ((-10) - 3)), (6, .int 1), (0, .ref (ad (38))), (1, .int (nI kk)), (2, .int lane), (3, .int i), (4, .int (nI nn)), (5, .int what)]) dX7_year_113 (by decide) rfl ?_
              refine go_iload X dX7_year_115 0 rfl ?_
              refine go_if_ge X (tgt := 123) dX7_year_117 (by decide) (fun h9 => absurd h9 (by decide)) (fun _ => ?_)
              refine go_iload X dX7_year_120 0 rfl ?_
              exact go_ireturn X hr hlk dX7_year_122 ((have hE : yearS (thM σ) (σ 55) (σ 54) (fun z9 y9 => σ 56 (60 * z9 + y9)) (σ 43) (uvM σ) (pvM σ) ns nd (nI kk) lane i (nI nn) what = ((-10) - 3, 3) := (by unfold yearS; (try dsimp only); (try rw [toN_nI (k := kk) (by omega)]); (try rw [toN_nI (k := nn) (by omega)]); exact (cif_t (Classical.not_not.mp c4)).trans ((cif_t c57).trans ((cif_t c70).trans ((cif_t (Or.inl c23)).trans ((cif_t (nI_posN (Nat.pos_of_ne_zero c89) (by omega))).trans ((cif_t f9).trans ((cif_f s9).trans (rfl)))))))); ⟨by rw [hE], fun q h38 _ => up2_row h38, fun j h0 _ _ _ => up2_ne (by omega), by rw [hE]; exact up2_self, rfl⟩))
            · skip
              exact absurd (nI_pos' (by omega)) g9
            · skip
              have r9 := cbRG (σ := σ) e9 (by decide)
              refine go_topi (v := (-10) - 1) r9.1 ?_
              refine go_sg (σ2 := (up2 σ 38 0 1)) r9.2 ?_
              refine go_istore X (lv2 := [(7, .int ((-10) - 1)), (6, .int 1), (0, .ref (ad (38))), (1, .int (nI kk)), (2, .int lane), (3, .int i), (4, .int (nI nn)), (5, .int what)]) dX7_year_113 (by decide) rfl ?_
              refine go_iload X dX7_year_115 0 rfl ?_
              refine go_if_ge X (tgt := 123) dX7_year_117 (by decide) (fun h9 => absurd h9 (by decide)) (fun _ => ?_)
              refine go_iload X dX7_year_120 0 rfl ?_
              exact go_ireturn X hr hlk dX7_year_122 ((have hE : yearS (thM σ) (σ 55) (σ 54) (fun z9 y9 => σ 56 (60 * z9 + y9)) (σ 43) (uvM σ) (pvM σ) ns nd (nI kk) lane i (nI nn) what = ((-10) - 1, 1) := (by unfold yearS; (try dsimp only); (try rw [toN_nI (k := kk) (by omega)]); (try rw [toN_nI (k := nn) (by omega)]); exact (cif_t (Classical.not_not.mp c4)).trans ((cif_t c57).trans ((cif_t c70).trans ((cif_t (Or.inl c23)).trans ((cif_t (nI_posN (Nat.pos_of_ne_zero c89) (by omega))).trans ((cif_f (by rw [f9]; decide)).trans ((by rw [f9])))))))); ⟨by rw [hE], fun q h38 _ => up2_row h38, fun j h0 _ _ _ => up2_ne (by omega), by rw [hE]; exact up2_self, rfl⟩))
            · skip
              have r9 := cbRG (σ := σ) e9 (by decide)
              refine go_topi (v := (-10) - 2) r9.1 ?_
              refine go_sg (σ2 := (up2 σ 38 0 2)) r9.2 ?_
              refine go_istore X (lv2 := [(7, .int ((-10) - 2)), (6, .int 1), (0, .ref (ad (38))), (1, .int (nI kk)), (2, .int lane), (3, .int i), (4, .int (nI nn)), (5, .int what)]) dX7_year_113 (by decide) rfl ?_
              refine go_iload X dX7_year_115 0 rfl ?_
              refine go_if_ge X (tgt := 123) dX7_year_117 (by decide) (fun h9 => absurd h9 (by decide)) (fun _ => ?_)
              refine go_iload X dX7_year_120 0 rfl ?_
              exact go_ireturn X hr hlk dX7_year_122 ((have hE : yearS (thM σ) (σ 55) (σ 54) (fun z9 y9 => σ 56 (60 * z9 + y9)) (σ 43) (uvM σ) (pvM σ) ns nd (nI kk) lane i (nI nn) what = ((-10) - 2, 2) := (by unfold yearS; (try dsimp only); (try rw [toN_nI (k := kk) (by omega)]); (try rw [toN_nI (k := nn) (by omega)]); exact (cif_t (Classical.not_not.mp c4)).trans ((cif_t c57).trans ((cif_t c70).trans ((cif_t (Or.inl c23)).trans ((cif_t (nI_posN (Nat.pos_of_ne_zero c89) (by omega))).trans ((cif_f (by rw [f9]; decide)).trans ((by rw [f9])))))))); ⟨by rw [hE], fun q h38 _ => up2_row h38, fun j h0 _ _ _ => up2_ne (by omega), by rw [hE]; exact up2_self, rfl⟩))
          · skip
            refine go_aload_n X dX7_year_92 1 rfl rfl ?_
            refine go_bipush X (v := (-3)) dX7_year_93 (by decide) ?_
            refine go_callVI X (n := 38) (As := [.int (-3)]) (rest := []) (kX7_refused l D cs ad N kt (by omega) σ τ (-3)) gX7_year_X7_refused rfl hdX7_refused ⟨rfl, rfl, by decide, by decide, by decide, by decide⟩ (by omega) rfl rfl rfl rfl (Nat.le_of_ble_eq_true rfl) dX7_year_95 (fun r9 σ9 τ9 h9 => ?_)
            obtain ⟨rfl, rfl, rfl⟩ := h9
            exact go_ireturn X hr hlk dX7_year_98 ((have hE : yearS (thM σ) (σ 55) (σ 54) (fun z9 y9 => σ 56 (60 * z9 + y9)) (σ 43) (uvM σ) (pvM σ) ns nd (nI kk) lane i (nI nn) what = ((-3), 0) := (by unfold yearS; (try dsimp only); (try rw [toN_nI (k := kk) (by omega)]); (try rw [toN_nI (k := nn) (by omega)]); exact (cif_t (Classical.not_not.mp c4)).trans ((cif_t c57).trans ((cif_t c70).trans ((cif_t (Or.inl c23)).trans ((cif_f (by rw [c89]; decide)).trans (rfl)))))); ⟨by rw [hE], fun q h38 _ => up2_row h38, fun j h0 _ _ _ => up2_ne (by omega), by rw [hE]; exact up2_self, rfl⟩))
    · skip
      refine go_iload X dX7_year_26 5 rfl ?_
      refine go_i2l X (v := what.toInt64) dX7_year_28 rfl ?_
      refine go_ldc2 X (v := 10) (List.mem_cons_of_mem _ (List.mem_append_left _ (List.mem_append_left _ (List.mem_of_getElem? (i := 1) rfl)))) dX7_year_29 ?_
      refine go_ldc2 X (v := 13) (List.mem_cons_of_mem _ (List.mem_append_left _ (List.mem_append_left _ (List.mem_of_getElem? (i := 2) rfl)))) dX7_year_32 ?_
      refine go_callSI X (As := [.long what.toInt64, .long 10, .long 13]) (rest := []) (kX7_in l D cs ad N kt (by omega) σ τ what.toInt64 10 13) gX7_year_X7_in rfl hdX7_in ⟨rfl, rfl, by decide, by decide, by decide, by decide⟩ rfl rfl (Nat.le_of_ble_eq_true rfl) dX7_year_35 (fun r9 σ9 τ9 h9 => ?_)
      obtain ⟨rfl, rfl, rfl⟩ := h9
      refine go_topi (v := b2i (10 ≤ what ∧ what ≤ 13)) (b2i_c (in_gen rfl rfl)) ?_
      refine go_ifb_eq X (tgt := 45) dX7_year_38 (by decide) (fun c38 => ?_) (fun c38 => ?_)
      · skip
        refine go_iconst X (v := 0) dX7_year_45 (by decide) ?_
        refine go_istore X (lv2 := [(6, .int 0), (0, .ref (ad (38))), (1, .int (nI kk)), (2, .int lane), (3, .int i), (4, .int n), (5, .int what)]) dX7_year_46 (by decide) rfl ?_
        refine go_iload_n X dX7_year_48 3 rfl rfl ?_
        refine go_i2l X (v := lane.toInt64) dX7_year_49 rfl ?_
        refine go_lconst X (v := 0) dX7_year_50 (by decide) ?_
        refine go_ldc2 X (v := 2) (List.mem_cons_of_mem _ (List.mem_append_left _ (List.mem_append_left _ (List.mem_of_getElem? (i := 0) rfl)))) dX7_year_51 ?_
        refine go_callSI X (As := [.long lane.toInt64, .long 0, .long 2]) (rest := []) (kX7_in l D cs ad N kt (by omega) σ τ lane.toInt64 0 2) gX7_year_X7_in rfl hdX7_in ⟨rfl, rfl, by decide, by decide, by decide, by decide⟩ rfl rfl (Nat.le_of_ble_eq_true rfl) dX7_year_54 (fun r9 σ9 τ9 h9 => ?_)
        obtain ⟨rfl, rfl, rfl⟩ := h9
        refine go_topi (v := b2i (isB lane 3)) (b2i_c (in_iff rfl rfl)) ?_
        refine go_ifb_eq X (tgt := 78) dX7_year_57 (by decide) (fun c57 => ?_) (fun c57 => ?_)
        · skip
          refine go_aload_n X dX7_year_78 1 rfl rfl ?_
          refine go_bipush X (v := (-2)) dX7_year_79 (by decide) ?_
          refine go_callVI X (n := 38) (As := [.int (-2)]) (rest := []) (kX7_refused l D cs ad N kt (by omega) σ τ (-2)) gX7_year_X7_refused rfl hdX7_refused ⟨rfl, rfl, by decide, by decide, by decide, by decide⟩ (by omega) rfl rfl rfl rfl (Nat.le_of_ble_eq_true rfl) dX7_year_81 (fun r9 σ9 τ9 h9 => ?_)
          obtain ⟨rfl, rfl, rfl⟩ := h9
          exact go_ireturn X hr hlk dX7_year_84 ((have hE : yearS (thM σ) (σ 55) (σ 54) (fun z9 y9 => σ 56 (60 * z9 + y9)) (σ 43) (uvM σ) (pvM σ) ns nd (nI kk) lane i n what = ((-2), 0) := (by unfold yearS; (try dsimp only); (try rw [toN_nI (k := kk) (by omega)]); exact (cif_t (Classical.not_not.mp c4)).trans ((cif_f c57).trans (rfl))); ⟨by rw [hE], fun q h38 _ => up2_row h38, fun j h0 _ _ _ => up2_ne (by omega), by rw [hE]; exact up2_self, rfl⟩))
        · skip
          refine go_iload X dX7_year_60 5 rfl ?_
          refine go_i2l X (v := n.toInt64) dX7_year_62 rfl ?_
          refine go_lconst X (v := 0) dX7_year_63 (by decide) ?_
          refine go_ldc2 X (v := 20) (List.mem_cons_of_mem _ (List.mem_append_left _ (List.mem_append_left _ (List.mem_of_getElem? (i := 3) rfl)))) dX7_year_64 ?_
          refine go_callSI X (As := [.long n.toInt64, .long 0, .long 20]) (rest := []) (kX7_in l D cs ad N kt (by omega) σ τ n.toInt64 0 20) gX7_year_X7_in rfl hdX7_in ⟨rfl, rfl, by decide, by decide, by decide, by decide⟩ rfl rfl (Nat.le_of_ble_eq_true rfl) dX7_year_67 (fun r9 σ9 τ9 h9 => ?_)
          obtain ⟨rfl, rfl, rfl⟩ := h9
          refine go_topi (v := b2i (isB n 21)) (b2i_c (in_iff rfl rfl)) ?_
          refine go_ifb_eq X (tgt := 78) dX7_year_70 (by decide) (fun c70 => ?_) (fun c70 => ?_)
          · skip
            refine go_aload_n X dX7_year_78 1 rfl rfl ?_
            refine go_bipush X (v := (-2)) dX7_year_79 (by decide) ?_
            refine go_callVI X (n := 38) (As := [.int (-2)]) (rest := []) (kX7_refused l D cs ad N kt (by omega) σ τ (-2)) gX7_year_X7_refused rfl hdX7_refused ⟨rfl, rfl, by decide, by decide, by decide, by decide⟩ (by omega) rfl rfl rfl rfl (Nat.le_of_ble_eq_true rfl) dX7_year_81 (fun r9 σ9 τ9 h9 => ?_)
            obtain ⟨rfl, rfl, rfl⟩ := h9
            exact go_ireturn X hr hlk dX7_year_84 ((have hE : yearS (thM σ) (σ 55) (σ 54) (fun z9 y9 => σ 56 (60 * z9 + y9)) (σ 43) (uvM σ) (pvM σ) ns nd (nI kk) lane i n what = ((-2), 0) := (by unfold yearS; (try dsimp only); (try rw [toN_nI (k := kk) (by omega)]); exact (cif_t (Classical.not_not.mp c4)).trans ((cif_t c57).trans ((cif_f c70).trans (rfl)))); ⟨by rw [hE], fun q h38 _ => up2_row h38, fun j h0 _ _ _ => up2_ne (by omega), by rw [hE]; exact up2_self, rfl⟩))
          · skip
            obtain ⟨nn, hnn, rfl⟩ := isB_nat (b := 21) c70 (by omega)
            refine go_iload X dX7_year_73 0 rfl ?_
            refine go_if_ne X (tgt := 85) dX7_year_75 (by decide) (fun h9 => absurd h9 (by decide)) (fun _ => ?_)
            refine go_aload_n X dX7_year_78 1 rfl rfl ?_
            refine go_bipush X (v := (-2)) dX7_year_79 (by decide) ?_
            refine go_callVI X (n := 38) (As := [.int (-2)]) (rest := []) (kX7_refused l D cs ad N kt (by omega) σ τ (-2)) gX7_year_X7_refused rfl hdX7_refused ⟨rfl, rfl, by decide, by decide, by decide, by decide⟩ (by omega) rfl rfl rfl rfl (Nat.le_of_ble_eq_true rfl) dX7_year_81 (fun r9 σ9 τ9 h9 => ?_)
            obtain ⟨rfl, rfl, rfl⟩ := h9
            exact go_ireturn X hr hlk dX7_year_84 ((have hE : yearS (thM σ) (σ 55) (σ 54) (fun z9 y9 => σ 56 (60 * z9 + y9)) (σ 43) (uvM σ) (pvM σ) ns nd (nI kk) lane i (nI nn) what = ((-2), 0) := (by unfold yearS; (try dsimp only); (try rw [toN_nI (k := kk) (by omega)]); (try rw [toN_nI (k := nn) (by omega)]); exact (cif_t (Classical.not_not.mp c4)).trans ((cif_t c57).trans ((cif_t c70).trans ((cif_f (ask_n c23 c38)).trans (rfl))))); ⟨by rw [hE], fun q h38 _ => up2_row h38, fun j h0 _ _ _ => up2_ne (by omega), by rw [hE]; exact up2_self, rfl⟩))
      · skip
        refine go_iconst X (v := 1) dX7_year_41 (by decide) ?_
        refine go_goto X (tgt := 46) dX7_year_42 (by decide) ?_
        refine go_istore X (lv2 := [(6, .int 1), (0, .ref (ad (38))), (1, .int (nI kk)), (2, .int lane), (3, .int i), (4, .int n), (5, .int what)]) dX7_year_46 (by decide) rfl ?_
        refine go_iload_n X dX7_year_48 3 rfl rfl ?_
        refine go_i2l X (v := lane.toInt64) dX7_year_49 rfl ?_
        refine go_lconst X (v := 0) dX7_year_50 (by decide) ?_
        refine go_ldc2 X (v := 2) (List.mem_cons_of_mem _ (List.mem_append_left _ (List.mem_append_left _ (List.mem_of_getElem? (i := 0) rfl)))) dX7_year_51 ?_
        refine go_callSI X (As := [.long lane.toInt64, .long 0, .long 2]) (rest := []) (kX7_in l D cs ad N kt (by omega) σ τ lane.toInt64 0 2) gX7_year_X7_in rfl hdX7_in ⟨rfl, rfl, by decide, by decide, by decide, by decide⟩ rfl rfl (Nat.le_of_ble_eq_true rfl) dX7_year_54 (fun r9 σ9 τ9 h9 => ?_)
        obtain ⟨rfl, rfl, rfl⟩ := h9
        refine go_topi (v := b2i (isB lane 3)) (b2i_c (in_iff rfl rfl)) ?_
        refine go_ifb_eq X (tgt := 78) dX7_year_57 (by decide) (fun c57 => ?_) (fun c57 => ?_)
        · skip
          refine go_aload_n X dX7_year_78 1 rfl rfl ?_
          refine go_bipush X (v := (-2)) dX7_year_79 (by decide) ?_
          refine go_callVI X (n := 38) (As := [.int (-2)]) (rest := []) (kX7_refused l D cs ad N kt (by omega) σ τ (-2)) gX7_year_X7_refused rfl hdX7_refused ⟨rfl, rfl, by decide, by decide, by decide, by decide⟩ (by omega) rfl rfl rfl rfl (Nat.le_of_ble_eq_true rfl) dX7_year_81 (fun r9 σ9 τ9 h9 => ?_)
          obtain ⟨rfl, rfl, rfl⟩ := h9
          exact go_ireturn X hr hlk dX7_year_84 ((have hE : yearS (thM σ) (σ 55) (σ 54) (fun z9 y9 => σ 56 (60 * z9 + y9)) (σ 43) (uvM σ) (pvM σ) ns nd (nI kk) lane i n what = ((-2), 0) := (by unfold yearS; (try dsimp only); (try rw [toN_nI (k := kk) (by omega)]); exact (cif_t (Classical.not_not.mp c4)).trans ((cif_f c57).trans (rfl))); ⟨by rw [hE], fun q h38 _ => up2_row h38, fun j h0 _ _ _ => up2_ne (by omega), by rw [hE]; exact up2_self, rfl⟩))
        · skip
          refine go_iload X dX7_year_60 5 rfl ?_
          refine go_i2l X (v := n.toInt64) dX7_year_62 rfl ?_
          refine go_lconst X (v := 0) dX7_year_63 (by decide) ?_
          refine go_ldc2 X (v := 20) (List.mem_cons_of_mem _ (List.mem_append_left _ (List.mem_append_left _ (List.mem_of_getElem? (i := 3) rfl)))) dX7_year_64 ?_
          refine go_callSI X (As := [.long n.toInt64, .long 0, .long 20]) (rest := []) (kX7_in l D cs ad N kt (by omega) σ τ n.toInt64 0 20) gX7_year_X7_in rfl hdX7_in ⟨rfl, rfl, by decide, by decide, by decide, by decide⟩ rfl rfl (Nat.le_of_ble_eq_true rfl) dX7_year_67 (fun r9 σ9 τ9 h9 => ?_)
          obtain ⟨rfl, rfl, rfl⟩ := h9
          refine go_topi (v := b2i (isB n 21)) (b2i_c (in_iff rfl rfl)) ?_
          refine go_ifb_eq X (tgt := 78) dX7_year_70 (by decide) (fun c70 => ?_) (fun c70 => ?_)
          · skip
            refine go_aload_n X dX7_year_78 1 rfl rfl ?_
            refine go_bipush X (v := (-2)) dX7_year_79 (by decide) ?_
            refine go_callVI X (n := 38) (As := [.int (-2)]) (rest := []) (kX7_refused l D cs ad N kt (by omega) σ τ (-2)) gX7_year_X7_refused rfl hdX7_refused ⟨rfl, rfl, by decide, by decide, by decide, by decide⟩ (by omega) rfl rfl rfl rfl (Nat.le_of_ble_eq_true rfl) dX7_year_81 (fun r9 σ9 τ9 h9 => ?_)
            obtain ⟨rfl, rfl, rfl⟩ := h9
            exact go_ireturn X hr hlk dX7_year_84 ((have hE : yearS (thM σ) (σ 55) (σ 54) (fun z9 y9 => σ 56 (60 * z9 + y9)) (σ 43) (uvM σ) (pvM σ) ns nd (nI kk) lane i n what = ((-2), 0) := (by unfold yearS; (try dsimp only); (try rw [toN_nI (k := kk) (by omega)]); exact (cif_t (Classical.not_not.mp c4)).trans ((cif_t c57).trans ((cif_f c70).trans (rfl)))); ⟨by rw [hE], fun q h38 _ => up2_row h38, fun j h0 _ _ _ => up2_ne (by omega), by rw [hE]; exact up2_self, rfl⟩))
          · skip
            obtain ⟨nn, hnn, rfl⟩ := isB_nat (b := 21) c70 (by omega)
            refine go_iload X dX7_year_73 0 rfl ?_
            refine go_if_ne X (tgt := 85) dX7_year_75 (by decide) (fun _ => ?_) (fun h9 => absurd h9 (by decide))
            refine go_aload_n X dX7_year_85 1 rfl rfl ?_
            refine go_geti X (n := 38) (j := 5) (by omega) rfl rfl (fun _ h9 => List.mem_cons_of_mem _ (List.mem_append_right _ h9)) (by decide) (List.mem_cons_of_mem _ (List.mem_append_left _ (List.mem_append_left _ (List.mem_of_getElem? (i := 4) rfl)))) rfl dX7_year_86 ?_
            refine go_topi (v := nI ns) (hns) ?_
            refine go_ifn_ne X (tgt := 99) dX7_year_89 (by decide) (a := ns) rfl (by omega) (fun c89 => ?_) (fun c89 => ?_)
            · skip
              refine go_aload_n X dX7_year_99 1 rfl rfl ?_
              refine go_iload_n X dX7_year_100 2 rfl rfl ?_
              refine go_iload_n X dX7_year_101 3 rfl rfl ?_
              refine go_iload_n X dX7_year_102 4 rfl rfl ?_
              refine go_ldc2 X (v := 3) (List.mem_cons_of_mem _ (List.mem_append_left _ (List.mem_append_left _ (List.mem_of_getElem? (i := 5) rfl)))) dX7_year_103 ?_
              refine go_iload X dX7_year_106 5 rfl ?_
              refine go_i2l X (v := lN nn) dX7_year_108 (nI_l (by omega)) ?_
              refine go_lmul X dX7_year_109 ?_
              refine go_topl (v := (nI (3 * nn)).toInt64) (by rw [show (3 : Int64) = lN 3 from rfl, lN_mul, nI_l (by omega)]) ?_
              refine go_callVI X (n := 38) (As := [.int (nI kk), .int lane, .int i, .long ((nI (3 * nn)).toInt64)]) (rest := []) (kX7_cellsBarred l D cs ad N kt (by omega) σ τ kk lane i (nI (3 * nn)) (by omega) (hsh kk (by omega))) gX7_year_X7_cellsBarred rfl hdX7_cellsBarred ⟨rfl, rfl, by decide, by decide, by decide, by decide⟩ (by omega) rfl rfl rfl rfl (Nat.le_of_ble_eq_true rfl) dX7_year_110 (fun r9 σ9 τ9 h9 => ?_)
              obtain ⟨rfl, rfl, rfl⟩ := h9
              rcases cbF_c (th := thM σ kk) (la := σ 55 kk) (le := σ 54 kk) (lane := lane) (i := i) (n := nI (3 * nn)) with ⟨f9, g9, s9, e9⟩ | ⟨f9, g9, s9, e9⟩ | ⟨f9, g9, e9⟩ | ⟨f9, e9⟩ | ⟨f9, e9⟩
              · skip
                have r9 := cb_0 (σ := σ) e9
                refine go_topi (v := 0) r9.1 ?_
                refine go_sg (σ2 := σ) r9.2 ?_
                refine go_istore X (lv2 := [(7, .int 0), (6, .int 1), (0, .ref (ad (38))), (1, .int (nI kk)), (2, .int lane), (3, .int i), (4, .int (nI nn)), (5, .int what)]) dX7_year_113 (by decide) rfl ?_
                refine go_iload X dX7_year_115 0 rfl ?_
                refine go_if_ge X (tgt := 123) dX7_year_117 (by decide) (fun _ => ?_) (fun h9 => absurd h9 (by decide))
                obtain ⟨len, hlen, elen⟩ := isB_nat (b := 61) ((hsh kk (by omega)).resolve_left (fun q => by rw [show σ 54 kk = -1 from q] at s9; exact absurd (Int32.le_trans s9.1 s9.2.1) (by decide))) (by omega)
                obtain ⟨ii, n3, rfl, hn3, hsp⟩ := spanS_nat (len := len) (by rw [← elen]; exact s9) (by omega)
                have hn4 : 3 * nn = n3 := (nI_eq (by omega) (by omega)).mp hn3
                refine go_iconst X (v := 0) dX7_year_123 (by decide) ?_
                refine go_istore X (lv2 := [(8, .int 0), (7, .int 0), (6, .int 1), (0, .ref (ad (38))), (1, .int (nI kk)), (2, .int lane), (3, .int (nI ii)), (4, .int (nI nn)), (5, .int what)]) dX7_year_124 (by decide) rfl ?_
                refine go_loop (ι := Nat) (fun i9 => (i9 ≤ nn) ∧ (tripP (fun y9 => σ 56 (60 * kk + y9)) (nI ns) (nI nd) ii i9)) (fun i9 => nn - i9) (fun i9 => σ) (fun i9 => τ) (fun i9 => [(8, .int (nI i9)), (7, .int 0), (6, .int 1), (0, .ref (ad (38))), (1, .int (nI kk)), (2, .int lane), (3, .int (nI ii)), (4, .int (nI nn)), (5, .int what)]) (fun i9 => []) 0 (by (try dsimp only); exact ⟨Nat.zero_le _, fun _ h => absurd h (Nat.not_lt_zero _)⟩) ?_
                intro i9 hi9 ih126
                obtain ⟨t, hv9⟩ : ∃ z, z = i9 := ⟨_, rfl⟩; subst hv9
                (try dsimp only at hi9); (try dsimp only at ih126); (try dsimp only)
                obtain ⟨ht, hal⟩ := hi9
                refine go_iload X dX7_year_126 0 rfl ?_
                refine go_iload X dX7_year_128 7 rfl ?_
                refine go_icmpn_ge X (tgt := 208) dX7_year_130 (by decide) (a := t) (b := nn) rfl rfl (by omega) (by omega) (fun c130 => ?_) (fun c130 => ?_)
                · skip
                  have hTp : tripP (fun y9 => σ 56 (60 * kk + y9)) (nI ns) (nI nd) ii nn := by rw [show nn = t by omega]; exact hal
                  refine go_aload_n X dX7_year_208 3 rfl rfl ?_
                  refine go_bipush X (v := 60) dX7_year_209 (by decide) ?_
                  refine go_iload_n X dX7_year_211 4 rfl rfl ?_
                  refine go_imul X dX7_year_212 ?_
                  refine go_topi (v := nI (60 * kk)) (pk_mul 60 kk) ?_
                  refine go_iload_n X dX7_year_213 6 rfl rfl ?_
                  refine go_iadd X dX7_year_214 ?_
                  refine go_topi (v := nI ((60 * kk) + ii)) (nI_add (60 * kk) ii) ?_
                  refine go_iload X dX7_year_215 7 rfl ?_
                  refine go_callVV X (n := 38) (As := [.int (nI ((60 * kk) + ii)), .int (nI nn)]) (rest := []) (kX7_goYear l D cs ad N kt (by omega) σ τ ((60 * kk) + ii) nn ns (fun z => toN (σ 43 z)) (fun t => toN (σ 56 (60 * kk + (ii + 3 * t)))) (fun t => toN (σ 56 (60 * kk + (ii + 3 * t + 1)))) (fun t => toN (σ 56 (60 * kk + (ii + 3 * t + 2)))) (by omega) hns (by omega) (fun a ha => by have h := isB_toN (b := 4) (hkp a ha).2 (by omega); exact ⟨h.2, by omega⟩) (fun t ht => by obtain ⟨t1, t2, t3⟩ := hTp t ht; dsimp only at t1 t2 t3; have e1 := isB_toN t1 (by omega); have e2 := isB_toN t2 (by omega); have e3 := isB_toN (b := 3) t3 (by omega); rw [show 60 * kk + ii + 3 * t = 60 * kk + (ii + 3 * t) by omega, show 60 * kk + (ii + 3 * t) + 1 = 60 * kk + (ii + 3 * t + 1) by omega, show 60 * kk + (ii + 3 * t) + 2 = 60 * kk + (ii + 3 * t + 2) by omega]; exact ⟨e1.2, e1.1, e2.2, by omega, e3.2, by omega, (hkp _ e1.1).1⟩)) gX7_year_X7_goYear rfl hdX7_goYear ⟨rfl, rfl, by decide, by decide, by decide, by decide⟩ (by omega) rfl rfl rfl rfl (Nat.le_of_ble_eq_true rfl) dX7_year_217 (fun σ2z τ2z h2z => ?_)
                  obtain ⟨rfl, hL⟩ := h2z
                  refine go_iload X dX7_year_220 8 rfl ?_
                  refine go_iconst X (v := 1) dX7_year_222 (by decide) ?_
                  refine go_icmp_ne X (tgt := 235) dX7_year_223 (by decide) (fun c223 => ?_) (fun c223 => ?_)
                  · skip
                    refine go_aload_n X dX7_year_235 3 rfl rfl ?_
                    refine go_geti X (n := 38) (j := 16) (by omega) rfl rfl (fun _ h9 => List.mem_cons_of_mem _ (List.mem_append_right _ h9)) (by decide) (List.mem_cons_of_mem _ (List.mem_append_left _ (List.mem_append_left _ (List.mem_of_getElem? (i := 7) rfl)))) rfl dX7_year_236 ?_
                    refine go_if_lt X (tgt := 254) dX7_year_239 (by decide) (fun c239 => ?_) (fun c239 => ?_)
                    · skip
                      have hfm : σ2z 38 16 = -9 := by rw [hL.2.2.1]; exact (yFw_neg (by omega)).mp (by rw [← hL.2.2.1]; exact Int32.not_le.mpr c239)
                      refine go_iload X dX7_year_254 8 rfl ?_
                      refine go_bipush X (v := 9) dX7_year_256 (by decide) ?_
                      refine go_icmp_le X (tgt := 293) dX7_year_258 (by decide) (fun c258 => ?_) (fun c258 => ?_)
                      · skip
                        refine go_aload_n X dX7_year_293 3 rfl rfl ?_
                        refine go_iload X dX7_year_294 8 rfl ?_
                        refine go_if_ne X (tgt := 306) dX7_year_296 (by decide) (fun c296 => ?_) (fun c296 => ?_)
                        · skip
                          refine go_aload_n X dX7_year_306 3 rfl rfl ?_
                          refine go_geti X (n := 38) (j := 18) (by omega) rfl rfl (fun _ h9 => List.mem_cons_of_mem _ (List.mem_append_right _ h9)) (by decide) (List.mem_cons_of_mem _ (List.mem_append_left _ (List.mem_append_left _ (List.mem_of_getElem? (i := 11) rfl)))) rfl dX7_year_307 ?_
                          refine go_callVI X (n := 38) (As := [.int (σ2z 38 18)]) (rest := []) (kX7_refused l D cs ad N kt (by omega) σ2z τ (σ2z 38 18)) gX7_year_X7_refused rfl hdX7_refused ⟨rfl, rfl, by decide, by decide, by decide, by decide⟩ (by omega) rfl rfl rfl rfl (Nat.le_of_ble_eq_true rfl) dX7_year_310 (fun r9 σ9 τ9 h9 => ?_)
                          obtain ⟨rfl, rfl, rfl⟩ := h9
                          exact go_ireturn X hr hlk dX7_year_313 ((have hE : yearS (thM σ) (σ 55) (σ 54) (fun z9 y9 => σ 56 (60 * z9 + y9)) (σ 43) (uvM σ) (pvM σ) ns nd (nI kk) lane (nI ii) (nI nn) what = ((σ2z 38 18), 0) := (by unfold yearS; (try dsimp only); (try rw [toN_nI (k := kk) (by omega)]); (try rw [toN_nI (k := nn) (by omega)]); (try rw [toN_nI (k := ii) (by omega)]); exact (cif_t (Classical.not_not.mp c4)).trans ((cif_t c57).trans ((cif_t c70).trans ((cif_t (ask_2 c38)).trans ((cif_t (nI_posN (Nat.pos_of_ne_zero c89) (by omega))).trans ((cif_t f9).trans ((cif_t s9).trans ((cif_t hTp).trans ((Prod.ext ((gyear_tie hL hns4).trans ((ofYS_m (ask_2 c38) c223 hfm).trans ((cif_t c258).trans (cif_f c296)))) rfl)))))))))); ⟨by rw [hE], fun q h38 h49 => (up2_row h38).trans (hL.1 q h38 h49), fun j h0 h16 h17 h18 => (up2_ne (by omega)).trans (hL.2.1 j h16 h17 h18), by rw [hE]; exact up2_self, rfl⟩))
                        · skip
                          refine go_aload_n X dX7_year_299 3 rfl rfl ?_
                          refine go_geti X (n := 38) (j := 17) (by omega) rfl rfl (fun _ h9 => List.mem_cons_of_mem _ (List.mem_append_right _ h9)) (by decide) (List.mem_cons_of_mem _ (List.mem_append_left _ (List.mem_append_left _ (List.mem_of_getElem? (i := 10) rfl)))) rfl dX7_year_300 ?_
                          refine go_goto X (tgt := 310) dX7_year_303 (by decide) ?_
                          refine go_callVI X (n := 38) (As := [.int (σ2z 38 17)]) (rest := []) (kX7_refused l D cs ad N kt (by omega) σ2z τ (σ2z 38 17)) gX7_year_X7_refused rfl hdX7_refused ⟨rfl, rfl, by decide, by decide, by decide, by decide⟩ (by omega) rfl rfl rfl rfl (Nat.le_of_ble_eq_true rfl) dX7_year_310 (fun r9 σ9 τ9 h9 => ?_)
                          obtain ⟨rfl, rfl, rfl⟩ := h9
                          exact go_ireturn X hr hlk dX7_year_313 ((have hE : yearS (thM σ) (σ 55) (σ 54) (fun z9 y9 => σ 56 (60 * z9 + y9)) (σ 43) (uvM σ) (pvM σ) ns nd (nI kk) lane (nI ii) (nI nn) what = ((σ2z 38 17), 0) := (by unfold yearS; (try dsimp only); (try rw [toN_nI (k := kk) (by omega)]); (try rw [toN_nI (k := nn) (by omega)]); (try rw [toN_nI (k := ii) (by omega)]); exact (cif_t (Classical.not_not.mp c4)).trans ((cif_t c57).trans ((cif_t c70).trans ((cif_t (ask_2 c38)).trans ((cif_t (nI_posN (Nat.pos_of_ne_zero c89) (by omega))).trans ((cif_t f9).trans ((cif_t s9).trans ((cif_t hTp).trans ((Prod.ext ((gyear_tie hL hns4).trans ((ofYS_m (ask_2 c38) c223 hfm).trans ((cif_t c258).trans (cif_t c296)))) rfl)))))))))); ⟨by rw [hE], fun q h38 h49 => (up2_row h38).trans (hL.1 q h38 h49), fun j h0 h16 h17 h18 => (up2_ne (by omega)).trans (hL.2.1 j h16 h17 h18), by rw [hE]; exact up2_self, rfl⟩))
                      · skip
                        refine go_aload_n X dX7_year_261 3 rfl rfl ?_
                        refine go_aload_n X dX7_year_262 3 rfl rfl ?_
                        refine go_iload X dX7_year_263 8 rfl ?_
                        refine go_bipush X (v := 10) dX7_year_265 (by decide) ?_
                        refine go_isub X dX7_year_267 ?_
                        refine go_callVI X (n := 38) (As := [.int (what - 10)]) (rest := [.ref (ad (38))]) (kX7_noSubject l D cs ad N kt (by omega) σ2z τ (what - 10) (nI ns) (((hL.2.1 5 (by omega) (by omega) (by omega)).trans hns))) gX7_year_X7_noSubject rfl hdX7_noSubject ⟨rfl, rfl, by decide, by decide, by decide, by decide⟩ (by omega) rfl rfl rfl rfl (Nat.le_of_ble_eq_true rfl) dX7_year_268 (fun r9 σ9 τ9 h9 => ?_)
                        obtain ⟨rfl, rfl, rfl⟩ := h9
                        refine go_ifb_eq X (tgt := 279) dX7_year_271 (by decide) (fun c271 => ?_) (fun c271 => ?_)
                        · skip
                          obtain ⟨j, hj, ej⟩ := isB_nat (Classical.not_not.mp c271) (by omega)
                          refine go_aload_n X dX7_year_279 3 rfl rfl ?_
                          refine go_getr X (n := 38) (j := 19) (by omega) rfl rfl (fun _ h9 => List.mem_cons_of_mem _ (List.mem_append_right _ h9)) (by decide) (List.mem_cons_of_mem _ (List.mem_append_left _ (List.mem_append_left _ (List.mem_of_getElem? (i := 9) rfl)))) rfl dX7_year_280 ?_
                          refine go_iload X dX7_year_283 8 rfl ?_
                          refine go_bipush X (v := 10) dX7_year_285 (by decide) ?_
                          refine go_isub X dX7_year_287 ?_
                          refine go_iald X (n := 49) (k := j) (by omega) rfl ej (by omega) (by omega) dX7_year_288 ?_
                          refine go_callVI X (n := 38) (As := [.int (σ2z 49 j)]) (rest := []) (kX7_refused l D cs ad N kt (by omega) σ2z τ (σ2z 49 j)) gX7_year_X7_refused rfl hdX7_refused ⟨rfl, rfl, by decide, by decide, by decide, by decide⟩ (by omega) rfl rfl rfl rfl (Nat.le_of_ble_eq_true rfl) dX7_year_289 (fun r9 σ9 τ9 h9 => ?_)
                          obtain ⟨rfl, rfl, rfl⟩ := h9
                          exact go_ireturn X hr hlk dX7_year_292 ((have hE : yearS (thM σ) (σ 55) (σ 54) (fun z9 y9 => σ 56 (60 * z9 + y9)) (σ 43) (uvM σ) (pvM σ) ns nd (nI kk) lane (nI ii) (nI nn) what = ((σ2z 49 j), 0) := (by unfold yearS; (try dsimp only); (try rw [toN_nI (k := kk) (by omega)]); (try rw [toN_nI (k := nn) (by omega)]); (try rw [toN_nI (k := ii) (by omega)]); exact (cif_t (Classical.not_not.mp c4)).trans ((cif_t c57).trans ((cif_t c70).trans ((cif_t (ask_2 c38)).trans ((cif_t (nI_posN (Nat.pos_of_ne_zero c89) (by omega))).trans ((cif_t f9).trans ((cif_t s9).trans ((cif_t hTp).trans ((Prod.ext ((gyear_tie hL hns4).trans ((ofYS_m (ask_2 c38) c223 hfm).trans ((cif_f c258).trans ((cif_t (Classical.not_not.mp c271)).trans (by rw [ej, toN_nI (by omega)]))))) rfl)))))))))); ⟨by rw [hE], fun q h38 h49 => (up2_row h38).trans (hL.1 q h38 h49), fun j h0 h16 h17 h18 => (up2_ne (by omega)).trans (hL.2.1 j h16 h17 h18), by rw [hE]; exact up2_self, rfl⟩))
                        · skip
                          refine go_bipush X (v := (-9)) dX7_year_274 (by decide) ?_
                          refine go_goto X (tgt := 289) dX7_year_276 (by decide) ?_
                          refine go_callVI X (n := 38) (As := [.int (-9)]) (rest := []) (kX7_refused l D cs ad N kt (by omega) σ2z τ (-9)) gX7_year_X7_refused rfl hdX7_refused ⟨rfl, rfl, by decide, by decide, by decide, by decide⟩ (by omega) rfl rfl rfl rfl (Nat.le_of_ble_eq_true rfl) dX7_year_289 (fun r9 σ9 τ9 h9 => ?_)
                          obtain ⟨rfl, rfl, rfl⟩ := h9
                          exact go_ireturn X hr hlk dX7_year_292 ((have hE : yearS (thM σ) (σ 55) (σ 54) (fun z9 y9 => σ 56 (60 * z9 + y9)) (σ 43) (uvM σ) (pvM σ) ns nd (nI kk) lane (nI ii) (nI nn) what = ((-9), 0) := (by unfold yearS; (try dsimp only); (try rw [toN_nI (k := kk) (by omega)]); (try rw [toN_nI (k := nn) (by omega)]); (try rw [toN_nI (k := ii) (by omega)]); exact (cif_t (Classical.not_not.mp c4)).trans ((cif_t c57).trans ((cif_t c70).trans ((cif_t (ask_2 c38)).trans ((cif_t (nI_posN (Nat.pos_of_ne_zero c89) (by omega))).trans ((cif_t f9).trans ((cif_t s9).trans ((cif_t hTp).trans ((Prod.ext ((gyear_tie hL hns4).trans ((ofYS_m (ask_2 c38) c223 hfm).trans ((cif_f c258).trans (cif_f c271)))) rfl)))))))))); ⟨by rw [hE], fun q h38 h49 => (up2_row h38).trans (hL.1 q h38 h49), fun j h0 h16 h17 h18 => (up2_ne (by omega)).trans (hL.2.1 j h16 h17 h18), by rw [hE]; exact up2_self, rfl⟩))
                    · skip
                      refine go_aload_n X dX7_year_242 3 rfl rfl ?_
                      refine go_ldc X (v := (-100000)) (List.mem_cons_of_mem _ (List.mem_append_left _ (List.mem_append_left _ (List.mem_of_getElem? (i := 8) rfl)))) dX7_year_243 ?_
                      refine go_aload_n X dX7_year_245 3 rfl rfl ?_
                      refine go_geti X (n := 38) (j := 16) (by omega) rfl rfl (fun _ h9 => List.mem_cons_of_mem _ (List.mem_append_right _ h9)) (by decide) (List.mem_cons_of_mem _ (List.mem_append_left _ (List.mem_append_left _ (List.mem_of_getElem? (i := 7) rfl)))) rfl dX7_year_246 ?_
                      refine go_isub X dX7_year_249 ?_
                      refine go_callVI X (n := 38) (As := [.int ((-100000) - (σ2z 38 16))]) (rest := []) (kX7_refused l D cs ad N kt (by omega) σ2z τ ((-100000) - (σ2z 38 16))) gX7_year_X7_refused rfl hdX7_refused ⟨rfl, rfl, by decide, by decide, by decide, by decide⟩ (by omega) rfl rfl rfl rfl (Nat.le_of_ble_eq_true rfl) dX7_year_250 (fun r9 σ9 τ9 h9 => ?_)
                      obtain ⟨rfl, rfl, rfl⟩ := h9
                      exact go_ireturn X hr hlk dX7_year_253 ((have hE : yearS (thM σ) (σ 55) (σ 54) (fun z9 y9 => σ 56 (60 * z9 + y9)) (σ 43) (uvM σ) (pvM σ) ns nd (nI kk) lane (nI ii) (nI nn) what = (((-100000) - (σ2z 38 16)), 0) := (by unfold yearS; (try dsimp only); (try rw [toN_nI (k := kk) (by omega)]); (try rw [toN_nI (k := nn) (by omega)]); (try rw [toN_nI (k := ii) (by omega)]); exact (cif_t (Classical.not_not.mp c4)).trans ((cif_t c57).trans ((cif_t c70).trans ((cif_t (ask_2 c38)).trans ((cif_t (nI_posN (Nat.pos_of_ne_zero c89) (by omega))).trans ((cif_t f9).trans ((cif_t s9).trans ((cif_t hTp).trans ((Prod.ext ((gyear_tie hL hns4).trans ((cif_f c223).trans (cif_f (fun q => by rw [q] at c239; exact absurd c239 (by decide))))) rfl)))))))))); ⟨by rw [hE], fun q h38 h49 => (up2_row h38).trans (hL.1 q h38 h49), fun j h0 h16 h17 h18 => (up2_ne (by omega)).trans (hL.2.1 j h16 h17 h18), by rw [hE]; exact up2_self, rfl⟩))
                  · skip
                    refine go_aload_n X dX7_year_226 3 rfl rfl ?_
                    refine go_aload_n X dX7_year_227 3 rfl rfl ?_
                    refine go_geti X (n := 38) (j := 16) (by omega) rfl rfl (fun _ h9 => List.mem_cons_of_mem _ (List.mem_append_right _ h9)) (by decide) (List.mem_cons_of_mem _ (List.mem_append_left _ (List.mem_append_left _ (List.mem_of_getElem? (i := 7) rfl)))) rfl dX7_year_228 ?_
                    refine go_callVI X (n := 38) (As := [.int (σ2z 38 16)]) (rest := []) (kX7_refused l D cs ad N kt (by omega) σ2z τ (σ2z 38 16)) gX7_year_X7_refused rfl hdX7_refused ⟨rfl, rfl, by decide, by decide, by decide, by decide⟩ (by omega) rfl rfl rfl rfl (Nat.le_of_ble_eq_true rfl) dX7_year_231 (fun r9 σ9 τ9 h9 => ?_)
                    obtain ⟨rfl, rfl, rfl⟩ := h9
                    exact go_ireturn X hr hlk dX7_year_234 ((have hE : yearS (thM σ) (σ 55) (σ 54) (fun z9 y9 => σ 56 (60 * z9 + y9)) (σ 43) (uvM σ) (pvM σ) ns nd (nI kk) lane (nI ii) (nI nn) what = ((σ2z 38 16), 0) := (by unfold yearS; (try dsimp only); (try rw [toN_nI (k := kk) (by omega)]); (try rw [toN_nI (k := nn) (by omega)]); (try rw [toN_nI (k := ii) (by omega)]); exact (cif_t (Classical.not_not.mp c4)).trans ((cif_t c57).trans ((cif_t c70).trans ((cif_t (ask_2 c38)).trans ((cif_t (nI_posN (Nat.pos_of_ne_zero c89) (by omega))).trans ((cif_t f9).trans ((cif_t s9).trans ((cif_t hTp).trans ((Prod.ext ((gyear_tie hL hns4).trans (cif_t c223)) rfl)))))))))); ⟨by rw [hE], fun q h38 h49 => (up2_row h38).trans (hL.1 q h38 h49), fun j h0 h16 h17 h18 => (up2_ne (by omega)).trans (hL.2.1 j h16 h17 h18), by rw [hE]; exact up2_self, rfl⟩))
                · skip
                  refine go_bipush X (v := 60) dX7_year_133 (by decide) ?_
                  refine go_iload_n X dX7_year_135 4 rfl rfl ?_
                  refine go_imul X dX7_year_136 ?_
                  refine go_topi (v := nI (60 * kk)) (pk_mul 60 kk) ?_
                  refine go_iload_n X dX7_year_137 6 rfl rfl ?_
                  refine go_iadd X dX7_year_138 ?_
                  refine go_topi (v := nI ((60 * kk) + ii)) (nI_add (60 * kk) ii) ?_
                  refine go_iconst X (v := 3) dX7_year_139 (by decide) ?_
                  refine go_iload X dX7_year_140 0 rfl ?_
                  refine go_imul X dX7_year_142 ?_
                  refine go_topi (v := nI (3 * t)) (pk_mul 3 t) ?_
                  refine go_iadd X dX7_year_143 ?_
                  refine go_topi (v := nI (((60 * kk) + ii) + (3 * t))) (nI_add ((60 * kk) + ii) (3 * t)) ?_
                  refine go_istore X (lv2 := [(9, .int (nI (((60 * kk) + ii) + (3 * t)))), (8, .int (nI t)), (7, .int 0), (6, .int 1), (0, .ref (ad (38))), (1, .int (nI kk)), (2, .int lane), (3, .int (nI ii)), (4, .int (nI nn)), (5, .int what)]) dX7_year_144 (by decide) rfl ?_
                  refine go_lv (lv2 := [(9, .int (nI (60 * kk + (ii + 3 * t)))), (8, .int (nI t)), (7, .int 0), (6, .int 1), (0, .ref (ad (38))), (1, .int (nI kk)), (2, .int lane), (3, .int (nI ii)), (4, .int (nI nn)), (5, .int what)]) (by rw [show 60 * kk + ii + 3 * t = 60 * kk + (ii + 3 * t) by omega]) ?_
                  refine go_aload_n X dX7_year_146 4 rfl rfl ?_
                  refine go_aload_n X dX7_year_147 4 rfl rfl ?_
                  refine go_getr X (n := 38) (j := 27) (by omega) rfl rfl (fun _ h9 => List.mem_cons_of_mem _ (List.mem_append_right _ h9)) (by decide) (List.mem_cons_of_mem _ (List.mem_append_left _ (List.mem_append_left _ (List.mem_of_getElem? (i := 6) rfl)))) rfl dX7_year_148 ?_
                  refine go_iload X dX7_year_151 0 rfl ?_
                  refine go_iald X (n := 56) (k := 60 * kk + (ii + 3 * t)) (by omega) rfl rfl (by omega) (by omega) dX7_year_153 ?_
                  refine go_callVI X (n := 38) (As := [.int (σ 56 (60 * kk + (ii + 3 * t)))]) (rest := []) (kX7_noSubject l D cs ad N kt (by omega) σ τ (σ 56 (60 * kk + (ii + 3 * t))) (nI ns) (hns)) gX7_year_X7_noSubject rfl hdX7_noSubject ⟨rfl, rfl, by decide, by decide, by decide, by decide⟩ (by omega) rfl rfl rfl rfl (Nat.le_of_ble_eq_true rfl) dX7_year_154 (fun r9 σ9 τ9 h9 => ?_)
                  obtain ⟨rfl, rfl, rfl⟩ := h9
                  refine go_ifb_ne X (tgt := 196) dX7_year_157 (by decide) (fun c157 => ?_) (fun c157 => ?_)
                  · skip
                    refine go_aload_n X dX7_year_196 4 rfl rfl ?_
                    refine go_iconst X (v := (-1)) dX7_year_197 (by decide) ?_
                    refine go_callVI X (n := 38) (As := [.int (-1)]) (rest := []) (kX7_refused l D cs ad N kt (by omega) σ τ (-1)) gX7_year_X7_refused rfl hdX7_refused ⟨rfl, rfl, by decide, by decide, by decide, by decide⟩ (by omega) rfl rfl rfl rfl (Nat.le_of_ble_eq_true rfl) dX7_year_198 (fun r9 σ9 τ9 h9 => ?_)
                    obtain ⟨rfl, rfl, rfl⟩ := h9
                    exact go_ireturn X hr hlk dX7_year_201 ((have hE : yearS (thM σ) (σ 55) (σ 54) (fun z9 y9 => σ 56 (60 * z9 + y9)) (σ 43) (uvM σ) (pvM σ) ns nd (nI kk) lane (nI ii) (nI nn) what = ((-1), 0) := (by unfold yearS; (try dsimp only); (try rw [toN_nI (k := kk) (by omega)]); (try rw [toN_nI (k := nn) (by omega)]); (try rw [toN_nI (k := ii) (by omega)]); exact (cif_t (Classical.not_not.mp c4)).trans ((cif_t c57).trans ((cif_t c70).trans ((cif_t (ask_2 c38)).trans ((cif_t (nI_posN (Nat.pos_of_ne_zero c89) (by omega))).trans ((cif_t f9).trans ((cif_t s9).trans ((cif_f (fun q => c157 (q t (by omega)).1)).trans (rfl))))))))); ⟨by rw [hE], fun q h38 _ => up2_row h38, fun j h0 _ _ _ => up2_ne (by omega), by rw [hE]; exact up2_self, rfl⟩))
                  · skip
                    refine go_aload_n X dX7_year_160 4 rfl rfl ?_
                    refine go_aload_n X dX7_year_161 4 rfl rfl ?_
                    refine go_getr X (n := 38) (j := 27) (by omega) rfl rfl (fun _ h9 => List.mem_cons_of_mem _ (List.mem_append_right _ h9)) (by decide) (List.mem_cons_of_mem _ (List.mem_append_left _ (List.mem_append_left _ (List.mem_of_getElem? (i := 6) rfl)))) rfl dX7_year_162 ?_
                    refine go_iload X dX7_year_165 0 rfl ?_
                    refine go_iconst X (v := 1) dX7_year_167 (by decide) ?_
                    refine go_iadd X dX7_year_168 ?_
                    refine go_topi (v := nI ((60 * kk + (ii + 3 * t)) + 1)) (nI_add (60 * kk + (ii + 3 * t)) 1) ?_
                    refine go_iald X (n := 56) (k := (60 * kk + (ii + 3 * t)) + 1) (by omega) rfl rfl (by omega) (by omega) dX7_year_169 ?_
                    refine go_callVI X (n := 38) (As := [.int (σ 56 ((60 * kk + (ii + 3 * t)) + 1))]) (rest := []) (kX7_noDeed l D cs ad N kt (by omega) σ τ (σ 56 ((60 * kk + (ii + 3 * t)) + 1)) (nI nd) (hnd)) gX7_year_X7_noDeed rfl hdX7_noDeed ⟨rfl, rfl, by decide, by decide, by decide, by decide⟩ (by omega) rfl rfl rfl rfl (Nat.le_of_ble_eq_true rfl) dX7_year_170 (fun r9 σ9 τ9 h9 => ?_)
                    obtain ⟨rfl, rfl, rfl⟩ := h9
                    refine go_ifb_ne X (tgt := 196) dX7_year_173 (by decide) (fun c173 => ?_) (fun c173 => ?_)
                    · skip
                      refine go_aload_n X dX7_year_196 4 rfl rfl ?_
                      refine go_iconst X (v := (-1)) dX7_year_197 (by decide) ?_
                      refine go_callVI X (n := 38) (As := [.int (-1)]) (rest := []) (kX7_refused l D cs ad N kt (by omega) σ τ (-1)) gX7_year_X7_refused rfl hdX7_refused ⟨rfl, rfl, by decide, by decide, by decide, by decide⟩ (by omega) rfl rfl rfl rfl (Nat.le_of_ble_eq_true rfl) dX7_year_198 (fun r9 σ9 τ9 h9 => ?_)
                      obtain ⟨rfl, rfl, rfl⟩ := h9
                      exact go_ireturn X hr hlk dX7_year_201 ((have hE : yearS (thM σ) (σ 55) (σ 54) (fun z9 y9 => σ 56 (60 * z9 + y9)) (σ 43) (uvM σ) (pvM σ) ns nd (nI kk) lane (nI ii) (nI nn) what = ((-1), 0) := (by unfold yearS; (try dsimp only); (try rw [toN_nI (k := kk) (by omega)]); (try rw [toN_nI (k := nn) (by omega)]); (try rw [toN_nI (k := ii) (by omega)]); exact (cif_t (Classical.not_not.mp c4)).trans ((cif_t c57).trans ((cif_t c70).trans ((cif_t (ask_2 c38)).trans ((cif_t (nI_posN (Nat.pos_of_ne_zero c89) (by omega))).trans ((cif_t f9).trans ((cif_t s9).trans ((cif_f (fun q => c173 (q t (by omega)).2.1)).trans (rfl))))))))); ⟨by rw [hE], fun q h38 _ => up2_row h38, fun j h0 _ _ _ => up2_ne (by omega), by rw [hE]; exact up2_self, rfl⟩))
                    · skip
                      refine go_aload_n X dX7_year_176 4 rfl rfl ?_
                      refine go_getr X (n := 38) (j := 27) (by omega) rfl rfl (fun _ h9 => List.mem_cons_of_mem _ (List.mem_append_right _ h9)) (by decide) (List.mem_cons_of_mem _ (List.mem_append_left _ (List.mem_append_left _ (List.mem_of_getElem? (i := 6) rfl)))) rfl dX7_year_177 ?_
                      refine go_iload X dX7_year_180 0 rfl ?_
                      refine go_iconst X (v := 2) dX7_year_182 (by decide) ?_
                      refine go_iadd X dX7_year_183 ?_
                      refine go_topi (v := nI ((60 * kk + (ii + 3 * t)) + 2)) (nI_add (60 * kk + (ii + 3 * t)) 2) ?_
                      refine go_iald X (n := 56) (k := (60 * kk + (ii + 3 * t)) + 2) (by omega) rfl rfl (by omega) (by omega) dX7_year_184 ?_
                      refine go_i2l X (v := (σ 56 ((60 * kk + (ii + 3 * t)) + 2)).toInt64) dX7_year_185 rfl ?_
                      refine go_lconst X (v := 0) dX7_year_186 (by decide) ?_
                      refine go_ldc2 X (v := 2) (List.mem_cons_of_mem _ (List.mem_append_left _ (List.mem_append_left _ (List.mem_of_getElem? (i := 0) rfl)))) dX7_year_187 ?_
                      refine go_callSI X (As := [.long ((σ 56 ((60 * kk + (ii + 3 * t)) + 2)).toInt64), .long 0, .long 2]) (rest := []) (kX7_in l D cs ad N kt (by omega) σ τ ((σ 56 ((60 * kk + (ii + 3 * t)) + 2)).toInt64) 0 2) gX7_year_X7_in rfl hdX7_in ⟨rfl, rfl, by decide, by decide, by decide, by decide⟩ rfl rfl (Nat.le_of_ble_eq_true rfl) dX7_year_190 (fun r9 σ9 τ9 h9 => ?_)
                      obtain ⟨rfl, rfl, rfl⟩ := h9
                      refine go_topi (v := b2i (isB (σ 56 ((60 * kk + (ii + 3 * t)) + 2)) 3)) (b2i_c (in_iff rfl rfl)) ?_
                      refine go_ifb_ne X (tgt := 202) dX7_year_193 (by decide) (fun c193 => ?_) (fun c193 => ?_)
                      · skip
                        refine go_iinc X (v := nI (t + 1)) (lv2 := [(8, .int (nI (t + 1))), (9, .int (nI (60 * kk + (ii + 3 * t)))), (7, .int 0), (6, .int 1), (0, .ref (ad (38))), (1, .int (nI kk)), (2, .int lane), (3, .int (nI ii)), (4, .int (nI nn)), (5, .int what)]) dX7_year_202 (k := 1) rfl (nI_add t 1) (by decide) rfl ?_
                        refine go_goto X (tgt := 126) dX7_year_205 (by decide) ?_
                        refine go_lvsub [0, 2, 3, 4, 5, 6, 7, 8, 9] rfl ?_
                        exact ih126 (t + 1) (by (try dsimp only); exact ⟨by omega, fun q hq => by rcases Nat.lt_succ_iff_lt_or_eq.mp hq with h | h; exact hal q h; rw [h]; exact ⟨(Classical.not_not.mp c157), (Classical.not_not.mp c173), c193⟩⟩) (by (try dsimp only); omega)
                      · skip
                        refine go_aload_n X dX7_year_196 4 rfl rfl ?_
                        refine go_iconst X (v := (-1)) dX7_year_197 (by decide) ?_
                        refine go_callVI X (n := 38) (As := [.int (-1)]) (rest := []) (kX7_refused l D cs ad N kt (by omega) σ τ (-1)) gX7_year_X7_refused rfl hdX7_refused ⟨rfl, rfl, by decide, by decide, by decide, by decide⟩ (by omega) rfl rfl rfl rfl (Nat.le_of_ble_eq_true rfl) dX7_year_198 (fun r9 σ9 τ9 h9 => ?_)
                        obtain ⟨rfl, rfl, rfl⟩ := h9
                        exact go_ireturn X hr hlk dX7_year_201 ((have hE : yearS (thM σ) (σ 55) (σ 54) (fun z9 y9 => σ 56 (60 * z9 + y9)) (σ 43) (uvM σ) (pvM σ) ns nd (nI kk) lane (nI ii) (nI nn) what = ((-1), 0) := (by unfold yearS; (try dsimp only); (try rw [toN_nI (k := kk) (by omega)]); (try rw [toN_nI (k := nn) (by omega)]); (try rw [toN_nI (k := ii) (by omega)]); exact (cif_t (Classical.not_not.mp c4)).trans ((cif_t c57).trans ((cif_t c70).trans ((cif_t (ask_2 c38)).trans ((cif_t (nI_posN (Nat.pos_of_ne_zero c89) (by omega))).trans ((cif_t f9).trans ((cif_t s9).trans ((cif_f (fun q => c193 (q t (by omega)).2.2)).trans (rfl))))))))); ⟨by rw [hE], fun q h38 _ => up2_row h38, fun j h0 _ _ _ => up2_ne (by omega), by rw [hE]; exact up2_self, rfl⟩))
              · skip
                have r9 := cbRG (σ := σ) e9 (by decide)
                refine go_topi (v := (-10) - 3) r9.1 ?_
                refine go_sg (σ2 := (up2 σ 38 0 3)) r9.2 ?_
                refine go_istore X (lv2 := [(7, .int ((-10) - 3)), (6, .int 1), (0, .ref (ad (38))), (1, .int (nI kk)), (2, .int lane), (3, .int i), (4, .int (nI nn)), (5, .int what)]) dX7_year_113 (by decide) rfl ?_
                refine go_iload X dX7_year_115 0 rfl ?_
                refine go_if_ge X (tgt := 123) dX7_year_117 (by decide) (fun h9 => absurd h9 (by decide)) (fun _ => ?_)
                refine go_iload X dX7_year_120 0 rfl ?_
                exact go_ireturn X hr hlk dX7_year_122 ((have hE : yearS (thM σ) (σ 55) (σ 54) (fun z9 y9 => σ 56 (60 * z9 + y9)) (σ 43) (uvM σ) (pvM σ) ns nd (nI kk) lane i (nI nn) what = ((-10) - 3, 3) := (by unfold yearS; (try dsimp only); (try rw [toN_nI (k := kk) (by omega)]); (try rw [toN_nI (k := nn) (by omega)]); exact (cif_t (Classical.not_not.mp c4)).trans ((cif_t c57).trans ((cif_t c70).trans ((cif_t (ask_2 c38)).trans ((cif_t (nI_posN (Nat.pos_of_ne_zero c89) (by omega))).trans ((cif_t f9).trans ((cif_f s9).trans (rfl)))))))); ⟨by rw [hE], fun q h38 _ => up2_row h38, fun j h0 _ _ _ => up2_ne (by omega), by rw [hE]; exact up2_self, rfl⟩))
              · skip
                exact absurd (nI_pos' (by omega)) g9
              · skip
                have r9 := cbRG (σ := σ) e9 (by decide)
                refine go_topi (v := (-10) - 1) r9.1 ?_
                refine go_sg (σ2 := (up2 σ 38 0 1)) r9.2 ?_
                refine go_istore X (lv2 := [(7, .int ((-10) - 1)), (6, .int 1), (0, .ref (ad (38))), (1, .int (nI kk)), (2, .int lane), (3, .int i), (4, .int (nI nn)), (5, .int what)]) dX7_year_113 (by decide) rfl ?_
                refine go_iload X dX7_year_115 0 rfl ?_
                refine go_if_ge X (tgt := 123) dX7_year_117 (by decide) (fun h9 => absurd h9 (by decide)) (fun _ => ?_)
                refine go_iload X dX7_year_120 0 rfl ?_
                exact go_ireturn X hr hlk dX7_year_122 ((have hE : yearS (thM σ) (σ 55) (σ 54) (fun z9 y9 => σ 56 (60 * z9 + y9)) (σ 43) (uvM σ) (pvM σ) ns nd (nI kk) lane i (nI nn) what = ((-10) - 1, 1) := (by unfold yearS; (try dsimp only); (try rw [toN_nI (k := kk) (by omega)]); (try rw [toN_nI (k := nn) (by omega)]); exact (cif_t (Classical.not_not.mp c4)).trans ((cif_t c57).trans ((cif_t c70).trans ((cif_t (ask_2 c38)).trans ((cif_t (nI_posN (Nat.pos_of_ne_zero c89) (by omega))).trans ((cif_f (by rw [f9]; decide)).trans ((by rw [f9])))))))); ⟨by rw [hE], fun q h38 _ => up2_row h38, fun j h0 _ _ _ => up2_ne (by omega), by rw [hE]; exact up2_self, rfl⟩))
              · skip
                have r9 := cbRG (σ := σ) e9 (by decide)
                refine go_topi (v := (-10) - 2) r9.1 ?_
                refine go_sg (σ2 := (up2 σ 38 0 2)) r9.2 ?_
                refine go_istore X (lv2 := [(7, .int ((-10) - 2)), (6, .int 1), (0, .ref (ad (38))), (1, .int (nI kk)), (2, .int lane), (3, .int i), (4, .int (nI nn)), (5, .int what)]) dX7_year_113 (by decide) rfl ?_
                refine go_iload X dX7_year_115 0 rfl ?_
                refine go_if_ge X (tgt := 123) dX7_year_117 (by decide) (fun h9 => absurd h9 (by decide)) (fun _ => ?_)
                refine go_iload X dX7_year_120 0 rfl ?_
                exact go_ireturn X hr hlk dX7_year_122 ((have hE : yearS (thM σ) (σ 55) (σ 54) (fun z9 y9 => σ 56 (60 * z9 + y9)) (σ 43) (uvM σ) (pvM σ) ns nd (nI kk) lane i (nI nn) what = ((-10) - 2, 2) := (by unfold yearS; (try dsimp only); (try rw [toN_nI (k := kk) (by omega)]); (try rw [toN_nI (k := nn) (by omega)]); exact (cif_t (Classical.not_not.mp c4)).trans ((cif_t c57).trans ((cif_t c70).trans ((cif_t (ask_2 c38)).trans ((cif_t (nI_posN (Nat.pos_of_ne_zero c89) (by omega))).trans ((cif_f (by rw [f9]; decide)).trans ((by rw [f9])))))))); ⟨by rw [hE], fun q h38 _ => up2_row h38, fun j h0 _ _ _ => up2_ne (by omega), by rw [hE]; exact up2_self, rfl⟩))
            · skip
              refine go_aload_n X dX7_year_92 1 rfl rfl ?_
              refine go_bipush X (v := (-3)) dX7_year_93 (by decide) ?_
              refine go_callVI X (n := 38) (As := [.int (-3)]) (rest := []) (kX7_refused l D cs ad N kt (by omega) σ τ (-3)) gX7_year_X7_refused rfl hdX7_refused ⟨rfl, rfl, by decide, by decide, by decide, by decide⟩ (by omega) rfl rfl rfl rfl (Nat.le_of_ble_eq_true rfl) dX7_year_95 (fun r9 σ9 τ9 h9 => ?_)
              obtain ⟨rfl, rfl, rfl⟩ := h9
              exact go_ireturn X hr hlk dX7_year_98 ((have hE : yearS (thM σ) (σ 55) (σ 54) (fun z9 y9 => σ 56 (60 * z9 + y9)) (σ 43) (uvM σ) (pvM σ) ns nd (nI kk) lane i (nI nn) what = ((-3), 0) := (by unfold yearS; (try dsimp only); (try rw [toN_nI (k := kk) (by omega)]); (try rw [toN_nI (k := nn) (by omega)]); exact (cif_t (Classical.not_not.mp c4)).trans ((cif_t c57).trans ((cif_t c70).trans ((cif_t (ask_2 c38)).trans ((cif_f (by rw [c89]; decide)).trans (rfl)))))); ⟨by rw [hE], fun q h38 _ => up2_row h38, fun j h0 _ _ _ => up2_ne (by omega), by rw [hE]; exact up2_self, rfl⟩))
  · skip
    refine go_aload_n X dX7_year_7 0 rfl rfl ?_
    refine go_iconst X (v := (-1)) dX7_year_8 (by decide) ?_
    refine go_callVI X (n := 38) (As := [.int (-1)]) (rest := []) (kX7_refused l D cs ad N kt (by omega) σ τ (-1)) gX7_year_X7_refused rfl hdX7_refused ⟨rfl, rfl, by decide, by decide, by decide, by decide⟩ (by omega) rfl rfl rfl rfl (Nat.le_of_ble_eq_true rfl) dX7_year_9 (fun r9 σ9 τ9 h9 => ?_)
    obtain ⟨rfl, rfl, rfl⟩ := h9
    exact go_ireturn X hr hlk dX7_year_12 ((have hE : yearS (thM σ) (σ 55) (σ 54) (fun z9 y9 => σ 56 (60 * z9 + y9)) (σ 43) (uvM σ) (pvM σ) ns nd k lane i n what = ((-1), 0) := (by unfold yearS; (try dsimp only); exact (cif_f c4).trans (rfl)); ⟨by rw [hE], fun q h38 _ => up2_row h38, fun j h0 _ _ _ => up2_ne (by omega), by rw [hE]; exact up2_self, rfl⟩))

