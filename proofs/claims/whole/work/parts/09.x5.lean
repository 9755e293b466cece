theorem pk_lf {lf : Nat} (hl : lf < 2 ^ 30) : nI lf - 1 < 0 ↔ lf = 0 := by
  rw [Int32.lt_iff_toInt_lt, show (1 : Int32) = nI 1 from rfl, pk_sub_toInt hl (by decide), show (0 : Int32).toInt = 0 from rfl]
  omega
def uvX (σ : vSg) (a d : Nat) : Int32 := valS (σ 8 a) (σ (20 + d) 0) (σ (20 + d) 1) (σ (20 + d) 2)
def pvX (σ : vSg) (d : Nat) : Int32 := 10 * σ (20 + d) 0
/-! a year: ta, td, tc: subject, deed, act of each triple; pa: papers; uv, pv: values unpardoned and pardoned -/
def yLf (pa ta tc : Nat → Nat) : Nat → Nat → Nat
  | 0 => pa
  | t + 1 => fun a => if tc t = 2 ∧ a = ta t then yLf pa ta tc t a - 1 else yLf pa ta tc t a
def ySum (ta td tc : Nat → Nat) (uv : Nat → Nat → Int32) (pv : Nat → Int32) : Nat → Int32
  | 0 => 0
  | t + 1 => ySum ta td tc uv pv t + (if tc t = 2 then pv (td t) else if tc t = 1 then uv (ta t) (td t) else 0)
def yPd (tc : Nat → Nat) : Nat → Nat
  | 0 => 0
  | t + 1 => if tc t = 2 then yPd tc t + 1 else yPd tc t
def yBad (pa ta td tc : Nat → Nat) (uv : Nat → Nat → Int32) (t : Nat) : Prop := (tc t = 2 ∧ yLf pa ta tc t (ta t) = 0) ∨ (tc t = 1 ∧ ¬ 0 < uv (ta t) (td t))
noncomputable def yFw (pa ta td tc : Nat → Nat) (uv : Nat → Nat → Int32) : Nat → Int32
  | 0 => -9
  | t + 1 => if yFw pa ta td tc uv t = -9 then @ite _ (yBad pa ta td tc uv t) (Classical.propDecidable _) (nI t) (-9) else yFw pa ta td tc uv t
theorem yLf_le (pa ta tc : Nat → Nat) (t a : Nat) : yLf pa ta tc t a ≤ pa a := by
  induction t with
  | zero => exact Nat.le_refl _
  | succ t ih => simp only [yLf]; split <;> omega
noncomputable def goR (c lf : Nat) (v : Int32) : Int32 := if c = 2 then b2i (0 < lf) else if c = 1 then b2i (0 < v) else 1
def goS (σ : vSg) (c a lf : Nat) (w v vs pd : Int32) : vSg := if c = 2 then up2 (up2 (up2 σ 37 a (nI lf - 1)) 5 2 (pd + 1)) 5 1 (vs + 10 * w) else if c = 1 then up2 σ 5 1 (vs + v) else σ
theorem goR_z (c lf : Nat) (v : Int32) : goR c lf v = 0 ∨ goR c lf v = 1 := by
  unfold goR
  split
  · exact b2i_z _
  · split
    · exact b2i_z _
    · exact Or.inr rfl
theorem hdX5_goesOn : yX5_goesOn.cls = RX5 ∧ yX5_goesOn.cls ≠ "java/lang/invoke/MethodHandle" ∧ yX5_goesOn.cls ≠ "java/lang/invoke/VarHandle" ∧ (parseMethodDescriptor yX5_goesOn.desc).map (fun d => d.parameters.length) = some 4 := by decide +kernel
set_option maxHeartbeats 4000000 in
set_option maxRecDepth 100000 in
theorem kX5_goesOn (l : Launch) (D : va_G) (cs : Nat → ClassId) (ad : Nat → Nat) (N kt : Nat) (hN : 58 ≤ N) (σ : vSg) (τ : vTa) (i : Nat) (j : Nat) (ac : Nat) (lf : Nat) (kd : Int32) (h_kd : σ 8 i = kd) (wo : Int32) (h_wo : σ (20 + j) 0 = wo) (rk : Int32) (h_rk : σ (20 + j) 1 = rk) (hu : Int32) (h_hu : σ (20 + j) 2 = hu) (vs : Int32) (h_vs : σ 5 1 = vs) (pd : Int32) (h_pd : σ 5 2 = pd)  (hi : i < 4) (hj : j < 5) (hac : ac ≤ 2) (hlf : σ 37 i = nI lf) (hl3 : lf ≤ 3) : CtI l yX5_goesOn wsX5_goesOn ({ frames := 3, cells := 0, slots := 0, locals := 67 }) D cs ad N (shP kt) [.ref (ad (5)), .ref (ad (2)), .int (nI i), .int (nI j), .int (nI ac)] σ τ 0 0 (fun r9 σ9 τ9 => goR ac lf (valS kd wo rk hu) = r9 ∧ goS σ ac i lf wo (valS kd wo rk hu) vs pd = σ9 ∧ τ = τ9) := by
  refine ct_I (cc := cX5_goesOn) (maxL := 5) (by decide) rfl (Nat.le_of_ble_eq_true rfl) rfl rfl ?_
  intro p e s m args below meth c A X hr hlk
  refine go_iload X dX5_goesOn_0 4 rfl ?_
  refine go_iconst X (v := 2) dX5_goesOn_2 (by decide) ?_
  refine go_icmpn_ne X (tgt := 55) dX5_goesOn_3 (by decide) (a := ac) (b := 2) rfl rfl (by omega) (by omega) (fun c3 => ?_) (fun c3 => ?_)
  · skip
    refine go_iload X dX5_goesOn_55 4 rfl ?_
    refine go_iconst X (v := 1) dX5_goesOn_57 (by decide) ?_
    refine go_icmpn_ne X (tgt := 83) dX5_goesOn_58 (by decide) (a := ac) (b := 1) rfl rfl (by omega) (by omega) (fun c58 => ?_) (fun c58 => ?_)
    · skip
      refine go_iconst X (v := 1) dX5_goesOn_83 (by decide) ?_
      exact go_zreturn X hr hlk dX5_goesOn_84 (by first | exact Or.inl rfl | exact Or.inr rfl) (⟨by simp only [goR, if_neg c3, if_neg c58], by simp only [goS, if_neg c3, if_neg c58], rfl⟩)
    · skip
      refine go_aload_n X dX5_goesOn_61 0 rfl rfl ?_
      refine go_dup X dX5_goesOn_62 rfl ?_
      refine go_geti X (n := 5) (j := 1) (by omega) rfl rfl (fun _ h9 => List.mem_cons_of_mem _ (List.mem_append_left _ (List.mem_append_right _ h9))) (by decide) (List.mem_cons_of_mem _ (List.mem_append_left _ (List.mem_append_left _ (List.mem_of_getElem? (i := 2) rfl)))) rfl dX5_goesOn_63 ?_
      refine go_topi (v := vs) (h_vs) ?_
      refine go_aload_n X dX5_goesOn_66 1 rfl rfl ?_
      refine go_iload_n X dX5_goesOn_67 2 rfl rfl ?_
      refine go_iload_n X dX5_goesOn_68 3 rfl rfl ?_
      refine go_callVI X (n := 2) (As := [.int (nI i), .int (nI j)]) (rest := [.int vs, .ref (ad (5))]) (kX2_unpardonedValue l D cs ad N kt (by omega) σ τ i j kd (h_kd) wo (h_wo) rk (h_rk) hu (h_hu) (by omega) (by omega)) gX5_goesOn_X2_unpardonedValue rfl hdX2_unpardonedValue ⟨rfl, rfl, by decide, by decide, by decide, by decide⟩ (by omega) rfl rfl rfl rfl (Nat.le_of_ble_eq_true rfl) dX5_goesOn_69 (fun r9 σ9 τ9 h9 => ?_)
      obtain ⟨rfl, rfl, rfl⟩ := h9
      refine go_iadd X dX5_goesOn_72 ?_
      refine go_puti X (n := 5) (j := 1) (ty := .int) (by omega) rfl rfl (fun _ h9 => List.mem_cons_of_mem _ (List.mem_append_left _ (List.mem_append_right _ h9))) (by decide) (List.mem_cons_of_mem _ (List.mem_append_left _ (List.mem_append_left _ (List.mem_of_getElem? (i := 2) rfl)))) rfl tyX5 tyX5_ok nmX5 rfl (by decide +kernel) rfl rfl dX5_goesOn_73 ?_
      refine go_aload_n X dX5_goesOn_76 1 rfl rfl ?_
      refine go_iload_n X dX5_goesOn_77 2 rfl rfl ?_
      refine go_iload_n X dX5_goesOn_78 3 rfl rfl ?_
      refine go_callVI X (n := 2) (As := [.int (nI i), .int (nI j)]) (rest := []) (kX2_wouldDo l D cs ad N kt (by omega) (up2 σ 5 1 (vs + (valS kd wo rk hu))) τ i j kd ((up2_ne (by omega)).trans h_kd) wo ((up2_ne (by omega)).trans h_wo) rk ((up2_ne (by omega)).trans h_rk) hu ((up2_ne (by omega)).trans h_hu) (by omega) (by omega)) gX5_goesOn_X2_wouldDo rfl hdX2_wouldDo ⟨rfl, rfl, by decide, by decide, by decide, by decide⟩ (by omega) rfl rfl rfl rfl (Nat.le_of_ble_eq_true rfl) dX5_goesOn_79 (fun r9 σ9 τ9 h9 => ?_)
      obtain ⟨rfl, rfl, rfl⟩ := h9
      exact go_zreturn X hr hlk dX5_goesOn_82 (b2i_z _) (⟨by rw [c58]; rfl, by rw [c58]; rfl, rfl⟩)
  · skip
    refine go_aload_n X dX5_goesOn_6 0 rfl rfl ?_
    refine go_getr X (n := 5) (j := 0) (by omega) rfl rfl (fun _ h9 => List.mem_cons_of_mem _ (List.mem_append_left _ (List.mem_append_right _ h9))) (by decide) (List.mem_cons_of_mem _ (List.mem_append_left _ (List.mem_append_left _ (List.mem_of_getElem? (i := 0) rfl)))) rfl dX5_goesOn_7 ?_
    refine go_iload_n X dX5_goesOn_10 2 rfl rfl ?_
    refine go_dup2 X dX5_goesOn_11 rfl rfl ?_
    refine go_iald X (n := 37) (k := i) (by omega) rfl rfl (by omega) (by omega) dX5_goesOn_12 ?_
    refine go_topi (v := nI lf) (hlf) ?_
    refine go_iconst X (v := 1) dX5_goesOn_13 (by decide) ?_
    refine go_isub X dX5_goesOn_14 ?_
    refine go_iast X (n := 37) (k := i) (by omega) rfl rfl (by omega) (by omega) dX5_goesOn_15 ?_
    refine go_aload_n X dX5_goesOn_16 0 rfl rfl ?_
    refine go_dup X dX5_goesOn_17 rfl ?_
    refine go_geti X (n := 5) (j := 2) (by omega) rfl rfl (fun _ h9 => List.mem_cons_of_mem _ (List.mem_append_left _ (List.mem_append_right _ h9))) (by decide) (List.mem_cons_of_mem _ (List.mem_append_left _ (List.mem_append_left _ (List.mem_of_getElem? (i := 1) rfl)))) rfl dX5_goesOn_18 ?_
    refine go_topi (v := pd) ((up2_ne (by omega)).trans h_pd) ?_
    refine go_iconst X (v := 1) dX5_goesOn_21 (by decide) ?_
    refine go_iadd X dX5_goesOn_22 ?_
    refine go_puti X (n := 5) (j := 2) (ty := .int) (by omega) rfl rfl (fun _ h9 => List.mem_cons_of_mem _ (List.mem_append_left _ (List.mem_append_right _ h9))) (by decide) (List.mem_cons_of_mem _ (List.mem_append_left _ (List.mem_append_left _ (List.mem_of_getElem? (i := 1) rfl)))) rfl tyX5 tyX5_ok nmX5 rfl (by decide +kernel) rfl rfl dX5_goesOn_23 ?_
    refine go_aload_n X dX5_goesOn_26 0 rfl rfl ?_
    refine go_dup X dX5_goesOn_27 rfl ?_
    refine go_geti X (n := 5) (j := 1) (by omega) rfl rfl (fun _ h9 => List.mem_cons_of_mem _ (List.mem_append_left _ (List.mem_append_right _ h9))) (by decide) (List.mem_cons_of_mem _ (List.mem_append_left _ (List.mem_append_left _ (List.mem_of_getElem? (i := 2) rfl)))) rfl dX5_goesOn_28 ?_
    refine go_topi (v := vs) ((up2_ne (by omega)).trans ((up2_ne (by omega)).trans h_vs)) ?_
    refine go_aload_n X dX5_goesOn_31 1 rfl rfl ?_
    refine go_iload_n X dX5_goesOn_32 3 rfl rfl ?_
    refine go_callVI X (n := 2) (As := [.int (nI j)]) (rest := [.int vs, .ref (ad (5))]) (kX2_pardonedValue l D cs ad N kt (by omega) (up2 (up2 σ 37 i ((nI lf) - 1)) 5 2 (pd + 1)) τ j wo ((up2_ne (by omega)).trans ((up2_ne (by omega)).trans h_wo)) (by omega)) gX5_goesOn_X2_pardonedValue rfl hdX2_pardonedValue ⟨rfl, rfl, by decide, by decide, by decide, by decide⟩ (by omega) rfl rfl rfl rfl (Nat.le_of_ble_eq_true rfl) dX5_goesOn_33 (fun r9 σ9 τ9 h9 => ?_)
    obtain ⟨rfl, rfl, rfl⟩ := h9
    refine go_iadd X dX5_goesOn_36 ?_
    refine go_puti X (n := 5) (j := 1) (ty := .int) (by omega) rfl rfl (fun _ h9 => List.mem_cons_of_mem _ (List.mem_append_left _ (List.mem_append_right _ h9))) (by decide) (List.mem_cons_of_mem _ (List.mem_append_left _ (List.mem_append_left _ (List.mem_of_getElem? (i := 2) rfl)))) rfl tyX5 tyX5_ok nmX5 rfl (by decide +kernel) rfl rfl dX5_goesOn_37 ?_
    refine go_aload_n X dX5_goesOn_40 0 rfl rfl ?_
    refine go_getr X (n := 5) (j := 0) (by omega) rfl rfl (fun _ h9 => List.mem_cons_of_mem _ (List.mem_append_left _ (List.mem_append_right _ h9))) (by decide) (List.mem_cons_of_mem _ (List.mem_append_left _ (List.mem_append_left _ (List.mem_of_getElem? (i := 0) rfl)))) rfl dX5_goesOn_41 ?_
    refine go_iload_n X dX5_goesOn_44 2 rfl rfl ?_
    refine go_iald X (n := 37) (k := i) (by omega) rfl rfl (by omega) (by omega) dX5_goesOn_45 ?_
    refine go_topi (v := (nI lf) - 1) ((up2_ne (by omega)).trans ((up2_ne (by omega)).trans up2_self)) ?_
    refine go_if_lt X (tgt := 53) dX5_goesOn_46 (by decide) (fun c46 => ?_) (fun c46 => ?_)
    · skip
      refine go_iconst X (v := 0) dX5_goesOn_53 (by decide) ?_
      exact go_zreturn X hr hlk dX5_goesOn_54 (by first | exact Or.inl rfl | exact Or.inr rfl) (⟨by rw [c3]; simp only [goR, if_true]; exact b2i_f (fun q => by have := (pk_lf (by omega)).mp c46; omega), by rw [c3]; rfl, rfl⟩)
    · skip
      refine go_iconst X (v := 1) dX5_goesOn_49 (by decide) ?_
      refine go_goto X (tgt := 54) dX5_goesOn_50 (by decide) ?_
      exact go_zreturn X hr hlk dX5_goesOn_54 (by first | exact Or.inl rfl | exact Or.inr rfl) (⟨by rw [c3]; simp only [goR, if_true]; exact b2i_t (Nat.pos_of_ne_zero (fun h => c46 ((pk_lf (by omega)).mpr h))), by rw [c3]; rfl, rfl⟩)


/-- behind live: nothing but the year's own cells has changed, and they say the year -/
def liveP (σ : vSg) (ns : Nat) (pa ta td tc : Nat → Nat) (t : Nat) (ρ : vSg) : Prop := (∀ q, q ≠ 5 → q ≠ 37 → ρ q = σ q) ∧ ρ 5 3 = yFw pa ta td tc (uvX σ) t ∧ (yFw pa ta td tc (uvX σ) t = -9 → ρ 5 1 = ySum ta td tc (uvX σ) (pvX σ) t ∧ ρ 5 2 = nI (yPd tc t) ∧ ∀ a, a < ns → ρ 37 a = nI (yLf pa ta tc t a))

theorem yFw_go {pa ta td tc : Nat → Nat} {uv : Nat → Nat → Int32} {t : Nat} (h : yFw pa ta td tc uv t = -9) (hb : ¬ yBad pa ta td tc uv t) : yFw pa ta td tc uv (t + 1) = -9 := by
  simp only [yFw, if_pos h]; exact if_neg hb
theorem yFw_bad {pa ta td tc : Nat → Nat} {uv : Nat → Nat → Int32} {t : Nat} (h : yFw pa ta td tc uv t = -9) (hb : yBad pa ta td tc uv t) : yFw pa ta td tc uv (t + 1) = nI t := by
  simp only [yFw, if_pos h]; exact if_pos hb
theorem yFw_stay {pa ta td tc : Nat → Nat} {uv : Nat → Nat → Int32} {t : Nat} (h : ¬ yFw pa ta td tc uv t = -9) : ∀ k, yFw pa ta td tc uv (t + k) = yFw pa ta td tc uv t := by
  intro k
  induction k with
  | zero => rfl
  | succ k ih => show yFw pa ta td tc uv ((t + k) + 1) = _; simp only [yFw]; rw [ih, if_neg h]
theorem nI_ne9 {t : Nat} (h : t < 2 ^ 31) : ¬ nI t = -9 := fun q => by
  have := congrArg Int32.toInt q
  rw [nI_toInt h, show (-9 : Int32).toInt = -9 from rfl] at this
  omega
theorem goR_ok {ac lf : Nat} {v : Int32} (h : ac ≤ 2) : goR ac lf v = b2i (¬ ((ac = 2 ∧ lf = 0) ∨ (ac = 1 ∧ ¬ 0 < v))) := by
  unfold goR
  split
  · apply b2i_c; omega
  · split
    · apply b2i_c
      constructor
      · rintro q (⟨h1, -⟩ | ⟨-, h2⟩); omega; exact h2 q
      · intro q; exact Classical.byContradiction fun h2 => q (Or.inr ⟨by assumption, h2⟩)
    · exact (b2i_t (by rintro (⟨h1, -⟩ | ⟨h1, -⟩) <;> omega)).symm
/-- one triple more that isn't wrong -/
theorem liveP_go {σ ρ : vSg} {ns : Nat} {pa ta td tc : Nat → Nat} {t : Nat} (h : liveP σ ns pa ta td tc t ρ) (hf : yFw pa ta td tc (uvX σ) t = -9) (hc : tc t ≤ 2) (ha : ta t < ns) (hb : ¬ yBad pa ta td tc (uvX σ) t) {w v : Int32} (hw : 10 * w = pvX σ (td t)) (hv : v = uvX σ (ta t) (td t)) : liveP σ ns pa ta td tc (t + 1) (goS ρ (tc t) (ta t) (yLf pa ta tc t (ta t)) w v (ρ 5 1) (ρ 5 2)) := by
  obtain ⟨h1, h2, h3⟩ := h
  obtain ⟨h4, h5, h6⟩ := h3 hf
  have hf2 := yFw_go hf hb
  rcases (show tc t = 2 ∨ tc t = 1 ∨ tc t = 0 by omega) with e | e | e
  · have hl : 0 < yLf pa ta tc t (ta t) := by
      rcases Nat.eq_zero_or_pos (yLf pa ta tc t (ta t)) with q | q
      · exact absurd (Or.inl ⟨e, q⟩) hb
      · exact q
    simp only [goS, e, if_true]
    refine ⟨fun q h5 h37 => by rw [up2_row h5, up2_row h5, up2_row h37]; exact h1 q h5 h37, ?_, fun _ => ⟨?_, ?_, fun a hA => ?_⟩⟩
    · rw [up2_ne (by omega), up2_ne (by omega), up2_ne (by omega), h2, hf, hf2]
    · rw [up2_self, h4]; simp only [ySum, e, if_true]; rw [hw]
    · rw [up2_ne (by omega), up2_self, h5]; simp only [yPd, e, if_true]; exact nI_1 _
    · rw [up2_ne (by omega), up2_ne (by omega)]
      simp only [yLf, e, true_and]
      by_cases ea : a = ta t
      · rw [ea, up2_self, if_pos rfl]
        obtain ⟨z, hz⟩ : ∃ z, yLf pa ta tc t (ta t) = z + 1 := ⟨yLf pa ta tc t (ta t) - 1, by omega⟩
        rw [hz, nI_pred, Nat.add_sub_cancel]
      · rw [up2_ne (by omega), if_neg ea]; exact h6 a hA
  · have hg : goS ρ (tc t) (ta t) (yLf pa ta tc t (ta t)) w v (ρ 5 1) (ρ 5 2) = up2 ρ 5 1 (ρ 5 1 + v) := by
      unfold goS; rw [if_neg (by omega), if_pos e]
    rw [hg]
    refine ⟨fun q h5 h37 => ?_, ?_, fun _ => ⟨?_, ?_, fun a hA => ?_⟩⟩
    · rw [up2_row h5]; exact h1 q h5 h37
    · rw [up2_ne (by omega), h2, hf, hf2]
    · rw [up2_self, h4]; simp only [ySum]; rw [if_neg (by omega), if_pos e, hv]
    · rw [up2_ne (by omega), h5]; simp only [yPd]; rw [if_neg (by omega)]
    · rw [up2_ne (by omega), h6 a hA]; simp only [yLf]; rw [if_neg (by omega)]
  · have hg : goS ρ (tc t) (ta t) (yLf pa ta tc t (ta t)) w v (ρ 5 1) (ρ 5 2) = ρ := by
      unfold goS; rw [if_neg (by omega), if_neg (by omega)]
    rw [hg]
    refine ⟨h1, ?_, fun _ => ⟨?_, ?_, fun a hA => ?_⟩⟩
    · rw [h2, hf, hf2]
    · rw [h4]; simp only [ySum]; rw [if_neg (by omega), if_neg (by omega), Int32.add_zero]
    · rw [h5]; simp only [yPd]; rw [if_neg (by omega)]
    · rw [h6 a hA]; simp only [yLf]; rw [if_neg (by omega)]
theorem goS_off {ρ : vSg} {ac a lf : Nat} {w v x y : Int32} {q : Nat} (h5 : q ≠ 5) (h37 : q ≠ 37) : goS ρ ac a lf w v x y q = ρ q := by
  unfold goS
  split
  · rw [up2_row h5, up2_row h5, up2_row h37]
  · split
    · rw [up2_row h5]
    · rfl
theorem liveP_bad {σ ρ : vSg} {ns : Nat} {pa ta td tc : Nat → Nat} {t : Nat} {ac a lf : Nat} {w v x y : Int32} (h : liveP σ ns pa ta td tc t ρ) (hf : yFw pa ta td tc (uvX σ) t = -9) (ht : t < 2 ^ 31) (hb : yBad pa ta td tc (uvX σ) t) : liveP σ ns pa ta td tc (t + 1) (up2 (goS ρ ac a lf w v x y) 5 3 (nI t)) := by
  have hf2 := yFw_bad hf hb
  refine ⟨fun q h5 h37 => by rw [up2_row h5, goS_off h5 h37]; exact h.1 q h5 h37, by rw [up2_self, hf2], fun q => ?_⟩
  rw [hf2] at q
  exact absurd q (nI_ne9 ht)
theorem liveP_end {σ ρ : vSg} {ns : Nat} {pa ta td tc : Nat → Nat} {t n : Nat} (h : liveP σ ns pa ta td tc t ρ) (hf : ¬ yFw pa ta td tc (uvX σ) t = -9) (ht : t ≤ n) : liveP σ ns pa ta td tc n ρ := by
  have e : yFw pa ta td tc (uvX σ) n = yFw pa ta td tc (uvX σ) t := by
    have := yFw_stay hf (n - t)
    rw [show t + (n - t) = n by omega] at this
    exact this
  exact ⟨h.1, by rw [e]; exact h.2.1, fun q => absurd (by rw [← e]; exact q) hf⟩
theorem uvX_off {σ ρ : vSg} (h : ∀ q, q ≠ 5 → q ≠ 37 → ρ q = σ q) {i j : Nat} (hj : j < 5) : valS (ρ 8 i) (ρ (20 + j) 0) (ρ (20 + j) 1) (ρ (20 + j) 2) = uvX σ i j := by
  rw [h 8 (by omega) (by omega), h (20 + j) (by omega) (by omega)]; rfl
theorem hdX5_live : yX5_live.cls = RX5 ∧ yX5_live.cls ≠ "java/lang/invoke/MethodHandle" ∧ yX5_live.cls ≠ "java/lang/invoke/VarHandle" ∧ (parseMethodDescriptor yX5_live.desc).map (fun d => d.parameters.length) = some 4 := by decide +kernel
set_option maxHeartbeats 4000000 in
set_option maxRecDepth 100000 in
theorem kX5_live (l : Launch) (D : va_G) (cs : Nat → ClassId) (ad : Nat → Nat) (N kt : Nat) (hN : 58 ≤ N) (σ : vSg) (τ : vTa) (k : Nat) (fr : Nat) (n : Nat) (ns : Nat) (pa : Nat → Nat) (ta : Nat → Nat) (td : Nat → Nat) (tc : Nat → Nat)  (hk : k < 4) (hfr : fr + 3 * n ≤ 60) (hns : σ 2 4 = nI ns) (hn4 : ns ≤ 4) (hpa : ∀ a, a < ns → σ 9 a = nI (pa a) ∧ pa a ≤ 3) (hT : ∀ t, t < n → σ (16 + k) (fr + 3 * t) = nI (ta t) ∧ ta t < ns ∧ σ (16 + k) (fr + 3 * t + 1) = nI (td t) ∧ td t < 5 ∧ σ (16 + k) (fr + 3 * t + 2) = nI (tc t) ∧ tc t ≤ 2) : CtV l yX5_live wsX5_live ({ frames := 4, cells := 0, slots := 0, locals := 91 }) D cs ad N (shP kt) [.ref (ad (5)), .ref (ad (2)), .ref (ad (12 + k)), .int (nI fr), .int (nI n)] σ τ 0 0 (fun σ9 τ9 => τ = τ9 ∧ liveP σ ns pa ta td tc n σ9) := by
  refine ct_V (cc := cX5_live) (maxL := 7) (by decide) rfl (Nat.le_of_ble_eq_true rfl) rfl rfl ?_
  intro p e s m args below meth c A X hr hlk
  refine go_aload_n X dX5_live_0 0 rfl rfl ?_
  refine go_iconst X (v := 0) dX5_live_1 (by decide) ?_
  refine go_puti X (n := 5) (j := 1) (ty := .int) (by omega) rfl rfl (fun _ h9 => List.mem_cons_of_mem _ (List.mem_append_left _ (List.mem_append_left _ (List.mem_append_right _ h9)))) (by decide) (List.mem_cons_of_mem _ (List.mem_append_left _ (List.mem_append_left _ (List.mem_append_left _ (List.mem_append_left _ (List.mem_of_getElem? (i := 0) rfl)))))) rfl tyX5 tyX5_ok nmX5 rfl (by decide +kernel) rfl rfl dX5_live_2 ?_
  refine go_aload_n X dX5_live_5 0 rfl rfl ?_
  refine go_iconst X (v := 0) dX5_live_6 (by decide) ?_
  refine go_puti X (n := 5) (j := 2) (ty := .int) (by omega) rfl rfl (fun _ h9 => List.mem_cons_of_mem _ (List.mem_append_left _ (List.mem_append_left _ (List.mem_append_right _ h9)))) (by decide) (List.mem_cons_of_mem _ (List.mem_append_left _ (List.mem_append_left _ (List.mem_append_left _ (List.mem_append_left _ (List.mem_of_getElem? (i := 1) rfl)))))) rfl tyX5 tyX5_ok nmX5 rfl (by decide +kernel) rfl rfl dX5_live_7 ?_
  refine go_aload_n X dX5_live_10 0 rfl rfl ?_
  refine go_bipush X (v := (-9)) dX5_live_11 (by decide) ?_
  refine go_puti X (n := 5) (j := 3) (ty := .int) (by omega) rfl rfl (fun _ h9 => List.mem_cons_of_mem _ (List.mem_append_left _ (List.mem_append_left _ (List.mem_append_right _ h9)))) (by decide) (List.mem_cons_of_mem _ (List.mem_append_left _ (List.mem_append_left _ (List.mem_append_left _ (List.mem_append_left _ (List.mem_of_getElem? (i := 2) rfl)))))) rfl tyX5 tyX5_ok nmX5 rfl (by decide +kernel) rfl rfl dX5_live_13 ?_
  refine go_iconst X (v := 0) dX5_live_16 (by decide) ?_
  refine go_istore X (lv2 := [(5, .int 0), (0, .ref (ad (5))), (1, .ref (ad (2))), (2, .ref (ad (12 + k))), (3, .int (nI fr)), (4, .int (nI n))]) dX5_live_17 (by decide) rfl ?_
  refine go_loop (ι := Nat × vSg) (fun i9 => (i9.1 ≤ ns) ∧ (∀ q, q ≠ 5 → q ≠ 37 → i9.2 q = σ q) ∧ (i9.2 5 1 = 0) ∧ (i9.2 5 2 = 0) ∧ (i9.2 5 3 = -9) ∧ (∀ b, b < i9.1 → i9.2 37 b = nI (pa b))) (fun i9 => ns - i9.1) (fun i9 => i9.2) (fun i9 => τ) (fun i9 => [(5, .int (nI i9.1)), (0, .ref (ad (5))), (1, .ref (ad (2))), (2, .ref (ad (12 + k))), (3, .int (nI fr)), (4, .int (nI n))]) (fun i9 => []) (0, (up2 (up2 (up2 σ 5 1 0) 5 2 0) 5 3 (-9))) (by (try dsimp only); exact ⟨Nat.zero_le _, fun q h5 _ => by rw [up2_row h5, up2_row h5, up2_row h5], by rw [up2_ne (by omega), up2_ne (by omega), up2_self], by rw [up2_ne (by omega), up2_self], up2_self, fun _ h => absurd h (Nat.not_lt_zero _)⟩) ?_
  intro i9 hi9 ih19
  obtain ⟨a, ρ⟩ := i9
  (try dsimp only at hi9); (try dsimp only at ih19); (try dsimp only)
  obtain ⟨ha, hag, h51, h52, h53, hlf⟩ := hi9
  refine go_iload X dX5_live_19 0 rfl ?_
  refine go_aload_n X dX5_live_21 2 rfl rfl ?_
  refine go_geti X (n := 2) (j := 4) (by omega) rfl rfl (fun _ h9 => List.mem_cons_of_mem _ (List.mem_append_left _ (List.mem_append_right _ h9))) (by decide) (List.mem_cons_of_mem _ (List.mem_append_left _ (List.mem_append_left _ (List.mem_append_left _ (List.mem_append_left _ (List.mem_of_getElem? (i := 3) rfl)))))) rfl dX5_live_22 ?_
  refine go_topi (v := nI ns) (((congrFun (hag 2 (by omega) (by omega)) 4).trans hns)) ?_
  refine go_icmpn_ge X (tgt := 48) dX5_live_25 (by decide) (a := a) (b := ns) rfl rfl (by omega) (by omega) (fun c25 => ?_) (fun c25 => ?_)
  · skip
    refine go_iconst X (v := 0) dX5_live_48 (by decide) ?_
    refine go_istore X (lv2 := [(5, .int 0), (0, .ref (ad (5))), (1, .ref (ad (2))), (2, .ref (ad (12 + k))), (3, .int (nI fr)), (4, .int (nI n))]) dX5_live_49 (by decide) rfl ?_
    refine go_loop (ι := Nat × vSg) (fun i9 => (i9.1 ≤ n) ∧ (liveP σ ns pa ta td tc i9.1 i9.2)) (fun i9 => n - i9.1) (fun i9 => i9.2) (fun i9 => τ) (fun i9 => [(5, .int (nI i9.1)), (0, .ref (ad (5))), (1, .ref (ad (2))), (2, .ref (ad (12 + k))), (3, .int (nI fr)), (4, .int (nI n))]) (fun i9 => []) (0, ρ) (by (try dsimp only); exact ⟨Nat.zero_le _, hag, by rw [h53]; rfl, fun _ => ⟨by rw [h51]; rfl, by rw [h52]; rfl, fun b hb => by rw [hlf b (by omega)]; rfl⟩⟩) ?_
    intro i9 hi9 ih51
    obtain ⟨t, ρ⟩ := i9
    (try dsimp only at hi9); (try dsimp only at ih51); (try dsimp only)
    obtain ⟨ht, hP⟩ := hi9
    refine go_iload X dX5_live_51 0 rfl ?_
    refine go_iload X dX5_live_53 5 rfl ?_
    refine go_icmpn_ge X (tgt := 120) dX5_live_55 (by decide) (a := t) (b := n) rfl rfl (by omega) (by omega) (fun c55 => ?_) (fun c55 => ?_)
    · skip
      exact go_return X hr hlk dX5_live_120 (⟨rfl, by rw [show n = t by omega]; exact hP⟩)
    · skip
      refine go_aload_n X dX5_live_58 1 rfl rfl ?_
      refine go_geti X (n := 5) (j := 3) (by omega) rfl rfl (fun _ h9 => List.mem_cons_of_mem _ (List.mem_append_left _ (List.mem_append_left _ (List.mem_append_right _ h9)))) (by decide) (List.mem_cons_of_mem _ (List.mem_append_left _ (List.mem_append_left _ (List.mem_append_left _ (List.mem_append_left _ (List.mem_of_getElem? (i := 2) rfl)))))) rfl dX5_live_59 ?_
      refine go_topi (v := yFw pa ta td tc (uvX σ) t) hP.2.1 ?_
      refine go_bipush X (v := (-9)) dX5_live_62 (by decide) ?_
      refine go_icmp_ne X (tgt := 120) dX5_live_64 (by decide) (fun c64 => ?_) (fun c64 => ?_)
      · skip
        exact go_return X hr hlk dX5_live_120 (⟨rfl, liveP_end hP c64 ht⟩)
      · skip
        refine go_iload_n X dX5_live_67 4 rfl rfl ?_
        refine go_iconst X (v := 3) dX5_live_68 (by decide) ?_
        refine go_iload X dX5_live_69 0 rfl ?_
        refine go_imul X dX5_live_71 ?_
        refine go_topi (v := nI (3 * t)) (pk_mul 3 t) ?_
        refine go_iadd X dX5_live_72 ?_
        refine go_topi (v := nI (fr + (3 * t))) (nI_add fr (3 * t)) ?_
        refine go_istore X (lv2 := [(6, .int (nI (fr + (3 * t)))), (5, .int (nI t)), (0, .ref (ad (5))), (1, .ref (ad (2))), (2, .ref (ad (12 + k))), (3, .int (nI fr)), (4, .int (nI n))]) dX5_live_73 (by decide) rfl ?_
        refine go_aload_n X dX5_live_75 2 rfl rfl ?_
        refine go_aload_n X dX5_live_76 3 rfl rfl ?_
        refine go_aload_n X dX5_live_77 4 rfl rfl ?_
        refine go_getr X (n := 12 + k) (j := 0) (by omega) (sh_row (by omega)) rfl (fun _ h9 => List.mem_cons_of_mem _ (List.mem_append_right _ h9)) (by decide) (List.mem_cons_of_mem _ (List.mem_append_left _ (List.mem_append_left _ (List.mem_append_left _ (List.mem_append_left _ (List.mem_of_getElem? (i := 6) rfl)))))) rfl dX5_live_78 ?_
        refine go_iload X dX5_live_81 0 rfl ?_
        refine go_iald X (n := 16 + k) (k := fr + (3 * t)) (by omega) (sh_cells (by omega)) rfl (by omega) (by omega) dX5_live_83 ?_
        obtain ⟨ta1, ta2, td1, td2, tc1, tc2⟩ := hT t (by omega)
        refine go_topi (v := nI (ta t)) ((congrFun (hP.1 (16 + k) (by omega) (by omega)) _).trans ta1) ?_
        refine go_aload_n X dX5_live_84 4 rfl rfl ?_
        refine go_getr X (n := 12 + k) (j := 0) (by omega) (sh_row (by omega)) rfl (fun _ h9 => List.mem_cons_of_mem _ (List.mem_append_right _ h9)) (by decide) (List.mem_cons_of_mem _ (List.mem_append_left _ (List.mem_append_left _ (List.mem_append_left _ (List.mem_append_left _ (List.mem_of_getElem? (i := 6) rfl)))))) rfl dX5_live_85 ?_
        refine go_iload X dX5_live_88 0 rfl ?_
        refine go_iconst X (v := 1) dX5_live_90 (by decide) ?_
        refine go_iadd X dX5_live_91 ?_
        refine go_topi (v := nI ((fr + (3 * t)) + 1)) (nI_add (fr + (3 * t)) 1) ?_
        refine go_iald X (n := 16 + k) (k := (fr + (3 * t)) + 1) (by omega) (sh_cells (by omega)) rfl (by omega) (by omega) dX5_live_92 ?_
        refine go_topi (v := nI (td t)) ((congrFun (hP.1 (16 + k) (by omega) (by omega)) _).trans td1) ?_
        refine go_aload_n X dX5_live_93 4 rfl rfl ?_
        refine go_getr X (n := 12 + k) (j := 0) (by omega) (sh_row (by omega)) rfl (fun _ h9 => List.mem_cons_of_mem _ (List.mem_append_right _ h9)) (by decide) (List.mem_cons_of_mem _ (List.mem_append_left _ (List.mem_append_left _ (List.mem_append_left _ (List.mem_append_left _ (List.mem_of_getElem? (i := 6) rfl)))))) rfl dX5_live_94 ?_
        refine go_iload X dX5_live_97 0 rfl ?_
        refine go_iconst X (v := 2) dX5_live_99 (by decide) ?_
        refine go_iadd X dX5_live_100 ?_
        refine go_topi (v := nI ((fr + (3 * t)) + 2)) (nI_add (fr + (3 * t)) 2) ?_
        refine go_iald X (n := 16 + k) (k := (fr + (3 * t)) + 2) (by omega) (sh_cells (by omega)) rfl (by omega) (by omega) dX5_live_101 ?_
        refine go_topi (v := nI (tc t)) ((congrFun (hP.1 (16 + k) (by omega) (by omega)) _).trans tc1) ?_
        refine go_callVI X (n := 5) (As := [.ref (ad (2)), .int (nI (ta t)), .int (nI (td t)), .int (nI (tc t))]) (rest := []) (kX5_goesOn l D cs ad N kt (by omega) ρ τ (ta t) (td t) (tc t) (yLf pa ta tc t (ta t)) (ρ 8 (ta t)) (rfl) (ρ (20 + (td t)) 0) (rfl) (ρ (20 + (td t)) 1) (rfl) (ρ (20 + (td t)) 2) (rfl) (ρ 5 1) (rfl) (ρ 5 2) (rfl) (by omega) (by omega) (by omega) ((hP.2.2 c64).2.2 _ ta2) (Nat.le_trans (yLf_le _ _ _ _ _) (hpa _ ta2).2)) gX5_live_X5_goesOn rfl hdX5_goesOn ⟨rfl, rfl, by decide, by decide, by decide, by decide⟩ (by omega) rfl rfl rfl rfl (Nat.le_of_ble_eq_true rfl) dX5_live_102 (fun r9 σ9 τ9 h9 => ?_)
        obtain ⟨rfl, rfl, rfl⟩ := h9
        refine go_topi (v := b2i (¬ yBad pa ta td tc (uvX σ) t)) (by rw [uvX_off hP.1 td2]; exact goR_ok tc2) ?_
        refine go_ifb_ne X (tgt := 114) dX5_live_105 (by decide) (fun c105 => ?_) (fun c105 => ?_)
        · skip
          refine go_iinc X (v := nI (t + 1)) (lv2 := [(5, .int (nI (t + 1))), (6, .int (nI (fr + (3 * t)))), (0, .ref (ad (5))), (1, .ref (ad (2))), (2, .ref (ad (12 + k))), (3, .int (nI fr)), (4, .int (nI n))]) dX5_live_114 (k := 1) rfl (nI_add t 1) (by decide) rfl ?_
          refine go_goto X (tgt := 51) dX5_live_117 (by decide) ?_
          refine go_lvsub [0, 2, 3, 4, 5, 6] rfl ?_
          exact ih51 (t + 1, (goS ρ (tc t) (ta t) (yLf pa ta tc t (ta t)) (ρ (20 + (td t)) 0) (valS (ρ 8 (ta t)) (ρ (20 + (td t)) 0) (ρ (20 + (td t)) 1) (ρ (20 + (td t)) 2)) (ρ 5 1) (ρ 5 2))) (by (try dsimp only); exact ⟨by omega, liveP_go hP c64 tc2 ta2 c105 (by show 10 * ρ (20 + td t) 0 = 10 * σ (20 + td t) 0; rw [hP.1 (20 + td t) (by omega) (by omega)]) (uvX_off hP.1 td2)⟩) (by (try dsimp only); omega)
        · skip
          refine go_aload_n X dX5_live_108 2 rfl rfl ?_
          refine go_iload X dX5_live_109 1 rfl ?_
          refine go_puti X (n := 5) (j := 3) (ty := .int) (by omega) rfl rfl (fun _ h9 => List.mem_cons_of_mem _ (List.mem_append_left _ (List.mem_append_left _ (List.mem_append_right _ h9)))) (by decide) (List.mem_cons_of_mem _ (List.mem_append_left _ (List.mem_append_left _ (List.mem_append_left _ (List.mem_append_left _ (List.mem_of_getElem? (i := 2) rfl)))))) rfl tyX5 tyX5_ok nmX5 rfl (by decide +kernel) rfl rfl dX5_live_111 ?_
          refine go_iinc X (v := nI (t + 1)) (lv2 := [(5, .int (nI (t + 1))), (6, .int (nI (fr + (3 * t)))), (0, .ref (ad (5))), (1, .ref (ad (2))), (2, .ref (ad (12 + k))), (3, .int (nI fr)), (4, .int (nI n))]) dX5_live_114 (k := 1) rfl (nI_add t 1) (by decide) rfl ?_
          refine go_goto X (tgt := 51) dX5_live_117 (by decide) ?_
          refine go_lvsub [0, 2, 3, 4, 5, 6] rfl ?_
          exact ih51 (t + 1, (up2 (goS ρ (tc t) (ta t) (yLf pa ta tc t (ta t)) (ρ (20 + (td t)) 0) (valS (ρ 8 (ta t)) (ρ (20 + (td t)) 0) (ρ (20 + (td t)) 1) (ρ (20 + (td t)) 2)) (ρ 5 1) (ρ 5 2)) 5 3 (nI t))) (by (try dsimp only); exact ⟨by omega, liveP_bad hP c64 (by omega) (Classical.byContradiction c105)⟩) (by (try dsimp only); omega)
  · skip
    refine go_aload_n X dX5_live_28 1 rfl rfl ?_
    refine go_getr X (n := 5) (j := 0) (by omega) rfl rfl (fun _ h9 => List.mem_cons_of_mem _ (List.mem_append_left _ (List.mem_append_left _ (List.mem_append_right _ h9)))) (by decide) (List.mem_cons_of_mem _ (List.mem_append_left _ (List.mem_append_left _ (List.mem_append_left _ (List.mem_append_left _ (List.mem_of_getElem? (i := 4) rfl)))))) rfl dX5_live_29 ?_
    refine go_iload X dX5_live_32 0 rfl ?_
    refine go_aload_n X dX5_live_34 2 rfl rfl ?_
    refine go_getr X (n := 2) (j := 2) (by omega) rfl rfl (fun _ h9 => List.mem_cons_of_mem _ (List.mem_append_left _ (List.mem_append_right _ h9))) (by decide) (List.mem_cons_of_mem _ (List.mem_append_left _ (List.mem_append_left _ (List.mem_append_left _ (List.mem_append_left _ (List.mem_of_getElem? (i := 5) rfl)))))) rfl dX5_live_35 ?_
    refine go_iload X dX5_live_38 0 rfl ?_
    refine go_iald X (n := 9) (k := a) (by omega) rfl rfl (by omega) (by omega) dX5_live_40 ?_
    refine go_topi (v := nI (pa a)) ((congrFun (hag 9 (by omega) (by omega)) a).trans (hpa a (by omega)).1) ?_
    refine go_iast X (n := 37) (k := a) (by omega) rfl rfl (by omega) (by omega) dX5_live_41 ?_
    refine go_iinc X (v := nI (a + 1)) (lv2 := [(5, .int (nI (a + 1))), (0, .ref (ad (5))), (1, .ref (ad (2))), (2, .ref (ad (12 + k))), (3, .int (nI fr)), (4, .int (nI n))]) dX5_live_42 (k := 0) rfl (nI_add a 1) (by decide) rfl ?_
    refine go_goto X (tgt := 19) dX5_live_45 (by decide) ?_
    exact ih19 (a + 1, (up2 ρ 37 a (nI (pa a)))) (by (try dsimp only); exact ⟨by omega, fun q h5 h37 => by rw [up2_row h37]; exact hag q h5 h37, by rw [up2_ne (by omega)]; exact h51, by rw [up2_ne (by omega)]; exact h52, by rw [up2_ne (by omega)]; exact h53, fun b hb => by rcases Nat.lt_succ_iff_lt_or_eq.mp hb with h | h; rw [up2_ne (by omega)]; exact hlf b h; rw [h, up2_self]⟩) (by (try dsimp only); omega)

