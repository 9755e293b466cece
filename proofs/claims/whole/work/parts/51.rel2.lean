/-! writes in a kingdom, and the questions that try values -/
theorem IX_deed {x : vSg} {nd ns nr y j : Nat} {v : Int32} (h : IX x nd ns nr) (hy : y < nd) (hv : isB v 10) : IX (up2 x (20 + y) j v) nd ns nr := by
  obtain ⟨h1, h2, h3, h4, h5, h6, h7, h8⟩ := h
  have e5 := h1.2
  refine ⟨?_, ?_, fun d hd i hi => ?_, fun a ha => ?_, ?_, fun r hr => ?_, fun k hk => ?_, h8⟩
  · rw [up2_row (by omega)]; exact h1
  · rw [up2_row (by omega)]; exact h2
  · by_cases e : 20 + d = 20 + y ∧ i = j
    · rw [e.1, e.2, up2_self]; exact hv
    · rw [up2_ne e]; exact h3 d hd i hi
  · rw [up2_row (by omega), up2_row (by omega)]; exact h4 a ha
  · rw [up2_row (by omega)]; exact h5
  · rw [up2_row (by omega), up2_row (by omega), up2_row (by omega)]; exact h6 r hr
  · rw [up2_row (by omega)]; exact h7 k hk
theorem IM_deed {x : vSg} {nd ns nr y j : Nat} {v : Int32} (h : IM x nd ns nr) (hj : j < 3) (hv : isB v 10) : IM (up2 x (39 + j) y v) nd ns nr := by
  obtain ⟨h1, h2, h3, h4, h5, h6, h7, h8⟩ := h
  have key : ∀ c d, (isB (x c d) 10) → isB (up2 x (39 + j) y v c d) 10 := fun c d hq => by
    by_cases e : c = 39 + j ∧ d = y
    · rw [e.1, e.2, up2_self]; exact hv
    · rw [up2_ne e]; exact hq
  refine ⟨?_, ?_, fun d hd => ⟨key 39 d (h3 d hd).1, key 40 d (h3 d hd).2.1, key 41 d (h3 d hd).2.2⟩, fun a ha => ?_, ?_, fun r hr => ?_, fun k hk => ?_, h8⟩
  · rw [up2_row (by omega)]; exact h1
  · rw [up2_row (by omega)]; exact h2
  · rw [up2_row (by omega), up2_row (by omega)]; exact h4 a ha
  · rw [up2_row (by omega)]; exact h5
  · rw [up2_row (by omega), up2_row (by omega), up2_row (by omega)]; exact h6 r hr
  · rw [up2_row (by omega)]; exact h7 k hk
theorem Rl_deed {x m : vSg} {nd ns nr y j : Nat} {v : Int32} (h : Rl x m nd ns nr) (hy : y < nd) (hj : j < 3) (hv : isB v 10) : Rl (up2 x (20 + y) j v) (up2 m (39 + j) y v) nd ns nr := by
  have hX := h.1
  have e5 := hX.1.2
  have key : ∀ d i, d < nd → i < 3 → up2 x (20 + y) j v (20 + d) i = up2 m (39 + j) y v (39 + i) d := fun d i hd hi => by
    by_cases e : d = y ∧ i = j
    · rw [e.1, e.2, up2_self, up2_self]
    · rw [up2_ne (by omega), up2_ne (by omega)]
      have := r_deed h hd hi
      match i, hi with
      | 0, _ => exact this
      | 1, _ => exact this
      | 2, _ => exact this
      | n + 3, hn => exact absurd hn (by omega)
  obtain ⟨_, hM, h1, h2, h3, h4, h5, h6⟩ := h
  refine ⟨IX_deed hX hy hv, IM_deed hM hj hv, fun d hd => ⟨key d 0 hd (by omega), key d 1 hd (by omega), key d 2 hd (by omega)⟩, fun a ha => ?_, fun r hr => ?_, fun k hk => ?_, ?_, ?_⟩
  · rw [up2_row (by omega), up2_row (by omega), up2_row (by omega), up2_row (by omega)]; exact h2 a ha
  · rw [up2_row (by omega), up2_row (by omega), up2_row (by omega), up2_row (by omega), up2_row (by omega), up2_row (by omega)]; exact h3 r hr
  · unfold ShR
    rw [up2_row (show 54 ≠ 39 + j by omega), up2_row (show 55 ≠ 39 + j by omega), up2_row (show 56 ≠ 39 + j by omega), up2_row (show 12 + k ≠ 20 + y by omega), up2_row (show 16 + k ≠ 20 + y by omega)]
    exact h4 k hk
  · rw [up2_row (by omega), up2_row (by omega)]; exact h5
  · rw [up2_row (by omega), up2_row (by omega)]; exact h6
theorem Rl_kind {x m : vSg} {nd ns nr y : Nat} {v : Int32} (h : Rl x m nd ns nr) (hv : isB v 3) : Rl (up2 x 8 y v) (up2 m 42 y v) nd ns nr := by
  obtain ⟨hX, hM, h1, h2, h3, h4, h5, h6⟩ := h
  have e5 := hX.1.2
  refine ⟨?_, ?_, fun d hd => ?_, fun a ha => ?_, fun r hr => ?_, fun k hk => ?_, ?_, ?_⟩
  · obtain ⟨g1, g2, g3, g4, g5, g6, g7, g8⟩ := hX
    refine ⟨?_, ?_, fun d hd i hi => ?_, fun a ha => ?_, ?_, fun r hr => ?_, fun k hk => ?_, g8⟩
    · rw [up2_row (by omega)]; exact g1
    · rw [up2_row (by omega)]; exact g2
    · rw [up2_row (by omega)]; exact g3 d hd i hi
    · rw [up2_row (a := 9) (by omega)]
      refine ⟨?_, (g4 a ha).2⟩
      by_cases e : a = y
      · rw [e, up2_self]; exact hv
      · rw [up2_ne (by omega)]; exact (g4 a ha).1
    · rw [up2_row (by omega)]; exact g5
    · rw [up2_row (by omega), up2_row (by omega), up2_row (by omega)]; exact g6 r hr
    · rw [up2_row (by omega)]; exact g7 k hk
  · obtain ⟨g1, g2, g3, g4, g5, g6, g7, g8⟩ := hM
    refine ⟨?_, ?_, fun d hd => ?_, fun a ha => ?_, ?_, fun r hr => ?_, fun k hk => ?_, g8⟩
    · rw [up2_row (by omega)]; exact g1
    · rw [up2_row (by omega)]; exact g2
    · rw [up2_row (by omega), up2_row (by omega), up2_row (by omega)]; exact g3 d hd
    · rw [up2_row (a := 43) (by omega)]
      refine ⟨?_, (g4 a ha).2⟩
      by_cases e : a = y
      · rw [e, up2_self]; exact hv
      · rw [up2_ne (by omega)]; exact (g4 a ha).1
    · rw [up2_row (by omega)]; exact g5
    · rw [up2_row (by omega), up2_row (by omega), up2_row (by omega)]; exact g6 r hr
    · rw [up2_row (by omega)]; exact g7 k hk
  · rw [up2_row (by omega), up2_row (by omega), up2_row (by omega), up2_row (by omega)]; exact h1 d hd
  · rw [up2_row (a := 9) (by omega), up2_row (a := 43) (by omega)]
    refine ⟨?_, (h2 a ha).2⟩
    by_cases e : a = y
    · rw [e, up2_self, up2_self]
    · rw [up2_ne (by omega), up2_ne (by omega)]; exact (h2 a ha).1
  · rw [up2_row (by omega), up2_row (by omega), up2_row (by omega), up2_row (by omega), up2_row (by omega), up2_row (by omega)]; exact h3 r hr
  · unfold ShR
    rw [up2_row (show 54 ≠ 42 by omega), up2_row (show 55 ≠ 42 by omega), up2_row (show 56 ≠ 42 by omega), up2_row (show 12 + k ≠ 8 by omega), up2_row (show 16 + k ≠ 8 by omega)]
    exact h4 k hk
  · rw [up2_row (by omega), up2_row (by omega)]; exact h5
  · rw [up2_row (by omega), up2_row (by omega)]; exact h6
theorem all_r {x m : vSg} {nd ns nr : Nat} (h : Rl x m nd ns nr) : allX x (fun z8 => toN (x 10 z8)) (fun z8 => toN (x 11 z8)) nr ↔ allM m (fun z8 => toN (m 51 z8)) (fun z8 => toN (m 52 z8)) nr := by
  have key : ∀ r, r < nr → ((b2i (doX x (toN (x 10 r)) (toN (x 11 r))) = x 34 r) ↔ (b2i (doM m (toN (m 51 r)) (toN (m 52 r))) = m 53 r)) := fun r hr => by
    obtain ⟨e1, e2, e3⟩ := h.2.2.2.2.1 r hr
    obtain ⟨i1, i2, _⟩ := h.1.2.2.2.2.2.1 r hr
    have hh := b2i_c (r_do h (isB_t i1 (r_ns h)) (isB_t i2 (r_nd h)))
    rw [hh, ← e1, ← e2, ← e3]
  exact ⟨fun q r hr => (key r hr).mp (q r hr), fun q r hr => (key r hr).mpr (q r hr)⟩
theorem c_risks {x m : vSg} {nd ns nr : Nat} (h : Rl x m nd ns nr) (d : Int32) : fitS (nI nd) (fun y9 => setS (fun z9 => allX (up2 x (20 + y9) 1 (nI z9)) (fun z8 => toN (x 10 z8)) (fun z8 => toN (x 11 z8)) nr) 10) d = fitS (nI nd) (fun y9 => setS (fun z9 => allM (up2 m 40 y9 (nI z9)) (fun z8 => toN (m 51 z8)) (fun z8 => toN (m 52 z8)) nr) 10) d :=
  cif_c (fun h1 => setS_c 10 (fun z hz => by
    have hy := isB_t h1 (r_nd h)
    have e5 := h.1.1.2
    have h2 := all_r (Rl_deed (j := 1) h hy (by omega) (isB_nI (b := 10) hz (by decide)))
    rw [up2_row (a := 10) (show 10 ≠ 20 + toN d by omega), up2_row (a := 11) (show 11 ≠ 20 + toN d by omega), up2_row (a := 51) (by omega), up2_row (a := 52) (by omega)] at h2
    exact h2)) (fun _ => rfl)
theorem c_hurts {x m : vSg} {nd ns nr : Nat} (h : Rl x m nd ns nr) (d : Int32) : fitS (nI nd) (fun y9 => setS (fun z9 => allX (up2 x (20 + y9) 2 (nI z9)) (fun z8 => toN (x 10 z8)) (fun z8 => toN (x 11 z8)) nr) 10) d = fitS (nI nd) (fun y9 => setS (fun z9 => allM (up2 m 41 y9 (nI z9)) (fun z8 => toN (m 51 z8)) (fun z8 => toN (m 52 z8)) nr) 10) d :=
  cif_c (fun h1 => setS_c 10 (fun z hz => by
    have hy := isB_t h1 (r_nd h)
    have e5 := h.1.1.2
    have h2 := all_r (Rl_deed (j := 2) h hy (by omega) (isB_nI (b := 10) hz (by decide)))
    rw [up2_row (a := 10) (show 10 ≠ 20 + toN d by omega), up2_row (a := 11) (show 11 ≠ 20 + toN d by omega), up2_row (a := 51) (by omega), up2_row (a := 52) (by omega)] at h2
    exact h2)) (fun _ => rfl)
theorem c_kinds {x m : vSg} {nd ns nr : Nat} (h : Rl x m nd ns nr) (a : Int32) : fitS (nI ns) (fun y9 => setS (fun z9 => allX (up2 x 8 y9 (nI z9)) (fun z8 => toN (x 10 z8)) (fun z8 => toN (x 11 z8)) nr) 3) a = fitS (nI ns) (fun y9 => setS (fun z9 => allM (up2 m 42 y9 (nI z9)) (fun z8 => toN (m 51 z8)) (fun z8 => toN (m 52 z8)) nr) 3) a :=
  cif_c (fun h1 => setS_c 3 (fun z hz => by
    have h2 := all_r (Rl_kind (y := toN a) h (isB_nI (b := 3) hz (by decide)))
    rw [up2_row (a := 10) (by omega), up2_row (a := 11) (by omega), up2_row (a := 51) (by omega), up2_row (a := 52) (by omega)] at h2
    exact h2)) (fun _ => rfl)
theorem Rl_pap {x m : vSg} {nd ns nr y : Nat} {v : Int32} (h : Rl x m nd ns nr) (hv : isB v 4) : Rl (up2 x 9 y v) (up2 m 43 y v) nd ns nr := by
  obtain ⟨hX, hM, h1, h2, h3, h4, h5, h6⟩ := h
  have e5 := hX.1.2
  refine ⟨?_, ?_, fun d hd => ?_, fun a ha => ?_, fun r hr => ?_, fun k hk => ?_, ?_, ?_⟩
  · obtain ⟨g1, g2, g3, g4, g5, g6, g7, g8⟩ := hX
    refine ⟨?_, ?_, fun d hd i hi => ?_, fun a ha => ?_, ?_, fun r hr => ?_, fun k hk => ?_, g8⟩
    · rw [up2_row (by omega)]; exact g1
    · rw [up2_row (by omega)]; exact g2
    · rw [up2_row (by omega)]; exact g3 d hd i hi
    · rw [up2_row (a := 8) (by omega)]
      refine ⟨(g4 a ha).1, ?_⟩
      by_cases e : a = y
      · rw [e, up2_self]; exact hv
      · rw [up2_ne (by omega)]; exact (g4 a ha).2
    · rw [up2_row (by omega)]; exact g5
    · rw [up2_row (by omega), up2_row (by omega), up2_row (by omega)]; exact g6 r hr
    · rw [up2_row (by omega)]; exact g7 k hk
  · obtain ⟨g1, g2, g3, g4, g5, g6, g7, g8⟩ := hM
    refine ⟨?_, ?_, fun d hd => ?_, fun a ha => ?_, ?_, fun r hr => ?_, fun k hk => ?_, g8⟩
    · rw [up2_row (by omega)]; exact g1
    · rw [up2_row (by omega)]; exact g2
    · rw [up2_row (by omega), up2_row (by omega), up2_row (by omega)]; exact g3 d hd
    · rw [up2_row (a := 42) (by omega)]
      refine ⟨(g4 a ha).1, ?_⟩
      by_cases e : a = y
      · rw [e, up2_self]; exact hv
      · rw [up2_ne (by omega)]; exact (g4 a ha).2
    · rw [up2_row (by omega)]; exact g5
    · rw [up2_row (by omega), up2_row (by omega), up2_row (by omega)]; exact g6 r hr
    · rw [up2_row (by omega)]; exact g7 k hk
  · rw [up2_row (by omega), up2_row (by omega), up2_row (by omega), up2_row (by omega)]; exact h1 d hd
  · rw [up2_row (a := 8) (by omega), up2_row (a := 42) (by omega)]
    refine ⟨(h2 a ha).1, ?_⟩
    by_cases e : a = y
    · rw [e, up2_self, up2_self]
    · rw [up2_ne (by omega), up2_ne (by omega)]; exact (h2 a ha).2
  · rw [up2_row (by omega), up2_row (by omega), up2_row (by omega), up2_row (by omega), up2_row (by omega), up2_row (by omega)]; exact h3 r hr
  · unfold ShR
    rw [up2_row (show 54 ≠ 43 by omega), up2_row (show 55 ≠ 43 by omega), up2_row (show 56 ≠ 43 by omega), up2_row (show 12 + k ≠ 9 by omega), up2_row (show 16 + k ≠ 9 by omega)]
    exact h4 k hk
  · rw [up2_row (by omega), up2_row (by omega)]; exact h5
  · rw [up2_row (by omega), up2_row (by omega)]; exact h6
theorem altM_eq {m : vSg} {i j : Nat} {v : Int32} (hj : j < 3) : altM m i j v = up2 m (39 + j) i v := by
  funext a b
  unfold altM up2
  match j, hj with
  | 0, _ => by_cases h1 : a = 39 <;> by_cases h2 : a = 40 <;> by_cases h3 : a = 41 <;> by_cases h4 : b = i <;> simp_all
  | 1, _ => by_cases h1 : a = 39 <;> by_cases h2 : a = 40 <;> by_cases h3 : a = 41 <;> by_cases h4 : b = i <;> simp_all
  | 2, _ => by_cases h1 : a = 39 <;> by_cases h2 : a = 40 <;> by_cases h3 : a = 41 <;> by_cases h4 : b = i <;> simp_all
  | n + 3, hn => exact absurd hn (by omega)
/-- faults and traces -/
theorem Rl_07 {x m : vSg} {nd ns nr : Nat} {v : Int32} (h : Rl x m nd ns nr) : Rl (up2 x 0 7 v) (up2 m 38 0 v) nd ns nr := by
  obtain ⟨hX, hM, h1, h2, h3, h4, h5, h6⟩ := h
  have e5 := hX.1.2
  refine ⟨?_, ?_, fun d hd => ?_, fun a ha => ?_, fun r hr => ?_, fun k hk => ?_, ?_, ?_⟩
  · obtain ⟨g1, g2, g3, g4, g5, g6, g7, g8⟩ := hX
    refine ⟨?_, ?_, fun d hd i hi => ?_, fun a ha => ?_, ?_, fun r hr => ?_, fun k hk => ?_, g8⟩
    · rw [up2_row (by omega)]; exact g1
    · rw [up2_row (by omega)]; exact g2
    · rw [up2_row (by omega)]; exact g3 d hd i hi
    · rw [up2_row (by omega), up2_row (by omega)]; exact g4 a ha
    · rw [up2_row (by omega)]; exact g5
    · rw [up2_row (by omega), up2_row (by omega), up2_row (by omega)]; exact g6 r hr
    · rw [up2_row (by omega)]; exact g7 k hk
  · obtain ⟨g1, g2, g3, g4, g5, g6, g7, g8⟩ := hM
    refine ⟨?_, ?_, fun d hd => ?_, fun a ha => ?_, ?_, fun r hr => ?_, fun k hk => ?_, g8⟩
    · rw [up2_ne (by omega)]; exact g1
    · rw [up2_ne (by omega)]; exact g2
    · rw [up2_row (by omega), up2_row (by omega), up2_row (by omega)]; exact g3 d hd
    · rw [up2_row (by omega), up2_row (by omega)]; exact g4 a ha
    · rw [up2_ne (by omega)]; exact g5
    · rw [up2_row (by omega), up2_row (by omega), up2_row (by omega)]; exact g6 r hr
    · rw [up2_row (by omega)]; exact g7 k hk
  · rw [up2_row (by omega), up2_row (by omega), up2_row (by omega), up2_row (by omega)]; exact h1 d hd
  · rw [up2_row (by omega), up2_row (by omega), up2_row (by omega), up2_row (by omega)]; exact h2 a ha
  · rw [up2_row (by omega), up2_row (by omega), up2_row (by omega), up2_row (by omega), up2_row (by omega), up2_row (by omega)]; exact h3 r hr
  · unfold ShR
    rw [up2_row (show 54 ≠ 38 by omega), up2_row (show 55 ≠ 38 by omega), up2_row (show 56 ≠ 38 by omega), up2_row (show 12 + k ≠ 0 by omega), up2_row (show 16 + k ≠ 0 by omega)]
    exact h4 k hk
  · rw [up2_ne (by omega), up2_ne (by omega)]; exact h5
  · rw [up2_self, up2_self]
theorem Rl_06 {x m : vSg} {nd ns nr : Nat} {v : Int32} (h : Rl x m nd ns nr) : Rl (up2 x 0 6 v) (up2 m 38 29 v) nd ns nr := by
  obtain ⟨hX, hM, h1, h2, h3, h4, h5, h6⟩ := h
  have e5 := hX.1.2
  refine ⟨?_, ?_, fun d hd => ?_, fun a ha => ?_, fun r hr => ?_, fun k hk => ?_, ?_, ?_⟩
  · obtain ⟨g1, g2, g3, g4, g5, g6, g7, g8⟩ := hX
    refine ⟨?_, ?_, fun d hd i hi => ?_, fun a ha => ?_, ?_, fun r hr => ?_, fun k hk => ?_, g8⟩
    · rw [up2_row (by omega)]; exact g1
    · rw [up2_row (by omega)]; exact g2
    · rw [up2_row (by omega)]; exact g3 d hd i hi
    · rw [up2_row (by omega), up2_row (by omega)]; exact g4 a ha
    · rw [up2_row (by omega)]; exact g5
    · rw [up2_row (by omega), up2_row (by omega), up2_row (by omega)]; exact g6 r hr
    · rw [up2_row (by omega)]; exact g7 k hk
  · obtain ⟨g1, g2, g3, g4, g5, g6, g7, g8⟩ := hM
    refine ⟨?_, ?_, fun d hd => ?_, fun a ha => ?_, ?_, fun r hr => ?_, fun k hk => ?_, g8⟩
    · rw [up2_ne (by omega)]; exact g1
    · rw [up2_ne (by omega)]; exact g2
    · rw [up2_row (by omega), up2_row (by omega), up2_row (by omega)]; exact g3 d hd
    · rw [up2_row (by omega), up2_row (by omega)]; exact g4 a ha
    · rw [up2_ne (by omega)]; exact g5
    · rw [up2_row (by omega), up2_row (by omega), up2_row (by omega)]; exact g6 r hr
    · rw [up2_row (by omega)]; exact g7 k hk
  · rw [up2_row (by omega), up2_row (by omega), up2_row (by omega), up2_row (by omega)]; exact h1 d hd
  · rw [up2_row (by omega), up2_row (by omega), up2_row (by omega), up2_row (by omega)]; exact h2 a ha
  · rw [up2_row (by omega), up2_row (by omega), up2_row (by omega), up2_row (by omega), up2_row (by omega), up2_row (by omega)]; exact h3 r hr
  · unfold ShR
    rw [up2_row (show 54 ≠ 38 by omega), up2_row (show 55 ≠ 38 by omega), up2_row (show 56 ≠ 38 by omega), up2_row (show 12 + k ≠ 0 by omega), up2_row (show 16 + k ≠ 0 by omega)]
    exact h4 k hk
  · rw [up2_self, up2_self]
  · rw [up2_ne (by omega), up2_ne (by omega)]; exact h6
