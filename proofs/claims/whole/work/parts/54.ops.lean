theorem Rl_x2 {x y m : vSg} {nd ns nr : Nat} (h : ∀ q, q = 2 ∨ q = 3 ∨ (8 ≤ q ∧ q < 25) ∨ q = 34 → y q = x q) (h06 : y 0 6 = x 0 6) (h07 : y 0 7 = x 0 7) (hR : Rl x m nd ns nr) : Rl y m nd ns nr := by
  obtain ⟨hX, hM, h1, h2, h3, h4, h5, h6⟩ := hR
  have e5 := hX.1.2
  refine ⟨?_, hM, fun d hd => ?_, fun a ha => ?_, fun r hr => ?_, fun k hk => ?_, ?_, ?_⟩
  · obtain ⟨g1, g2, g3, g4, g5, g6, g7, g8⟩ := hX
    refine ⟨?_, ?_, fun d hd j hj => ?_, fun a ha => ?_, ?_, fun r hr => ?_, fun k hk => ?_, g8⟩
    · rw [h 2 (by omega)]; exact g1
    · rw [h 2 (by omega)]; exact g2
    · rw [h (20 + d) (by omega)]; exact g3 d hd j hj
    · rw [h 8 (by omega), h 9 (by omega)]; exact g4 a ha
    · rw [h 3 (by omega)]; exact g5
    · rw [h 10 (by omega), h 11 (by omega), h 34 (by omega)]; exact g6 r hr
    · rw [h (12 + k) (by omega)]; exact g7 k hk
  · rw [h (20 + d) (by omega)]; exact h1 d hd
  · rw [h 8 (by omega), h 9 (by omega)]; exact h2 a ha
  · rw [h 10 (by omega), h 11 (by omega), h 34 (by omega)]; exact h3 r hr
  · unfold ShR
    rw [h (12 + k) (by omega), h (16 + k) (by omega)]
    exact h4 k hk
  · rw [h06]; exact h5
  · rw [h07]; exact h6
theorem Rl_m2 {x y m : vSg} {nd ns nr : Nat} (h : ∀ q, (39 ≤ q ∧ q ≤ 43) ∨ (51 ≤ q ∧ q ≤ 56) → y q = m q) (h38 : ∀ j, j = 0 ∨ j = 1 ∨ j = 5 ∨ j = 21 ∨ j = 29 → y 38 j = m 38 j) (hR : Rl x m nd ns nr) : Rl x y nd ns nr := by
  obtain ⟨hX, hM, h1, h2, h3, h4, h5, h6⟩ := hR
  refine ⟨hX, ?_, fun d hd => ?_, fun a ha => ?_, fun r hr => ?_, fun k hk => ?_, ?_, ?_⟩
  · obtain ⟨g1, g2, g3, g4, g5, g6, g7, g8⟩ := hM
    refine ⟨?_, ?_, fun d hd => ?_, fun a ha => ?_, ?_, fun r hr => ?_, fun k hk => ?_, g8⟩
    · rw [h38 1 (by omega)]; exact g1
    · rw [h38 5 (by omega)]; exact g2
    · rw [h 39 (by omega), h 40 (by omega), h 41 (by omega)]; exact g3 d hd
    · rw [h 42 (by omega), h 43 (by omega)]; exact g4 a ha
    · rw [h38 21 (by omega)]; exact g5
    · rw [h 51 (by omega), h 52 (by omega), h 53 (by omega)]; exact g6 r hr
    · rw [h 54 (by omega)]; exact g7 k hk
  · rw [h 39 (by omega), h 40 (by omega), h 41 (by omega)]; exact h1 d hd
  · rw [h 42 (by omega), h 43 (by omega)]; exact h2 a ha
  · rw [h 51 (by omega), h 52 (by omega), h 53 (by omega)]; exact h3 r hr
  · unfold ShR
    rw [h 54 (by omega), h 55 (by omega), h 56 (by omega)]
    exact h4 k hk
  · rw [h38 29 (by omega)]; exact h5
  · rw [h38 0 (by omega)]; exact h6
section OPS
variable {σ σ1 σ2 : vSg} {τ τ1 τ2 : vTa} {nd ns nr : Nat}
theorem fin07 (h : Rl σ σ1 nd ns nr) {v v' : Int32} (e : v = v') (h1 : up2 σ 0 7 v = σ1) (h2 : up2 σ1 38 0 v' = σ2) : ∃ nd ns nr, Rl σ2 σ2 nd ns nr := by
  subst e
  have t := Rl_07 (v := v) h
  rw [h1, h2] at t
  exact ⟨nd, ns, nr, Rl_x (fun q hq => by rw [← h2]; exact up2_row (by omega)) t⟩
theorem fin06 (h : Rl σ σ1 nd ns nr) {v v' : Int32} (e : v = v') (h1 : up2 σ 0 6 v = σ1) (h2 : up2 σ1 38 29 v' = σ2) : ∃ nd ns nr, Rl σ2 σ2 nd ns nr := by
  subst e
  have t := Rl_06 (v := v) h
  rw [h1, h2] at t
  exact ⟨nd, ns, nr, Rl_x (fun q hq => by rw [← h2]; exact up2_row (by omega)) t⟩
theorem finU (t : Rl σ1 σ2 nd ns nr) (h : ∀ q, q < 38 → σ2 q = σ1 q) : ∃ nd ns nr, Rl σ2 σ2 nd ns nr := ⟨nd, ns, nr, Rl_x h t⟩
theorem o_ofDeed (h : Rl σ σ nd ns nr) (d : Int32) (what : Int32) {r1 : Int32} (h1 : (fun r9 σ9 τ9 => ofDeedS (nI nd) (fun z9 y9 => σ (20 + z9) y9) d what = r9 ∧ σ = σ9 ∧ τ = τ9) r1 σ1 τ1) : Rl σ σ1 nd ns nr := by
  (try dsimp only at h1)
  obtain ⟨rfl, rfl, _⟩ := h1
  exact h
theorem p_ofDeed (h : Rl σ σ1 nd ns nr) (d : Int32) (what : Int32) {r1 r2 : Int32} (h1 : (fun r9 σ9 τ9 => ofDeedS (nI nd) (fun z9 y9 => σ (20 + z9) y9) d what = r9 ∧ σ = σ9 ∧ τ = τ9) r1 σ1 τ1) (h2 : (fun r9 σ9 τ9 => ofDeedS (nI nd) (ddM σ1) d what = r9 ∧ σ1 = σ9 ∧ τ1 = τ9) r2 σ2 τ2) : r1 = r2 ∧ ∃ nd ns nr, Rl σ2 σ2 nd ns nr := by
  (try dsimp only at h1 h2)
  obtain ⟨rfl, rfl, _⟩ := h1
  obtain ⟨rfl, rfl, _⟩ := h2
  exact ⟨c_ofDeed h d what, nd, ns, nr, h⟩
theorem o_ofSubject (h : Rl σ σ nd ns nr) (a : Int32) (what : Int32) {r1 : Int32} (h1 : (fun r9 σ9 τ9 => ofSubjS (nI ns) (σ 8) (σ 9) (fun z9 => setS (doX σ z9) nd) a what = r9 ∧ σ = σ9 ∧ τ = τ9) r1 σ1 τ1) : Rl σ σ1 nd ns nr := by
  (try dsimp only at h1)
  obtain ⟨rfl, rfl, _⟩ := h1
  exact h
theorem p_ofSubject (h : Rl σ σ1 nd ns nr) (a : Int32) (what : Int32) {r1 r2 : Int32} (h1 : (fun r9 σ9 τ9 => ofSubjS (nI ns) (σ 8) (σ 9) (fun z9 => setS (doX σ z9) nd) a what = r9 ∧ σ = σ9 ∧ τ = τ9) r1 σ1 τ1) (h2 : (fun r9 σ9 τ9 => ofSubjS (nI ns) (σ1 42) (σ1 43) (fun z9 => setS (doM σ1 z9) nd) a what = r9 ∧ σ1 = σ9 ∧ τ1 = τ9) r2 σ2 τ2) : r1 = r2 ∧ ∃ nd ns nr, Rl σ2 σ2 nd ns nr := by
  (try dsimp only at h1 h2)
  obtain ⟨rfl, rfl, _⟩ := h1
  obtain ⟨rfl, rfl, _⟩ := h2
  exact ⟨c_ofSubj h a what, nd, ns, nr, h⟩
theorem o_fear (h : Rl σ σ nd ns nr) (a : Int32) (d : Int32) {r1 : Int32} (h1 : (fun r9 σ9 τ9 => fearOS (nI ns) (nI nd) (fun z9 y9 => fearS (σ 8 z9) (σ (20 + y9) 1) (σ (20 + y9) 2)) a d = r9 ∧ σ = σ9 ∧ τ = τ9) r1 σ1 τ1) : Rl σ σ1 nd ns nr := by
  (try dsimp only at h1)
  obtain ⟨rfl, rfl, _⟩ := h1
  exact h
theorem p_fear (h : Rl σ σ1 nd ns nr) (a : Int32) (d : Int32) {r1 r2 : Int32} (h1 : (fun r9 σ9 τ9 => fearOS (nI ns) (nI nd) (fun z9 y9 => fearS (σ 8 z9) (σ (20 + y9) 1) (σ (20 + y9) 2)) a d = r9 ∧ σ = σ9 ∧ τ = τ9) r1 σ1 τ1) (h2 : (fun r9 σ9 τ9 => fearOS (nI ns) (nI nd) (fun z9 y9 => fearS (σ1 42 z9) (σ1 40 y9) (σ1 41 y9)) a d = r9 ∧ σ1 = σ9 ∧ τ1 = τ9) r2 σ2 τ2) : r1 = r2 ∧ ∃ nd ns nr, Rl σ2 σ2 nd ns nr := by
  (try dsimp only at h1 h2)
  obtain ⟨rfl, rfl, _⟩ := h1
  obtain ⟨rfl, rfl, _⟩ := h2
  exact ⟨c_fear h a d, nd, ns, nr, h⟩
theorem o_hope (h : Rl σ σ nd ns nr) (a : Int32) (n : Int32) (pp : Int32) (which : Int32) {r1 : Int64} (h1 : (fun r9 σ9 τ9 => hopeS (nI ns) nd (unX σ) (vnX σ) a n pp which = r9 ∧ σ = σ9) r1 σ1 τ1) : Rl σ σ1 nd ns nr := by
  (try dsimp only at h1)
  obtain ⟨rfl, rfl⟩ := h1
  exact h
theorem p_hope (h : Rl σ σ1 nd ns nr) (a : Int32) (n : Int32) (pp : Int32) (which : Int32) {r1 r2 : Int64} (h1 : (fun r9 σ9 τ9 => hopeS (nI ns) nd (unX σ) (vnX σ) a n pp which = r9 ∧ σ = σ9) r1 σ1 τ1) (h2 : (fun r9 σ9 τ9 => hopeS (nI ns) nd (unM σ1) (vnM σ1) a n pp which = r9 ∧ σ1 = σ9) r2 σ2 τ2) : r1 = r2 ∧ ∃ nd ns nr, Rl σ2 σ2 nd ns nr := by
  (try dsimp only at h1 h2)
  obtain ⟨rfl, rfl⟩ := h1
  obtain ⟨rfl, rfl⟩ := h2
  exact ⟨c_hope h a n pp which, nd, ns, nr, h⟩
theorem o_uses (h : Rl σ σ nd ns nr) (a : Int32) (n : Int32) (pp : Int32) {r1 : Int32} (h1 : (fun r9 σ9 τ9 => usesS (nI ns) nd (unX σ) (vnX σ) a n pp = r9 ∧ σ = σ9) r1 σ1 τ1) : Rl σ σ1 nd ns nr := by
  (try dsimp only at h1)
  obtain ⟨rfl, rfl⟩ := h1
  exact h
theorem p_uses (h : Rl σ σ1 nd ns nr) (a : Int32) (n : Int32) (pp : Int32) {r1 r2 : Int32} (h1 : (fun r9 σ9 τ9 => usesS (nI ns) nd (unX σ) (vnX σ) a n pp = r9 ∧ σ = σ9) r1 σ1 τ1) (h2 : (fun r9 σ9 τ9 => usesS (nI ns) nd (unM σ1) (vnM σ1) a n pp = r9 ∧ σ1 = σ9) r2 σ2 τ2) : r1 = r2 ∧ ∃ nd ns nr, Rl σ2 σ2 nd ns nr := by
  (try dsimp only at h1 h2)
  obtain ⟨rfl, rfl⟩ := h1
  obtain ⟨rfl, rfl⟩ := h2
  exact ⟨c_uses h a n pp, nd, ns, nr, h⟩
theorem o_buyers (h : Rl σ σ nd ns nr) (price : Int32) (n : Int32) {r1 : Int32} (h1 : (fun r9 σ9 τ9 => buyersS ns nd (unX σ) (vnX σ) price n = r9 ∧ σ = σ9) r1 σ1 τ1) : Rl σ σ1 nd ns nr := by
  (try dsimp only at h1)
  obtain ⟨rfl, rfl⟩ := h1
  exact h
theorem p_buyers (h : Rl σ σ1 nd ns nr) (price : Int32) (n : Int32) {r1 r2 : Int32} (h1 : (fun r9 σ9 τ9 => buyersS ns nd (unX σ) (vnX σ) price n = r9 ∧ σ = σ9) r1 σ1 τ1) (h2 : (fun r9 σ9 τ9 => buyersS ns nd (unM σ1) (vnM σ1) price n = r9 ∧ σ1 = σ9) r2 σ2 τ2) : r1 = r2 ∧ ∃ nd ns nr, Rl σ2 σ2 nd ns nr := by
  (try dsimp only at h1 h2)
  obtain ⟨rfl, rfl⟩ := h1
  obtain ⟨rfl, rfl⟩ := h2
  exact ⟨c_buyers h price n, nd, ns, nr, h⟩
theorem o_best (h : Rl σ σ nd ns nr) (n : Int32) {r1 : Int32} (h1 : (fun r9 σ9 τ9 => bestOS ns nd (unX σ) (vnX σ) n = r9 ∧ σ = σ9) r1 σ1 τ1) : Rl σ σ1 nd ns nr := by
  (try dsimp only at h1)
  obtain ⟨rfl, rfl⟩ := h1
  exact h
theorem p_best (h : Rl σ σ1 nd ns nr) (n : Int32) {r1 r2 : Int32} (h1 : (fun r9 σ9 τ9 => bestOS ns nd (unX σ) (vnX σ) n = r9 ∧ σ = σ9) r1 σ1 τ1) (h2 : (fun r9 σ9 τ9 => bestOS ns nd (unM σ1) (vnM σ1) n = r9 ∧ σ1 = σ9) r2 σ2 τ2) : r1 = r2 ∧ ∃ nd ns nr, Rl σ2 σ2 nd ns nr := by
  (try dsimp only at h1 h2)
  obtain ⟨rfl, rfl⟩ := h1
  obtain ⟨rfl, rfl⟩ := h2
  exact ⟨c_best h n, nd, ns, nr, h⟩
theorem o_risks (h : Rl σ σ nd ns nr) (d : Int32) {r1 : Int32} (h1 : (fun r9 σ9 τ9 => fitS (nI nd) (fun y9 => setS (fun z9 => allX (up2 σ (20 + y9) 1 (nI z9)) (fun z8 => toN (σ 10 z8)) (fun z8 => toN (σ 11 z8)) nr) 10) d = r9 ∧ σ = σ9 ∧ τ = τ9) r1 σ1 τ1) : Rl σ σ1 nd ns nr := by
  (try dsimp only at h1)
  obtain ⟨rfl, rfl, _⟩ := h1
  exact h
theorem p_risks (h : Rl σ σ1 nd ns nr) (d : Int32) {r1 r2 : Int32} (h1 : (fun r9 σ9 τ9 => fitS (nI nd) (fun y9 => setS (fun z9 => allX (up2 σ (20 + y9) 1 (nI z9)) (fun z8 => toN (σ 10 z8)) (fun z8 => toN (σ 11 z8)) nr) 10) d = r9 ∧ σ = σ9 ∧ τ = τ9) r1 σ1 τ1) (h2 : (fun r9 σ9 τ9 => fitS (nI nd) (fun y9 => setS (fun z9 => allM (up2 σ1 40 y9 (nI z9)) (fun z8 => toN (σ1 51 z8)) (fun z8 => toN (σ1 52 z8)) nr) 10) d = r9 ∧ σ1 = σ9 ∧ τ1 = τ9) r2 σ2 τ2) : r1 = r2 ∧ ∃ nd ns nr, Rl σ2 σ2 nd ns nr := by
  (try dsimp only at h1 h2)
  obtain ⟨rfl, rfl, _⟩ := h1
  obtain ⟨rfl, rfl, _⟩ := h2
  exact ⟨c_risks h d, nd, ns, nr, h⟩
theorem o_hurts (h : Rl σ σ nd ns nr) (d : Int32) {r1 : Int32} (h1 : (fun r9 σ9 τ9 => fitS (nI nd) (fun y9 => setS (fun z9 => allX (up2 σ (20 + y9) 2 (nI z9)) (fun z8 => toN (σ 10 z8)) (fun z8 => toN (σ 11 z8)) nr) 10) d = r9 ∧ σ = σ9 ∧ τ = τ9) r1 σ1 τ1) : Rl σ σ1 nd ns nr := by
  (try dsimp only at h1)
  obtain ⟨rfl, rfl, _⟩ := h1
  exact h
theorem p_hurts (h : Rl σ σ1 nd ns nr) (d : Int32) {r1 r2 : Int32} (h1 : (fun r9 σ9 τ9 => fitS (nI nd) (fun y9 => setS (fun z9 => allX (up2 σ (20 + y9) 2 (nI z9)) (fun z8 => toN (σ 10 z8)) (fun z8 => toN (σ 11 z8)) nr) 10) d = r9 ∧ σ = σ9 ∧ τ = τ9) r1 σ1 τ1) (h2 : (fun r9 σ9 τ9 => fitS (nI nd) (fun y9 => setS (fun z9 => allM (up2 σ1 41 y9 (nI z9)) (fun z8 => toN (σ1 51 z8)) (fun z8 => toN (σ1 52 z8)) nr) 10) d = r9 ∧ σ1 = σ9 ∧ τ1 = τ9) r2 σ2 τ2) : r1 = r2 ∧ ∃ nd ns nr, Rl σ2 σ2 nd ns nr := by
  (try dsimp only at h1 h2)
  obtain ⟨rfl, rfl, _⟩ := h1
  obtain ⟨rfl, rfl, _⟩ := h2
  exact ⟨c_hurts h d, nd, ns, nr, h⟩
theorem o_kinds (h : Rl σ σ nd ns nr) (a : Int32) {r1 : Int32} (h1 : (fun r9 σ9 τ9 => fitS (nI ns) (fun y9 => setS (fun z9 => allX (up2 σ 8 y9 (nI z9)) (fun z8 => toN (σ 10 z8)) (fun z8 => toN (σ 11 z8)) nr) 3) a = r9 ∧ σ = σ9 ∧ τ = τ9) r1 σ1 τ1) : Rl σ σ1 nd ns nr := by
  (try dsimp only at h1)
  obtain ⟨rfl, rfl, _⟩ := h1
  exact h
theorem p_kinds (h : Rl σ σ1 nd ns nr) (a : Int32) {r1 r2 : Int32} (h1 : (fun r9 σ9 τ9 => fitS (nI ns) (fun y9 => setS (fun z9 => allX (up2 σ 8 y9 (nI z9)) (fun z8 => toN (σ 10 z8)) (fun z8 => toN (σ 11 z8)) nr) 3) a = r9 ∧ σ = σ9 ∧ τ = τ9) r1 σ1 τ1) (h2 : (fun r9 σ9 τ9 => fitS (nI ns) (fun y9 => setS (fun z9 => allM (up2 σ1 42 y9 (nI z9)) (fun z8 => toN (σ1 51 z8)) (fun z8 => toN (σ1 52 z8)) nr) 3) a = r9 ∧ σ1 = σ9 ∧ τ1 = τ9) r2 σ2 τ2) : r1 = r2 ∧ ∃ nd ns nr, Rl σ2 σ2 nd ns nr := by
  (try dsimp only at h1 h2)
  obtain ⟨rfl, rfl, _⟩ := h1
  obtain ⟨rfl, rfl, _⟩ := h2
  exact ⟨c_kinds h a, nd, ns, nr, h⟩
theorem o_odds (h : Rl σ σ nd ns nr) (set : Int32) (n : Int32) (which : Int32) {r1 : Int64} (h1 : (fun r9 σ9 τ9 => oddsS ns nd (fun z => toN (σ (20 + z) 1)) set n which = r9 ∧ σ = σ9 ∧ τ = τ9) r1 σ1 τ1) : Rl σ σ1 nd ns nr := by
  (try dsimp only at h1)
  obtain ⟨rfl, rfl, _⟩ := h1
  exact h
theorem p_odds (h : Rl σ σ1 nd ns nr) (set : Int32) (n : Int32) (which : Int32) {r1 r2 : Int64} (h1 : (fun r9 σ9 τ9 => oddsS ns nd (fun z => toN (σ (20 + z) 1)) set n which = r9 ∧ σ = σ9 ∧ τ = τ9) r1 σ1 τ1) (h2 : (fun r9 σ9 τ9 => oddsS ns nd (fun z => toN (σ1 40 z)) set n which = r9 ∧ σ1 = σ9 ∧ τ1 = τ9) r2 σ2 τ2) : r1 = r2 ∧ ∃ nd ns nr, Rl σ2 σ2 nd ns nr := by
  (try dsimp only at h1 h2)
  obtain ⟨rfl, rfl, _⟩ := h1
  obtain ⟨rfl, rfl, _⟩ := h2
  exact ⟨c_odds h set n which, nd, ns, nr, h⟩
theorem o_many (h : Rl σ σ nd ns nr) (what : Int32) {r1 : Int32} (h1 : (fun r9 σ9 τ9 => manyS (nI ns) (nI nd) (sumS (σ 9) ns) (nI nr) what = r9 ∧ σ = σ9 ∧ τ = τ9) r1 σ1 τ1) : Rl σ σ1 nd ns nr := by
  (try dsimp only at h1)
  obtain ⟨rfl, rfl, _⟩ := h1
  exact h
theorem p_many (h : Rl σ σ1 nd ns nr) (what : Int32) {r1 r2 : Int32} (h1 : (fun r9 σ9 τ9 => manyS (nI ns) (nI nd) (sumS (σ 9) ns) (nI nr) what = r9 ∧ σ = σ9 ∧ τ = τ9) r1 σ1 τ1) (h2 : (fun r9 σ9 τ9 => manyS (nI ns) (nI nd) (sumS (σ1 43) ns) (nI nr) what = r9 ∧ σ1 = σ9 ∧ τ1 = τ9) r2 σ2 τ2) : r1 = r2 ∧ ∃ nd ns nr, Rl σ2 σ2 nd ns nr := by
  (try dsimp only at h1 h2)
  obtain ⟨rfl, rfl, _⟩ := h1
  obtain ⟨rfl, rfl, _⟩ := h2
  exact ⟨c_many h what, nd, ns, nr, h⟩
theorem o_as (h : Rl σ σ nd ns nr) (a : Int32) (kind : Int32) {r1 : Int32} (h1 : (fun r9 σ9 τ9 => (asS (nI ns) (σ 8) a kind).1 = r9 ∧ (up2 σ 0 7 ((asS (nI ns) (σ 8) a kind).2)) = σ9 ∧ τ = τ9) r1 σ1 τ1) : Rl σ σ1 nd ns nr := by
  (try dsimp only at h1)
  obtain ⟨_, e1, _⟩ := h1
  exact Rl_m (fun q ha hb => by rw [← e1]; exact up2_row (by omega)) h
theorem p_as (h : Rl σ σ1 nd ns nr) (a : Int32) (kind : Int32) {r1 r2 : Int32} (h1 : (fun r9 σ9 τ9 => (asS (nI ns) (σ 8) a kind).1 = r9 ∧ (up2 σ 0 7 ((asS (nI ns) (σ 8) a kind).2)) = σ9 ∧ τ = τ9) r1 σ1 τ1) (h2 : (fun r9 σ9 τ9 => (asS (nI ns) (σ1 42) a kind).1 = r9 ∧ (up2 σ1 38 0 ((asS (nI ns) (σ1 42) a kind).2)) = σ9 ∧ τ1 = τ9) r2 σ2 τ2) : r1 = r2 ∧ ∃ nd ns nr, Rl σ2 σ2 nd ns nr := by
  (try dsimp only at h1 h2)
  obtain ⟨v1, e1, _⟩ := h1
  obtain ⟨v2, e2, _⟩ := h2
  have e := c_as h a kind
  exact ⟨by rw [← v1, ← v2, e], fin07 h (congrArg Prod.snd e) e1 e2⟩
theorem o_cell (h : Rl σ σ nd ns nr) (k : Int32) (i : Int32) (lane : Int32) {r1 : Int64} (h1 : (fun r9 σ9 τ9 => (cellS (fun z9 => σ (12 + z9) 1) (fun z9 => σ (12 + z9) 2) (fun z9 => σ (12 + z9) 3) (fun z9 => σ (16 + z9)) k i lane).1 = r9 ∧ (up2 σ 0 7 ((cellS (fun z9 => σ (12 + z9) 1) (fun z9 => σ (12 + z9) 2) (fun z9 => σ (12 + z9) 3) (fun z9 => σ (16 + z9)) k i lane).2)) = σ9 ∧ τ = τ9) r1 σ1 τ1) : Rl σ σ1 nd ns nr := by
  (try dsimp only at h1)
  obtain ⟨_, e1, _⟩ := h1
  exact Rl_m (fun q ha hb => by rw [← e1]; exact up2_row (by omega)) h
theorem p_cell (h : Rl σ σ1 nd ns nr) (k : Int32) (i : Int32) (lane : Int32) {r1 r2 : Int64} (h1 : (fun r9 σ9 τ9 => (cellS (fun z9 => σ (12 + z9) 1) (fun z9 => σ (12 + z9) 2) (fun z9 => σ (12 + z9) 3) (fun z9 => σ (16 + z9)) k i lane).1 = r9 ∧ (up2 σ 0 7 ((cellS (fun z9 => σ (12 + z9) 1) (fun z9 => σ (12 + z9) 2) (fun z9 => σ (12 + z9) 3) (fun z9 => σ (16 + z9)) k i lane).2)) = σ9 ∧ τ = τ9) r1 σ1 τ1) (h2 : (fun r9 σ9 τ9 => (cellS (thM σ1) (σ1 55) (σ1 54) (fun z9 y9 => σ1 56 (60 * z9 + y9)) k i lane).1 = r9 ∧ (up2 σ1 38 0 ((cellS (thM σ1) (σ1 55) (σ1 54) (fun z9 y9 => σ1 56 (60 * z9 + y9)) k i lane).2)) = σ9 ∧ τ1 = τ9) r2 σ2 τ2) : r1 = r2 ∧ ∃ nd ns nr, Rl σ2 σ2 nd ns nr := by
  (try dsimp only at h1 h2)
  obtain ⟨v1, e1, _⟩ := h1
  obtain ⟨v2, e2, _⟩ := h2
  have e := c_cell h k i lane
  exact ⟨by rw [← v1, ← v2, e], fin07 h (congrArg Prod.snd e) e1 e2⟩
theorem o_name (h : Rl σ σ nd ns nr) (a : Int32) {r1 : Int32} (h1 : (fun r9 σ9 τ9 => (nameS (nI ns) (σ 8) (σ 0 6) a).1 = r9 ∧ (up2 σ 0 6 ((nameS (nI ns) (σ 8) (σ 0 6) a).2)) = σ9 ∧ τ = τ9) r1 σ1 τ1) : Rl σ σ1 nd ns nr := by
  (try dsimp only at h1)
  obtain ⟨_, e1, _⟩ := h1
  exact Rl_m (fun q ha hb => by rw [← e1]; exact up2_row (by omega)) h
theorem p_name (h : Rl σ σ1 nd ns nr) (a : Int32) {r1 r2 : Int32} (h1 : (fun r9 σ9 τ9 => (nameS (nI ns) (σ 8) (σ 0 6) a).1 = r9 ∧ (up2 σ 0 6 ((nameS (nI ns) (σ 8) (σ 0 6) a).2)) = σ9 ∧ τ = τ9) r1 σ1 τ1) (h2 : (fun r9 σ9 τ9 => (nameS (nI ns) (σ1 42) (σ1 38 29) a).1 = r9 ∧ (up2 σ1 38 29 ((nameS (nI ns) (σ1 42) (σ1 38 29) a).2)) = σ9 ∧ τ1 = τ9) r2 σ2 τ2) : r1 = r2 ∧ ∃ nd ns nr, Rl σ2 σ2 nd ns nr := by
  (try dsimp only at h1 h2)
  obtain ⟨v1, e1, _⟩ := h1
  obtain ⟨v2, e2, _⟩ := h2
  have e := c_name h a
  exact ⟨by rw [← v1, ← v2, e], fin06 h (congrArg Prod.snd e) e1 e2⟩
theorem o_tell (h : Rl σ σ nd ns nr) (a : Int32) {r1 : Int32} (h1 : (fun r9 σ9 τ9 => (tellS (nI ns) (σ 8) (σ 9) (σ 0 6) a).1 = r9 ∧ (up2 σ 0 6 ((tellS (nI ns) (σ 8) (σ 9) (σ 0 6) a).2)) = σ9 ∧ τ = τ9) r1 σ1 τ1) : Rl σ σ1 nd ns nr := by
  (try dsimp only at h1)
  obtain ⟨_, e1, _⟩ := h1
  exact Rl_m (fun q ha hb => by rw [← e1]; exact up2_row (by omega)) h
theorem p_tell (h : Rl σ σ1 nd ns nr) (a : Int32) {r1 r2 : Int32} (h1 : (fun r9 σ9 τ9 => (tellS (nI ns) (σ 8) (σ 9) (σ 0 6) a).1 = r9 ∧ (up2 σ 0 6 ((tellS (nI ns) (σ 8) (σ 9) (σ 0 6) a).2)) = σ9 ∧ τ = τ9) r1 σ1 τ1) (h2 : (fun r9 σ9 τ9 => (tellS (nI ns) (σ1 42) (σ1 43) (σ1 38 29) a).1 = r9 ∧ (up2 σ1 38 29 ((tellS (nI ns) (σ1 42) (σ1 43) (σ1 38 29) a).2)) = σ9 ∧ τ1 = τ9) r2 σ2 τ2) : r1 = r2 ∧ ∃ nd ns nr, Rl σ2 σ2 nd ns nr := by
  (try dsimp only at h1 h2)
  obtain ⟨v1, e1, _⟩ := h1
  obtain ⟨v2, e2, _⟩ := h2
  have e := c_tell h a
  exact ⟨by rw [← v1, ← v2, e], fin06 h (congrArg Prod.snd e) e1 e2⟩
theorem o_alter (h : Rl σ σ nd ns nr) (d : Int32) (what : Int32) (v : Int32) {r1 : Int32} (h1 : (fun r9 σ9 τ9 => alterS (nI nd) (fun z9 y9 => σ (20 + z9) y9) d what v = r9 ∧ cif (isB d (nI nd) ∧ isB what 3 ∧ isB v 10) (up2 σ (20 + toN d) (toN what) v) σ = σ9 ∧ τ = τ9) r1 σ1 τ1) : Rl σ σ1 nd ns nr := by
  (try dsimp only at h1)
  obtain ⟨_, e1, _⟩ := h1
  by_cases hP : isB d (nI nd) ∧ isB what 3 ∧ isB v 10
  · rw [cif_t hP] at e1
    exact Rl_m (fun q ha hb => by rw [← e1]; exact up2_row (by have e5 := h.1.1.2; have hd := isB_t hP.1 (r_nd h); omega)) h
  · rw [cif_f hP] at e1
    subst e1; exact h
theorem p_alter (h : Rl σ σ1 nd ns nr) (d : Int32) (what : Int32) (v : Int32) {r1 r2 : Int32} (h1 : (fun r9 σ9 τ9 => alterS (nI nd) (fun z9 y9 => σ (20 + z9) y9) d what v = r9 ∧ cif (isB d (nI nd) ∧ isB what 3 ∧ isB v 10) (up2 σ (20 + toN d) (toN what) v) σ = σ9 ∧ τ = τ9) r1 σ1 τ1) (h2 : (fun r9 σ9 τ9 => alterS (nI nd) (ddM σ1) d what v = r9 ∧ cif (isB d (nI nd) ∧ isB what 3 ∧ isB v 10) (altM σ1 (toN d) (toN what) v) σ1 = σ9 ∧ τ1 = τ9) r2 σ2 τ2) : r1 = r2 ∧ ∃ nd ns nr, Rl σ2 σ2 nd ns nr := by
  (try dsimp only at h1 h2)
  obtain ⟨v1, e1, _⟩ := h1
  obtain ⟨v2, e2, _⟩ := h2
  have e := c_alter h d what v
  by_cases hP : isB d (nI nd) ∧ isB what 3 ∧ isB v 10
  · rw [cif_t hP] at e1
    have hw := isB_t (b := 3) hP.2.1 (by decide)
    have hd := isB_t hP.1 (r_nd h)
    have e5 := h.1.1.2
    rw [cif_t hP] at e2
    rw [altM_eq hw] at e2
    have t := Rl_deed (v := v) h hd hw hP.2.2
    rw [e1, e2] at t
    refine ⟨by rw [← v1, ← v2, e], finU t (fun q hq => ?_)⟩
    rw [← e2]; exact up2_row (by omega)
  · rw [cif_f hP] at e1
    rw [cif_f hP] at e2
    subst e1; subst e2; exact ⟨by rw [← v1, ← v2, e], nd, ns, nr, h⟩
theorem o_grant (h : Rl σ σ nd ns nr) (a : Int32) (v : Int32) {r1 : Int32} (h1 : (fun r9 σ9 τ9 => grantS (nI ns) (σ 9) a v = r9 ∧ cif (isB a (nI ns) ∧ isB v 4) (up2 σ 9 (toN a) v) σ = σ9 ∧ τ = τ9) r1 σ1 τ1) : Rl σ σ1 nd ns nr := by
  (try dsimp only at h1)
  obtain ⟨_, e1, _⟩ := h1
  by_cases hP : isB a (nI ns) ∧ isB v 4
  · rw [cif_t hP] at e1
    exact Rl_m (fun q ha hb => by rw [← e1]; exact up2_row (by omega)) h
  · rw [cif_f hP] at e1
    subst e1; exact h
theorem p_grant (h : Rl σ σ1 nd ns nr) (a : Int32) (v : Int32) {r1 r2 : Int32} (h1 : (fun r9 σ9 τ9 => grantS (nI ns) (σ 9) a v = r9 ∧ cif (isB a (nI ns) ∧ isB v 4) (up2 σ 9 (toN a) v) σ = σ9 ∧ τ = τ9) r1 σ1 τ1) (h2 : (fun r9 σ9 τ9 => grantS (nI ns) (σ1 43) a v = r9 ∧ cif (isB a (nI ns) ∧ isB v 4) (up2 σ1 43 (toN a) v) σ1 = σ9 ∧ τ1 = τ9) r2 σ2 τ2) : r1 = r2 ∧ ∃ nd ns nr, Rl σ2 σ2 nd ns nr := by
  (try dsimp only at h1 h2)
  obtain ⟨v1, e1, _⟩ := h1
  obtain ⟨v2, e2, _⟩ := h2
  have e := c_grant h a v
  by_cases hP : isB a (nI ns) ∧ isB v 4
  · rw [cif_t hP] at e1
    rw [cif_t hP] at e2
    have t := Rl_pap (y := toN a) (v := v) h hP.2
    rw [e1, e2] at t
    refine ⟨by rw [← v1, ← v2, e], finU t (fun q hq => ?_)⟩
    rw [← e2]; exact up2_row (by omega)
  · rw [cif_f hP] at e1
    rw [cif_f hP] at e2
    subst e1; subst e2; exact ⟨by rw [← v1, ← v2, e], nd, ns, nr, h⟩
theorem o_lose (h : Rl σ σ nd ns nr) (k : Int32) {r1 : Int32} (h1 : (fun r9 σ9 τ9 => loseS (fun z9 => σ (12 + z9) 1) k = r9 ∧ cif (isB k 4) (up2 σ (12 + toN k) 1 0) σ = σ9 ∧ τ = τ9) r1 σ1 τ1) : Rl σ σ1 nd ns nr := by
  (try dsimp only at h1)
  obtain ⟨_, e1, _⟩ := h1
  by_cases hP : isB k 4
  · rw [cif_t hP] at e1
    exact Rl_m (fun q ha hb => by rw [← e1]; exact up2_row (by have := k4 hP; omega)) h
  · rw [cif_f hP] at e1
    subst e1; exact h
theorem p_lose (h : Rl σ σ1 nd ns nr) (k : Int32) {r1 r2 : Int32} (h1 : (fun r9 σ9 τ9 => loseS (fun z9 => σ (12 + z9) 1) k = r9 ∧ cif (isB k 4) (up2 σ (12 + toN k) 1 0) σ = σ9 ∧ τ = τ9) r1 σ1 τ1) (h2 : (fun r9 σ9 τ9 => loseS (thM σ1) k = r9 ∧ cif (isB k 4) (up2 σ1 54 (toN k) (-1)) σ1 = σ9 ∧ τ1 = τ9) r2 σ2 τ2) : r1 = r2 ∧ ∃ nd ns nr, Rl σ2 σ2 nd ns nr := by
  (try dsimp only at h1 h2)
  obtain ⟨v1, e1, _⟩ := h1
  obtain ⟨v2, e2, _⟩ := h2
  have e := c_lose h k
  by_cases hP : isB k 4
  · rw [cif_t hP] at e1
    rw [cif_t hP] at e2
    have t := Rl_lose h (k4 hP)
    rw [e1, e2] at t
    refine ⟨by rw [← v1, ← v2, e], finU t (fun q hq => ?_)⟩
    rw [← e2]; exact up2_row (by omega)
  · rw [cif_f hP] at e1
    rw [cif_f hP] at e2
    subst e1; subst e2; exact ⟨by rw [← v1, ← v2, e], nd, ns, nr, h⟩
theorem o_reading (h : Rl σ σ nd ns nr) (a : Int32) (d : Int32) (bo : Int32) {r1 : Int32} (h1 : (fun r9 σ9 τ9 => readS (nI ns) (nI nd) nr a d = r9 ∧ cif (isB a (nI ns) ∧ isB d (nI nd) ∧ nr < 8) (up2 (up2 (up2 (up2 σ 10 nr a) 11 nr d) 34 nr bo) 3 3 (nI (nr + 1))) σ = σ9 ∧ τ = τ9) r1 σ1 τ1) (hz : bo = 0 ∨ bo = 1) : Rl σ σ1 nd ns nr := by
  (try dsimp only at h1)
  obtain ⟨_, e1, _⟩ := h1
  by_cases hP : isB a (nI ns) ∧ isB d (nI nd) ∧ nr < 8
  · rw [cif_t hP] at e1
    exact Rl_m (fun q ha hb => by rw [← e1]; rw [up2_row (by omega), up2_row (by omega), up2_row (by omega), up2_row (by omega)]) h
  · rw [cif_f hP] at e1
    subst e1; exact h
theorem p_reading (h : Rl σ σ1 nd ns nr) (a : Int32) (d : Int32) (bo : Int32) {r1 r2 : Int32} (h1 : (fun r9 σ9 τ9 => readS (nI ns) (nI nd) nr a d = r9 ∧ cif (isB a (nI ns) ∧ isB d (nI nd) ∧ nr < 8) (up2 (up2 (up2 (up2 σ 10 nr a) 11 nr d) 34 nr bo) 3 3 (nI (nr + 1))) σ = σ9 ∧ τ = τ9) r1 σ1 τ1) (h2 : (fun r9 σ9 τ9 => readS (nI ns) (nI nd) nr a d = r9 ∧ cif (isB a (nI ns) ∧ isB d (nI nd) ∧ nr < 8) (up2 (up2 (up2 (up2 σ1 51 nr a) 52 nr d) 53 nr bo) 38 21 (nI (nr + 1))) σ1 = σ9 ∧ τ1 = τ9) r2 σ2 τ2) (hz : bo = 0 ∨ bo = 1) : r1 = r2 ∧ ∃ nd ns nr, Rl σ2 σ2 nd ns nr := by
  (try dsimp only at h1 h2)
  obtain ⟨v1, e1, _⟩ := h1
  obtain ⟨v2, e2, _⟩ := h2
  have e := (rfl : readS (nI ns) (nI nd) nr a d = readS (nI ns) (nI nd) nr a d)
  by_cases hP : isB a (nI ns) ∧ isB d (nI nd) ∧ nr < 8
  · rw [cif_t hP] at e1
    rw [cif_t hP] at e2
    have t := Rl_read (bo := bo) h hP.1 hP.2.1 hP.2.2 hz
    rw [e1, e2] at t
    refine ⟨by rw [← v1, ← v2, e], finU t (fun q hq => ?_)⟩
    rw [← e2]; rw [up2_row (by omega), up2_row (by omega), up2_row (by omega), up2_row (by omega)]
  · rw [cif_f hP] at e1
    rw [cif_f hP] at e2
    subst e1; subst e2; exact ⟨by rw [← v1, ← v2, e], nd, ns, nr, h⟩
theorem o_back (h : Rl σ σ nd ns nr) (k : Int32) {r1 : Int32} (h1 : (fun r9 σ9 τ9 => backS (nI nr) k = r9 ∧ cif (¬ k < 0 ∧ k ≤ nI nr) (up2 σ 3 3 (nI nr - k)) σ = σ9 ∧ τ = τ9) r1 σ1 τ1) : Rl σ σ1 nd ns nr := by
  (try dsimp only at h1)
  obtain ⟨_, e1, _⟩ := h1
  by_cases hP : ¬ k < 0 ∧ k ≤ nI nr
  · rw [cif_t hP] at e1
    exact Rl_m (fun q ha hb => by rw [← e1]; exact up2_row (by omega)) h
  · rw [cif_f hP] at e1
    subst e1; exact h
theorem p_back (h : Rl σ σ1 nd ns nr) (k : Int32) {r1 r2 : Int32} (h1 : (fun r9 σ9 τ9 => backS (nI nr) k = r9 ∧ cif (¬ k < 0 ∧ k ≤ nI nr) (up2 σ 3 3 (nI nr - k)) σ = σ9 ∧ τ = τ9) r1 σ1 τ1) (h2 : (fun r9 σ9 τ9 => backS (nI nr) k = r9 ∧ cif (¬ k < 0 ∧ k ≤ nI nr) (up2 σ1 38 21 (nI nr - k)) σ1 = σ9 ∧ τ1 = τ9) r2 σ2 τ2) : r1 = r2 ∧ ∃ nd ns nr, Rl σ2 σ2 nd ns nr := by
  (try dsimp only at h1 h2)
  obtain ⟨v1, e1, _⟩ := h1
  obtain ⟨v2, e2, _⟩ := h2
  have e := (rfl : backS (nI nr) k = backS (nI nr) k)
  by_cases hP : ¬ k < 0 ∧ k ≤ nI nr
  · rw [cif_t hP] at e1
    obtain ⟨j, hj, hjk⟩ := nI_of hP.1
    have h8 := h.1.2.2.2.2.1.2
    have hjn : j ≤ nr := (nI_leI hj (by omega)).mp (by rw [← hjk]; exact hP.2)
    have ek : nI nr - k = nI (nr - j) := by rw [hjk]; exact pk_sub hjn
    rw [ek] at e1
    rw [cif_t hP] at e2
    rw [ek] at e2
    have t := Rl_back (n' := nr - j) h (by omega)
    rw [e1, e2] at t
    refine ⟨by rw [← v1, ← v2, e], finU t (fun q hq => ?_)⟩
    rw [← e2]; exact up2_row (by omega)
  · rw [cif_f hP] at e1
    rw [cif_f hP] at e2
    subst e1; subst e2; exact ⟨by rw [← v1, ← v2, e], nd, ns, nr, h⟩
theorem o_sheet (h : Rl σ σ nd ns nr) (k : Int32) (lane : Int32) (n : Int32) {r1 : Int32} (h1 : (fun r9 σ9 τ9 => (sheetS k lane n).1 = r9 ∧ cif (isB k 4 ∧ isB lane 3 ∧ n ≤ 60 ∧ 0 ≤ n) (zeroR (up2 (up2 (up2 (up2 σ 0 7 0) (12 + toN k) 1 1) (12 + toN k) 2 lane) (12 + toN k) 3 n) (16 + toN k) 60) (up2 σ 0 7 (sheetS k lane n).2) = σ9 ∧ τ = τ9) r1 σ1 τ1) : Rl σ σ1 nd ns nr := by
  (try dsimp only at h1)
  obtain ⟨_, e1, _⟩ := h1
  by_cases hP : isB k 4 ∧ isB lane 3 ∧ n ≤ 60 ∧ 0 ≤ n
  · rw [cif_t hP] at e1
    exact Rl_m (fun q ha hb => by rw [← e1]; have hk := k4 hP.1; (have z : ∀ y : vSg, zeroR y (16 + toN k) 60 q = y q := fun y => by funext b; unfold zeroR; exact if_neg (fun w => by have := w.1; omega)); rw [z, up2_row (by omega), up2_row (by omega), up2_row (by omega), up2_row (by omega)]) h
  · rw [cif_f hP] at e1
    exact Rl_m (fun q ha hb => by rw [← e1]; exact up2_row (by omega)) h
theorem p_sheet (h : Rl σ σ1 nd ns nr) (k : Int32) (lane : Int32) (n : Int32) {r1 r2 : Int32} (h1 : (fun r9 σ9 τ9 => (sheetS k lane n).1 = r9 ∧ cif (isB k 4 ∧ isB lane 3 ∧ n ≤ 60 ∧ 0 ≤ n) (zeroR (up2 (up2 (up2 (up2 σ 0 7 0) (12 + toN k) 1 1) (12 + toN k) 2 lane) (12 + toN k) 3 n) (16 + toN k) 60) (up2 σ 0 7 (sheetS k lane n).2) = σ9 ∧ τ = τ9) r1 σ1 τ1) (h2 : (fun r9 σ9 τ9 => (sheetS k lane n).1 = r9 ∧ cif (isB k 4 ∧ isB lane 3 ∧ n ≤ 60 ∧ 0 ≤ n) (up2 (zeroM (up2 (up2 σ1 54 (toN k) n) 55 (toN k) lane) (toN k) (toN n)) 38 0 0) (up2 σ1 38 0 (sheetS k lane n).2) = σ9 ∧ τ1 = τ9) r2 σ2 τ2) : r1 = r2 ∧ ∃ nd ns nr, Rl σ2 σ2 nd ns nr := by
  (try dsimp only at h1 h2)
  obtain ⟨v1, e1, _⟩ := h1
  obtain ⟨v2, e2, _⟩ := h2
  have e := (rfl : sheetS k lane n = sheetS k lane n)
  by_cases hP : isB k 4 ∧ isB lane 3 ∧ n ≤ 60 ∧ 0 ≤ n
  · rw [cif_t hP] at e1
    obtain ⟨j, hj, hjn⟩ := nI_of (Int32.not_lt.mpr hP.2.2.2)
    have hj60 : j ≤ 60 := (nI_leI hj (by decide)).mp (by rw [← hjn]; exact hP.2.2.1)
    have etn : toN n = j := by rw [hjn]; exact toN_nI hj
    rw [cif_t hP] at e2
    have t := Rl_sheet (lane := lane) h (k4 hP.1) hj60
    rw [← hjn] at t
    rw [← etn] at t
    rw [e1, e2] at t
    refine ⟨by rw [← v1, ← v2, e], finU t (fun q hq => ?_)⟩
    rw [← e2]; (have z : ∀ y : vSg, zeroM y (toN k) (toN n) q = y q := fun y => by funext b; unfold zeroM; exact if_neg (fun w => by have := w.1; omega)); rw [up2_row (by omega), z, up2_row (by omega), up2_row (by omega)]
  · rw [cif_f hP] at e1
    rw [cif_f hP] at e2
    exact ⟨by rw [← v1, ← v2, e], fin07 h (congrArg Prod.snd e) e1 e2⟩
theorem o_put (h : Rl σ σ nd ns nr) (k : Int32) (i : Int32) (v : Int32) {r1 : Int32} (h1 : (fun r9 σ9 τ9 => (putS (fun z9 => σ (12 + z9) 1) (fun z9 => σ (12 + z9) 3) k i).1 = r9 ∧ cif (isB k 4 ∧ ¬ σ (12 + toN k) 1 = 0 ∧ isB i (σ (12 + toN k) 3)) (up2 (up2 σ 0 7 0) (16 + toN k) (toN i) (cutS (σ (12 + toN k) 2) v)) (up2 σ 0 7 (putS (fun z9 => σ (12 + z9) 1) (fun z9 => σ (12 + z9) 3) k i).2) = σ9 ∧ τ = τ9) r1 σ1 τ1) : Rl σ σ1 nd ns nr := by
  (try dsimp only at h1)
  obtain ⟨_, e1, _⟩ := h1
  by_cases hP : isB k 4 ∧ ¬ σ (12 + toN k) 1 = 0 ∧ isB i (σ (12 + toN k) 3)
  · rw [cif_t hP] at e1
    exact Rl_m (fun q ha hb => by rw [← e1]; have hk := k4 hP.1; rw [up2_row (by omega), up2_row (by omega)]) h
  · rw [cif_f hP] at e1
    exact Rl_m (fun q ha hb => by rw [← e1]; exact up2_row (by omega)) h
theorem p_put (h : Rl σ σ1 nd ns nr) (k : Int32) (i : Int32) (v : Int32) {r1 r2 : Int32} (h1 : (fun r9 σ9 τ9 => (putS (fun z9 => σ (12 + z9) 1) (fun z9 => σ (12 + z9) 3) k i).1 = r9 ∧ cif (isB k 4 ∧ ¬ σ (12 + toN k) 1 = 0 ∧ isB i (σ (12 + toN k) 3)) (up2 (up2 σ 0 7 0) (16 + toN k) (toN i) (cutS (σ (12 + toN k) 2) v)) (up2 σ 0 7 (putS (fun z9 => σ (12 + z9) 1) (fun z9 => σ (12 + z9) 3) k i).2) = σ9 ∧ τ = τ9) r1 σ1 τ1) (h2 : (fun r9 σ9 τ9 => (putS (thM σ1) (σ1 54) k i).1 = r9 ∧ cif (isB k 4 ∧ ¬ thM σ1 (toN k) = 0 ∧ isB i (σ1 54 (toN k))) (up2 (up2 σ1 56 (60 * toN k + toN i) (cutS (σ1 55 (toN k)) v)) 38 0 0) (up2 σ1 38 0 (putS (thM σ1) (σ1 54) k i).2) = σ9 ∧ τ1 = τ9) r2 σ2 τ2) : r1 = r2 ∧ ∃ nd ns nr, Rl σ2 σ2 nd ns nr := by
  (try dsimp only at h1 h2)
  obtain ⟨v1, e1, _⟩ := h1
  obtain ⟨v2, e2, _⟩ := h2
  have e := c_put h k i
  by_cases hP : isB k 4 ∧ ¬ σ (12 + toN k) 1 = 0 ∧ isB i (σ (12 + toN k) 3)
  · rw [cif_t hP] at e1
    have hth : ¬ thM σ1 (toN k) = 0 := by rw [← r_th h (k4 hP.1)]; exact hP.2.1
    obtain ⟨L, hL, f1, _, f2, f3, _⟩ := r_L h (k4 hP.1) hth
    have hi : toN i < L := isB_t (by rw [← f3]; exact hP.2.2) (by omega)
    rw [cif_t (⟨hP.1, hth, by rw [f1, ← f3]; exact hP.2.2⟩ : isB k 4 ∧ ¬ thM σ1 (toN k) = 0 ∧ isB i (σ1 54 (toN k)))] at e2
    have t := Rl_put (v := cutS (σ (12 + toN k) 2) v) h (k4 hP.1) (show toN i < 60 by omega)
    rw [e1, f2, e2] at t
    refine ⟨by rw [← v1, ← v2, e], finU t (fun q hq => ?_)⟩
    rw [← e2]; rw [up2_row (by omega), up2_row (by omega)]
  · rw [cif_f hP] at e1
    rw [cif_f (fun hQ => hP ⟨hQ.1, by rw [r_th h (k4 hQ.1)]; exact hQ.2.1, by obtain ⟨L, _, f1, _, _, f3, _⟩ := r_L h (k4 hQ.1) hQ.2.1; rw [f3, ← f1]; exact hQ.2.2⟩)] at e2
    exact ⟨by rw [← v1, ← v2, e], fin07 h (congrArg Prod.snd e) e1 e2⟩
theorem o_copy (h : Rl σ σ nd ns nr) (k : Int32) (i : Int32) (o : Int32) (j : Int32) (n : Int32) {r1 : Int32} (h1 : (fun r9 σ9 τ9 => (copyS (fun z9 => σ (12 + z9) 1) (fun z9 => σ (12 + z9) 2) (fun z9 => σ (12 + z9) 3) k i o j n).1 = r9 ∧ cif (isB k 4 ∧ isB o 4 ∧ ¬ σ (12 + toN k) 1 = 0 ∧ ¬ σ (12 + toN o) 1 = 0 ∧ σ (12 + toN k) 2 = σ (12 + toN o) 2 ∧ spanS (σ (12 + toN k) 3) i n ∧ spanS (σ (12 + toN o) 3) j n) (upR (up2 σ 0 7 0) (16 + toN o) (va_cpy (σ (16 + toN k)) (σ (16 + toN o)) (toN i) (toN j) (toN n))) (up2 σ 0 7 (copyS (fun z9 => σ (12 + z9) 1) (fun z9 => σ (12 + z9) 2) (fun z9 => σ (12 + z9) 3) k i o j n).2) = σ9 ∧ τ = τ9) r1 σ1 τ1) : Rl σ σ1 nd ns nr := by
  (try dsimp only at h1)
  obtain ⟨_, e1, _⟩ := h1
  by_cases hP : isB k 4 ∧ isB o 4 ∧ ¬ σ (12 + toN k) 1 = 0 ∧ ¬ σ (12 + toN o) 1 = 0 ∧ σ (12 + toN k) 2 = σ (12 + toN o) 2 ∧ spanS (σ (12 + toN k) 3) i n ∧ spanS (σ (12 + toN o) 3) j n
  · rw [cif_t hP] at e1
    exact Rl_m (fun q ha hb => by rw [← e1]; have ho := k4 hP.2.1; (have z : ∀ (y : vSg) (f : Nat → Int32), upR y (16 + toN o) f q = y q := fun y f => by funext b; unfold upR; exact if_neg (by omega)); rw [z, up2_row (by omega)]) h
  · rw [cif_f hP] at e1
    exact Rl_m (fun q ha hb => by rw [← e1]; exact up2_row (by omega)) h
theorem p_copy (h : Rl σ σ1 nd ns nr) (k : Int32) (i : Int32) (o : Int32) (j : Int32) (n : Int32) {r1 r2 : Int32} (h1 : (fun r9 σ9 τ9 => (copyS (fun z9 => σ (12 + z9) 1) (fun z9 => σ (12 + z9) 2) (fun z9 => σ (12 + z9) 3) k i o j n).1 = r9 ∧ cif (isB k 4 ∧ isB o 4 ∧ ¬ σ (12 + toN k) 1 = 0 ∧ ¬ σ (12 + toN o) 1 = 0 ∧ σ (12 + toN k) 2 = σ (12 + toN o) 2 ∧ spanS (σ (12 + toN k) 3) i n ∧ spanS (σ (12 + toN o) 3) j n) (upR (up2 σ 0 7 0) (16 + toN o) (va_cpy (σ (16 + toN k)) (σ (16 + toN o)) (toN i) (toN j) (toN n))) (up2 σ 0 7 (copyS (fun z9 => σ (12 + z9) 1) (fun z9 => σ (12 + z9) 2) (fun z9 => σ (12 + z9) 3) k i o j n).2) = σ9 ∧ τ = τ9) r1 σ1 τ1) (h2 : (fun r9 σ9 τ9 => (copyS (thM σ1) (σ1 55) (σ1 54) k i o j n).1 = r9 ∧ cif (isB k 4 ∧ isB o 4 ∧ ¬ thM σ1 (toN k) = 0 ∧ ¬ thM σ1 (toN o) = 0 ∧ σ1 55 (toN k) = σ1 55 (toN o) ∧ spanS (σ1 54 (toN k)) i n ∧ spanS (σ1 54 (toN o)) j n) (up2 (layM (hndM σ1 (toN k) (toN i) (toN n)) (toN o) (toN j) (toN n)) 38 0 0) (up2 σ1 38 0 (copyS (thM σ1) (σ1 55) (σ1 54) k i o j n).2) = σ9 ∧ τ1 = τ9) r2 σ2 τ2) : r1 = r2 ∧ ∃ nd ns nr, Rl σ2 σ2 nd ns nr := by
  (try dsimp only at h1 h2)
  obtain ⟨v1, e1, _⟩ := h1
  obtain ⟨v2, e2, _⟩ := h2
  have e := c_copy h k i o j n
  by_cases hP : isB k 4 ∧ isB o 4 ∧ ¬ σ (12 + toN k) 1 = 0 ∧ ¬ σ (12 + toN o) 1 = 0 ∧ σ (12 + toN k) 2 = σ (12 + toN o) 2 ∧ spanS (σ (12 + toN k) 3) i n ∧ spanS (σ (12 + toN o) 3) j n
  · rw [cif_t hP] at e1
    obtain ⟨q1, q2, q3, q4, q5, q6, q7⟩ := hP
    have hth : ¬ thM σ1 (toN k) = 0 := by rw [← r_th h (k4 q1)]; exact q3
    have hth2 : ¬ thM σ1 (toN o) = 0 := by rw [← r_th h (k4 q2)]; exact q4
    obtain ⟨L, hL, f1, _, f2, f3, _⟩ := r_L h (k4 q1) hth
    obtain ⟨L2, hL2, g1, _, g2, g3, _⟩ := r_L h (k4 q2) hth2
    rw [f3] at q6
    rw [g3] at q7
    obtain ⟨ii, nn, ei, en, hsp⟩ := spanS_nat q6 (by omega)
    obtain ⟨jj, n2, ej, en2, hsp2⟩ := spanS_nat q7 (by omega)
    have hnn : nn = n2 := (nI_eq (by omega) (by omega)).mp (en.symm.trans en2)
    have ti : toN i = ii := by rw [ei]; exact toN_nI (by omega)
    have tj : toN j = jj := by rw [ej]; exact toN_nI (by omega)
    have tn : toN n = nn := by rw [en]; exact toN_nI (by omega)
    rw [cif_t (show isB k 4 ∧ isB o 4 ∧ ¬ thM σ1 (toN k) = 0 ∧ ¬ thM σ1 (toN o) = 0 ∧ σ1 55 (toN k) = σ1 55 (toN o) ∧ spanS (σ1 54 (toN k)) i n ∧ spanS (σ1 54 (toN o)) j n from ⟨q1, q2, hth, hth2, by rw [← f2, ← g2]; exact q5, by rw [f1]; exact q6, by rw [g1]; exact q7⟩)] at e2
    have t := Rl_copy (i := toN i) (j := toN j) (n := toN n) h (k4 q1) (k4 q2) hL hL2 (by omega) (by omega) f1 g1
    rw [e1, e2] at t
    refine ⟨by rw [← v1, ← v2, e], finU t (fun q hq => ?_)⟩
    rw [← e2]; (have z : ∀ y : vSg, layM y (toN o) (toN j) (toN n) q = y q := fun y => by funext b; unfold layM; exact if_neg (fun w => by have := w.1; omega)); (have z2 : ∀ y : vSg, hndM y (toN k) (toN i) (toN n) q = y q := fun y => by funext b; unfold hndM; exact if_neg (fun w => by have := w.1; omega)); rw [up2_row (by omega), z, z2]
  · rw [cif_f hP] at e1
    rw [cif_f (fun hQ => hP (by obtain ⟨q1, q2, q3, q4, q5, q6, q7⟩ := hQ; obtain ⟨L, _, f1, _, f2, f3, _⟩ := r_L h (k4 q1) q3; obtain ⟨L2, _, g1, _, g2, g3, _⟩ := r_L h (k4 q2) q4; rw [f1] at q6; rw [g1] at q7; rw [r_th h (k4 q1), r_th h (k4 q2), f2, g2, f3, g3]; exact ⟨q1, q2, q3, q4, q5, q6, q7⟩))] at e2
    exact ⟨by rw [← v1, ← v2, e], fin07 h (congrArg Prod.snd e) e1 e2⟩
theorem o_year (h : Rl σ σ nd ns nr) (k : Int32) (lane : Int32) (i : Int32) (n : Int32) (what : Int32) {r1 : Int32} (h1 : (fun r9 σ9 τ9 => (yearS (fun z9 => σ (12 + z9) 1) (fun z9 => σ (12 + z9) 2) (fun z9 => σ (12 + z9) 3) (fun z9 => σ (16 + z9)) (σ 9) (uvX σ) (pvX σ) ns nd k lane i n what).1 = r9 ∧ (∀ q, q ≠ 5 → q ≠ 37 → σ9 q = up2 σ 0 7 (yearS (fun z9 => σ (12 + z9) 1) (fun z9 => σ (12 + z9) 2) (fun z9 => σ (12 + z9) 3) (fun z9 => σ (16 + z9)) (σ 9) (uvX σ) (pvX σ) ns nd k lane i n what).2 q) ∧ τ = τ9) r1 σ1 τ1) : Rl σ σ1 nd ns nr := by
  (try dsimp only at h1)
  obtain ⟨_, e1, _⟩ := h1
  exact Rl_m (fun q ha hb => by rw [e1 q (by omega) (by omega)]; exact up2_row (by omega)) h
theorem p_year (h : Rl σ σ1 nd ns nr) (k : Int32) (lane : Int32) (i : Int32) (n : Int32) (what : Int32) {r1 r2 : Int32} (h1 : (fun r9 σ9 τ9 => (yearS (fun z9 => σ (12 + z9) 1) (fun z9 => σ (12 + z9) 2) (fun z9 => σ (12 + z9) 3) (fun z9 => σ (16 + z9)) (σ 9) (uvX σ) (pvX σ) ns nd k lane i n what).1 = r9 ∧ (∀ q, q ≠ 5 → q ≠ 37 → σ9 q = up2 σ 0 7 (yearS (fun z9 => σ (12 + z9) 1) (fun z9 => σ (12 + z9) 2) (fun z9 => σ (12 + z9) 3) (fun z9 => σ (16 + z9)) (σ 9) (uvX σ) (pvX σ) ns nd k lane i n what).2 q) ∧ τ = τ9) r1 σ1 τ1) (h2 : (fun r9 σ9 τ9 => (yearS (thM σ1) (σ1 55) (σ1 54) (fun z9 y9 => σ1 56 (60 * z9 + y9)) (σ1 43) (uvM σ1) (pvM σ1) ns nd k lane i n what).1 = r9 ∧ (∀ q, q ≠ 38 → q ≠ 49 → σ9 q = σ1 q) ∧ (∀ j, j ≠ 0 → j ≠ 16 → j ≠ 17 → j ≠ 18 → σ9 38 j = σ1 38 j) ∧ σ9 38 0 = (yearS (thM σ1) (σ1 55) (σ1 54) (fun z9 y9 => σ1 56 (60 * z9 + y9)) (σ1 43) (uvM σ1) (pvM σ1) ns nd k lane i n what).2 ∧ τ1 = τ9) r2 σ2 τ2) : r1 = r2 ∧ ∃ nd ns nr, Rl σ2 σ2 nd ns nr := by
  (try dsimp only at h1 h2)
  obtain ⟨v1, e1, _⟩ := h1
  obtain ⟨v2, e2, e3, e4, _⟩ := h2
  have e := c_year h k lane i n what
  refine ⟨by rw [← v1, ← v2, e], nd, ns, nr, ?_⟩
  have t := Rl_07 (v := (yearS (thM σ1) (σ1 55) (σ1 54) (fun z9 y9 => σ1 56 (60 * z9 + y9)) (σ1 43) (uvM σ1) (pvM σ1) ns nd k lane i n what).2) h
  rw [e] at e1
  refine Rl_x2 (fun q hq => ?_) ?_ ?_ (Rl_m2 (fun q hq => ?_) (fun j hj => ?_) t)
  · rw [e2 q (by omega) (by omega), e1 q (by omega) (by omega)]
  · rw [e2 0 (by omega) (by omega), e1 0 (by omega) (by omega)]
  · rw [e2 0 (by omega) (by omega), e1 0 (by omega) (by omega)]
  · rw [e2 q (by omega) (by omega), up2_row (by omega)]
  · by_cases h0 : j = 0
    · rw [h0, e4, up2_self]
    · rw [e3 j (by omega) (by omega) (by omega) (by omega), up2_ne (by omega)]
theorem o_kingdom (h : Rl σ σ nd ns nr) (k : Int32) (lane : Int32) (i : Int32) (n : Int32) {r1 : Int32} (h1 : (fun r9 σ9 τ9 => (kinS (fun z9 => σ (12 + z9) 1) (fun z9 => σ (12 + z9) 2) (fun z9 => σ (12 + z9) 3) (fun z9 y9 x9 => cdS (σ (16 + z9)) y9 x9) k lane i n).1 = r9 ∧ σ9 0 7 = (kinS (fun z9 => σ (12 + z9) 1) (fun z9 => σ (12 + z9) 2) (fun z9 => σ (12 + z9) 3) (fun z9 y9 x9 => cdS (σ (16 + z9)) y9 x9) k lane i n).2 ∧ σ9 0 6 = σ 0 6 ∧ (∀ q, q ≠ 0 → q ≠ 2 → q ≠ 3 → q ≠ 8 → q ≠ 9 → q < 20 ∨ 25 ≤ q → q ≠ 58 → σ9 q = σ q) ∧ (¬ tkP (fun z9 => σ (12 + z9) 1) (fun z9 => σ (12 + z9) 2) (fun z9 => σ (12 + z9) 3) (fun z9 y9 x9 => cdS (σ (16 + z9)) y9 x9) k lane i n → ∀ q, q ≠ 0 → q ≠ 58 → σ9 q = σ q) ∧ (tkP (fun z9 => σ (12 + z9) 1) (fun z9 => σ (12 + z9) 2) (fun z9 => σ (12 + z9) 3) (fun z9 y9 x9 => cdS (σ (16 + z9)) y9 x9) k lane i n → nkX (cdS (σ (16 + toN k)) (toN i) (toN n)) (pText ((fun z9 y9 x9 => cdS (σ (16 + z9)) y9 x9) (toN k) (toN i) (toN n)) (toN n)).2.1 (pText ((fun z9 y9 x9 => cdS (σ (16 + z9)) y9 x9) (toN k) (toN i) (toN n)) (toN n)).2.2 σ9) ∧ τ = τ9) r1 σ1 τ1) : Rl σ σ1 nd ns nr := by
  (try dsimp only at h1)
  obtain ⟨_, _, _, e1, _⟩ := h1
  exact Rl_m (fun q ha hb => e1 q (by omega) (by omega) (by omega) (by omega) (by omega) (by omega) (by omega)) h
theorem p_kingdom (h : Rl σ σ1 nd ns nr) (k : Int32) (lane : Int32) (i : Int32) (n : Int32) {r1 r2 : Int32} (h1 : (fun r9 σ9 τ9 => (kinS (fun z9 => σ (12 + z9) 1) (fun z9 => σ (12 + z9) 2) (fun z9 => σ (12 + z9) 3) (fun z9 y9 x9 => cdS (σ (16 + z9)) y9 x9) k lane i n).1 = r9 ∧ σ9 0 7 = (kinS (fun z9 => σ (12 + z9) 1) (fun z9 => σ (12 + z9) 2) (fun z9 => σ (12 + z9) 3) (fun z9 y9 x9 => cdS (σ (16 + z9)) y9 x9) k lane i n).2 ∧ σ9 0 6 = σ 0 6 ∧ (∀ q, q ≠ 0 → q ≠ 2 → q ≠ 3 → q ≠ 8 → q ≠ 9 → q < 20 ∨ 25 ≤ q → q ≠ 58 → σ9 q = σ q) ∧ (¬ tkP (fun z9 => σ (12 + z9) 1) (fun z9 => σ (12 + z9) 2) (fun z9 => σ (12 + z9) 3) (fun z9 y9 x9 => cdS (σ (16 + z9)) y9 x9) k lane i n → ∀ q, q ≠ 0 → q ≠ 58 → σ9 q = σ q) ∧ (tkP (fun z9 => σ (12 + z9) 1) (fun z9 => σ (12 + z9) 2) (fun z9 => σ (12 + z9) 3) (fun z9 y9 x9 => cdS (σ (16 + z9)) y9 x9) k lane i n → nkX (cdS (σ (16 + toN k)) (toN i) (toN n)) (pText ((fun z9 y9 x9 => cdS (σ (16 + z9)) y9 x9) (toN k) (toN i) (toN n)) (toN n)).2.1 (pText ((fun z9 y9 x9 => cdS (σ (16 + z9)) y9 x9) (toN k) (toN i) (toN n)) (toN n)).2.2 σ9) ∧ τ = τ9) r1 σ1 τ1) (h2 : (fun r9 σ9 τ9 => (kinS (thM σ1) (σ1 55) (σ1 54) (fun z9 y9 x9 => cdS (σ1 56) (60 * z9 + y9) x9) k lane i n).1 = r9 ∧ σ9 38 0 = (kinS (thM σ1) (σ1 55) (σ1 54) (fun z9 y9 x9 => cdS (σ1 56) (60 * z9 + y9) x9) k lane i n).2 ∧ (∀ q, q ≠ 38 → q < 39 ∨ 48 < q → σ9 q = σ1 q) ∧ σ9 38 29 = σ1 38 29 ∧ (¬ tkP (thM σ1) (σ1 55) (σ1 54) (fun z9 y9 x9 => cdS (σ1 56) (60 * z9 + y9) x9) k lane i n → (∀ q, 39 ≤ q → q ≤ 43 → σ9 q = σ1 q) ∧ σ9 38 1 = σ1 38 1 ∧ σ9 38 5 = σ1 38 5 ∧ σ9 38 21 = σ1 38 21) ∧ (tkP (thM σ1) (σ1 55) (σ1 54) (fun z9 y9 x9 => cdS (σ1 56) (60 * z9 + y9) x9) k lane i n → nkM (cdS (σ1 56) (60 * toN k + toN i) (toN n)) (pText ((fun z9 y9 x9 => cdS (σ1 56) (60 * z9 + y9) x9) (toN k) (toN i) (toN n)) (toN n)).2.1 (pText ((fun z9 y9 x9 => cdS (σ1 56) (60 * z9 + y9) x9) (toN k) (toN i) (toN n)) (toN n)).2.2 σ9) ∧ τ1 = τ9) r2 σ2 τ2) : r1 = r2 ∧ ∃ nd ns nr, Rl σ2 σ2 nd ns nr := by
  (try dsimp only at h1 h2)
  obtain ⟨v1, a07, a06, aR, aN, aT, _⟩ := h1
  obtain ⟨v2, b0, bR, b29, bN, bT, _⟩ := h2
  have e := c_kin h k lane i n
  have et := c_tk h k lane i n
  rw [e] at v1 a07
  refine ⟨by rw [← v1, ← v2], ?_⟩
  by_cases hT : tkP (thM σ1) (σ1 55) (σ1 54) (fun z9 y9 x9 => cdS (σ1 56) (60 * z9 + y9) x9) k lane i n
  · have hx := aT (et.mpr hT)
    have hm := bT hT
    have hcd := r_cd h (k4 hT.1) hT.2.2.1
    have hA := pText_all hT.2.2.2
    (try dsimp only at hx hm hA)
    rw [hcd] at hx
    have t := Rl_king h hx hm hA.2.2.1 hA.2.2.2 (fun q ha hb => aR q (by omega) (by omega) (by omega) (by omega) (by omega) (by omega) (by omega)) (fun q ha hb => bR q (by omega) (by omega)) (by rw [a06, b29]; exact h.2.2.2.2.2.2.1) (by rw [a07, b0])
    exact finU t (fun q hq => bR q (by omega) (by omega))
  · have hx := aN (fun z => hT (et.mp z))
    obtain ⟨n1, n2, n3, n4⟩ := bN hT
    have t := Rl_07 (v := (kinS (thM σ1) (σ1 55) (σ1 54) (fun z9 y9 x9 => cdS (σ1 56) (60 * z9 + y9) x9) k lane i n).2) h
    refine ⟨nd, ns, nr, Rl_x2 (fun q hq => ?_) ?_ ?_ (Rl_m2 (fun q hq => ?_) (fun j hj => ?_) t)⟩
    · rw [bR q (by omega) (by omega), hx q (by omega) (by omega), up2_row (by omega)]
    · rw [bR 0 (by omega) (by omega), a06, up2_ne (by omega)]
    · rw [bR 0 (by omega) (by omega), a07, up2_self]
    · rw [up2_row (by omega)]
      by_cases hq9 : q ≤ 43
      · exact n1 q (by omega) (by omega)
      · exact bR q (by omega) (by omega)
    · rcases hj with rfl | rfl | rfl | rfl | rfl
      · rw [b0, up2_self]
      · rw [n2, up2_ne (by omega)]
      · rw [n3, up2_ne (by omega)]
      · rw [n4, up2_ne (by omega)]
      · rw [b29, up2_ne (by omega)]
end OPS
