/-! sheets -/
theorem Rl_sh {x m x' m' : vSg} {nd ns nr : Nat} (h : Rl x m nd ns nr) (hx : ∀ q, q < 38 → q ≠ 0 → (q < 12 ∨ 20 ≤ q) → x' q = x q) (hm : ∀ q, 38 < q → q < 54 → m' q = m q) (hm38 : ∀ j, j ≠ 0 → m' 38 j = m 38 j) (h06 : x' 0 6 = x 0 6) (h07 : x' 0 7 = m' 38 0) (hrow : ∀ k, k < 4 → isB (x' (12 + k) 3) 61) (hS : ∀ k, k < 4 → ShR x' m' k) : Rl x' m' nd ns nr := by
  obtain ⟨hX, hM, h1, h2, h3, h4, h5, h6⟩ := h
  have e5 := hX.1.2
  refine ⟨?_, ?_, fun d hd => ?_, fun a ha => ?_, fun r hr => ?_, hS, ?_, h07⟩
  · obtain ⟨g1, g2, g3, g4, g5, g6, g7, g8⟩ := hX
    refine ⟨?_, ?_, fun d hd i hi => ?_, fun a ha => ?_, ?_, fun r hr => ?_, fun k hk => ⟨?_, hrow k hk⟩, g8⟩
    · rw [hx 2 (by omega) (by omega) (by omega)]; exact g1
    · rw [hx 2 (by omega) (by omega) (by omega)]; exact g2
    · rw [hx (20 + d) (by omega) (by omega) (by omega)]; exact g3 d hd i hi
    · rw [hx 8 (by omega) (by omega) (by omega), hx 9 (by omega) (by omega) (by omega)]; exact g4 a ha
    · rw [hx 3 (by omega) (by omega) (by omega)]; exact g5
    · rw [hx 10 (by omega) (by omega) (by omega), hx 11 (by omega) (by omega) (by omega), hx 34 (by omega) (by omega) (by omega)]; exact g6 r hr
    · rcases hS k hk with ⟨_, e⟩ | ⟨_, _, _, e, _⟩
      · exact Or.inl e
      · exact Or.inr e
  · obtain ⟨g1, g2, g3, g4, g5, g6, g7, g8⟩ := hM
    refine ⟨?_, ?_, fun d hd => ?_, fun a ha => ?_, ?_, fun r hr => ?_, fun k hk => ?_, g8⟩
    · rw [hm38 1 (by omega)]; exact g1
    · rw [hm38 5 (by omega)]; exact g2
    · rw [hm 39 (by omega) (by omega), hm 40 (by omega) (by omega), hm 41 (by omega) (by omega)]; exact g3 d hd
    · rw [hm 42 (by omega) (by omega), hm 43 (by omega) (by omega)]; exact g4 a ha
    · rw [hm38 21 (by omega)]; exact g5
    · rw [hm 51 (by omega) (by omega), hm 52 (by omega) (by omega), hm 53 (by omega) (by omega)]; exact g6 r hr
    · rcases hS k hk with ⟨e, _⟩ | ⟨L, hL, e, _⟩
      · exact Or.inl e
      · exact Or.inr (by rw [e]; exact isB_nI (b := 61) (by omega) (by decide))
  · rw [hx (20 + d) (by omega) (by omega) (by omega), hm 39 (by omega) (by omega), hm 40 (by omega) (by omega), hm 41 (by omega) (by omega)]; exact h1 d hd
  · rw [hx 8 (by omega) (by omega) (by omega), hx 9 (by omega) (by omega) (by omega), hm 42 (by omega) (by omega), hm 43 (by omega) (by omega)]; exact h2 a ha
  · rw [hx 10 (by omega) (by omega) (by omega), hx 11 (by omega) (by omega) (by omega), hx 34 (by omega) (by omega) (by omega), hm 51 (by omega) (by omega), hm 52 (by omega) (by omega), hm 53 (by omega) (by omega)]; exact h3 r (by omega)
  · rw [h06, hm38 29 (by omega)]; exact h5
section CSH
variable {x m : vSg} {nd ns nr : Nat}
theorem th_no {m : vSg} {k : Nat} (h : m 54 k = -1) : thM m k = 0 := b2i_f (by rw [h]; decide)
theorem th_yes {m : vSg} {k L : Nat} (h : m 54 k = nI L) (hL : L ≤ 60) : thM m k = 1 := b2i_t (by rw [h]; exact nI_pos' (by omega))
theorem r_th (h : Rl x m nd ns nr) {k : Nat} (hk : k < 4) : x (12 + k) 1 = thM m k := by
  rcases h.2.2.2.2.2.1 k hk with ⟨e1, e2⟩ | ⟨L, hL, e1, e2, _⟩
  · rw [e2, th_no e1]
  · rw [e2, th_yes e1 hL]
theorem r_L (h : Rl x m nd ns nr) {k : Nat} (hk : k < 4) (hth : ¬ thM m k = 0) : ∃ L, L ≤ 60 ∧ m 54 k = nI L ∧ x (12 + k) 1 = 1 ∧ x (12 + k) 2 = m 55 k ∧ x (12 + k) 3 = nI L ∧ ∀ j, j < L → x (16 + k) j = m 56 (60 * k + j) := by
  rcases h.2.2.2.2.2.1 k hk with ⟨e1, e2⟩ | hh
  · exact absurd (th_no e1) hth
  · exact hh
theorem r_fas (h : Rl x m nd ns nr) {k : Nat} (hk : k < 4) (lane : Int32) : fAsS (x (12 + k) 1) (x (12 + k) 2) lane = fAsS (thM m k) (m 55 k) lane := by
  rw [r_th h hk]
  exact cif_c (fun _ => rfl) (fun h0 => by obtain ⟨L, _, _, _, e, _⟩ := r_L h hk h0; rw [e])
theorem fas_th {th la lane : Int32} (h : fAsS th la lane = 0) : ¬ th = 0 := fun q => by
  rw [show fAsS th la lane = 1 from cif_t q] at h
  exact absurd h (by decide)
theorem k4 {k : Int32} (h : isB k 4) : toN k < 4 := isB_t (b := 4) h (by decide)
theorem c_lose (h : Rl x m nd ns nr) (k : Int32) : loseS (fun z9 => x (12 + z9) 1) k = loseS (thM m) k :=
  cif_c (fun h1 => by
    show cif (x (12 + toN k) 1 = 0) 0 1 = cif (thM m (toN k) = 0) 0 1
    rw [r_th h (k4 h1)]) (fun _ => rfl)
theorem c_put (h : Rl x m nd ns nr) (k i : Int32) : putS (fun z9 => x (12 + z9) 1) (fun z9 => x (12 + z9) 3) k i = putS (thM m) (m 54) k i :=
  cif_c (fun h1 => by
    show cif (x (12 + toN k) 1 = 0) (-11, 1) (cif (isB i (x (12 + toN k) 3)) (1, 0) (-13, 3)) = cif (thM m (toN k) = 0) (-11, 1) (cif (isB i (m 54 (toN k))) (1, 0) (-13, 3))
    rw [r_th h (k4 h1)]
    refine cif_c (fun _ => rfl) (fun h0 => ?_)
    obtain ⟨L, _, e1, _, _, e3, _⟩ := r_L h (k4 h1) h0
    rw [e1, e3]) (fun _ => rfl)
theorem c_cell (h : Rl x m nd ns nr) (k i lane : Int32) : cellS (fun z9 => x (12 + z9) 1) (fun z9 => x (12 + z9) 2) (fun z9 => x (12 + z9) 3) (fun z9 => x (16 + z9)) k i lane = cellS (thM m) (m 55) (m 54) (fun z9 y9 => m 56 (60 * z9 + y9)) k i lane :=
  cif_c (fun h1 => cif_c (fun _ => by
    show cif (fAsS (x (12 + toN k) 1) (x (12 + toN k) 2) lane = 0) (cif (isB i (x (12 + toN k) 3)) ((x (16 + toN k) (toN i)).toInt64, 0) (LOST9, 3)) (LOST9, fAsS (x (12 + toN k) 1) (x (12 + toN k) 2) lane) = cif (fAsS (thM m (toN k)) (m 55 (toN k)) lane = 0) (cif (isB i (m 54 (toN k))) ((m 56 (60 * toN k + toN i)).toInt64, 0) (LOST9, 3)) (LOST9, fAsS (thM m (toN k)) (m 55 (toN k)) lane)
    rw [r_fas h (k4 h1)]
    refine cif_c (fun hf => ?_) (fun _ => rfl)
    obtain ⟨L, hL, e1, _, _, e3, e4⟩ := r_L h (k4 h1) (fas_th hf)
    rw [e1, e3]
    exact cif_c (fun hi => by rw [e4 _ (isB_t hi (by omega))]) (fun _ => rfl)) (fun _ => rfl)) (fun _ => rfl)
theorem c_copy (h : Rl x m nd ns nr) (k i o j n : Int32) : copyS (fun z9 => x (12 + z9) 1) (fun z9 => x (12 + z9) 2) (fun z9 => x (12 + z9) 3) k i o j n = copyS (thM m) (m 55) (m 54) k i o j n :=
  cif_c (fun h1 => cif_c (fun h2 => by
    show cif (x (12 + toN k) 1 = 0) (-11, 1) (cif (x (12 + toN o) 1 = 0) (-11, 1) (cif (x (12 + toN k) 2 = x (12 + toN o) 2) (cif (spanS (x (12 + toN k) 3) i n) (cif (spanS (x (12 + toN o) 3) j n) (n, 0) (-13, 3)) (-13, 3)) (-12, 2))) = cif (thM m (toN k) = 0) (-11, 1) (cif (thM m (toN o) = 0) (-11, 1) (cif (m 55 (toN k) = m 55 (toN o)) (cif (spanS (m 54 (toN k)) i n) (cif (spanS (m 54 (toN o)) j n) (n, 0) (-13, 3)) (-13, 3)) (-12, 2)))
    rw [r_th h (k4 h1), r_th h (k4 h2)]
    refine cif_c (fun _ => rfl) (fun h0 => cif_c (fun _ => rfl) (fun h3 => ?_))
    obtain ⟨L, _, e1, _, e2, e3, _⟩ := r_L h (k4 h1) h0
    obtain ⟨L2, _, f1, _, f2, f3, _⟩ := r_L h (k4 h2) h3
    rw [e1, e2, e3, f1, f2, f3]) (fun _ => rfl)) (fun _ => rfl)
theorem r_cb (h : Rl x m nd ns nr) {k : Nat} (hk : k < 4) (lane i n : Int32) : cbF (x (12 + k) 1) (x (12 + k) 2) (x (12 + k) 3) lane i n = cbF (thM m k) (m 55 k) (m 54 k) lane i n := by
  unfold cbF
  rw [r_fas h hk]
  refine cif_c (fun hf => ?_) (fun _ => rfl)
  obtain ⟨L, _, e1, _, _, e3, _⟩ := r_L h hk (fas_th hf)
  rw [e1, e3]
theorem r_cd (h : Rl x m nd ns nr) {k : Nat} (hk : k < 4) {lane i n : Int32} (h0 : cbF (thM m k) (m 55 k) (m 54 k) lane i n = 0) : cdS (x (16 + k)) (toN i) (toN n) = cdS (m 56) (60 * k + toN i) (toN n) := by
  rcases cbF_c (th := thM m k) (la := m 55 k) (le := m 54 k) (lane := lane) (i := i) (n := n) with ⟨f9, g9, s9, e9⟩ | ⟨f9, g9, s9, e9⟩ | ⟨f9, g9, e9⟩ | ⟨f9, e9⟩ | ⟨f9, e9⟩
  · obtain ⟨L, hL, e1, _, _, e3, e4⟩ := r_L h hk (fas_th f9)
    rw [e1] at s9
    obtain ⟨a, b, rfl, rfl, hab⟩ := spanS_nat s9 (by omega)
    rw [toN_nI (by omega), toN_nI (by omega)]
    funext q
    unfold cdS
    by_cases hq : q < b
    · rw [if_pos hq, if_pos hq, e4 _ (by omega), Nat.add_assoc]
    · rw [if_neg hq, if_neg hq]
  all_goals (rw [e9] at h0; exact absurd h0 (by decide))
theorem c_kin (h : Rl x m nd ns nr) (k lane i n : Int32) : kinS (fun z9 => x (12 + z9) 1) (fun z9 => x (12 + z9) 2) (fun z9 => x (12 + z9) 3) (fun z9 y9 x9 => cdS (x (16 + z9)) y9 x9) k lane i n = kinS (thM m) (m 55) (m 54) (fun z9 y9 x9 => cdS (m 56) (60 * z9 + y9) x9) k lane i n :=
  cif_c (fun h1 => cif_c (fun _ => by
    (try dsimp only)
    rw [r_cb h (k4 h1)]
    refine cif_c (fun h0 => ?_) (fun _ => rfl)
    rw [r_cd h (k4 h1) h0]) (fun _ => rfl)) (fun _ => rfl)
theorem c_tk (h : Rl x m nd ns nr) (k lane i n : Int32) : tkP (fun z9 => x (12 + z9) 1) (fun z9 => x (12 + z9) 2) (fun z9 => x (12 + z9) 3) (fun z9 y9 x9 => cdS (x (16 + z9)) y9 x9) k lane i n ↔ tkP (thM m) (m 55) (m 54) (fun z9 y9 x9 => cdS (m 56) (60 * z9 + y9) x9) k lane i n := by
  unfold tkP
  (try dsimp only)
  constructor
  · intro ⟨h1, h2, h3, h4⟩
    rw [r_cb h (k4 h1)] at h3
    rw [r_cd h (k4 h1) h3] at h4
    exact ⟨h1, h2, h3, h4⟩
  · intro ⟨h1, h2, h3, h4⟩
    rw [← r_cd h (k4 h1) h3] at h4
    rw [← r_cb h (k4 h1)] at h3
    exact ⟨h1, h2, h3, h4⟩
end CSH
/-! years -/
theorem yLf_c {pa pa2 ta ta2 tc tc2 : Nat → Nat} {a : Nat} (hp : pa a = pa2 a) : ∀ t, (∀ q, q < t → ta q = ta2 q ∧ tc q = tc2 q) → yLf pa ta tc t a = yLf pa2 ta2 tc2 t a
  | 0, _ => hp
  | t + 1, h => by
    simp only [yLf]
    rw [yLf_c hp t (fun q hq => h q (by omega)), (h t (by omega)).1, (h t (by omega)).2]
theorem yPd_c {tc tc2 : Nat → Nat} : ∀ t, (∀ q, q < t → tc q = tc2 q) → yPd tc t = yPd tc2 t
  | 0, _ => rfl
  | t + 1, h => by
    simp only [yPd]
    rw [yPd_c t (fun q hq => h q (by omega)), h t (by omega)]
theorem ySum_c {ta ta2 td td2 tc tc2 : Nat → Nat} {uv uv2 : Nat → Nat → Int32} {pv pv2 : Nat → Int32} : ∀ t, (∀ q, q < t → ta q = ta2 q ∧ td q = td2 q ∧ tc q = tc2 q ∧ uv (ta q) (td q) = uv2 (ta q) (td q) ∧ pv (td q) = pv2 (td q)) → ySum ta td tc uv pv t = ySum ta2 td2 tc2 uv2 pv2 t
  | 0, _ => rfl
  | t + 1, h => by
    obtain ⟨h1, h2, h3, h4, h5⟩ := h t (by omega)
    simp only [ySum]
    rw [ySum_c t (fun q hq => h q (by omega)), h4, h5, h1, h2, h3]
theorem yFw_c {pa pa2 ta ta2 td td2 tc tc2 : Nat → Nat} {uv uv2 : Nat → Nat → Int32} : ∀ t, (∀ q, q < t → ta q = ta2 q ∧ td q = td2 q ∧ tc q = tc2 q ∧ uv (ta q) (td q) = uv2 (ta q) (td q) ∧ pa (ta q) = pa2 (ta q)) → yFw pa ta td tc uv t = yFw pa2 ta2 td2 tc2 uv2 t
  | 0, _ => rfl
  | t + 1, h => by
    obtain ⟨h1, h2, h3, h4, h5⟩ := h t (by omega)
    have hB : yBad pa ta td tc uv t = yBad pa2 ta2 td2 tc2 uv2 t := by
      unfold yBad
      rw [yLf_c h5 t (fun q hq => ⟨(h q (by omega)).1, (h q (by omega)).2.2.1⟩), h4, h1, h2, h3]
    simp only [yFw]
    rw [yFw_c t (fun q hq => h q (by omega)), hB]
theorem yr_c {ce ce2 pa pa2 : Nat → Int32} {uv uv2 : Nat → Nat → Int32} {pv pv2 : Nat → Int32} {ns nd ii nn : Nat} {what : Int32} (hs : ns < 2 ^ 31) (hn : nd < 2 ^ 31) (ht : tripP ce (nI ns) (nI nd) ii nn) (hce : ∀ j, j < 3 * nn → ce (ii + j) = ce2 (ii + j)) (hpa : ∀ a, a < ns → pa a = pa2 a) (huv : ∀ a, a < ns → ∀ d, d < nd → uv a d = uv2 a d) (hpv : ∀ d, d < nd → pv d = pv2 d) : yrS ce pa uv pv ns ii nn what = yrS ce2 pa2 uv2 pv2 ns ii nn what := by
  have e0 : ∀ t, t < nn → ce (ii + 3 * t) = ce2 (ii + 3 * t) := fun t h => hce (3 * t) (by omega)
  have e1 : ∀ t, t < nn → ce (ii + 3 * t + 1) = ce2 (ii + 3 * t + 1) := fun t h => hce (3 * t + 1) (by omega)
  have e2 : ∀ t, t < nn → ce (ii + 3 * t + 2) = ce2 (ii + 3 * t + 2) := fun t h => hce (3 * t + 2) (by omega)
  have la : ∀ t, t < nn → toN (ce (ii + 3 * t)) < ns := fun t h => isB_t (ht t h).1 hs
  have ld : ∀ t, t < nn → toN (ce (ii + 3 * t + 1)) < nd := fun t h => isB_t (ht t h).2.1 hn
  unfold yrS
  rw [yFw_c (pa2 := fun z => toN (pa2 z)) (ta2 := fun t => toN (ce2 (ii + 3 * t))) (td2 := fun t => toN (ce2 (ii + 3 * t + 1))) (tc2 := fun t => toN (ce2 (ii + 3 * t + 2))) (uv2 := uv2) nn (fun q hq => ⟨congrArg toN (e0 q hq), congrArg toN (e1 q hq), congrArg toN (e2 q hq), huv _ (la q hq) _ (ld q hq), congrArg toN (hpa _ (la q hq))⟩)]
  refine ofYS_c hs (fun _ => ⟨?_, ?_, fun a ha => ?_⟩)
  · exact ySum_c nn (fun q hq => ⟨congrArg toN (e0 q hq), congrArg toN (e1 q hq), congrArg toN (e2 q hq), huv _ (la q hq) _ (ld q hq), hpv _ (ld q hq)⟩)
  · rw [yPd_c (tc2 := fun t => toN (ce2 (ii + 3 * t + 2))) nn (fun q hq => congrArg toN (e2 q hq))]
  · show nI (yLf _ _ _ nn a) = nI (yLf _ _ _ nn a)
    rw [yLf_c (pa2 := fun z => toN (pa2 z)) (ta2 := fun t => toN (ce2 (ii + 3 * t))) (tc2 := fun t => toN (ce2 (ii + 3 * t + 2))) (congrArg toN (hpa a ha)) nn (fun q hq => ⟨congrArg toN (e0 q hq), congrArg toN (e2 q hq)⟩)]
theorem trip_c {ce ce2 : Nat → Int32} {ns nd : Int32} {ii nn : Nat} (hce : ∀ j, j < 3 * nn → ce (ii + j) = ce2 (ii + j)) : tripP ce ns nd ii nn ↔ tripP ce2 ns nd ii nn := by
  have e0 : ∀ t, t < nn → ce (ii + 3 * t) = ce2 (ii + 3 * t) := fun t h => hce (3 * t) (by omega)
  have e1 : ∀ t, t < nn → ce (ii + 3 * t + 1) = ce2 (ii + 3 * t + 1) := fun t h => hce (3 * t + 1) (by omega)
  have e2 : ∀ t, t < nn → ce (ii + 3 * t + 2) = ce2 (ii + 3 * t + 2) := fun t h => hce (3 * t + 2) (by omega)
  exact ⟨fun q t ht => by rw [← e0 t ht, ← e1 t ht, ← e2 t ht]; exact q t ht, fun q t ht => by rw [e0 t ht, e1 t ht, e2 t ht]; exact q t ht⟩
theorem c_year {x m : vSg} {nd ns nr : Nat} (h : Rl x m nd ns nr) (k lane i n what : Int32) : yearS (fun z9 => x (12 + z9) 1) (fun z9 => x (12 + z9) 2) (fun z9 => x (12 + z9) 3) (fun z9 => x (16 + z9)) (x 9) (uvX x) (pvX x) ns nd k lane i n what = yearS (thM m) (m 55) (m 54) (fun z9 y9 => m 56 (60 * z9 + y9)) (m 43) (uvM m) (pvM m) ns nd k lane i n what :=
  cif_c (fun h1 => cif_c (fun _ => cif_c (fun h3 => cif_c (fun _ => cif_c (fun _ => by
    (try dsimp only)
    rw [r_fas h (k4 h1)]
    refine cif_c (fun hf => ?_) (fun _ => rfl)
    obtain ⟨L, hL, e1, _, _, e3, e4⟩ := r_L h (k4 h1) (fas_th hf)
    rw [e1, e3]
    refine cif_c (fun hs => ?_) (fun _ => rfl)
    have hn := isB_t (b := 21) h3 (by decide)
    obtain ⟨ii, n3, rfl, hn3, hsp⟩ := spanS_nat hs (by omega)
    have hn4 : 3 * toN n = n3 := (nI_eq (by omega) (by omega)).mp hn3
    rw [toN_nI (by omega)]
    have hce : ∀ j, j < 3 * toN n → x (16 + toN k) (ii + j) = (fun y9 => m 56 (60 * toN k + y9)) (ii + j) := fun j hj => e4 (ii + j) (by omega)
    have htc : tripP (x (16 + toN k)) (nI ns) (nI nd) ii (toN n) ↔ tripP (fun y9 => m 56 (60 * toN k + y9)) (nI ns) (nI nd) ii (toN n) := trip_c (ce := x (16 + toN k)) (ce2 := fun y9 => m 56 (60 * toN k + y9)) hce
    rw [propext htc]
    refine cif_c (fun ht => ?_) (fun _ => rfl)
    rw [yr_c (ce := x (16 + toN k)) (ce2 := fun y9 => m 56 (60 * toN k + y9)) (r_ns h) (r_nd h) (htc.mpr ht) hce (fun a ha => r_pap h ha) (fun a ha d hd => r_uv h ha hd) (fun d hd => r_pv h hd)]) (fun _ => rfl)) (fun _ => rfl)) (fun _ => rfl)) (fun _ => rfl)) (fun _ => rfl)
