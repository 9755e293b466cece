/-! readings, sheets, kingdoms are written alike -/
theorem Rl_rd {x m x' m' : vSg} {nd ns nr n' : Nat} (h : Rl x m nd ns nr) (hx : ∀ q, q < 38 → q ≠ 3 → q ≠ 10 → q ≠ 11 → q ≠ 34 → x' q = x q) (hm : ∀ q, 38 < q → q < 58 → q ≠ 51 → q ≠ 52 → q ≠ 53 → m' q = m q) (hm38 : ∀ j, j ≠ 21 → m' 38 j = m 38 j) (hn : n' ≤ 8) (e1 : x' 3 3 = nI n') (e2 : m' 38 21 = nI n') (hr : ∀ r, r < n' → (isB (x' 10 r) (nI ns) ∧ isB (x' 11 r) (nI nd) ∧ (x' 34 r = 0 ∨ x' 34 r = 1)) ∧ x' 10 r = m' 51 r ∧ x' 11 r = m' 52 r ∧ x' 34 r = m' 53 r) : Rl x' m' nd ns n' := by
  obtain ⟨hX, hM, h1, h2, h3, h4, h5, h6⟩ := h
  have e5 := hX.1.2
  refine ⟨?_, ?_, fun d hd => ?_, fun a ha => ?_, fun r hr9 => (hr r hr9).2, fun k hk => ?_, ?_, ?_⟩
  · obtain ⟨g1, g2, g3, g4, g5, g6, g7, g8⟩ := hX
    refine ⟨?_, ?_, fun d hd i hi => ?_, fun a ha => ?_, ⟨e1, hn⟩, fun r hr9 => (hr r hr9).1, fun k hk => ?_, g8⟩
    · rw [hx 2 (by omega) (by omega) (by omega) (by omega) (by omega)]; exact g1
    · rw [hx 2 (by omega) (by omega) (by omega) (by omega) (by omega)]; exact g2
    · rw [hx (20 + d) (by omega) (by omega) (by omega) (by omega) (by omega)]; exact g3 d hd i hi
    · rw [hx 8 (by omega) (by omega) (by omega) (by omega) (by omega), hx 9 (by omega) (by omega) (by omega) (by omega) (by omega)]; exact g4 a ha
    · rw [hx (12 + k) (by omega) (by omega) (by omega) (by omega) (by omega)]; exact g7 k hk
  · obtain ⟨g1, g2, g3, g4, g5, g6, g7, g8⟩ := hM
    refine ⟨?_, ?_, fun d hd => ?_, fun a ha => ?_, ⟨e2, hn⟩, fun r hr9 => ?_, fun k hk => ?_, g8⟩
    · rw [hm38 1 (by omega)]; exact g1
    · rw [hm38 5 (by omega)]; exact g2
    · rw [hm 39 (by omega) (by omega) (by omega) (by omega) (by omega), hm 40 (by omega) (by omega) (by omega) (by omega) (by omega), hm 41 (by omega) (by omega) (by omega) (by omega) (by omega)]; exact g3 d hd
    · rw [hm 42 (by omega) (by omega) (by omega) (by omega) (by omega), hm 43 (by omega) (by omega) (by omega) (by omega) (by omega)]; exact g4 a ha
    · obtain ⟨p1, p2, p3, p4⟩ := hr r hr9
      rw [← p2, ← p3, ← p4]; exact p1
    · rw [hm 54 (by omega) (by omega) (by omega) (by omega) (by omega)]; exact g7 k hk
  · rw [hx (20 + d) (by omega) (by omega) (by omega) (by omega) (by omega), hm 39 (by omega) (by omega) (by omega) (by omega) (by omega), hm 40 (by omega) (by omega) (by omega) (by omega) (by omega), hm 41 (by omega) (by omega) (by omega) (by omega) (by omega)]; exact h1 d hd
  · rw [hx 8 (by omega) (by omega) (by omega) (by omega) (by omega), hx 9 (by omega) (by omega) (by omega) (by omega) (by omega), hm 42 (by omega) (by omega) (by omega) (by omega) (by omega), hm 43 (by omega) (by omega) (by omega) (by omega) (by omega)]; exact h2 a ha
  · unfold ShR
    rw [hx (12 + k) (by omega) (by omega) (by omega) (by omega) (by omega), hx (16 + k) (by omega) (by omega) (by omega) (by omega) (by omega), hm 54 (by omega) (by omega) (by omega) (by omega) (by omega), hm 55 (by omega) (by omega) (by omega) (by omega) (by omega), hm 56 (by omega) (by omega) (by omega) (by omega) (by omega)]
    exact h4 k hk
  · rw [hx 0 (by omega) (by omega) (by omega) (by omega) (by omega), hm38 29 (by omega)]; exact h5
  · rw [hx 0 (by omega) (by omega) (by omega) (by omega) (by omega), hm38 0 (by omega)]; exact h6
theorem Rl_read {x m : vSg} {nd ns nr : Nat} {a d bo : Int32} (h : Rl x m nd ns nr) (ha : isB a (nI ns)) (hd : isB d (nI nd)) (hn : nr < 8) (hb : bo = 0 ∨ bo = 1) : Rl (up2 (up2 (up2 (up2 x 10 nr a) 11 nr d) 34 nr bo) 3 3 (nI (nr + 1))) (up2 (up2 (up2 (up2 m 51 nr a) 52 nr d) 53 nr bo) 38 21 (nI (nr + 1))) nd ns (nr + 1) := by
  refine Rl_rd h (fun q h1 h3 h10 h11 h34 => by rw [up2_row h3, up2_row h34, up2_row h11, up2_row h10]) (fun q h1 h2 h51 h52 h53 => by rw [up2_row (by omega), up2_row h53, up2_row h52, up2_row h51]) (fun j hj => by rw [up2_ne (by omega), up2_row (by omega), up2_row (by omega), up2_row (by omega)]) (by omega) up2_self up2_self (fun r hr => ?_)
  rw [up2_row (a := 10) (show 10 ≠ 3 by omega), up2_row (a := 11) (show 11 ≠ 3 by omega), up2_row (a := 34) (show 34 ≠ 3 by omega), up2_row (a := 51) (show 51 ≠ 38 by omega), up2_row (a := 52) (show 52 ≠ 38 by omega), up2_row (a := 53) (show 53 ≠ 38 by omega), up2_row (a := 10) (show 10 ≠ 34 by omega), up2_row (a := 11) (show 11 ≠ 34 by omega), up2_row (a := 10) (show 10 ≠ 11 by omega), up2_row (a := 51) (show 51 ≠ 53 by omega), up2_row (a := 52) (show 52 ≠ 53 by omega), up2_row (a := 51) (show 51 ≠ 52 by omega)]
  by_cases e : r = nr
  · rw [e, up2_self, up2_self, up2_self, up2_self, up2_self, up2_self]
    exact ⟨⟨ha, hd, hb⟩, rfl, rfl, rfl⟩
  · have n1 : ∀ (z : vSg) (q : Nat) (u : Int32) (c : Nat), up2 z q nr u c r = z c r := fun z q u c => up2_ne (by omega)
    simp only [n1]
    exact ⟨h.1.2.2.2.2.2.1 r (by omega), h.2.2.2.2.1 r (by omega)⟩
theorem Rl_back {x m : vSg} {nd ns nr n' : Nat} (h : Rl x m nd ns nr) (hn : n' ≤ nr) : Rl (up2 x 3 3 (nI n')) (up2 m 38 21 (nI n')) nd ns n' := by
  have h8 := h.1.2.2.2.2.1.2
  refine Rl_rd h (fun q h1 h3 _ _ _ => up2_row h3) (fun q h1 h2 _ _ _ => up2_row (by omega)) (fun j hj => up2_ne (by omega)) (by omega) up2_self up2_self (fun r hr => ?_)
  rw [up2_row (by omega), up2_row (by omega), up2_row (by omega), up2_row (by omega), up2_row (by omega), up2_row (by omega)]
  exact ⟨h.1.2.2.2.2.2.1 r (by omega), h.2.2.2.2.1 r (by omega)⟩
theorem r_row {x m : vSg} {nd ns nr k : Nat} (h : Rl x m nd ns nr) (hk : k < 4) : isB (x (12 + k) 3) 61 := (h.1.2.2.2.2.2.2.1 k hk).2
theorem Rl_lose {x m : vSg} {nd ns nr k : Nat} (h : Rl x m nd ns nr) (hk : k < 4) : Rl (up2 x (12 + k) 1 0) (up2 m 54 k (-1)) nd ns nr := by
  refine Rl_sh h (fun q h1 h0 h2 => up2_row (by omega)) (fun q h1 h2 => up2_row (by omega)) (fun j hj => up2_ne (by omega)) (up2_ne (by omega)) (by rw [up2_row (by omega), up2_row (by omega)]; exact h.2.2.2.2.2.2.2) (fun q hq => by rw [up2_ne (by omega)]; exact r_row h hq) (fun q hq => ?_)
  by_cases e : q = k
  · subst e
    exact Or.inl ⟨up2_self, up2_self⟩
  · unfold ShR
    rw [up2_row (show 12 + q ≠ 12 + k by omega), up2_row (show 16 + q ≠ 12 + k by omega), up2_ne (show ¬ (54 = 54 ∧ q = k) by omega), up2_row (show 55 ≠ 54 by omega), up2_row (show 56 ≠ 54 by omega)]
    exact h.2.2.2.2.2.1 q hq
theorem Rl_put {x m : vSg} {nd ns nr k i : Nat} {v : Int32} (h : Rl x m nd ns nr) (hk : k < 4) (hi : i < 60) : Rl (up2 (up2 x 0 7 0) (16 + k) i v) (up2 (up2 m 56 (60 * k + i) v) 38 0 0) nd ns nr := by
  refine Rl_sh h (fun q h1 h0 h2 => by rw [up2_row (by omega), up2_row h0]) (fun q h1 h2 => by rw [up2_row (by omega), up2_row (by omega)]) (fun j hj => by rw [up2_ne (by omega), up2_row (by omega)]) (by rw [up2_row (by omega), up2_ne (by omega)]) (by rw [up2_row (by omega), up2_self, up2_self]) (fun q hq => by rw [up2_row (by omega), up2_row (by omega)]; exact r_row h hq) (fun q hq => ?_)
  unfold ShR
  rw [up2_row (show 12 + q ≠ 16 + k by omega), up2_row (show 12 + q ≠ 0 by omega), up2_row (show 54 ≠ 38 by omega), up2_row (show 54 ≠ 56 by omega), up2_row (show 55 ≠ 38 by omega), up2_row (show 55 ≠ 56 by omega), up2_row (show 56 ≠ 38 by omega)]
  rcases h.2.2.2.2.2.1 q hq with hh | ⟨L, hL, e1, e2, e3, e4, e5⟩
  · exact Or.inl hh
  · refine Or.inr ⟨L, hL, e1, e2, e3, e4, fun j hj => ?_⟩
    by_cases e : q = k ∧ j = i
    · rw [e.1, e.2, up2_self, up2_self]
    · rw [up2_ne (by omega), up2_row (show 16 + q ≠ 0 by omega), up2_ne (by omega)]
      exact e5 j hj
theorem Rl_copy {x m : vSg} {nd ns nr k o i j n L L2 : Nat} (h : Rl x m nd ns nr) (hk : k < 4) (ho : o < 4) (hL : L ≤ 60) (hL2 : L2 ≤ 60) (hi : i + n ≤ L) (hj : j + n ≤ L2) (ek : m 54 k = nI L) (eo : m 54 o = nI L2) : Rl (upR (up2 x 0 7 0) (16 + o) (va_cpy (x (16 + k)) (x (16 + o)) i j n)) (up2 (layM (hndM m k i n) o j n) 38 0 0) nd ns nr := by
  have upRr : ∀ q, q ≠ 16 + o → upR (up2 x 0 7 0) (16 + o) (va_cpy (x (16 + k)) (x (16 + o)) i j n) q = up2 x 0 7 0 q := fun q hq => by funext b; simp [upR, hq]
  have lay : ∀ q, q ≠ 56 → q ≠ 57 → layM (hndM m k i n) o j n q = m q := fun q h56 h57 => by funext b; simp [layM, hndM, h56, h57]
  refine Rl_sh h (fun q h1 h0 h2 => by rw [upRr q (by omega), up2_row h0]) (fun q h1 h2 => by rw [up2_row (by omega), lay q (by omega) (by omega)]) (fun b hb => by rw [up2_ne (by omega), lay 38 (by omega) (by omega)]) (by rw [upRr 0 (by omega), up2_ne (by omega)]) (by rw [upRr 0 (by omega), up2_self, up2_self]) (fun q hq => by rw [upRr _ (by omega), up2_row (by omega)]; exact r_row h hq) (fun q hq => ?_)
  unfold ShR
  rw [upRr (12 + q) (by omega), up2_row (show 12 + q ≠ 0 by omega), up2_row (show 54 ≠ 38 by omega), up2_row (show 55 ≠ 38 by omega), up2_row (show 56 ≠ 38 by omega), lay 54 (by omega) (by omega), lay 55 (by omega) (by omega)]
  rcases h.2.2.2.2.2.1 q hq with hh | ⟨L9, hL9, e1, e2, e3, e4, e5⟩
  · exact Or.inl hh
  · refine Or.inr ⟨L9, hL9, e1, e2, e3, e4, fun b hb => ?_⟩
    have ck : ∀ c, c < L → x (16 + k) c = m 56 (60 * k + c) := by
      rcases h.2.2.2.2.2.1 k hk with ⟨f1, _⟩ | ⟨L8, hL8, f1, _, _, _, f5⟩
      · rw [ek] at f1; exact absurd f1 (nI_nem1 (by omega))
      · have : L = L8 := (nI_eq (by omega) (by omega)).mp (ek.symm.trans f1)
        rw [this]; exact f5
    by_cases e : q = o
    · subst e
      have eL : L2 = L9 := (nI_eq (by omega) (by omega)).mp (eo.symm.trans e1)
      have l1 : upR (up2 x 0 7 0) (16 + q) (va_cpy (x (16 + k)) (x (16 + q)) i j n) (16 + q) b = va_cpy (x (16 + k)) (x (16 + q)) i j n b := by simp [upR]
      rw [l1]
      unfold va_cpy layM hndM
      by_cases hc : j ≤ b ∧ b < j + n
      · rw [if_pos hc, if_pos ⟨rfl, by omega, by omega⟩, if_pos ⟨rfl, by omega⟩, ck _ (by omega)]
        congr 1
        omega
      · rw [if_neg hc, if_neg (fun z => hc ⟨by omega, by omega⟩), if_neg (fun z => absurd z.1 (by omega)), e5 b hb]
    · rw [upRr (16 + q) (by omega), up2_row (show 16 + q ≠ 0 by omega)]
      have l2 : layM (hndM m k i n) o j n 56 (60 * q + b) = m 56 (60 * q + b) := by
        unfold layM hndM
        rw [if_neg (fun z => by have := z.2; omega), if_neg (fun z => absurd z.1 (by omega))]
      rw [l2]
      exact e5 b hb
theorem Rl_sheet {x m : vSg} {nd ns nr k n : Nat} {lane : Int32} (h : Rl x m nd ns nr) (hk : k < 4) (hn : n ≤ 60) : Rl (zeroR (up2 (up2 (up2 (up2 x 0 7 0) (12 + k) 1 1) (12 + k) 2 lane) (12 + k) 3 (nI n)) (16 + k) 60) (up2 (zeroM (up2 (up2 m 54 k (nI n)) 55 k lane) k n) 38 0 0) nd ns nr := by
  obtain ⟨y, hy⟩ : ∃ y, y = up2 (up2 (up2 (up2 x 0 7 0) (12 + k) 1 1) (12 + k) 2 lane) (12 + k) 3 (nI n) := ⟨_, rfl⟩
  rw [← hy]
  have zr : ∀ q, q ≠ 16 + k → zeroR y (16 + k) 60 q = y q := fun q hq => by funext b; simp [zeroR, hq]
  have yr : ∀ q, q ≠ 0 → q ≠ 12 + k → y q = x q := fun q h0 h1 => by rw [hy, up2_row h1, up2_row h1, up2_row h1, up2_row h0]
  have y0 : ∀ b, b ≠ 7 → y 0 b = x 0 b := fun b hb => by rw [hy, up2_row (by omega), up2_row (by omega), up2_row (by omega), up2_ne (by omega)]
  have y07 : y 0 7 = 0 := by rw [hy, up2_row (by omega), up2_row (by omega), up2_row (by omega), up2_self]
  have y1 : y (12 + k) 1 = 1 := by rw [hy, up2_ne (by omega), up2_ne (by omega), up2_self]
  have y2 : y (12 + k) 2 = lane := by rw [hy, up2_ne (by omega), up2_self]
  have y3 : y (12 + k) 3 = nI n := by rw [hy, up2_self]
  obtain ⟨w, hw⟩ : ∃ w, w = up2 (up2 m 54 k (nI n)) 55 k lane := ⟨_, rfl⟩
  rw [← hw]
  have zm : ∀ q, q ≠ 56 → zeroM w k n q = w q := fun q hq => by funext b; simp [zeroM, hq]
  have wr : ∀ q, q ≠ 54 → q ≠ 55 → w q = m q := fun q h1 h2 => by rw [hw, up2_row h2, up2_row h1]
  refine Rl_sh h (fun q h1 h0 h2 => by rw [zr q (by omega), yr q h0 (by omega)]) (fun q h1 h2 => by rw [up2_row (by omega), zm q (by omega), wr q (by omega) (by omega)]) (fun b hb => by rw [up2_ne (by omega), zm 38 (by omega), wr 38 (by omega) (by omega)]) (by rw [zr 0 (by omega)]; exact y0 6 (by omega)) (by rw [zr 0 (by omega), y07, up2_self]) (fun q hq => ?_) (fun q hq => ?_)
  · rw [zr (12 + q) (by omega)]
    by_cases e : q = k
    · rw [e, y3]; exact isB_nI (b := 61) (by omega) (by decide)
    · rw [yr _ (by omega) (by omega)]; exact r_row h hq
  · unfold ShR
    rw [zr (12 + q) (by omega), up2_row (show 54 ≠ 38 by omega), up2_row (show 55 ≠ 38 by omega), up2_row (show 56 ≠ 38 by omega), zm 54 (by omega), zm 55 (by omega)]
    by_cases e : q = k
    · subst e
      have w54 : w 54 q = nI n := by rw [hw, up2_row (by omega), up2_self]
      have w55 : w 55 q = lane := by rw [hw, up2_self]
      refine Or.inr ⟨n, hn, w54, y1, by rw [y2, w55], y3, fun b hb => ?_⟩
      have l1 : zeroR y (16 + q) 60 (16 + q) b = 0 := if_pos ⟨rfl, by omega⟩
      have l2 : zeroM w q n 56 (60 * q + b) = 0 := if_pos ⟨rfl, by omega, by omega⟩
      rw [l1, l2]
    · have w54 : w 54 q = m 54 q := by rw [hw, up2_row (by omega), up2_ne (by omega)]
      have w55 : w 55 q = m 55 q := by rw [hw, up2_ne (by omega), up2_row (by omega)]
      rw [w54, w55, yr (12 + q) (by omega) (by omega), zr (16 + q) (by omega), yr (16 + q) (by omega) (by omega)]
      rcases h.2.2.2.2.2.1 q hq with hh | ⟨L, hL, e1, e2, e3, e4, e5⟩
      · exact Or.inl hh
      · refine Or.inr ⟨L, hL, e1, e2, e3, e4, fun b hb => ?_⟩
        have l2 : zeroM w k n 56 (60 * q + b) = m 56 (60 * q + b) := by
          unfold zeroM
          rw [if_neg (fun z => by have := z.2; omega), wr 56 (by omega) (by omega)]
        rw [l2]
        exact e5 b hb
theorem dg_isB {c : Int32} {b : Nat} (hb : b ≤ 10) (h : dg c (nI (47 + b))) : isB (c - 48) (nI b) := by
  have h0 : isB c (nI (48 + b)) := ⟨Int32.le_trans (show (0 : Int32) ≤ 48 by decide) h.1, Int32.lt_of_le_of_lt h.2 (nI_lt (by omega) (by omega))⟩
  obtain ⟨k, hk, rfl⟩ := isB_nat h0 (by omega)
  have h48 : 48 ≤ k := (nI_leI (by decide) (by omega)).mp h.1
  rw [show (48 : Int32) = nI 48 from rfl, pk_sub (by omega)]
  exact isB_nI (by omega) (by omega)
theorem knd_isB {c : Int32} (h : ¬ kndS c = -9) : isB (kndS c) 3 := by
  unfold kndS at h ⊢
  by_cases h1 : c = 115
  · rw [if_pos h1]; decide
  · rw [if_neg h1] at h ⊢
    by_cases h2 : c = 109
    · rw [if_pos h2]; decide
    · rw [if_neg h2] at h ⊢
      by_cases h3 : c = 104
      · rw [if_pos h3]; decide
      · rw [if_neg h3] at h; exact absurd rfl h
theorem Rl_king {x m x' m' : vSg} {nd ns nr nd2 ns2 : Nat} {c : Nat → Int32} (h : Rl x m nd ns nr) (hx : nkX c nd2 ns2 x') (hm : nkM c nd2 ns2 m') (hdg : ∀ b, b < nd2 → ∀ w, w < 3 → dg (c (4 * b + 2 + w)) 57) (hkn : ∀ b, b < ns2 → ¬ kndS (c (4 * nd2 + 3 * b + 2)) = -9 ∧ dg (c (4 * nd2 + 3 * b + 3)) 51) (hxr : ∀ q, 12 ≤ q → q < 20 → x' q = x q) (hmr : ∀ q, 54 ≤ q → q ≤ 56 → m' q = m q) (h06 : x' 0 6 = m' 38 29) (h07 : x' 0 7 = m' 38 0) : Rl x' m' nd2 ns2 0 := by
  obtain ⟨⟨b1, b2, b3, b4⟩, a1, a2, a3, a4, a5⟩ := hx
  obtain ⟨_, c1, c2, c3, c4, c5⟩ := hm
  have dg3 : ∀ d, d < nd2 → ∀ w, w < 3 → isB (c (4 * d + 2 + w) - 48) 10 := fun d hd w hw => dg_isB (b := 10) (by omega) (hdg d hd w hw)
  refine ⟨⟨⟨a1, b1⟩, ⟨a2, b2⟩, fun d hd j hj => ?_, fun a ha => ?_, ⟨a3, by omega⟩, fun r hr => absurd hr (Nat.not_lt_zero _), fun k hk => ?_, fun _ => b3⟩, ⟨⟨c1, b1⟩, ⟨c2, b2⟩, fun d hd => ?_, fun a ha => ?_, ⟨c3, by omega⟩, fun r hr => absurd hr (Nat.not_lt_zero _), fun k hk => ?_, fun _ => b3⟩, fun d hd => ?_, fun a ha => ?_, fun r hr => absurd hr (Nat.not_lt_zero _), fun k hk => ?_, h06, h07⟩
  · rw [a4 d hd j hj]; exact dg3 d hd j hj
  · rw [(a5 a ha).1, (a5 a ha).2]; exact ⟨knd_isB (hkn a ha).1, dg_isB (b := 4) (by omega) (hkn a ha).2⟩
  · rw [hxr (12 + k) (by omega) (by omega)]; exact h.1.2.2.2.2.2.2.1 k hk
  · rw [(c4 d hd).1, (c4 d hd).2.1, (c4 d hd).2.2]; exact ⟨dg3 d hd 0 (by omega), dg3 d hd 1 (by omega), dg3 d hd 2 (by omega)⟩
  · rw [(c5 a ha).1, (c5 a ha).2]; exact ⟨knd_isB (hkn a ha).1, dg_isB (b := 4) (by omega) (hkn a ha).2⟩
  · rw [hmr 54 (by omega) (by omega)]; exact h.2.1.2.2.2.2.2.2.1 k hk
  · rw [a4 d hd 0 (by omega), a4 d hd 1 (by omega), a4 d hd 2 (by omega), (c4 d hd).1, (c4 d hd).2.1, (c4 d hd).2.2]; exact ⟨rfl, rfl, rfl⟩
  · rw [(a5 a ha).1, (a5 a ha).2, (c5 a ha).1, (c5 a ha).2]; exact ⟨rfl, rfl⟩
  · unfold ShR
    rw [hxr (12 + k) (by omega) (by omega), hxr (16 + k) (by omega) (by omega), hmr 54 (by omega) (by omega), hmr 55 (by omega) (by omega), hmr 56 (by omega) (by omega)]
    exact h.2.2.2.2.2.1 k hk
