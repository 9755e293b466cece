/-! the two sides hold the same: x the store of the class's cells, m that of the reference's -/
def ShR (x m : vSg) (k : Nat) : Prop := (m 54 k = -1 ∧ x (12 + k) 1 = 0) ∨ ∃ L, L ≤ 60 ∧ m 54 k = nI L ∧ x (12 + k) 1 = 1 ∧ x (12 + k) 2 = m 55 k ∧ x (12 + k) 3 = nI L ∧ ∀ j, j < L → x (16 + k) j = m 56 (60 * k + j)
def Rl (x m : vSg) (nd ns nr : Nat) : Prop := IX x nd ns nr ∧ IM m nd ns nr ∧ (∀ d, d < nd → x (20 + d) 0 = m 39 d ∧ x (20 + d) 1 = m 40 d ∧ x (20 + d) 2 = m 41 d) ∧ (∀ a, a < ns → x 8 a = m 42 a ∧ x 9 a = m 43 a) ∧ (∀ r, r < nr → x 10 r = m 51 r ∧ x 11 r = m 52 r ∧ x 34 r = m 53 r) ∧ (∀ k, k < 4 → ShR x m k) ∧ x 0 6 = m 38 29 ∧ x 0 7 = m 38 0
theorem IX_row {x y : vSg} {nd ns nr : Nat} (h : ∀ q, q < 38 → y q = x q) (hI : IX x nd ns nr) : IX y nd ns nr := by
  obtain ⟨h1, h2, h3, h4, h5, h6, h7, h8⟩ := hI
  refine ⟨?_, ?_, fun d hd j hj => ?_, fun a ha => ?_, ?_, fun r hr => ?_, fun k hk => ?_, h8⟩
  · rw [h 2 (by omega)]; exact h1
  · rw [h 2 (by omega)]; exact h2
  · rw [h (20 + d) (by omega)]; exact h3 d hd j hj
  · rw [h 8 (by omega), h 9 (by omega)]; exact h4 a ha
  · rw [h 3 (by omega)]; exact h5
  · rw [h 10 (by omega), h 11 (by omega), h 34 (by omega)]; exact h6 r hr
  · rw [h (12 + k) (by omega)]; exact h7 k hk
theorem IM_row {x y : vSg} {nd ns nr : Nat} (h : ∀ q, 38 ≤ q → q < 58 → y q = x q) (hI : IM x nd ns nr) : IM y nd ns nr := by
  obtain ⟨h1, h2, h3, h4, h5, h6, h7, h8⟩ := hI
  refine ⟨?_, ?_, fun d hd => ?_, fun a ha => ?_, ?_, fun r hr => ?_, fun k hk => ?_, h8⟩
  · rw [h 38 (by omega) (by omega)]; exact h1
  · rw [h 38 (by omega) (by omega)]; exact h2
  · rw [h 39 (by omega) (by omega), h 40 (by omega) (by omega), h 41 (by omega) (by omega)]; exact h3 d hd
  · rw [h 42 (by omega) (by omega), h 43 (by omega) (by omega)]; exact h4 a ha
  · rw [h 38 (by omega) (by omega)]; exact h5
  · rw [h 51 (by omega) (by omega), h 52 (by omega) (by omega), h 53 (by omega) (by omega)]; exact h6 r hr
  · rw [h 54 (by omega) (by omega)]; exact h7 k hk
theorem ShR_x {x y m : vSg} {k : Nat} (hk : k < 4) (h : ∀ q, q < 38 → y q = x q) (hS : ShR x m k) : ShR y m k := by
  unfold ShR
  rw [h (12 + k) (by omega), h (16 + k) (by omega)]
  exact hS
theorem ShR_m {x y m : vSg} {k : Nat} (h : ∀ q, 38 ≤ q → q < 58 → y q = m q) (hS : ShR x m k) : ShR x y k := by
  unfold ShR
  rw [h 54 (by omega) (by omega), h 55 (by omega) (by omega), h 56 (by omega) (by omega)]
  exact hS
theorem Rl_x {x y m : vSg} {nd ns nr : Nat} (h : ∀ q, q < 38 → y q = x q) (hR : Rl x m nd ns nr) : Rl y m nd ns nr := by
  obtain ⟨hX, hM, h1, h2, h3, h4, h5, h6⟩ := hR
  have e5 := hX.1.2
  refine ⟨IX_row h hX, hM, fun d hd => ?_, fun a ha => ?_, fun r hr => ?_, fun k hk => ShR_x hk h (h4 k hk), ?_, ?_⟩
  · rw [h (20 + d) (by omega)]; exact h1 d hd
  · rw [h 8 (by omega), h 9 (by omega)]; exact h2 a ha
  · rw [h 10 (by omega), h 11 (by omega), h 34 (by omega)]; exact h3 r hr
  · rw [h 0 (by omega)]; exact h5
  · rw [h 0 (by omega)]; exact h6
theorem Rl_m {x y m : vSg} {nd ns nr : Nat} (h : ∀ q, 38 ≤ q → q < 58 → y q = m q) (hR : Rl x m nd ns nr) : Rl x y nd ns nr := by
  obtain ⟨hX, hM, h1, h2, h3, h4, h5, h6⟩ := hR
  refine ⟨hX, IM_row h hM, fun d hd => ?_, fun a ha => ?_, fun r hr => ?_, fun k hk => ShR_m h (h4 k hk), ?_, ?_⟩
  · rw [h 39 (by omega) (by omega), h 40 (by omega) (by omega), h 41 (by omega) (by omega)]; exact h1 d hd
  · rw [h 42 (by omega) (by omega), h 43 (by omega) (by omega)]; exact h2 a ha
  · rw [h 51 (by omega) (by omega), h 52 (by omega) (by omega), h 53 (by omega) (by omega)]; exact h3 r hr
  · rw [h 38 (by omega) (by omega)]; exact h5
  · rw [h 38 (by omega) (by omega)]; exact h6
section CNG
variable {x m : vSg} {nd ns nr : Nat}
theorem r_deed (h : Rl x m nd ns nr) {d j : Nat} (hd : d < nd) (hj : j < 3) : x (20 + d) j = ddM m d j := by
  obtain ⟨h0, h1, h2⟩ := h.2.2.1 d hd
  match j, hj with
  | 0, _ => exact h0
  | 1, _ => exact h1
  | 2, _ => exact h2
  | n + 3, hn => exact absurd hn (by omega)
theorem r_kind (h : Rl x m nd ns nr) {a : Nat} (ha : a < ns) : x 8 a = m 42 a := (h.2.2.2.1 a ha).1
theorem r_pap (h : Rl x m nd ns nr) {a : Nat} (ha : a < ns) : x 9 a = m 43 a := (h.2.2.2.1 a ha).2
theorem r_uv (h : Rl x m nd ns nr) {a d : Nat} (ha : a < ns) (hd : d < nd) : uvX x a d = uvM m a d := by
  obtain ⟨h0, h1, h2⟩ := h.2.2.1 d hd
  unfold uvX uvM
  rw [r_kind h ha, h0, h1, h2]
theorem r_do (h : Rl x m nd ns nr) {a d : Nat} (ha : a < ns) (hd : d < nd) : doX x a d ↔ doM m a d := by
  obtain ⟨h0, h1, h2⟩ := h.2.2.1 d hd
  unfold doX doM
  rw [r_kind h ha, h0, h1, h2]
theorem r_pv (h : Rl x m nd ns nr) {d : Nat} (hd : d < nd) : pvX x d = pvM m d := by
  unfold pvX pvM
  rw [(h.2.2.1 d hd).1]
theorem r_un (h : Rl x m nd ns nr) {a d : Nat} (ha : a < ns) (hd : d < nd) : unX x a d = unM m a d := by
  obtain ⟨h0, h1, h2⟩ := h.2.2.1 d hd
  unfold unX unM
  rw [r_kind h ha, h0, h1, h2]
theorem r_vn (h : Rl x m nd ns nr) {d : Nat} (hd : d < nd) : vnX x d = vnM m d := by
  unfold vnX vnM
  rw [(h.2.2.1 d hd).1]
theorem r_nd (h : Rl x m nd ns nr) : nd < 2 ^ 31 := Nat.lt_of_le_of_lt h.1.1.2 (by decide)
theorem r_ns (h : Rl x m nd ns nr) : ns < 2 ^ 31 := Nat.lt_of_le_of_lt h.1.2.1.2 (by decide)
theorem isB_t {v : Int32} {b : Nat} (h : isB v (nI b)) (hb : b < 2 ^ 31) : toN v < b := (isB_toN h hb).1
theorem setS_c {P Q : Nat → Prop} : ∀ n, (∀ d, d < n → (P d ↔ Q d)) → setS P n = setS Q n
  | 0, _ => rfl
  | n + 1, h => by
    have h1 := setS_c n (fun d hd => h d (by omega))
    by_cases hP : P n
    · rw [setS_t hP, setS_t ((h n (by omega)).mp hP), h1]
    · rw [setS_f hP, setS_f (fun q => hP ((h n (by omega)).mpr q)), h1]
theorem sumS_c {f g : Nat → Int32} : ∀ n, (∀ d, d < n → f d = g d) → sumS f n = sumS g n
  | 0, _ => rfl
  | n + 1, h => by
    simp only [sumS]
    rw [sumS_c n (fun d hd => h d (by omega)), h n (by omega)]
theorem c_ofDeed (h : Rl x m nd ns nr) (d what : Int32) : ofDeedS (nI nd) (fun z9 y9 => x (20 + z9) y9) d what = ofDeedS (nI nd) (ddM m) d what :=
  cif_c (fun h1 => cif_c (fun h2 => r_deed h (isB_t h1 (r_nd h)) (isB_t (b := 3) h2 (by decide))) (fun _ => rfl)) (fun _ => rfl)
theorem c_alter (h : Rl x m nd ns nr) (d what v : Int32) : alterS (nI nd) (fun z9 y9 => x (20 + z9) y9) d what v = alterS (nI nd) (ddM m) d what v :=
  cif_c (fun h1 => cif_c (fun h2 => cif_c (fun _ => r_deed h (isB_t h1 (r_nd h)) (isB_t (b := 3) h2 (by decide))) (fun _ => rfl)) (fun _ => rfl)) (fun _ => rfl)
theorem c_ofSubj (h : Rl x m nd ns nr) (a what : Int32) : ofSubjS (nI ns) (x 8) (x 9) (fun z9 => setS (doX x z9) nd) a what = ofSubjS (nI ns) (m 42) (m 43) (fun z9 => setS (doM m z9) nd) a what :=
  cif_c (fun h1 => cif_c (fun _ => r_kind h (isB_t h1 (r_ns h))) (fun _ => cif_c (fun _ => r_pap h (isB_t h1 (r_ns h))) (fun _ => cif_c (fun _ => setS_c nd (fun d hd => r_do h (isB_t h1 (r_ns h)) hd)) (fun _ => rfl)))) (fun _ => rfl)
theorem c_fear (h : Rl x m nd ns nr) (a d : Int32) : fearOS (nI ns) (nI nd) (fun z9 y9 => fearS (x 8 z9) (x (20 + y9) 1) (x (20 + y9) 2)) a d = fearOS (nI ns) (nI nd) (fun z9 y9 => fearS (m 42 z9) (m 40 y9) (m 41 y9)) a d :=
  cif_c (fun h1 => cif_c (fun h2 => by
    obtain ⟨_, e1, e2⟩ := h.2.2.1 _ (isB_t h2 (r_nd h))
    show fearS (x 8 (toN a)) (x (20 + toN d) 1) (x (20 + toN d) 2) = fearS (m 42 (toN a)) (m 40 (toN d)) (m 41 (toN d))
    rw [r_kind h (isB_t h1 (r_ns h)), e1, e2]) (fun _ => rfl)) (fun _ => rfl)
theorem c_grant (h : Rl x m nd ns nr) (a v : Int32) : grantS (nI ns) (x 9) a v = grantS (nI ns) (m 43) a v :=
  cif_c (fun h1 => cif_c (fun _ => r_pap h (isB_t h1 (r_ns h))) (fun _ => rfl)) (fun _ => rfl)
theorem hp_r (h : Rl x m nd ns nr) {a : Nat} (ha : a < ns) (k pp : Nat) : hpN nd (unX x a) (vnX x) k pp = hpN nd (unM m a) (vnM m) k pp := hpN_c (fun d hd => ⟨r_un h ha hd, r_vn h hd⟩) k pp
theorem c_hope (h : Rl x m nd ns nr) (a n pp which : Int32) : hopeS (nI ns) nd (unX x) (vnX x) a n pp which = hopeS (nI ns) nd (unM m) (vnM m) a n pp which :=
  cif_c (fun h1 => cif_c (fun _ => cif_c (fun _ => cif_c (fun _ => by rw [hp_r h (isB_t h1 (r_ns h))]) (fun _ => rfl)) (fun _ => rfl)) (fun _ => rfl)) (fun _ => rfl)
theorem c_uses (h : Rl x m nd ns nr) (a n pp : Int32) : usesS (nI ns) nd (unX x) (vnX x) a n pp = usesS (nI ns) nd (unM m) (vnM m) a n pp :=
  cif_c (fun h1 => cif_c (fun _ => rfl) (fun _ => cif_c (fun _ => rfl) (fun _ => cif_c (fun _ => rfl) (fun _ => cif_c (fun _ => setS_c nd (fun d hd => by
    unfold useP
    rw [hp_r h (isB_t h1 (r_ns h)), hp_r h (isB_t h1 (r_ns h)), r_un h (isB_t h1 (r_ns h)) hd, r_vn h hd])) (fun _ => rfl))))) (fun _ => rfl)
theorem buy_r (h : Rl x m nd ns nr) (n : Nat) (price : Int32) : buyS ns nd n (unX x) (vnX x) price = buyS ns nd n (unM m) (vnM m) price := setS_c ns (fun a ha => by
  unfold buyP
  rw [hp_r h ha, hp_r h ha])
theorem c_buyers (h : Rl x m nd ns nr) (price n : Int32) : buyersS ns nd (unX x) (vnX x) price n = buyersS ns nd (unM m) (vnM m) price n :=
  cif_c (fun _ => cif_c (fun _ => cif_c (fun _ => buy_r h _ _) (fun _ => rfl)) (fun _ => rfl)) (fun _ => rfl)
theorem c_best (h : Rl x m nd ns nr) (n : Int32) : bestOS ns nd (unX x) (vnX x) n = bestOS ns nd (unM m) (vnM m) n :=
  cif_c (fun _ => cif_c (fun _ => by
    have e : ctS ns nd (toN n) (unX x) (vnX x) = ctS ns nd (toN n) (unM m) (vnM m) := by
      funext q
      unfold ctS
      rw [buy_r h]
    rw [e]) (fun _ => rfl)) (fun _ => rfl)
theorem c_odds (h : Rl x m nd ns nr) (set n which : Int32) : oddsS ns nd (fun z => toN (x (20 + z) 1)) set n which = oddsS ns nd (fun z => toN (m 40 z)) set n which :=
  cif_c (fun _ => cif_c (fun _ => cif_c (fun _ => cif_c (fun _ => by
    rw [oPr_c (f := fun z => 10 - toN (x (20 + z) 1)) (g := fun z => 10 - toN (m 40 z)) nd (fun q hq => by
      show 10 - toN (x (20 + q) 1) = 10 - toN (m 40 q)
      rw [(h.2.2.1 q hq).2.1])]) (fun _ => rfl)) (fun _ => rfl)) (fun _ => rfl)) (fun _ => rfl)
theorem c_many (h : Rl x m nd ns nr) (what : Int32) : manyS (nI ns) (nI nd) (sumS (x 9) ns) (nI nr) what = manyS (nI ns) (nI nd) (sumS (m 43) ns) (nI nr) what := by
  rw [sumS_c ns (fun a ha => r_pap h ha)]
theorem c_as (h : Rl x m nd ns nr) (a kind : Int32) : asS (nI ns) (x 8) a kind = asS (nI ns) (m 42) a kind :=
  cif_c (fun h1 => by rw [r_kind h (isB_t h1 (r_ns h))]) (fun _ => rfl)
theorem c_name (h : Rl x m nd ns nr) (a : Int32) : nameS (nI ns) (x 8) (x 0 6) a = nameS (nI ns) (m 42) (m 38 29) a := by
  rw [h.2.2.2.2.2.2.1]
  exact cif_c (fun h1 => by rw [r_kind h (isB_t h1 (r_ns h))]) (fun _ => rfl)
theorem c_tell (h : Rl x m nd ns nr) (a : Int32) : tellS (nI ns) (x 8) (x 9) (x 0 6) a = tellS (nI ns) (m 42) (m 43) (m 38 29) a := by
  rw [h.2.2.2.2.2.2.1]
  exact cif_c (fun h1 => by rw [r_kind h (isB_t h1 (r_ns h)), r_pap h (isB_t h1 (r_ns h))]) (fun _ => rfl)
end CNG
