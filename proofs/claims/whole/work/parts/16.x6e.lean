/-! hopes in whole numbers -/
def fearN (k r h : Nat) : Nat := if k = 2 then 2 * (r * h + 10) else if k = 1 then r * h + 10 else r * h
theorem fearS_N {k r h : Nat} (hk : k < 3) : fearS (nI k) (nI r) (nI h) = nI (fearN k r h) := by
  unfold fearS fearN
  rw [pk_mul, show (10 : Int32) = nI 10 from rfl, nI_add]
  rcases (show k = 0 ∨ k = 1 ∨ k = 2 by omega) with rfl | rfl | rfl
  · rw [if_neg (by decide), if_neg (by decide), if_neg (by decide), if_neg (by decide)]
  · rw [if_neg (by decide), if_pos (by decide), if_neg (by decide), if_pos (by decide)]
  · rw [if_pos (by decide), if_pos (by decide)]
    exact pk_mul 2 _
theorem fearN_le {k r h : Nat} (hr : r < 10) (hh : h < 10) : fearN k r h ≤ 182 := by
  have : r * h ≤ 9 * 9 := Nat.mul_le_mul (by omega) (by omega)
  unfold fearN
  split
  · omega
  · split <;> omega
theorem valS_N {k w r h : Nat} (hk : k < 3) : valS (nI k) (nI w) (nI r) (nI h) = nI (10 * w) - nI (fearN k r h) := by
  unfold valS
  rw [fearS_N hk]
  congr 1
  exact pk_mul 10 w
theorem pos_sub {x y : Nat} (hx : x < 2 ^ 30) (hy : y < 2 ^ 30) : 0 < nI x - nI y ↔ y < x := by
  rw [Int32.lt_iff_toInt_lt, pk_sub_toInt hx hy, show (0 : Int32).toInt = 0 from rfl]
  omega
theorem un_ok {x y : Nat} (hx : x < 2 ^ 30) (hy : y < 2 ^ 30) : (if 0 < nI x - nI y then nI x - nI y else 0) = nI (x - y) := by
  by_cases h : y < x
  · rw [if_pos ((pos_sub hx hy).mpr h), pk_sub (by omega)]
  · rw [if_neg (fun q => h ((pos_sub hx hy).mp q)), show x - y = 0 by omega]; rfl
def sumN (f : Nat → Nat) : Nat → Nat
  | 0 => 0
  | n + 1 => sumN f n + f n
theorem sumN_le {f : Nat → Nat} {B : Nat} : ∀ n, (∀ d, d < n → f d ≤ B) → sumN f n ≤ n * B
  | 0, _ => by simp [sumN]
  | n + 1, h => by
    have h1 := sumN_le n (fun d hd => h d (by omega))
    have h2 := h n (by omega)
    simp only [sumN]
    rw [Nat.succ_mul]
    omega
theorem sumN_c {f g : Nat → Nat} : ∀ n, (∀ d, d < n → f d = g d) → sumN f n = sumN g n
  | 0, _ => rfl
  | n + 1, h => by simp only [sumN]; rw [sumN_c n (fun d hd => h d (by omega)), h n (by omega)]
theorem sumL_N {f : Nat → Int64} {g : Nat → Nat} : ∀ n, (∀ d, d < n → f d = lN (g d)) → sumL f n = lN (sumN g n)
  | 0, _ => rfl
  | n + 1, h => by simp only [sumL, sumN]; rw [sumL_N n (fun d hd => h d (by omega)), h n (by omega), lN_add]
def bestN (sc hp hp1 pp u v : Nat) : Nat := if 0 < pp then max (u * sc + hp) (v * sc + hp1) else u * sc + hp
def hpN (nd : Nat) (u v : Nat → Nat) : Nat → Nat → Nat
  | 0 => fun _ => 0
  | k + 1 => fun pp => sumN (fun d => bestN (nd ^ k) (hpN nd u v k pp) (hpN nd u v k (pp - 1)) pp (u d) (v d)) nd
theorem hpN_le {nd : Nat} {u v : Nat → Nat} (hu : ∀ d, d < nd → u d ≤ 90 ∧ v d ≤ 90) : ∀ k pp, hpN nd u v k pp ≤ 90 * k * nd ^ k
  | 0, _ => by simp [hpN]
  | k + 1, pp => by
    have h1 := hpN_le hu k pp
    have h2 := hpN_le hu k (pp - 1)
    have h3 : hpN nd u v (k + 1) pp ≤ nd * (90 * nd ^ k + 90 * k * nd ^ k) := sumN_le nd (fun d hd => by
      have h4 := hu d hd
      have h5 : u d * nd ^ k ≤ 90 * nd ^ k := Nat.mul_le_mul_right _ h4.1
      have h6 : v d * nd ^ k ≤ 90 * nd ^ k := Nat.mul_le_mul_right _ h4.2
      unfold bestN
      split
      · exact Nat.max_le.mpr ⟨by omega, by omega⟩
      · omega)
    have h7 : nd * (90 * nd ^ k + 90 * k * nd ^ k) = 90 * (k + 1) * nd ^ (k + 1) := by
      rw [Nat.pow_succ, ← Nat.add_mul, show 90 + 90 * k = 90 * (k + 1) by omega, Nat.mul_comm nd, Nat.mul_assoc]
    omega
theorem hpN_c {nd : Nat} {u v u2 v2 : Nat → Nat} (h : ∀ d, d < nd → u d = u2 d ∧ v d = v2 d) : ∀ k pp, hpN nd u v k pp = hpN nd u2 v2 k pp
  | 0, _ => rfl
  | k + 1, pp => by
    simp only [hpN]
    refine sumN_c nd (fun d hd => ?_)
    rw [hpN_c h k pp, hpN_c h k (pp - 1), (h d hd).1, (h d hd).2]
theorem pow58 {nd k : Nat} (hn : nd ≤ 5) (hk : k ≤ 8) : nd ^ k ≤ 390625 := Nat.le_trans (Nat.pow_le_pow_left hn k) (Nat.le_trans (Nat.pow_le_pow_right (by omega) hk) (by decide))
theorem hpN_b {nd k : Nat} {u v : Nat → Nat} (hu : ∀ d, d < nd → u d ≤ 90 ∧ v d ≤ 90) (hn : nd ≤ 5) (hk : k ≤ 8) (pp : Nat) : hpN nd u v k pp ≤ 281250000 := by
  have h1 := hpN_le hu k pp
  have h2 : 90 * k * nd ^ k ≤ 720 * 390625 := Nat.mul_le_mul (by omega) (pow58 hn hk)
  omega
theorem scS_N (nd : Nat) : ∀ k, scS nd k = lN (nd ^ k)
  | 0 => rfl
  | k + 1 => by simp only [scS]; rw [scS_N nd k, lN_mul, Nat.pow_succ]
theorem maxL_N {a b : Nat} (ha : a < 2 ^ 63) (hb : b < 2 ^ 63) : maxL (lN a) (lN b) = lN (max a b) := by
  unfold maxL
  by_cases h : b < a
  · rw [if_pos ((pk_lLT hb ha).mpr h), Nat.max_eq_left (Nat.le_of_lt h)]
  · rw [if_neg (fun q => h ((pk_lLT hb ha).mp q)), Nat.max_eq_right (Nat.le_of_not_lt h)]
theorem bnS_N {sc hp u : Nat} {x : Int32} (hx : (if 0 < x then x else 0) = nI u) (hu : u < 2 ^ 31) : bnS (lN sc) (lN hp) x = lN (u * sc + hp) := by
  unfold bnS; rw [hx, nI_l hu, lN_mul, lN_add]
theorem bpS_N {sc hp v : Nat} (hv : v < 2 ^ 31) : bpS (lN sc) (lN hp) (nI v) = lN (v * sc + hp) := by
  unfold bpS; rw [nI_l hv, lN_mul, lN_add]
theorem hpS_N {nd : Nat} {u v : Nat → Int32} {un vn : Nat → Nat} (hn : nd ≤ 5) (hu : ∀ d, d < nd → (if 0 < u d then u d else 0) = nI (un d) ∧ un d ≤ 90) (hv : ∀ d, d < nd → v d = nI (vn d) ∧ vn d ≤ 90) : ∀ k pp, k ≤ 8 → hpS nd u v k pp = lN (hpN nd un vn k pp)
  | 0, _, _ => rfl
  | k + 1, pp, hk => by
    have hb : ∀ d, d < nd → un d ≤ 90 ∧ vn d ≤ 90 := fun d hd => ⟨(hu d hd).2, (hv d hd).2⟩
    simp only [hpS, hpN]
    refine sumL_N nd (fun d hd => ?_)
    rw [hpS_N hn hu hv k pp (by omega), hpS_N hn hu hv k (pp - 1) (by omega), scS_N]
    have h1 := hu d hd
    have h2 := hv d hd
    have b1 := hpN_b hb hn (show k ≤ 8 by omega) pp
    have b2 := hpN_b hb hn (show k ≤ 8 by omega) (pp - 1)
    have b3 := pow58 hn (show k ≤ 8 by omega)
    have b4 : un d * nd ^ k ≤ 90 * 390625 := Nat.mul_le_mul h1.2 b3
    have b5 : vn d * nd ^ k ≤ 90 * 390625 := Nat.mul_le_mul h2.2 b3
    unfold bestS bestN
    rw [bnS_N h1.1 (by omega), h2.1, bpS_N (by omega)]
    split
    · exact maxL_N (by omega) (by omega)
    · rfl
/-- whole numbers out of the class's cells -/
def unX (σ : vSg) (a d : Nat) : Nat := 10 * toN (σ (20 + d) 0) - fearN (toN (σ 8 a)) (toN (σ (20 + d) 1)) (toN (σ (20 + d) 2))
def vnX (σ : vSg) (d : Nat) : Nat := 10 * toN (σ (20 + d) 0)
theorem IX_uv {σ : vSg} {nd ns nr : Nat} (h : IX σ nd ns nr) {a : Nat} (ha : a < ns) : (∀ d, d < nd → (if 0 < uvX σ a d then uvX σ a d else 0) = nI (unX σ a d) ∧ unX σ a d ≤ 90) ∧ (∀ d, d < nd → pvX σ d = nI (vnX σ d) ∧ vnX σ d ≤ 90) := by
  obtain ⟨-, -, hdd, hkp, -⟩ := h
  have hk := isB_toN (b := 3) (hkp a ha).1 (by omega)
  refine ⟨fun d hd => ?_, fun d hd => ?_⟩
  · have h0 := isB_toN (b := 10) (hdd d hd 0 (by omega)) (by omega)
    have h1 := isB_toN (b := 10) (hdd d hd 1 (by omega)) (by omega)
    have h2 := isB_toN (b := 10) (hdd d hd 2 (by omega)) (by omega)
    have e : uvX σ a d = nI (10 * toN (σ (20 + d) 0)) - nI (fearN (toN (σ 8 a)) (toN (σ (20 + d) 1)) (toN (σ (20 + d) 2))) := by
      unfold uvX
      rw [show valS (σ 8 a) (σ (20 + d) 0) (σ (20 + d) 1) (σ (20 + d) 2) = valS (nI (toN (σ 8 a))) (nI (toN (σ (20 + d) 0))) (nI (toN (σ (20 + d) 1))) (nI (toN (σ (20 + d) 2))) by rw [← hk.2, ← h0.2, ← h1.2, ← h2.2]]
      exact valS_N hk.1
    have := fearN_le (k := toN (σ 8 a)) h1.1 h2.1
    rw [e]
    unfold unX
    refine ⟨un_ok (by omega) (by omega), by omega⟩
  · have h0 := isB_toN (b := 10) (hdd d hd 0 (by omega)) (by omega)
    unfold vnX
    refine ⟨?_, by omega⟩
    unfold pvX
    rw [show 10 * σ (20 + d) 0 = nI 10 * nI (toN (σ (20 + d) 0)) by rw [← h0.2]; rfl]
    exact pk_mul 10 _
theorem hpX_N {σ : vSg} {nd ns nr : Nat} (h : IX σ nd ns nr) {a : Nat} (ha : a < ns) {k : Nat} (hk : k ≤ 8) (pp : Nat) : hpS nd (uvX σ a) (pvX σ) k pp = lN (hpN nd (unX σ a) (vnX σ) k pp) := hpS_N h.1.2 (IX_uv h ha).1 (IX_uv h ha).2 k pp hk
theorem IX_b {σ : vSg} {nd ns nr : Nat} (h : IX σ nd ns nr) {a : Nat} (ha : a < ns) : ∀ d, d < nd → unX σ a d ≤ 90 ∧ vnX σ d ≤ 90 := fun d hd => ⟨((IX_uv h ha).1 d hd).2, ((IX_uv h ha).2 d hd).2⟩
theorem sh_b {nd k x : Nat} (hn : nd ≤ 5) (hk : k ≤ 8) (h0 : 0 < nd) (hx : x ≤ 281250000) : x < 2 ^ 62 ∧ nd ^ k < 2 ^ 62 ∧ x * nd ^ k < 2 ^ 120 ∧ 0 < nd ^ k := by
  have h1 := pow58 hn hk
  have h2 : x * nd ^ k ≤ 281250000 * 390625 := Nat.mul_le_mul hx h1
  exact ⟨by omega, by omega, by omega, Nat.pow_pos h0⟩
noncomputable def hopeS (ns : Int32) (nd : Nat) (u : Nat → Nat → Nat) (v : Nat → Nat) (a n pp which : Int32) : Int64 := cif (isB a ns) (cif (isB n 9) (cif (isB pp 4) (cif (isB which 2) (lN (shN (hpN nd (u (toN a)) v (toN n) (toN pp)) (nd ^ toN n) which)) LOST9) LOST9) LOST9) LOST9
def useP (nd : Nat) (u v : Nat → Nat) (n pp d : Nat) : Prop := u d * nd ^ n + hpN nd u v n pp < v d * nd ^ n + hpN nd u v n (pp - 1)
noncomputable def usesS (ns : Int32) (nd : Nat) (u : Nat → Nat → Nat) (v : Nat → Nat) (a n pp : Int32) : Int32 := cif (isB a ns) (cif (n < 1) (-2) (cif (8 < n) (-2) (cif (pp < 1) (-2) (cif (pp ≤ 3) (setS (useP nd (u (toN a)) v (toN n - 1) (toN pp)) nd) (-2))))) (-1)
def buyP (nd n : Nat) (u : Nat → Nat → Nat) (v : Nat → Nat) (price : Int32) (a : Nat) : Prop := ¬ lN (hpN nd (u a) v n 1) - lN (hpN nd (u a) v n 0) < price.toInt64 * lN (nd ^ n)
noncomputable def buyS (ns nd n : Nat) (u : Nat → Nat → Nat) (v : Nat → Nat) (price : Int32) : Int32 := setS (buyP nd n u v price) ns
noncomputable def buyersS (ns nd : Nat) (u : Nat → Nat → Nat) (v : Nat → Nat) (price n : Int32) : Int32 := cif (isB price 100) (cif (isB n 9) (cif (0 < nI ns) (buyS ns nd (toN n) u v price) (-3)) (-2)) (-2)
theorem hdX6_hope : yX6_hope.cls = RX6 ∧ yX6_hope.cls ≠ "java/lang/invoke/MethodHandle" ∧ yX6_hope.cls ≠ "java/lang/invoke/VarHandle" ∧ (parseMethodDescriptor yX6_hope.desc).map (fun d => d.parameters.length) = some 4 := by decide +kernel
set_option maxHeartbeats 4000000 in
set_option maxRecDepth 100000 in
theorem kX6_hope (l : Launch) (D : va_G) (cs : Nat → ClassId) (ad : Nat → Nat) (N kt : Nat) (hN : 58 ≤ N) (σ : vSg) (τ : vTa) (a : Int32) (n : Int32) (pp : Int32) (which : Int32) (nd : Nat) (ns : Nat) (nr : Nat)   (hI : IX σ nd ns nr) : CtL l yX6_hope wsX6_hope ({ frames := 5, cells := 0, slots := 0, locals := 124 }) D cs ad N (shP kt) [.ref (ad (0)), .int a, .int n, .int pp, .int which] σ τ 0 0 (fun r9 σ9 τ9 => hopeS (nI ns) nd (unX σ) (vnX σ) a n pp which = r9 ∧ σ = σ9) := by
  refine ct_L (cc := cX6_hope) (maxL := 5) (by decide) rfl (Nat.le_of_ble_eq_true rfl) rfl rfl ?_
  intro p e s m args below meth c A X hr hlk
  obtain ⟨⟨hnd, hnd5⟩, ⟨hns, hns4⟩, hdd, hkp, ⟨hnr, hnr8⟩, hrd, hrw, hpos⟩ := id hI
  refine go_aload_n X dX6_hope_0 0 rfl rfl ?_
  refine go_getr X (n := 0) (j := 1) (by omega) rfl rfl (fun _ h9 => List.mem_cons_of_mem _ (List.mem_append_left _ (List.mem_append_left _ (List.mem_append_right _ h9)))) (by decide) (List.mem_cons_of_mem _ (List.mem_append_left _ (List.mem_append_left _ (List.mem_append_left _ (List.mem_append_left _ (List.mem_of_getElem? (i := 0) rfl)))))) rfl dX6_hope_1 ?_
  refine go_iload_n X dX6_hope_4 1 rfl rfl ?_
  refine go_callVI X (n := 2) (As := [.int a]) (rest := []) (kX2_hasSubject l D cs ad N kt (by omega) σ τ a (nI ns) (hns)) gX6_hope_X2_hasSubject rfl hdX2_hasSubject ⟨rfl, rfl, by decide, by decide, by decide, by decide⟩ (by omega) rfl rfl rfl rfl (Nat.le_of_ble_eq_true rfl) dX6_hope_5 (fun r9 σ9 τ9 h9 => ?_)
  obtain ⟨rfl, rfl, rfl⟩ := h9
  refine go_ifb_ne X (tgt := 15) dX6_hope_8 (by decide) (fun c8 => ?_) (fun c8 => ?_)
  · skip
    obtain ⟨i, hi, rfl⟩ := isB_nat c8 (by omega)
    refine go_iload_n X dX6_hope_15 2 rfl rfl ?_
    refine go_bipush X (v := 9) dX6_hope_16 (by decide) ?_
    refine go_callSI X (As := [.int n, .int 9]) (rest := []) (kX6_isBelow l D cs ad N kt (by omega) σ τ n 9) gX6_hope_X6_isBelow rfl hdX6_isBelow ⟨rfl, rfl, by decide, by decide, by decide, by decide⟩ rfl rfl (Nat.le_of_ble_eq_true rfl) dX6_hope_18 (fun r9 σ9 τ9 h9 => ?_)
    obtain ⟨rfl, rfl, rfl⟩ := h9
    refine go_ifb_eq X (tgt := 41) dX6_hope_21 (by decide) (fun c21 => ?_) (fun c21 => ?_)
    · skip
      refine go_ldc2 X (v := (-9223372036854775808)) (List.mem_cons_of_mem _ (List.mem_append_left _ (List.mem_append_left _ (List.mem_append_left _ (List.mem_append_left _ (List.mem_of_getElem? (i := 1) rfl)))))) dX6_hope_41 ?_
      exact go_lreturn X hr hlk dX6_hope_44 ((have hE : hopeS (nI ns) nd (unX σ) (vnX σ) (nI i) n pp which = (-9223372036854775808) := (by unfold hopeS; (try dsimp only); (try rw [toN_nI (k := i) (by omega)]); exact (cif_t c8).trans ((cif_f c21).trans (rfl))); ⟨hE, rfl⟩))
    · skip
      obtain ⟨nn, hnn, rfl⟩ := isB_nat (b := 9) c21 (by omega)
      refine go_iload_n X dX6_hope_24 3 rfl rfl ?_
      refine go_iconst X (v := 4) dX6_hope_25 (by decide) ?_
      refine go_callSI X (As := [.int pp, .int 4]) (rest := []) (kX6_isBelow l D cs ad N kt (by omega) σ τ pp 4) gX6_hope_X6_isBelow rfl hdX6_isBelow ⟨rfl, rfl, by decide, by decide, by decide, by decide⟩ rfl rfl (Nat.le_of_ble_eq_true rfl) dX6_hope_26 (fun r9 σ9 τ9 h9 => ?_)
      obtain ⟨rfl, rfl, rfl⟩ := h9
      refine go_ifb_eq X (tgt := 41) dX6_hope_29 (by decide) (fun c29 => ?_) (fun c29 => ?_)
      · skip
        refine go_ldc2 X (v := (-9223372036854775808)) (List.mem_cons_of_mem _ (List.mem_append_left _ (List.mem_append_left _ (List.mem_append_left _ (List.mem_append_left _ (List.mem_of_getElem? (i := 1) rfl)))))) dX6_hope_41 ?_
        exact go_lreturn X hr hlk dX6_hope_44 ((have hE : hopeS (nI ns) nd (unX σ) (vnX σ) (nI i) (nI nn) pp which = (-9223372036854775808) := (by unfold hopeS; (try dsimp only); (try rw [toN_nI (k := i) (by omega)]); (try rw [toN_nI (k := nn) (by omega)]); exact (cif_t c8).trans ((cif_t c21).trans ((cif_f c29).trans (rfl)))); ⟨hE, rfl⟩))
      · skip
        obtain ⟨qq, hqq, rfl⟩ := isB_nat (b := 4) c29 (by omega)
        refine go_iload X dX6_hope_32 4 rfl ?_
        refine go_iconst X (v := 2) dX6_hope_34 (by decide) ?_
        refine go_callSI X (As := [.int which, .int 2]) (rest := []) (kX6_isBelow l D cs ad N kt (by omega) σ τ which 2) gX6_hope_X6_isBelow rfl hdX6_isBelow ⟨rfl, rfl, by decide, by decide, by decide, by decide⟩ rfl rfl (Nat.le_of_ble_eq_true rfl) dX6_hope_35 (fun r9 σ9 τ9 h9 => ?_)
        obtain ⟨rfl, rfl, rfl⟩ := h9
        refine go_ifb_ne X (tgt := 45) dX6_hope_38 (by decide) (fun c38 => ?_) (fun c38 => ?_)
        · skip
          refine go_aload_n X dX6_hope_45 0 rfl rfl ?_
          refine go_getr X (n := 0) (j := 3) (by omega) rfl rfl (fun _ h9 => List.mem_cons_of_mem _ (List.mem_append_left _ (List.mem_append_left _ (List.mem_append_right _ h9)))) (by decide) (List.mem_cons_of_mem _ (List.mem_append_left _ (List.mem_append_left _ (List.mem_append_left _ (List.mem_append_left _ (List.mem_of_getElem? (i := 2) rfl)))))) rfl dX6_hope_46 ?_
          refine go_aload_n X dX6_hope_49 0 rfl rfl ?_
          refine go_getr X (n := 0) (j := 1) (by omega) rfl rfl (fun _ h9 => List.mem_cons_of_mem _ (List.mem_append_left _ (List.mem_append_left _ (List.mem_append_right _ h9)))) (by decide) (List.mem_cons_of_mem _ (List.mem_append_left _ (List.mem_append_left _ (List.mem_append_left _ (List.mem_append_left _ (List.mem_of_getElem? (i := 0) rfl)))))) rfl dX6_hope_50 ?_
          refine go_iload_n X dX6_hope_53 1 rfl rfl ?_
          refine go_iload_n X dX6_hope_54 2 rfl rfl ?_
          refine go_callVV X (n := 4) (As := [.ref (ad (2)), .int (nI i), .int (nI nn)]) (rest := []) (kX0_lookAhead l D cs ad N kt (by omega) σ τ i nn nd (by omega) (by omega) (by omega) (by omega)) gX6_hope_X0_lookAhead rfl hdX0_lookAhead ⟨rfl, rfl, by decide, by decide, by decide, by decide⟩ (by omega) rfl rfl rfl rfl (Nat.le_of_ble_eq_true rfl) dX6_hope_55 (fun σ1z τ1z h1z => ?_)
          obtain ⟨rfl, hτ1z⟩ := h1z
          refine go_aload_n X dX6_hope_58 0 rfl rfl ?_
          refine go_getr X (n := 0) (j := 3) (by omega) rfl rfl (fun _ h9 => List.mem_cons_of_mem _ (List.mem_append_left _ (List.mem_append_left _ (List.mem_append_right _ h9)))) (by decide) (List.mem_cons_of_mem _ (List.mem_append_left _ (List.mem_append_left _ (List.mem_append_left _ (List.mem_append_left _ (List.mem_of_getElem? (i := 2) rfl)))))) rfl dX6_hope_59 ?_
          refine go_getr X (n := 4) (j := 0) (by omega) rfl rfl (fun _ h9 => List.mem_cons_of_mem _ (List.mem_append_left _ (List.mem_append_right _ h9))) (by decide) (List.mem_cons_of_mem _ (List.mem_append_left _ (List.mem_append_left _ (List.mem_append_left _ (List.mem_append_left _ (List.mem_of_getElem? (i := 3) rfl)))))) rfl dX6_hope_62 ?_
          refine go_iload_n X dX6_hope_65 2 rfl rfl ?_
          refine go_aald5 X (n := 35) (k := nn) (by omega) rfl rfl (by omega) (by omega) dX6_hope_66 ?_
          refine go_iload_n X dX6_hope_67 3 rfl rfl ?_
          refine go_lald X (n := 25 + nn) (k := qq) (by omega) (sh_hope (by omega)) rfl (by omega) (by omega) dX6_hope_68 ?_
          refine go_topl (v := lN (hpN nd (unX σ i) (vnX σ) nn qq)) (((hτ1z.2 nn (by omega)).2 qq (by omega)).trans (hpX_N hI (by omega) (by omega) qq)) ?_
          refine go_aload_n X dX6_hope_69 0 rfl rfl ?_
          refine go_getr X (n := 0) (j := 3) (by omega) rfl rfl (fun _ h9 => List.mem_cons_of_mem _ (List.mem_append_left _ (List.mem_append_left _ (List.mem_append_right _ h9)))) (by decide) (List.mem_cons_of_mem _ (List.mem_append_left _ (List.mem_append_left _ (List.mem_append_left _ (List.mem_append_left _ (List.mem_of_getElem? (i := 2) rfl)))))) rfl dX6_hope_70 ?_
          refine go_getr X (n := 4) (j := 1) (by omega) rfl rfl (fun _ h9 => List.mem_cons_of_mem _ (List.mem_append_left _ (List.mem_append_right _ h9))) (by decide) (List.mem_cons_of_mem _ (List.mem_append_left _ (List.mem_append_left _ (List.mem_append_left _ (List.mem_append_left _ (List.mem_of_getElem? (i := 4) rfl)))))) rfl dX6_hope_73 ?_
          refine go_iload_n X dX6_hope_76 2 rfl rfl ?_
          refine go_lald X (n := 36) (k := nn) (by omega) rfl rfl (by omega) (by omega) dX6_hope_77 ?_
          refine go_topl (v := lN (nd ^ nn)) ((hτ1z.2 nn (by omega)).1.trans (scS_N nd nn)) ?_
          refine go_iload X dX6_hope_78 4 rfl ?_
          have hb9 := sh_b hnd5 (show nn ≤ 8 by omega) (hpos (by omega)) (hpN_b (IX_b hI (show i < ns by omega)) hnd5 (show nn ≤ 8 by omega) qq)
          refine go_callSL X (As := [.long (lN (hpN nd (unX σ i) (vnX σ) nn qq)), .long (lN (nd ^ nn)), .int which]) (rest := []) (kX6_inLeastTerms l D cs ad N kt (by omega) σ τ1z (hpN nd (unX σ i) (vnX σ) nn qq) (nd ^ nn) which hb9.1 hb9.2.1 hb9.2.2.1 hb9.2.2.2) gX6_hope_X6_inLeastTerms rfl hdX6_inLeastTerms ⟨rfl, rfl, by decide, by decide, by decide, by decide⟩ rfl rfl (Nat.le_of_ble_eq_true rfl) dX6_hope_80 (fun r9 σ9 τ9 h9 => ?_)
          obtain ⟨rfl, rfl, rfl⟩ := h9
          exact go_lreturn X hr hlk dX6_hope_83 ((have hE : hopeS (nI ns) nd (unX σ) (vnX σ) (nI i) (nI nn) (nI qq) which = lN (shN (hpN nd (unX σ i) (vnX σ) nn qq) (nd ^ nn) which) := (by unfold hopeS; (try dsimp only); (try rw [toN_nI (k := i) (by omega)]); (try rw [toN_nI (k := nn) (by omega)]); (try rw [toN_nI (k := qq) (by omega)]); exact (cif_t c8).trans ((cif_t c21).trans ((cif_t c29).trans ((cif_t c38).trans (rfl))))); ⟨hE, rfl⟩))
        · skip
          refine go_ldc2 X (v := (-9223372036854775808)) (List.mem_cons_of_mem _ (List.mem_append_left _ (List.mem_append_left _ (List.mem_append_left _ (List.mem_append_left _ (List.mem_of_getElem? (i := 1) rfl)))))) dX6_hope_41 ?_
          exact go_lreturn X hr hlk dX6_hope_44 ((have hE : hopeS (nI ns) nd (unX σ) (vnX σ) (nI i) (nI nn) (nI qq) which = (-9223372036854775808) := (by unfold hopeS; (try dsimp only); (try rw [toN_nI (k := i) (by omega)]); (try rw [toN_nI (k := nn) (by omega)]); (try rw [toN_nI (k := qq) (by omega)]); exact (cif_t c8).trans ((cif_t c21).trans ((cif_t c29).trans ((cif_f c38).trans (rfl))))); ⟨hE, rfl⟩))
  · skip
    refine go_ldc2 X (v := (-9223372036854775808)) (List.mem_cons_of_mem _ (List.mem_append_left _ (List.mem_append_left _ (List.mem_append_left _ (List.mem_append_left _ (List.mem_of_getElem? (i := 1) rfl)))))) dX6_hope_11 ?_
    exact go_lreturn X hr hlk dX6_hope_14 ((have hE : hopeS (nI ns) nd (unX σ) (vnX σ) a n pp which = (-9223372036854775808) := (by unfold hopeS; (try dsimp only); exact (cif_f c8).trans (rfl)); ⟨hE, rfl⟩))

