/-! the cells of the class (0 .. 37), of the reference (38 .. 57), a text (58) -/
def shA : List vSh := [.inl (6, [some 1, some 2, some 3, some 4, some 5, some 6, none, none]), .inr (3, 4, fun i => 12 + i), .inl (2, [some 7, some 8, some 9, none, none]), .inl (1, [some 10, some 11, some 34, none]), .inl (0, [some 35, some 36]), .inl (5, [some 37, none, none, none]), .inr (2, 4, fun _ => 0), .inr (4, 5, fun i => 20 + i), .inr (0, 4, fun _ => 0), .inr (0, 4, fun _ => 0), .inr (0, 8, fun _ => 0), .inr (0, 8, fun _ => 0), .inl (3, [some 16, none, none, none]), .inl (3, [some 17, none, none, none]), .inl (3, [some 18, none, none, none]), .inl (3, [some 19, none, none, none]), .inr (0, 60, fun _ => 0), .inr (0, 60, fun _ => 0), .inr (0, 60, fun _ => 0), .inr (0, 60, fun _ => 0), .inr (0, 3, fun _ => 0), .inr (0, 3, fun _ => 0), .inr (0, 3, fun _ => 0), .inr (0, 3, fun _ => 0), .inr (0, 3, fun _ => 0), .inr (2, 4, fun _ => 0), .inr (2, 4, fun _ => 0), .inr (2, 4, fun _ => 0), .inr (2, 4, fun _ => 0), .inr (2, 4, fun _ => 0), .inr (2, 4, fun _ => 0), .inr (2, 4, fun _ => 0), .inr (2, 4, fun _ => 0), .inr (2, 4, fun _ => 0), .inr (1, 8, fun _ => 0), .inr (5, 9, fun i => 25 + i), .inr (2, 9, fun _ => 0), .inr (0, 4, fun _ => 0), .inl (7, [none, none, some 39, some 40, some 41, none, some 42, some 43, none, none, none, some 44, some 45, some 46, some 47, some 48, none, none, none, some 49, some 50, none, some 51, some 52, some 53, some 54, some 55, some 56, some 57, none]), .inr (0, 5, fun _ => 0), .inr (0, 5, fun _ => 0), .inr (0, 5, fun _ => 0), .inr (0, 4, fun _ => 0), .inr (0, 4, fun _ => 0), .inr (0, 5, fun _ => 0), .inr (0, 5, fun _ => 0), .inr (0, 5, fun _ => 0), .inr (0, 4, fun _ => 0), .inr (0, 4, fun _ => 0), .inr (0, 4, fun _ => 0), .inr (2, 36, fun _ => 0), .inr (0, 8, fun _ => 0), .inr (0, 8, fun _ => 0), .inr (1, 8, fun _ => 0), .inr (0, 4, fun _ => 0), .inr (0, 4, fun _ => 0), .inr (0, 240, fun _ => 0), .inr (0, 60, fun _ => 0)]
def shL (kt : Nat) : List vSh := shA ++ [.inl (4, [some (12 + kt), none, none, none, none])]
def shP (kt : Nat) : Nat → vSh := fun n => (shL kt).getD n (.inr (0, 0, fun _ => 0))
theorem sh_row {kt k : Nat} (h : k < 4) : shP kt (12 + k) = .inl (3, [some (16 + k), none, none, none]) := match k, h with
  | 0, _ => rfl
  | 1, _ => rfl
  | 2, _ => rfl
  | 3, _ => rfl
  | n + 4, h => absurd h (by omega)
theorem sh_cells {kt k : Nat} (h : k < 4) : shP kt (16 + k) = .inr (0, 60, fun _ => 0) := match k, h with
  | 0, _ => rfl
  | 1, _ => rfl
  | 2, _ => rfl
  | 3, _ => rfl
  | n + 4, h => absurd h (by omega)
theorem sh_deed {kt k : Nat} (h : k < 5) : shP kt (20 + k) = .inr (0, 3, fun _ => 0) := match k, h with
  | 0, _ => rfl
  | 1, _ => rfl
  | 2, _ => rfl
  | 3, _ => rfl
  | 4, _ => rfl
  | n + 5, h => absurd h (by omega)
theorem sh_hope {kt k : Nat} (h : k < 9) : shP kt (25 + k) = .inr (2, 4, fun _ => 0) := match k, h with
  | 0, _ => rfl
  | 1, _ => rfl
  | 2, _ => rfl
  | 3, _ => rfl
  | 4, _ => rfl
  | 5, _ => rfl
  | 6, _ => rfl
  | 7, _ => rfl
  | 8, _ => rfl
  | n + 9, h => absurd h (by omega)
theorem shP_kt {kt k2 n : Nat} (h : n < 58) : shP kt n = shP k2 n := by
  have hl : shA.length = 58 := rfl
  simp only [shP, shL, List.getD_eq_getElem?_getD]
  rw [List.getElem?_append_left (by omega), List.getElem?_append_left (by omega)]
noncomputable def b2i (P : Prop) : Int32 := @ite _ P (Classical.propDecidable P) 1 0
theorem b2i_z (P : Prop) : b2i P = 0 ∨ b2i P = 1 := by unfold b2i; split <;> simp
theorem b2i_t {P : Prop} (h : P) : b2i P = 1 := if_pos h
theorem b2i_f {P : Prop} (h : ¬ P) : b2i P = 0 := if_neg h
theorem b2i_c {P Q : Prop} (h : P ↔ Q) : b2i P = b2i Q := by rw [propext h]
theorem b2i_1 {P : Prop} : b2i P = 1 ↔ P := ⟨fun h => Classical.byContradiction fun q => by rw [b2i_f q] at h; exact absurd h (by decide), b2i_t⟩
theorem b2i_0 {P : Prop} : b2i P = 0 ↔ ¬ P := ⟨fun h q => by rw [b2i_t q] at h; exact absurd h (by decide), b2i_f⟩
/-- 0 ≤ v < b -/
abbrev isB (v b : Int32) : Prop := 0 ≤ v ∧ v < b
theorem isB_nat {v : Int32} {b : Nat} (h : isB v (nI b)) (hb : b < 2 ^ 31) : ∃ k : Nat, k < b ∧ v = nI k := by
  have h0 : ¬ v < 0 := by
    intro h9
    have h1 := h.1
    rw [Int32.le_iff_toInt_le] at h1
    rw [Int32.lt_iff_toInt_lt] at h9
    omega
  obtain ⟨j, hj, rfl⟩ := nI_of h0
  exact ⟨j, (nI_ltI hj hb).mp h.2, rfl⟩
theorem isB_nI {k b : Nat} (h : k < b) (hb : b < 2 ^ 31) : isB (nI k) (nI b) := ⟨nI_pos' (by omega), nI_lt h hb⟩
theorem isB_iff {k b : Nat} (hk : k < 2 ^ 31) (hb : b < 2 ^ 31) : isB (nI k) (nI b) ↔ k < b := ⟨fun q => (nI_ltI hk hb).mp q.2, fun h => isB_nI h hb⟩
section GB
variable {p : Program} {l : Launch} {e : Env} {R : Room} {s : State} {m : MethodId} {args : Array Value} {below : List Frame} {meth : Method} {c : Code} {cells slots : Nat} {Q : State → Prop} {D : va_G} {cs : Nat → ClassId} {A : Nat → Prop} {ad : Nat → Nat} {N : Nat} {sh : Nat → vSh} {nL : Nat} {σ : vSg} {τ : vTa} {cc : ByteArray} {Ts : List Cond} {own : String} {pc : Nat} {lv lv2 : List (Nat × Value)} {rest : List Value}
theorem go_ifb_ne (X : Cx p m c cc nL s args Ts own D cs A ad N) {P : Prop} {off : Int} {tgt : Nat} (hdg : decode cc pc = .ok (.ifCond .ne off, 3)) (ht : (pc : Int) + off = (tgt : Int)) (kt : P → Go p l e R s m args below meth c cells slots Q D cs A ad N sh nL σ τ (tgt) lv (rest)) (kf : ¬ P → Go p l e R s m args below meth c cells slots Q D cs A ad N sh nL σ τ (pc + 3) lv (rest)) : Go p l e R s m args below meth c cells slots Q D cs A ad N sh nL σ τ (pc) lv (.int (b2i P) :: rest) := go_if_ne X hdg ht (fun h => kt (Classical.byContradiction fun q => h (b2i_f q))) (fun h => kf (fun q => by rw [b2i_t q] at h; exact absurd h (by decide)))
theorem go_ifb_eq (X : Cx p m c cc nL s args Ts own D cs A ad N) {P : Prop} {off : Int} {tgt : Nat} (hdg : decode cc pc = .ok (.ifCond .eq off, 3)) (ht : (pc : Int) + off = (tgt : Int)) (kt : ¬ P → Go p l e R s m args below meth c cells slots Q D cs A ad N sh nL σ τ (tgt) lv (rest)) (kf : P → Go p l e R s m args below meth c cells slots Q D cs A ad N sh nL σ τ (pc + 3) lv (rest)) : Go p l e R s m args below meth c cells slots Q D cs A ad N sh nL σ τ (pc) lv (.int (b2i P) :: rest) := go_if_eq X hdg ht (fun h => kt (fun q => by rw [b2i_t q] at h; exact absurd h (by decide))) (fun h => kf (Classical.byContradiction fun q => h (b2i_f q)))
theorem go_icmpn_eq (X : Cx p m c cc nL s args Ts own D cs A ad N) {x y : Int32} {a b : Nat} {off : Int} {tgt : Nat} (hdg : decode cc pc = .ok (.if_icmp .eq off, 3)) (ht : (pc : Int) + off = (tgt : Int)) (hx : x = nI a) (hy : y = nI b) (ha : a < 2 ^ 31) (hb : b < 2 ^ 31) (kt : a = b → Go p l e R s m args below meth c cells slots Q D cs A ad N sh nL σ τ (tgt) lv (rest)) (kf : ¬ a = b → Go p l e R s m args below meth c cells slots Q D cs A ad N sh nL σ τ (pc + 3) lv (rest)) : Go p l e R s m args below meth c cells slots Q D cs A ad N sh nL σ τ (pc) lv (.int y :: .int x :: rest) := by
  subst hx; subst hy
  exact go_icmp_eq X hdg ht (fun h => kt ((nI_eq ha hb).mp h)) (fun h => kf (fun q => h ((nI_eq ha hb).mpr q)))
theorem go_icmpn_ne (X : Cx p m c cc nL s args Ts own D cs A ad N) {x y : Int32} {a b : Nat} {off : Int} {tgt : Nat} (hdg : decode cc pc = .ok (.if_icmp .ne off, 3)) (ht : (pc : Int) + off = (tgt : Int)) (hx : x = nI a) (hy : y = nI b) (ha : a < 2 ^ 31) (hb : b < 2 ^ 31) (kt : ¬ a = b → Go p l e R s m args below meth c cells slots Q D cs A ad N sh nL σ τ (tgt) lv (rest)) (kf : a = b → Go p l e R s m args below meth c cells slots Q D cs A ad N sh nL σ τ (pc + 3) lv (rest)) : Go p l e R s m args below meth c cells slots Q D cs A ad N sh nL σ τ (pc) lv (.int y :: .int x :: rest) := by
  subst hx; subst hy
  exact go_icmp_ne X hdg ht (fun h => kt (fun q => h ((nI_eq ha hb).mpr q))) (fun h => kf ((nI_eq ha hb).mp h))
theorem go_icmpn_lt (X : Cx p m c cc nL s args Ts own D cs A ad N) {x y : Int32} {a b : Nat} {off : Int} {tgt : Nat} (hdg : decode cc pc = .ok (.if_icmp .lt off, 3)) (ht : (pc : Int) + off = (tgt : Int)) (hx : x = nI a) (hy : y = nI b) (ha : a < 2 ^ 31) (hb : b < 2 ^ 31) (kt : a < b → Go p l e R s m args below meth c cells slots Q D cs A ad N sh nL σ τ (tgt) lv (rest)) (kf : b ≤ a → Go p l e R s m args below meth c cells slots Q D cs A ad N sh nL σ τ (pc + 3) lv (rest)) : Go p l e R s m args below meth c cells slots Q D cs A ad N sh nL σ τ (pc) lv (.int y :: .int x :: rest) := by
  subst hx; subst hy
  exact go_icmp_lt X hdg ht (fun h => kt ((nI_ltI ha hb).mp h)) (fun h => kf (Nat.not_lt.mp (fun q => h ((nI_ltI ha hb).mpr q))))
theorem go_icmpn_ge (X : Cx p m c cc nL s args Ts own D cs A ad N) {x y : Int32} {a b : Nat} {off : Int} {tgt : Nat} (hdg : decode cc pc = .ok (.if_icmp .ge off, 3)) (ht : (pc : Int) + off = (tgt : Int)) (hx : x = nI a) (hy : y = nI b) (ha : a < 2 ^ 31) (hb : b < 2 ^ 31) (kt : b ≤ a → Go p l e R s m args below meth c cells slots Q D cs A ad N sh nL σ τ (tgt) lv (rest)) (kf : a < b → Go p l e R s m args below meth c cells slots Q D cs A ad N sh nL σ τ (pc + 3) lv (rest)) : Go p l e R s m args below meth c cells slots Q D cs A ad N sh nL σ τ (pc) lv (.int y :: .int x :: rest) := by
  subst hx; subst hy
  exact go_icmp_ge X hdg ht (fun h => kt ((nI_leI hb ha).mp h)) (fun h => kf (Nat.not_le.mp (fun q => h ((nI_leI hb ha).mpr q))))
theorem go_icmpn_gt (X : Cx p m c cc nL s args Ts own D cs A ad N) {x y : Int32} {a b : Nat} {off : Int} {tgt : Nat} (hdg : decode cc pc = .ok (.if_icmp .gt off, 3)) (ht : (pc : Int) + off = (tgt : Int)) (hx : x = nI a) (hy : y = nI b) (ha : a < 2 ^ 31) (hb : b < 2 ^ 31) (kt : b < a → Go p l e R s m args below meth c cells slots Q D cs A ad N sh nL σ τ (tgt) lv (rest)) (kf : a ≤ b → Go p l e R s m args below meth c cells slots Q D cs A ad N sh nL σ τ (pc + 3) lv (rest)) : Go p l e R s m args below meth c cells slots Q D cs A ad N sh nL σ τ (pc) lv (.int y :: .int x :: rest) := by
  subst hx; subst hy
  exact go_icmp_gt X hdg ht (fun h => kt ((nI_ltI hb ha).mp h)) (fun h => kf (Nat.not_lt.mp (fun q => h ((nI_ltI hb ha).mpr q))))
theorem go_icmpn_le (X : Cx p m c cc nL s args Ts own D cs A ad N) {x y : Int32} {a b : Nat} {off : Int} {tgt : Nat} (hdg : decode cc pc = .ok (.if_icmp .le off, 3)) (ht : (pc : Int) + off = (tgt : Int)) (hx : x = nI a) (hy : y = nI b) (ha : a < 2 ^ 31) (hb : b < 2 ^ 31) (kt : a ≤ b → Go p l e R s m args below meth c cells slots Q D cs A ad N sh nL σ τ (tgt) lv (rest)) (kf : b < a → Go p l e R s m args below meth c cells slots Q D cs A ad N sh nL σ τ (pc + 3) lv (rest)) : Go p l e R s m args below meth c cells slots Q D cs A ad N sh nL σ τ (pc) lv (.int y :: .int x :: rest) := by
  subst hx; subst hy
  exact go_icmp_le X hdg ht (fun h => kt ((nI_leI ha hb).mp h)) (fun h => kf (Nat.not_le.mp (fun q => h ((nI_leI ha hb).mpr q))))
theorem go_ifn_eq (X : Cx p m c cc nL s args Ts own D cs A ad N) {x : Int32} {a : Nat} {off : Int} {tgt : Nat} (hdg : decode cc pc = .ok (.ifCond .eq off, 3)) (ht : (pc : Int) + off = (tgt : Int)) (hx : x = nI a) (ha : a < 2 ^ 31) (kt : a = 0 → Go p l e R s m args below meth c cells slots Q D cs A ad N sh nL σ τ (tgt) lv (rest)) (kf : ¬ a = 0 → Go p l e R s m args below meth c cells slots Q D cs A ad N sh nL σ τ (pc + 3) lv (rest)) : Go p l e R s m args below meth c cells slots Q D cs A ad N sh nL σ τ (pc) lv (.int x :: rest) := by
  subst hx
  exact go_if_eq X hdg ht (fun h => kt ((nI_eq ha (by decide : 0 < 2 ^ 31)).mp h)) (fun h => kf (fun q => h ((nI_eq ha (by decide : 0 < 2 ^ 31)).mpr q)))
theorem go_ifn_ne (X : Cx p m c cc nL s args Ts own D cs A ad N) {x : Int32} {a : Nat} {off : Int} {tgt : Nat} (hdg : decode cc pc = .ok (.ifCond .ne off, 3)) (ht : (pc : Int) + off = (tgt : Int)) (hx : x = nI a) (ha : a < 2 ^ 31) (kt : ¬ a = 0 → Go p l e R s m args below meth c cells slots Q D cs A ad N sh nL σ τ (tgt) lv (rest)) (kf : a = 0 → Go p l e R s m args below meth c cells slots Q D cs A ad N sh nL σ τ (pc + 3) lv (rest)) : Go p l e R s m args below meth c cells slots Q D cs A ad N sh nL σ τ (pc) lv (.int x :: rest) := by
  subst hx
  exact go_if_ne X hdg ht (fun h => kt (fun q => h ((nI_eq ha (by decide : 0 < 2 ^ 31)).mpr q))) (fun h => kf ((nI_eq ha (by decide : 0 < 2 ^ 31)).mp h))
theorem go_ifn_le (X : Cx p m c cc nL s args Ts own D cs A ad N) {x : Int32} {a : Nat} {off : Int} {tgt : Nat} (hdg : decode cc pc = .ok (.ifCond .le off, 3)) (ht : (pc : Int) + off = (tgt : Int)) (hx : x = nI a) (ha : a < 2 ^ 31) (kt : a = 0 → Go p l e R s m args below meth c cells slots Q D cs A ad N sh nL σ τ (tgt) lv (rest)) (kf : 0 < a → Go p l e R s m args below meth c cells slots Q D cs A ad N sh nL σ τ (pc + 3) lv (rest)) : Go p l e R s m args below meth c cells slots Q D cs A ad N sh nL σ τ (pc) lv (.int x :: rest) := by
  subst hx
  exact go_if_le X hdg ht (fun h => kt (Nat.le_zero.mp ((nI_leI ha (by decide : 0 < 2 ^ 31)).mp h))) (fun h => kf (Nat.not_le.mp (fun q => h ((nI_leI ha (by decide : 0 < 2 ^ 31)).mpr q))))
theorem go_ifn_gt (X : Cx p m c cc nL s args Ts own D cs A ad N) {x : Int32} {a : Nat} {off : Int} {tgt : Nat} (hdg : decode cc pc = .ok (.ifCond .gt off, 3)) (ht : (pc : Int) + off = (tgt : Int)) (hx : x = nI a) (ha : a < 2 ^ 31) (kt : 0 < a → Go p l e R s m args below meth c cells slots Q D cs A ad N sh nL σ τ (tgt) lv (rest)) (kf : a = 0 → Go p l e R s m args below meth c cells slots Q D cs A ad N sh nL σ τ (pc + 3) lv (rest)) : Go p l e R s m args below meth c cells slots Q D cs A ad N sh nL σ τ (pc) lv (.int x :: rest) := by
  subst hx
  exact go_if_gt X hdg ht (fun h => kt ((nI_ltI (by decide : 0 < 2 ^ 31) ha).mp h)) (fun h => kf (Nat.le_zero.mp (Nat.not_lt.mp (fun q => h ((nI_ltI (by decide : 0 < 2 ^ 31) ha).mpr q)))))
theorem go_ifn_lt (X : Cx p m c cc nL s args Ts own D cs A ad N) {x : Int32} {a : Nat} {off : Int} {tgt : Nat} (hdg : decode cc pc = .ok (.ifCond .lt off, 3)) (ht : (pc : Int) + off = (tgt : Int)) (hx : x = nI a) (ha : a < 2 ^ 31) (kt : False → Go p l e R s m args below meth c cells slots Q D cs A ad N sh nL σ τ (tgt) lv (rest)) (kf : True → Go p l e R s m args below meth c cells slots Q D cs A ad N sh nL σ τ (pc + 3) lv (rest)) : Go p l e R s m args below meth c cells slots Q D cs A ad N sh nL σ τ (pc) lv (.int x :: rest) := by
  subst hx
  exact go_if_lt X hdg ht (fun h => kt (nI_pos ha h)) (fun h => kf trivial)
theorem go_ifn_ge (X : Cx p m c cc nL s args Ts own D cs A ad N) {x : Int32} {a : Nat} {off : Int} {tgt : Nat} (hdg : decode cc pc = .ok (.ifCond .ge off, 3)) (ht : (pc : Int) + off = (tgt : Int)) (hx : x = nI a) (ha : a < 2 ^ 31) (kt : True → Go p l e R s m args below meth c cells slots Q D cs A ad N sh nL σ τ (tgt) lv (rest)) (kf : False → Go p l e R s m args below meth c cells slots Q D cs A ad N sh nL σ τ (pc + 3) lv (rest)) : Go p l e R s m args below meth c cells slots Q D cs A ad N sh nL σ τ (pc) lv (.int x :: rest) := by
  subst hx
  exact go_if_ge X hdg ht (fun h => kt trivial) (fun h => kf (h (nI_pos' ha)))
theorem go_lcmp_eq (X : Cx p m c cc nL s args Ts own D cs A ad N) {x y : Int64} {off : Int} {tgt : Nat} (hdg : decode cc pc = .ok (.ifCond .eq off, 3)) (ht : (pc : Int) + off = (tgt : Int)) (kt : x = y → Go p l e R s m args below meth c cells slots Q D cs A ad N sh nL σ τ (tgt) lv (rest)) (kf : ¬ x = y → Go p l e R s m args below meth c cells slots Q D cs A ad N sh nL σ τ (pc + 3) lv (rest)) : Go p l e R s m args below meth c cells slots Q D cs A ad N sh nL σ τ (pc) lv (.int (lg_cmp x y) :: rest) := go_if_eq X hdg ht (fun h => kt ((lg_cmp_eq x y).mp h)) (fun h => kf (fun q => h ((lg_cmp_eq x y).mpr q)))
theorem go_lcmp_ne (X : Cx p m c cc nL s args Ts own D cs A ad N) {x y : Int64} {off : Int} {tgt : Nat} (hdg : decode cc pc = .ok (.ifCond .ne off, 3)) (ht : (pc : Int) + off = (tgt : Int)) (kt : ¬ x = y → Go p l e R s m args below meth c cells slots Q D cs A ad N sh nL σ τ (tgt) lv (rest)) (kf : x = y → Go p l e R s m args below meth c cells slots Q D cs A ad N sh nL σ τ (pc + 3) lv (rest)) : Go p l e R s m args below meth c cells slots Q D cs A ad N sh nL σ τ (pc) lv (.int (lg_cmp x y) :: rest) := go_if_ne X hdg ht (fun h => kt (fun q => h ((lg_cmp_eq x y).mpr q))) (fun h => kf ((lg_cmp_eq x y).mp h))
theorem go_lcmp_lt (X : Cx p m c cc nL s args Ts own D cs A ad N) {x y : Int64} {off : Int} {tgt : Nat} (hdg : decode cc pc = .ok (.ifCond .lt off, 3)) (ht : (pc : Int) + off = (tgt : Int)) (kt : x < y → Go p l e R s m args below meth c cells slots Q D cs A ad N sh nL σ τ (tgt) lv (rest)) (kf : ¬ x < y → Go p l e R s m args below meth c cells slots Q D cs A ad N sh nL σ τ (pc + 3) lv (rest)) : Go p l e R s m args below meth c cells slots Q D cs A ad N sh nL σ τ (pc) lv (.int (lg_cmp x y) :: rest) := go_if_lt X hdg ht (fun h => kt ((lg_cmp_lt x y).mp h)) (fun h => kf (fun q => h ((lg_cmp_lt x y).mpr q)))
theorem go_lcmp_ge (X : Cx p m c cc nL s args Ts own D cs A ad N) {x y : Int64} {off : Int} {tgt : Nat} (hdg : decode cc pc = .ok (.ifCond .ge off, 3)) (ht : (pc : Int) + off = (tgt : Int)) (kt : y ≤ x → Go p l e R s m args below meth c cells slots Q D cs A ad N sh nL σ τ (tgt) lv (rest)) (kf : ¬ y ≤ x → Go p l e R s m args below meth c cells slots Q D cs A ad N sh nL σ τ (pc + 3) lv (rest)) : Go p l e R s m args below meth c cells slots Q D cs A ad N sh nL σ τ (pc) lv (.int (lg_cmp x y) :: rest) := go_if_ge X hdg ht (fun h => kt ((lg_cmp_ge x y).mp h)) (fun h => kf (fun q => h ((lg_cmp_ge x y).mpr q)))
theorem go_lcmp_gt (X : Cx p m c cc nL s args Ts own D cs A ad N) {x y : Int64} {off : Int} {tgt : Nat} (hdg : decode cc pc = .ok (.ifCond .gt off, 3)) (ht : (pc : Int) + off = (tgt : Int)) (kt : y < x → Go p l e R s m args below meth c cells slots Q D cs A ad N sh nL σ τ (tgt) lv (rest)) (kf : ¬ y < x → Go p l e R s m args below meth c cells slots Q D cs A ad N sh nL σ τ (pc + 3) lv (rest)) : Go p l e R s m args below meth c cells slots Q D cs A ad N sh nL σ τ (pc) lv (.int (lg_cmp x y) :: rest) := go_if_gt X hdg ht (fun h => kt ((lg_cmp_gt x y).mp h)) (fun h => kf (fun q => h ((lg_cmp_gt x y).mpr q)))
theorem go_lcmp_le (X : Cx p m c cc nL s args Ts own D cs A ad N) {x y : Int64} {off : Int} {tgt : Nat} (hdg : decode cc pc = .ok (.ifCond .le off, 3)) (ht : (pc : Int) + off = (tgt : Int)) (kt : x ≤ y → Go p l e R s m args below meth c cells slots Q D cs A ad N sh nL σ τ (tgt) lv (rest)) (kf : ¬ x ≤ y → Go p l e R s m args below meth c cells slots Q D cs A ad N sh nL σ τ (pc + 3) lv (rest)) : Go p l e R s m args below meth c cells slots Q D cs A ad N sh nL σ τ (pc) lv (.int (lg_cmp x y) :: rest) := go_if_le X hdg ht (fun h => kt ((lg_cmp_le x y).mp h)) (fun h => kf (fun q => h ((lg_cmp_le x y).mpr q)))
theorem go_loop {ι : Type} (P : ι → Prop) (μ : ι → Nat) (Fs : ι → vSg) (Ft : ι → vTa) (Fl : ι → List (Nat × Value)) (Fr : ι → List Value) (i0 : ι) (h0 : P i0) (body : ∀ i, P i → (∀ j, P j → μ j < μ i → Go p l e R s m args below meth c cells slots Q D cs A ad N sh nL (Fs j) (Ft j) pc (Fl j) (Fr j)) → Go p l e R s m args below meth c cells slots Q D cs A ad N sh nL (Fs i) (Ft i) pc (Fl i) (Fr i)) : Go p l e R s m args below meth c cells slots Q D cs A ad N sh nL (Fs i0) (Ft i0) pc (Fl i0) (Fr i0) := by
  have key : ∀ (n : Nat) (i : ι), μ i < n → P i → Go p l e R s m args below meth c cells slots Q D cs A ad N sh nL (Fs i) (Ft i) pc (Fl i) (Fr i) := by
    intro n
    induction n with
    | zero => intro i h; exact absurd h (Nat.not_lt_zero _)
    | succ n ih => intro i h hi; exact body i hi (fun j hj hl => ih j (by omega) hj)
  exact key _ i0 (Nat.lt_succ_self _) h0
end GB
