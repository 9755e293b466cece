/-! what a text that is taken holds -/
theorem pSub_all {c : Nat → Int32} {n nd : Nat} (hd : nd ≤ 5) : ∀ (k a : Nat), a + k ≤ 4 → (pSub c n nd k a).1 = -1 → 0 < (pSub c n nd k a).2 ∧ (pSub c n nd k a).2 ≤ 4 ∧ ∀ b, a ≤ b → b < (pSub c n nd k a).2 → ¬ kndS (c (4 * nd + 3 * b + 2)) = -9 ∧ dg (c (4 * nd + 3 * b + 3)) 51
  | 0, a, hk, h => by
    show 0 < (pEnd n nd a).2 ∧ (pEnd n nd a).2 ≤ 4 ∧ ∀ b, a ≤ b → b < (pEnd n nd a).2 → _
    replace h : (pEnd n nd a).1 = -1 := h
    have ha : 0 < a := by
      by_cases h0 : 0 < a
      · exact h0
      · unfold pEnd at h
        rw [cif_f h0] at h
        exact absurd h (nI_nem1 (by omega))
    exact ⟨ha, by show a ≤ 4; omega, fun b h1 h2 => absurd (show b < a from h2) (by omega)⟩
  | k + 1, a, hk, h => by
    have hu : pSub c n nd (k + 1) a = cif (c (1 + 4 * nd + 3 * a) = 59) (cif (kndS (c (1 + 4 * nd + 3 * a + 1)) = -9) (nI (1 + 4 * nd + 3 * a + 1), a) (cif (dg (c (1 + 4 * nd + 3 * a + 2)) 51) (pSub c n nd k (a + 1)) (nI (1 + 4 * nd + 3 * a + 2), a))) (pEnd n nd a) := rfl
    by_cases c1 : c (1 + 4 * nd + 3 * a) = 59
    · by_cases c2 : kndS (c (1 + 4 * nd + 3 * a + 1)) = -9
      · rw [hu, cif_t c1, cif_t c2] at h
        exact absurd h (nI_nem1 (by omega))
      · by_cases c3 : dg (c (1 + 4 * nd + 3 * a + 2)) 51
        · have e : pSub c n nd (k + 1) a = pSub c n nd k (a + 1) := by rw [hu, cif_t c1, cif_f c2, cif_t c3]
          rw [e] at h ⊢
          obtain ⟨h1, h2, h3⟩ := pSub_all hd k (a + 1) (by omega) h
          refine ⟨h1, h2, fun b hb hs => ?_⟩
          by_cases hba : b = a
          · subst hba
            exact ⟨by rw [show 4 * nd + 3 * b + 2 = 1 + 4 * nd + 3 * b + 1 by omega]; exact c2, by rw [show 4 * nd + 3 * b + 3 = 1 + 4 * nd + 3 * b + 2 by omega]; exact c3⟩
          · exact h3 b (by omega) hs
        · rw [hu, cif_t c1, cif_f c2, cif_f c3] at h
          exact absurd h (nI_nem1 (by omega))
    · have e : pSub c n nd (k + 1) a = pSub c n nd 0 a := by rw [hu, cif_f c1]; rfl
      rw [e] at h ⊢
      exact pSub_all hd 0 a (by omega) h
theorem pAft_all {c : Nat → Int32} {n d : Nat} (hd : d ≤ 5) (h : (pAft c n d).1 = -1) : (pAft c n d).2.1 = d ∧ 0 < d ∧ 0 < (pAft c n d).2.2 ∧ (pAft c n d).2.2 ≤ 4 ∧ ∀ b, b < (pAft c n d).2.2 → ¬ kndS (c (4 * d + 3 * b + 2)) = -9 ∧ dg (c (4 * d + 3 * b + 3)) 51 := by
  by_cases h0 : d = 0
  · rw [show pAft c n d = (nI 1, 0, 0) from cif_t h0] at h
    exact absurd h (by decide)
  · have e : pAft c n d = ((pSub c n d 4 0).1, d, (pSub c n d 4 0).2) := cif_f h0
    rw [e] at h ⊢
    obtain ⟨h1, h2, h3⟩ := pSub_all hd 4 0 (by omega) h
    exact ⟨rfl, by omega, h1, h2, fun b hb => h3 b (by omega) hb⟩
theorem pDeed_all {c : Nat → Int32} {n : Nat} : ∀ (k d : Nat), d + k ≤ 5 → (pDeed c n k d).1 = -1 → (∀ b, b < d → ∀ w, w < 3 → dg (c (4 * b + 2 + w)) 57) → (0 < (pDeed c n k d).2.1 ∧ (pDeed c n k d).2.1 ≤ 5) ∧ (0 < (pDeed c n k d).2.2 ∧ (pDeed c n k d).2.2 ≤ 4) ∧ (∀ b, b < (pDeed c n k d).2.1 → ∀ w, w < 3 → dg (c (4 * b + 2 + w)) 57) ∧ ∀ b, b < (pDeed c n k d).2.2 → ¬ kndS (c (4 * (pDeed c n k d).2.1 + 3 * b + 2)) = -9 ∧ dg (c (4 * (pDeed c n k d).2.1 + 3 * b + 3)) 51
  | 0, d, hk, h, hD => by
    have e : pDeed c n 0 d = pAft c n d := rfl
    rw [e] at h ⊢
    obtain ⟨h1, h2, h3, h4, h5⟩ := pAft_all (by omega) h
    rw [h1]
    exact ⟨⟨h2, by omega⟩, ⟨h3, h4⟩, hD, h5⟩
  | k + 1, d, hk, h, hD => by
    have hu : pDeed c n (k + 1) d = cif (c (1 + 4 * d) = 47) (cif (dg (c (1 + 4 * d + 1)) 57) (cif (dg (c (1 + 4 * d + 2)) 57) (cif (dg (c (1 + 4 * d + 3)) 57) (pDeed c n k (d + 1)) (nI (1 + 4 * d + 3), 0, 0)) (nI (1 + 4 * d + 2), 0, 0)) (nI (1 + 4 * d + 1), 0, 0)) (pAft c n d) := rfl
    by_cases c1 : c (1 + 4 * d) = 47
    · by_cases c2 : dg (c (1 + 4 * d + 1)) 57
      · by_cases c3 : dg (c (1 + 4 * d + 2)) 57
        · by_cases c4 : dg (c (1 + 4 * d + 3)) 57
          · have e : pDeed c n (k + 1) d = pDeed c n k (d + 1) := by rw [hu, cif_t c1, cif_t c2, cif_t c3, cif_t c4]
            rw [e] at h ⊢
            refine pDeed_all k (d + 1) (by omega) h (fun b hb w hw => ?_)
            by_cases hbd : b = d
            · subst hbd
              match w, hw with
              | 0, _ => rw [show 4 * b + 2 + 0 = 1 + 4 * b + 1 by omega]; exact c2
              | 1, _ => rw [show 4 * b + 2 + 1 = 1 + 4 * b + 2 by omega]; exact c3
              | 2, _ => rw [show 4 * b + 2 + 2 = 1 + 4 * b + 3 by omega]; exact c4
              | w + 3, hw => exact absurd hw (by omega)
            · exact hD b (by omega) w hw
          · rw [hu, cif_t c1, cif_t c2, cif_t c3, cif_f c4] at h
            exact absurd h (nI_nem1 (by omega))
        · rw [hu, cif_t c1, cif_t c2, cif_f c3] at h
          exact absurd h (nI_nem1 (by omega))
      · rw [hu, cif_t c1, cif_f c2] at h
        exact absurd h (nI_nem1 (by omega))
    · have e : pDeed c n (k + 1) d = pDeed c n 0 d := by rw [hu, cif_f c1]; rfl
      rw [e] at h ⊢
      exact pDeed_all 0 d (by omega) h hD
theorem pText_all {c : Nat → Int32} {n : Nat} (h : (pText c n).1 = -1) : (0 < (pText c n).2.1 ∧ (pText c n).2.1 ≤ 5) ∧ (0 < (pText c n).2.2 ∧ (pText c n).2.2 ≤ 4) ∧ (∀ b, b < (pText c n).2.1 → ∀ w, w < 3 → dg (c (4 * b + 2 + w)) 57) ∧ ∀ b, b < (pText c n).2.2 → ¬ kndS (c (4 * (pText c n).2.1 + 3 * b + 2)) = -9 ∧ dg (c (4 * (pText c n).2.1 + 3 * b + 3)) 51 := by
  by_cases c0 : c 0 = 112
  · have e : pText c n = pDeed c n 5 0 := cif_t c0
    rw [e] at h ⊢
    exact pDeed_all 5 0 (by omega) h (fun b hb => absurd hb (Nat.not_lt_zero _))
  · rw [show pText c n = (0, 0, 0) from cif_f c0] at h
    exact absurd h (by decide)
/-! a text comes and goes: worlds of 58 and of 59 cells -/
def okB (sh : vSh) : Bool := match sh with
  | .inl (_, fl) => fl.all (fun o => match o with
    | some r => decide (r < 58)
    | none => true)
  | .inr (_, len, g) => (List.range len).all (fun i => decide (g i < 58))
theorem okA : shA.all okB = true := by decide +kernel
theorem vFs_ad {ad ad2 : Nat → Nat} {f : Nat → Int32} (h : ∀ j, j < 58 → ad2 j = ad j) : ∀ (fl : List (Option Nat)) (j : Nat), fl.all (fun o => match o with | some r => decide (r < 58) | none => true) = true → vFs ad2 f j fl = vFs ad f j fl
  | [], _, _ => rfl
  | some r :: t, j, ho => by
    simp only [List.all_cons, Bool.and_eq_true, decide_eq_true_eq] at ho
    simp only [vFs]
    rw [h r ho.1, vFs_ad h t (j + 1) ho.2]
  | none :: t, j, ho => by
    simp only [List.all_cons, Bool.true_and] at ho
    simp only [vFs]
    rw [vFs_ad h t (j + 1) ho]
theorem vE_ad {cs : Nat → ClassId} {ad ad2 : Nat → Nat} {σ : vSg} {τ : vTa} {n : Nat} {sh : vSh} (h : ∀ j, j < 58 → ad2 j = ad j) (ho : okB sh = true) : vE cs ad2 σ τ n sh = vE cs ad σ τ n sh := by
  cases sh with
  | inl q =>
    obtain ⟨ci, fl⟩ := q
    simp only [vE]
    rw [vFs_ad h fl 0 ho]
  | inr q =>
    obtain ⟨k, len, g⟩ := q
    simp only [vE]
    have hf : (fun i => if i < len then some (ad2 (g i)) else none) = (fun i => if i < len then some (ad (g i)) else none) := by
      funext i
      by_cases hi : i < len
      · have := List.all_eq_true.mp ho i (List.mem_range.mpr hi)
        rw [if_pos hi, if_pos hi, h (g i) (by simpa using this)]
      · rw [if_neg hi, if_neg hi]
    rw [hf]
theorem shP_ok {kt n : Nat} (h : n < 58) : okB (shP kt n) = true := by
  have hl : shA.length = 58 := rfl
  simp only [shP, shL, List.getD_eq_getElem?_getD]
  rw [List.getElem?_append_left (by omega)]
  obtain ⟨x, hx⟩ : ∃ x, shA[n]? = some x := ⟨shA[n]'(by omega), List.getElem?_eq_getElem (by omega)⟩
  rw [hx]
  exact List.all_eq_true.mp okA x (List.mem_of_getElem? hx)
theorem vW_ad {cs : Nat → ClassId} {ad ad2 : Nat → Nat} {kt kk : Nat} {σ σ2 : vSg} {τ : vTa} (h : ∀ j, j < 58 → ad2 j = ad j) (hσ : ∀ q, q < 58 → σ2 q = σ q) {n : Nat} (hn : n < 58) : vW cs ad2 (shP kk) σ2 τ n = vW cs ad (shP kt) σ τ n := by
  show vE cs ad2 σ2 τ n (shP kk n) = vE cs ad σ τ n (shP kt n)
  rw [shP_kt (kt := kk) (k2 := kt) hn, vE_ad h (shP_ok hn)]
  exact vE_eq (hσ n hn) rfl
theorem wl_snoc {ad ad2 : Nat → Nat} {w w2 : Nat → va_E} {N q : Nat} {e : va_E} (h : ∀ j, j < N → ad2 j = ad j) (hw : ∀ j, j < N → w2 j = w j) (hq : ad2 N = q) (he : w2 N = e) : wl ad N w ++ [(q, e)] = wl ad2 (N + 1) w2 := by
  unfold wl
  rw [List.range_succ, List.map_append]
  congr 1
  · apply List.map_congr_left
    intro j hj
    have := List.mem_range.mp hj
    rw [h j this, hw j this]
  · simp [hq, he]
theorem wl_map {ad : Nat → Nat} {w : Nat → va_E} {N : Nat} {x : va_W} : (List.range N).map (fun i => (wl ad N w ++ x)[i]?) = (wl ad N w).map some := by
  unfold wl
  rw [List.map_map]
  apply List.map_congr_left
  intro i hi
  have hi := List.mem_range.mp hi
  rw [List.getElem?_append_left (by simp [hi])]
  simp [hi]
abbrev eT0 : va_E := .inr (4, [.null, .int 0, .int 0, .int 0, .int 0])
abbrev eT1 (r : Nat) (i n : Int32) : va_E := .inr (4, [.ref r, .int i, .int n, .int 0, .int 0])
def Wt (D : va_G) (cs : Nat → ClassId) (w : va_W) (sz : Nat) : State → Prop := fun U => U.heap.size = sz ∧ va_P D vwCl w U.heap ∧ va_K D vwCl (vTy cs) U ∧ va_D (fun _ => True) w
theorem Wt_blind {D : va_G} {cs : Nat → ClassId} {w : va_W} {sz : Nat} {av : List Value} : FrameBlind (va_Pc av (Wt D cs w sz)) := fun a U g mk q => by
  obtain ⟨q0, q1, qP, qK, qD⟩ := q
  exact ⟨q0, q1, qP, va_K.moved (u := U) (U := U.calling g mk a) (Vm.Alike.refl U.vm) qK, qD⟩
set_option maxHeartbeats 4000000 in
set_option maxRecDepth 100000 in
theorem kX4_raw (l : Launch) (D : va_G) (cs : Nat → ClassId) (h0 r : Nat) (i n : Int32) (sz : Nat) : Met l yX4_init wsX4_init ({ frames := 1, cells := 0, slots := 0, locals := 12 }) (va_Pc [.ref h0, .ref r, .int i, .int n] (Wt D cs [(h0, eT0)] sz)) (va_Qv (fun _ : Unit => True) (fun _ t => va_P D vwCl [(h0, eT1 r i n)] t.heap ∧ va_D (va_A [(h0, eT0)] sz) [(h0, eT1 r i n)]) (va_A [(h0, eT0)] sz)) 0 0 (va_A [(h0, eT0)] sz) := by
  refine Met.ofW (cc := cX4_init) (maxL := 4) (ret := none) (by decide) rfl ?_
  intro p e s m args below meth c s₁ B hml hv
  obtain ⟨rfl, hsz, hP, hK, hD0⟩ := hv
  have hx := B.exec
  have hb := B.bytes
  have hr := B.returns
  have hts := atoms_spec (ws := wsX4_init) B.pre
  have hown : s.vm.findClass RX4 = some m.cls := findClass_of_methodNamed B.named
  have hlocks := B.notSynchronized
  have hin : meth.name = "<init>" := (name_of_methodNamed B.named B.method).1
  subst hsz
  have hD := hD0.self (sz := s.heap.size)
  generalize va_A [(h0, eT0)] s.heap.size = A at hD ⊢
  have hS : va_S A s.heap s.heap [] := va_S.rf
  have hl := lv_entry ([.ref h0, .ref r, .int i, .int n]) (n := 4) (Nat.le_of_ble_eq_true rfl)
  rw [lg_entry_eq]
  generalize (lg_sl ([.ref h0, .ref r, .int i, .int n]) ++ List.replicate (4 - (lg_sl ([.ref h0, .ref r, .int i, .int n])).length) Slot.unset).toArray = ls at hl ⊢
  have hl : lv_has ls 4 [(0, .ref h0), (1, .ref r), (2, .int i), (3, .int n)] := hl
  refine lv_aload_n hx hb dX4_init_0 rfl (lv_at hl 0 rfl) ?_
  refine W.objInit hx hb hown (hts _ (List.mem_cons_of_mem _ (List.mem_append_left _ (List.mem_of_getElem? (i := 0) rfl)))) (hts _ (List.mem_cons_of_mem _ (List.mem_append_left _ (List.mem_of_getElem? (i := 1) rfl)))) (hts _ (List.mem_cons_of_mem _ (List.mem_append_left _ (List.mem_of_getElem? (i := 2) rfl)))) rfl (by rw [hml]; exact hl.1) rfl dX4_init_1 (Nat.le_of_ble_eq_true rfl) (Nat.le_of_ble_eq_true rfl) ?_
  refine W.eq (g2 := F0 m 4 ls []) rfl ?_
  refine lv_aload_n hx hb dX4_init_4 rfl (lv_at hl 0 rfl) ?_
  refine lv_aload_n hx hb dX4_init_5 rfl (lv_at hl 1 rfl) ?_
  refine va_putF hx hb hts (fun _ h9 => List.mem_cons_of_mem _ (List.mem_append_right _ h9)) tyX4 tyX4_ok nmX4 hown hK hP hD hS 0 (ci := 4) rfl rfl 0 (by decide) (hts _ (List.mem_cons_of_mem _ (List.mem_append_left _ (List.mem_of_getElem? (i := 3) rfl)))) (fun _ h => h) rfl hin rfl (ty := .object "BlankPardons$Row") (by decide +kernel) rfl rfl (by decide) dX4_init_6 (fun H1 locs1 hP hD hS => ?_)
  refine lv_aload_n hx hb dX4_init_9 rfl (lv_at hl 0 rfl) ?_
  refine lv_iload_n hx hb dX4_init_10 rfl (lv_at hl 2 rfl) ?_
  refine va_putF hx hb hts (fun _ h9 => List.mem_cons_of_mem _ (List.mem_append_right _ h9)) tyX4 tyX4_ok nmX4 hown hK hP hD hS 0 (ci := 4) rfl rfl 1 (by decide) (hts _ (List.mem_cons_of_mem _ (List.mem_append_left _ (List.mem_of_getElem? (i := 4) rfl)))) (fun _ h => h) rfl hin rfl (ty := .int) (by decide +kernel) rfl rfl (Nat.le_of_ble_eq_true rfl) dX4_init_11 (fun H1 locs1 hP hD hS => ?_)
  refine lv_aload_n hx hb dX4_init_14 rfl (lv_at hl 0 rfl) ?_
  refine lv_iload_n hx hb dX4_init_15 rfl (lv_at hl 3 rfl) ?_
  refine va_putF hx hb hts (fun _ h9 => List.mem_cons_of_mem _ (List.mem_append_right _ h9)) tyX4 tyX4_ok nmX4 hown hK hP hD hS 0 (ci := 4) rfl rfl 2 (by decide) (hts _ (List.mem_cons_of_mem _ (List.mem_append_left _ (List.mem_of_getElem? (i := 5) rfl)))) (fun _ h => h) rfl hin rfl (ty := .int) (by decide +kernel) rfl rfl (Nat.le_of_ble_eq_true rfl) dX4_init_16 (fun H1 locs1 hP hD hS => ?_)
  exact W.vret hx hb hr (fun t ht hW => ⟨⟨(), rfl, trivial, by rw [ht]; exact hP, hD⟩, hS.F ht⟩) hS.2.2 dX4_init_19
section GKT
variable {p : Program} {l : Launch} {e : Env} {R : Room} {s : State} {m : MethodId} {args : Array Value} {below : List Frame} {meth : Method} {c : Code} {cells slots : Nat} {Q : State → Prop} {D : va_G} {cs : Nat → ClassId} {A : Nat → Prop} {ad ad2 : Nat → Nat} {kt kk : Nat} {nL : Nat} {σ : vSg} {τ : vTa} {cc : ByteArray} {Ts : List Cond} {own : String} {pc : Nat} {lv : List (Nat × Value)} {rest : List Value}
theorem go_ireturn2 (X : Cx p m c cc nL s args Ts own D cs A ad2 59) (hag : ∀ j, j < 58 → ad2 j = ad j) {v : Int32} {post : Int32 → vSg → vTa → Prop} (hr : meth.sig.returnType = some .int) (hlk : meth.locks = false) (hdg : decode cc pc = .ok (.ireturn, 1)) (hp : post v σ τ) : Go p l e R s m args below meth c (cells) (slots) (QI below args s D cs ad 58 (shP kt) A cells slots post) D cs A ad2 59 (shP kk) nL σ τ (pc) lv ([.int v]) := fun H locs ls hP hS hl => by
  have hP2 : va_P D vwCl (wl ad 58 (vW cs ad (shP kt) σ τ)) H := by
    intro k q hk
    obtain ⟨h1, rfl⟩ := wl_of hk
    have := hP k (ad2 k, vW cs ad2 (shP kk) σ τ k) (wl_get (by omega))
    rw [hag k h1, vW_ad (kt := kt) hag (fun _ _ => rfl) h1] at this
    exact this
  exact W.iret (v := v) X.1.1 X.1.2.1 hr (fun t ht hW => ⟨⟨v, (σ, τ), rfl, hp, by rw [ht]; exact hP2, va_K.moved hW.alike X.2.1⟩, hS.F ht⟩) hS.2.2 hdg hlk
/-- the store with the new text in cell 58 -/
def upT (σ : vSg) (i n : Int32) : vSg := up2 (up2 (up2 (up2 σ 58 1 i) 58 2 n) 58 3 0) 58 4 0
theorem upT_row {σ : vSg} {i n : Int32} {q : Nat} (h : q ≠ 58) : upT σ i n q = σ q := by
  unfold upT
  rw [up2_row h, up2_row h, up2_row h, up2_row h]
theorem upT_1 {σ : vSg} {i n : Int32} : upT σ i n 58 1 = i := by unfold upT; rw [up2_ne (by omega), up2_ne (by omega), up2_ne (by omega), up2_self]
theorem upT_2 {σ : vSg} {i n : Int32} : upT σ i n 58 2 = n := by unfold upT; rw [up2_ne (by omega), up2_ne (by omega), up2_self]
theorem upT_3 {σ : vSg} {i n : Int32} : upT σ i n 58 3 = 0 := by unfold upT; rw [up2_ne (by omega), up2_self]
theorem upT_4 {σ : vSg} {i n : Int32} : upT σ i n 58 4 = 0 := by unfold upT; rw [up2_self]
theorem vW_58 {cs : Nat → ClassId} {i n : Int32} : vW cs ad (shP kk) (upT σ i n) τ 58 = eT1 (ad (12 + kk)) i n := by
  show (.inr (4, vFs ad (upT σ i n 58) 0 [some (12 + kk), none, none, none, none]) : va_E) = _
  show (.inr (4, [.ref (ad (12 + kk)), .int (upT σ i n 58 1), .int (upT σ i n 58 2), .int (upT σ i n 58 3), .int (upT σ i n 58 4)]) : va_E) = _
  rw [upT_1, upT_2, upT_3, upT_4]
set_option maxHeartbeats 4000000 in
theorem go_mkText (X : Cx p m c cX6_kingdom 9 s args wsX6_kingdom RX6 D cs A ad 58) {i n : Int32} (a5 a3 a4 : Nat) (hkk : 12 + kk < 58) (h5 : lv[a5]? = some (5, .ref (ad (12 + kk)))) (h3 : lv[a3]? = some (3, .int i)) (h4 : lv[a4]? = some (4, .int n)) (hR : 2 ≤ R.frames ∧ 35 ≤ R.locals ∧ cells + 1 ≤ R.cells ∧ slots + 5 ≤ R.slots)
    (kx : ∀ ad2 : Nat → Nat, (∀ j, j < 58 → ad2 j = ad j) → Cx p m c cX6_kingdom 9 s args wsX6_kingdom RX6 D cs A ad2 59 → Go p l e R s m args below meth c (cells + 1) (slots + 5) Q D cs A ad2 59 (shP kk) 9 (upT σ i n) τ 93 lv [.ref (ad2 58)]) : Go p l e R s m args below meth c cells slots Q D cs A ad 58 (shP kt) 9 σ τ 81 lv [] := fun H locs ls hP hS hl => by
  refine va_new (ci := 4) (fs := [.null, .int 0, .int 0, .int 0, .int 0]) X.1.1 X.1.2.1 X.1.2.2.2.2 (fun _ h9 => List.mem_cons_of_mem _ (List.mem_append_left _ (List.mem_append_left _ (List.mem_append_left _ (List.mem_append_right _ h9))))) tyX4 tyX4_ok X.1.2.2.2.1 (X.1.2.2.2.2 _ (List.mem_cons_of_mem _ (List.mem_append_left _ (List.mem_append_left _ (List.mem_append_left _ (List.mem_append_left _ (List.mem_append_left _ (List.mem_append_left _ (List.mem_of_getElem? (i := 2) rfl))))))))) (X.1.2.2.2.2 _ (List.mem_cons_of_mem _ (List.mem_append_left _ (List.mem_append_left _ (List.mem_append_left _ (List.mem_append_left _ (List.mem_append_left _ (List.mem_append_left _ (List.mem_of_getElem? (i := 3) rfl))))))))) (X.1.2.2.2.2 _ (List.mem_cons_of_mem _ (List.mem_append_left _ (List.mem_append_left _ (List.mem_append_left _ (List.mem_append_left _ (List.mem_append_left _ (List.mem_append_left _ (List.mem_of_getElem? (i := 4) rfl))))))))) X.2.1 hP (X.2.2.1 _) hS X.2.2.2.1 rfl dfX4 hR.2.2.1 hR.2.2.2 dX6_kingdom_81 (fun q H1 hP1 hD1 hS1 => ?_)
  refine lv_dup X.1.1 X.1.2.1 dX6_kingdom_84 rfl ?_
  refine lv_aload X.1.1 X.1.2.1 dX6_kingdom_85 (lv_at hl a5 h5) ?_
  refine lv_iload_n X.1.1 X.1.2.1 dX6_kingdom_87 rfl (lv_at hl a3 h3) ?_
  refine lv_iload X.1.1 X.1.2.1 dX6_kingdom_88 (lv_at hl a4 h4) ?_
  have hlen : (wl ad 58 (vW cs ad (shP kt) σ τ)).length = 58 := by simp [wl]
  have hC : (wl ad 58 (vW cs ad (shP kt) σ τ) ++ [(q, eT0)])[58]? = some (q, eT0) := by rw [List.getElem?_append_right (by omega), hlen]; rfl
  have hC1 : [58].map (fun i => (wl ad 58 (vW cs ad (shP kt) σ τ) ++ [(q, eT0)])[i]?) = [(q, eT0)].map some := by simp only [List.map]; rw [hC]
  have hFc := va_free (wc := [(q, eT0)]) hD1 hS1 X.2.2.2.1 [58] hC1
  have hDc := hD1.sub (ws' := [(q, eT0)]) [58] rfl hC1
  refine va_callv (va_runI (As := [.ref (ad (12 + kk)), .int i, .int n]) (rest := [.ref q]) X.1 (kX4_raw l D cs q (ad (12 + kk)) i n H1.size) (cwI 3 X.1.2.2.2.2 gX6_kingdom_X4_init rfl rfl rfl (X.1.2.2.2.2 _ (List.mem_cons_of_mem _ (List.mem_append_left _ (List.mem_append_left _ (List.mem_append_left _ (List.mem_append_left _ (List.mem_append_left _ (List.mem_append_left _ (List.mem_of_getElem? (i := 4) rfl))))))))) (X.1.2.2.2.2 _ (List.mem_cons_of_mem _ (List.mem_append_left _ (List.mem_append_left _ (List.mem_append_left _ (List.mem_append_left _ (List.mem_append_left _ (List.mem_append_right _ (List.mem_append_left _ (List.mem_of_getElem? (i := 7) rfl)))))))))) (X.1.2.2.2.2 _ (List.mem_cons_of_mem _ (List.mem_append_left _ (List.mem_append_left _ (List.mem_append_left _ (List.mem_append_left _ (List.mem_append_left _ (List.mem_append_right _ (List.mem_append_left _ (List.mem_of_getElem? (i := 8) rfl)))))))))) rfl ⟨by decide, by decide, by decide +kernel⟩ ⟨hR.1, hR.2.1⟩) ⟨Wt_blind, fun U hU hW => ⟨rfl, by rw [hU], by rw [hU]; exact P_map hP1 [58] hC1, va_K.moved hW.alike X.2.1, hDc.weaken (fun _ _ _ _ => trivial)⟩⟩ rfl rfl hl.1 rfl (lv_room (Nat.le_of_ble_eq_true rfl)) dX6_kingdom_90 ⟨hR.2.2.1, hR.2.2.2⟩) hS1 (fun q _ h => hFc q h) hFc (fun u t H2 locs2 ht hvm hp hB hz hk2 hS2 => ?_)
  obtain ⟨hP2, hD2⟩ := hB
  rw [ht] at hP2
  obtain ⟨hP3, hD3⟩ := va_join (wr := wl ad 58 (vW cs ad (shP kt) σ τ)) (w1 := [(q, eT1 (ad (12 + kk)) i n)]) hP1 hD1 [58] (List.range 58) hC1 wl_map (by decide) (by decide) hk2 hFc hP2 hD2
  have hag : ∀ j, j < 58 → (fun j => if j = 58 then q else ad j) j = ad j := fun j hj => if_neg (by omega)
  obtain ⟨ad2, had2⟩ : ∃ z : Nat → Nat, z = fun j => if j = 58 then q else ad j := ⟨_, rfl⟩
  rw [← had2] at hag
  have hq : ad2 58 = q := by rw [had2]; exact if_pos rfl
  have hw : wl ad 58 (vW cs ad (shP kt) σ τ) ++ [(q, eT1 (ad (12 + kk)) i n)] = wl ad2 59 (vW cs ad2 (shP kk) (upT σ i n) τ) := wl_snoc hag (fun j hj => vW_ad hag (fun q hq => upT_row (by omega)) hj) hq (by rw [vW_58, hag _ hkk])
  rw [hw] at hP3 hD3
  rw [← hq]
  exact kx ad2 hag ⟨X.1, X.2.1, fun w => wl_D hD3 w, X.2.2.2.1, X.2.2.2.2⟩ H2 locs2 ls hP3 hS2 hl
end GKT
