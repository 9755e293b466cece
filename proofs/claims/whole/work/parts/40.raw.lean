/-! constructors: worlds as lists -/
def va_AOA (ty : FieldType) (U : State) : Prop := (Cond.arrayOver (.array ty)).before #[] U = true
theorem va_AOA.of {ty : FieldType} {A : Array Value} {U : State} (h : (Cond.arrayOver (.array ty)).before A U = true) : va_AOA ty U := h
theorem va_AOA.use {ty : FieldType} {A : Array Value} {U : State} (h : va_AOA ty U) : (Cond.arrayOver (.array ty)).before A U = true := h
theorem va_AOA.moved {ty : FieldType} {u U : State} (hvm : u.vm.Alike U.vm) (h : va_AOA ty u) : va_AOA ty U := by
  have h2 : (Cond.arrayOver (.array ty)).before #[] (u.setVm U.vm) = true := by rw [Cond.arrayOver_setVmC hvm]; exact h
  exact h2
/-! ===== BEGIN new T[n][m]: the outer array a place, the inner ones among the pooled ===== -/
/-- f, but v at every address of l -/
def vr_up {α : Type} (f : Nat → α) (l : List Nat) (v : α) : Nat → α := fun a => if a ∈ l then v else f a
theorem vr_up_in {α : Type} {f : Nat → α} {l : List Nat} {v : α} {a : Nat} (h : a ∈ l) : vr_up f l v a = v := if_pos h
theorem vr_up_ne {α : Type} {f : Nat → α} {l : List Nat} {v : α} {a : Nat} (h : a ∉ l) : vr_up f l v a = f a := if_neg h
theorem vr_rows {L l : List Nat} {f : Nat → va_E} {e : va_E} (h : ∀ a, a ∈ l → a ∉ L) : va_pl L f ++ l.map (fun a => (a, e)) = va_pl (L ++ l) (vr_up f l e) := by
  unfold va_pl
  rw [List.map_append]
  congr 1
  · apply List.map_congr_left
    intro a ha
    rw [vr_up_ne (fun q => h a q ha)]
  · apply List.map_congr_left
    intro a ha
    rw [vr_up_in ha]
theorem vr_lay {X rows : va_W} {x : Nat × va_E} {pl : va_W} {D : va_G} {cl : List vw_C} {H : Heap} (hP : va_P D cl (((X ++ pl) ++ [x]) ++ rows) H) : va_P D cl ((X ++ [x]) ++ (pl ++ rows)) H := by
  rw [List.append_assoc (X ++ pl)] at hP
  have h := va_P.swap hP
  rw [← List.append_assoc X] at h
  have h2 := va_P.swap h
  rw [List.append_assoc (X ++ [x])] at h2
  exact h2
theorem vr_layD {X rows : va_W} {x : Nat × va_E} {pl : va_W} {A : Nat → Prop} (hD : va_D A (((X ++ pl) ++ [x]) ++ rows)) : va_D A ((X ++ [x]) ++ (pl ++ rows)) := by
  rw [List.append_assoc (X ++ pl)] at hD
  have h := va_D.swap hD
  rw [← List.append_assoc X] at h
  have h2 := va_D.swap h
  rw [List.append_assoc (X ++ [x])] at h2
  exact h2
theorem vr_outer (c : ClassId) (N h0 : Nat) : ∀ i : Nat, Jvm.Free.Multi.outerC c N h0 i = arrV c N (fun j => va_rf (if j < i then some (h0 + 1 + j) else none))
  | 0 => by
    show ({ cls := c, slots := Array.replicate N .null, vm := .none } : Cell) = _
    rw [arrV_new]
    refine congrArg (arrV c N) (funext fun j => ?_)
    simp [va_rf]
  | i + 1 => by
    show (Jvm.Free.Multi.outerC c N h0 i).setSlot i (.ref (h0 + 1 + i)) = _
    rw [vr_outer c N h0 i, arrV_store]
    refine congrArg (arrV c N) (funext fun j => ?_)
    by_cases e : j = i
    · subst e
      simp [updV, va_rf]
    · by_cases h : j < i
      · simp [updV, e, h, Nat.lt_succ_of_lt h]
      · simp [updV, e, h, show ¬ j < i + 1 by omega]
section VGM
variable {p : Program} {l : Launch} {e : Env} {R : Room} {s : State} {m : MethodId} {args : Array Value} {below : List Frame} {meth : Method} {c : Code} {H : Heap} {locs : List Loc} {cells slots : Nat} {Q : State → Prop}
variable {cc : ByteArray} {pc : Nat} {ls : Array Slot} {rest : List Value} {D : va_G} {cl : List vw_C} {A : Nat → Prop} {a : Nat} {tys : List (ClassId × FieldType)} {ws : va_W} {H0 : Heap}
theorem va_mna {X : va_W} {L : List Nat} {f : Nat → va_E} {cc : ByteArray} (hexec : p.tables.exec = Jvm.exec) (hb : c.code = cc) {own : String} {index : Nat} {ty : FieldType} {cy : ClassId} (hown : s.vm.findClass own = some m.cls) (hclink : (Cond.classLink own index ("[" ++ (FieldType.array ty).toString)).before args s = true) (hover : va_AOA ty s) (harr : (Cond.arrayClass ty).before args s = true) (hcy : s.vm.findClass (FieldType.array ty).toString = some cy)
    (hK : va_K D cl tys s) (hP : va_P D cl (X ++ va_pl L f) H) (hD : va_D A (X ++ va_pl L f)) (hS : va_S A H0 H locs) (hA : ∀ q, H0.size ≤ q → A q) {n k : Int32} {N' K' : Nat} {z : vp_A} (hn : ¬ n < 0) (hk : ¬ k < 0) (hN : n.toNatClampNeg = N') (hM : k.toNatClampNeg = K')
    (hb1 : N' * 4 ≤ 536870912) (hb2 : K' * componentBytes ty ≤ 536870912) (hb3 : K' ≤ 536870912) (hdf : fits ty (defaultValue ty) = true) (hdd : (defaultValue ty).isDefault = true) (hcells : cells + (1 + N') ≤ R.cells) (hslots : slots + (N' + N' * K') ≤ R.slots) (hz : ∀ c : ClassId, Jvm.Free.Multi.innerC c K' (defaultValue ty) = vp_cell c z) (hdg : decode cc pc = .ok (.multianewarray index 2, 4))
    (kk : ∀ (q : Nat) (r : Nat → Nat) (cA : ClassId) (H1 : Heap), (∀ i j : Nat, i < N' → j < N' → r i = r j → i = j) → (∀ i : Nat, i < N' → r i ∉ L) → va_K D cl (tys ++ [(cA, .array ty)]) s →
      va_P D cl ((X ++ [(q, .inl (cA, N', .inr (.inr (.inr (.inr (fun i => if i < N' then some (r i) else none))))))]) ++ va_pl (L ++ (List.range N').map r) (vr_up f ((List.range N').map r) (.inl (cy, z)))) H1 → va_D A ((X ++ [(q, .inl (cA, N', .inr (.inr (.inr (.inr (fun i => if i < N' then some (r i) else none))))))]) ++ va_pl (L ++ (List.range N').map r) (vr_up f ((List.range N').map r) (.inl (cy, z)))) → va_S A H0 H1 locs →
      W p l e R s m args below meth c H1 locs (cells + 1 + N') (slots + N' + N' * K') Q (F0 m (pc + 4) ls (.ref q :: rest))) : W p l e R s m args below meth c H locs cells slots Q (F0 m pc ls (.int k :: .int n :: rest)) := by
  subst hN
  subst hM
  intro T hT Xs
  obtain ⟨vm₁, cA, comp, -, fA, fC, hO, -, X', step⟩ := Xs.multianewarray2F hexec hown hclink (va_AOA.use hover) harr (g := F0 m pc ls (.int k :: .int n :: rest)) rfl (by rw [hb]; exact hdg) rfl hn hk hb1 hb2 hb3 hdf hdd hcells hslots
  have ec : some cy = some comp := hcy.symm.trans fC
  cases ec
  generalize hF : Jvm.Free.Multi.fill (T.setVm vm₁) cA cy n.toNatClampNeg k.toNatClampNeg (defaultValue ty) n.toNatClampNeg = F at X' step
  have hTh : (T.setVm vm₁).heap = H := hT
  obtain ⟨f1, f2, -, -⟩ := Jvm.Free.Multi.fill_facts (T.setVm vm₁) cA cy n.toNatClampNeg k.toNatClampNeg (defaultValue ty) n.toNatClampNeg
  rw [hF, hTh] at f1 f2
  have hold : ∀ x : Nat, x < H.size → F.heap[x]? = H[x]? := fun x hx => by
    have := Jvm.Free.Multi.fill_old (T.setVm vm₁) cA cy n.toNatClampNeg k.toNatClampNeg (defaultValue ty) (a := x) (by rw [hTh]; exact hx) n.toNatClampNeg
    rw [hF, hTh] at this
    exact this
  have hrow : ∀ j : Nat, j < n.toNatClampNeg → F.heap[H.size + 1 + j]? = some (vp_cell cy z) := fun j hj => by
    have := Jvm.Free.Multi.fill_inner (T.setVm vm₁) cA cy n.toNatClampNeg k.toNatClampNeg (defaultValue ty) n.toNatClampNeg j hj
    rw [hF, hTh, hz] at this
    exact this
  have hout : Jvm.Free.Multi.outerC cA n.toNatClampNeg H.size n.toNatClampNeg = vp_cell cA (n.toNatClampNeg, .inr (.inr (.inr (.inr (fun i => if i < n.toNatClampNeg then some (H.size + 1 + i) else none))))) := by
    rw [vp_cell_q]
    exact vr_outer cA n.toNatClampNeg H.size n.toNatClampNeg
  rw [hout] at f2
  have hlt : ∀ a, a ∈ L → a < H.size := fun a ha => by
    obtain ⟨k9, hk9⟩ := va_pl_get (X := X) (f := f) ha
    exact (hP k9 _ hk9).lt
  have hnl : ∀ i : Nat, i < n.toNatClampNeg → H.size + 1 + i ∉ L := fun i _ h => by
    have := hlt _ h
    omega
  have hnm : ∀ a, a ∈ (List.range n.toNatClampNeg).map (fun i => H.size + 1 + i) → a ∉ L := fun a ha h => by
    obtain ⟨i, -, rfl⟩ := List.mem_map.mp ha
    have := hlt _ h
    omega
  have hP0 : va_P D cl (X ++ va_pl L f) F.heap := hP.kept (fun k9 x hx => hold x.1 ((hP k9 x hx).lt))
  have hP1 : va_P D cl ((X ++ va_pl L f) ++ [(H.size, .inl (cA, n.toNatClampNeg, .inr (.inr (.inr (.inr (fun i => if i < n.toNatClampNeg then some (H.size + 1 + i) else none))))))]) F.heap := hP0.app (fun k9 x hx => by
    have h0 : k9 < 1 := (List.getElem?_eq_some_iff.mp hx).1
    rw [show k9 = 0 by omega] at hx
    cases hx
    exact f2)
  have hP2 : va_P D cl (((X ++ va_pl L f) ++ [(H.size, .inl (cA, n.toNatClampNeg, .inr (.inr (.inr (.inr (fun i => if i < n.toNatClampNeg then some (H.size + 1 + i) else none))))))]) ++ ((List.range n.toNatClampNeg).map (fun i => H.size + 1 + i)).map (fun a => (a, .inl (cy, z)))) F.heap := hP1.app (fun k9 x hx => by
    obtain ⟨a, ha, rfl⟩ := List.mem_map.mp (List.mem_of_getElem? hx)
    obtain ⟨i, hi, rfl⟩ := List.mem_map.mp ha
    exact hrow i (List.mem_range.mp hi))
  have hD2 : va_D A (((X ++ va_pl L f) ++ [(H.size, .inl (cA, n.toNatClampNeg, .inr (.inr (.inr (.inr (fun i => if i < n.toNatClampNeg then some (H.size + 1 + i) else none))))))]) ++ ((List.range n.toNatClampNeg).map (fun i => H.size + 1 + i)).map (fun a => (a, .inl (cy, z)))) := by
    have hD1 := hD.push (e := .inl (cA, n.toNatClampNeg, .inr (.inr (.inr (.inr (fun i => if i < n.toNatClampNeg then some (H.size + 1 + i) else none)))))) hP rfl (hA _ hS.1)
    generalize hW1 : (X ++ va_pl L f) ++ [(H.size, .inl (cA, n.toNatClampNeg, .inr (.inr (.inr (.inr (fun i => if i < n.toNatClampNeg then some (H.size + 1 + i) else none))))))] = W1 at hD1 hP1 ⊢
    have hle : ∀ (k9 : Nat) (x : Nat × va_E), W1[k9]? = some x → x.1 ≤ H.size := fun k9 x hx => by
      rw [← hW1] at hx
      by_cases hl : k9 < (X ++ va_pl L f).length
      · rw [List.getElem?_append_left hl] at hx
        exact Nat.le_of_lt ((hP k9 x hx).lt)
      · rw [List.getElem?_append_right (by omega)] at hx
        have h0 : k9 - (X ++ va_pl L f).length < 1 := (List.getElem?_eq_some_iff.mp hx).1
        rw [show k9 - (X ++ va_pl L f).length = 0 by omega] at hx
        cases hx
        exact Nat.le_refl _
    have hr : ∀ (k9 : Nat) (x : Nat × va_E), (((List.range n.toNatClampNeg).map (fun i => H.size + 1 + i)).map (fun a => ((a, .inl (cy, z)) : Nat × va_E)))[k9]? = some x → x.1 = H.size + 1 + k9 := fun k9 x hx => by
      rw [List.getElem?_map, List.getElem?_map] at hx
      by_cases h9 : k9 < n.toNatClampNeg
      · rw [List.getElem?_range h9] at hx
        cases hx
        rfl
      · have hn0 : (List.range n.toNatClampNeg)[k9]? = none := List.getElem?_eq_none (by rw [List.length_range]; omega)
        rw [hn0] at hx
        cases hx
    refine ⟨fun i j x y hi hj hxy => ?_, fun k9 x hx => ?_⟩
    · by_cases h1 : i < W1.length <;> by_cases h2 : j < W1.length
      · rw [List.getElem?_append_left h1] at hi
        rw [List.getElem?_append_left h2] at hj
        exact hD1.1 i j x y hi hj hxy
      · rw [List.getElem?_append_left h1] at hi
        rw [List.getElem?_append_right (by omega)] at hj
        have := hle _ _ hi
        have := hr _ _ hj
        omega
      · rw [List.getElem?_append_right (by omega)] at hi
        rw [List.getElem?_append_left h2] at hj
        have := hle _ _ hj
        have := hr _ _ hi
        omega
      · rw [List.getElem?_append_right (by omega)] at hi hj
        have := hr _ _ hi
        have := hr _ _ hj
        omega
    · by_cases h1 : k9 < W1.length
      · rw [List.getElem?_append_left h1] at hx
        exact hD1.2 k9 x hx
      · rw [List.getElem?_append_right (by omega)] at hx
        have := hr _ _ hx
        exact hA _ (by have := hS.1; omega)
  have hAr : ArrOfT s cA (.array ty) := fun N9 z9 => by
    obtain ⟨-, k9, hk9, cm9, hkk9⟩ := (hO 0 0 0).1
    exact ⟨(fun q hq => by cases hq), k9, hk9, cm9, hkk9⟩
  have hK2 : va_K D cl (tys ++ [(cA, .array ty)]) s := ⟨hK.1, fun k9 x hx => by
    by_cases hl : k9 < tys.length
    · rw [List.getElem?_append_left hl] at hx
      exact hK.2 k9 x hx
    · rw [List.getElem?_append_right (by omega)] at hx
      have h0 : k9 - tys.length < 1 := (List.getElem?_eq_some_iff.mp hx).1
      rw [show k9 - tys.length = 0 by omega] at hx
      cases hx
      exact ⟨hAr, fA⟩⟩
  obtain ⟨t, a1, b1⟩ := kk H.size (fun i => H.size + 1 + i) cA F.heap (fun i j _ _ h => by have h9 : H.size + 1 + i = H.size + 1 + j := h; omega) hnl hK2 (by rw [← vr_rows hnm]; exact vr_lay hP2) (by rw [← vr_rows hnm]; exact vr_layD hD2) ⟨by rw [f1]; have := hS.1; omega, fun x h1 h2 => (hold x (Nat.lt_of_lt_of_le h1 hS.1)).trans (hS.2.1 x h1 h2), hS.2.2⟩ F rfl X'
  refine ⟨t, step t ?_, b1⟩
  have e : T.heap.size = H.size := by rw [hT]
  rw [e]
  exact a1
end VGM
/-! ===== END ===== -/
theorem va_RA_det {s : State} {c1 c2 : ClassId} {ty : FieldType} (h1 : va_RA s c1 ty) (h2 : va_RA s c2 ty) : c1 = c2 := by
  cases ty with
  | object C =>
    obtain ⟨_, _, _, _, _, a⟩ := h1
    obtain ⟨_, _, _, _, _, b⟩ := h2
    exact Option.some.inj (a.symm.trans b)
  | _ => exact Option.some.inj (Eq.trans (Eq.symm h1) h2)
theorem va_K_det {D : va_G} {cs : Nat → ClassId} {s : State} {k : Nat} {cA c0 : ClassId} {ty : FieldType} (hK : va_K D vwCl (vTy cs ++ [(cA, ty)]) s) (hk : (vTy cs)[k]? = some (c0, ty)) : cA = c0 := by
  have h1 := (hK.2 6 (cA, ty) rfl).2
  have hlt : k < (vTy cs).length := (List.getElem?_eq_some_iff.mp hk).1
  have h2 := (hK.2 k (c0, ty) (by rw [List.getElem?_append_left hlt]; exact hk)).2
  exact va_RA_det h1 h2
/-- what else the constructors ask of the tables -/
def Nq (U : State) : Prop := va_AO "BlankPardons$Row" U ∧ va_AOA .int U ∧ va_AOA .long U ∧ va_Nw (.methodLinkNest RX6 19 yX2_init RX6) U ∧ va_Nw (.methodLinkNest RX6 26 yX1_init RX6) U ∧ va_Nw (.methodLinkNest RX6 33 yX0_init RX6) U ∧ va_Nw (.methodLinkNest RX6 40 yX5_init RX6) U ∧ va_Nw (.methodLinkNest RX6 49 yX3_init RX6) U
theorem Nq_warm {s U : State} (hW : s.WarmedH U.vm) (h : Nq s) : Nq U := ⟨va_AO.moved hW.alike h.1, va_AOA.moved hW.alike h.2.1, va_AOA.moved hW.alike h.2.2.1, va_Nw.warmM hW h.2.2.2.1, va_Nw.warmM hW h.2.2.2.2.1, va_Nw.warmM hW h.2.2.2.2.2.1, va_Nw.warmM hW h.2.2.2.2.2.2.1, va_Nw.warmM hW h.2.2.2.2.2.2.2⟩
theorem Nq_same {u U : State} (e : u.vm = U.vm) (h : Nq u) : Nq U := ⟨va_AO.moved (by rw [e]; exact Vm.Alike.refl _) h.1, va_AOA.moved (by rw [e]; exact Vm.Alike.refl _) h.2.1, va_AOA.moved (by rw [e]; exact Vm.Alike.refl _) h.2.2.1, va_Nw.same rfl e h.2.2.2.1, va_Nw.same rfl e h.2.2.2.2.1, va_Nw.same rfl e h.2.2.2.2.2.1, va_Nw.same rfl e h.2.2.2.2.2.2.1, va_Nw.same rfl e h.2.2.2.2.2.2.2⟩
def Cr (p : Program) (m : MethodId) (c : Code) (cc : ByteArray) (nL : Nat) (s : State) (args : Array Value) (Ts : List Cond) (own : String) (D : va_G) (cs : Nat → ClassId) (A : Nat → Prop) : Prop := CallFix p m c cc nL s args Ts own ∧ va_K D vwCl (vTy cs) s ∧ (∀ q, s.heap.size ≤ q → A q) ∧ Nq s
def Gr (p : Program) (l : Launch) (e : Env) (R : Room) (s : State) (m : MethodId) (args : Array Value) (below : List Frame) (meth : Method) (c : Code) (cells slots : Nat) (Q : State → Prop) (D : va_G) (A : Nat → Prop) (nL : Nat) (ws : va_W) (pc : Nat) (lv : List (Nat × Value)) (st : List Value) : Prop := ∀ (H : Heap) (locs : List Loc) (ls : Array Slot), va_P D vwCl ws H → va_D A ws → va_S A s.heap H locs → lv_has ls nL lv → W p l e R s m args below meth c H locs cells slots Q (F0 m pc ls st)
def Wn (D : va_G) (cs : Nat → ClassId) (w : va_W) (sz : Nat) : State → Prop := fun U => U.heap.size = sz ∧ va_P D vwCl w U.heap ∧ va_K D vwCl (vTy cs) U ∧ va_D (fun _ => True) w ∧ Nq U
theorem Wn_blind {D : va_G} {cs : Nat → ClassId} {w : va_W} {sz : Nat} {av : List Value} : FrameBlind (va_Pc av (Wn D cs w sz)) := fun a U g mk q => by
  obtain ⟨q0, q1, qP, qK, qD, qN⟩ := q
  exact ⟨q0, q1, qP, va_K.moved (u := U) (U := U.calling g mk a) (Vm.Alike.refl U.vm) qK, qD, Nq_same (u := U) rfl qN⟩
/-- a constructor's contract: from the bare object to its world -/
def CtN (l : Launch) (y : MethodName) (wsY : List Cond) (rm : Room) (D : va_G) (cs : Nat → ClassId) (h0 : Nat) (ext : List Value) (e0 : va_E) {S : Type} (F : S → va_W) (mc ms : Nat) : Prop := ∀ sz, Met l y wsY rm (va_Pc (.ref h0 :: ext) (Wn D cs [(h0, e0)] sz)) (va_Qv (fun _ : S => True) (fun u t => va_P D vwCl (F u) t.heap ∧ va_D (va_A [(h0, e0)] sz) (F u)) (va_A [(h0, e0)] sz)) mc ms (va_A [(h0, e0)] sz)
def QN (below : List Frame) (args : Array Value) (s : State) (D : va_G) (A : Nat → Prop) {S : Type} (F : S → va_W) (mc ms : Nat) : State → Prop := MQ below (va_Qv (fun _ : S => True) (fun u t => va_P D vwCl (F u) t.heap ∧ va_D A (F u)) A) args s mc ms A
theorem ct_N {l : Launch} {y : MethodName} {wsY ws2 : List Cond} {rm : Room} {D : va_G} {cs : Nat → ClassId} {h0 : Nat} {ext : List Value} {e0 : va_E} {S : Type} {F : S → va_W} {mc ms maxL : Nat} {cc : ByteArray} {own : String} {lv : List (Nat × Value)} (hy : plainName y.cls = true) (hnm : y.name = "<init>") (hw : wsY = Cond.code y cc maxL none :: ws2) (hlen : (lg_sl (.ref h0 :: ext)).length ≤ maxL) (ho : y.cls = own) (hlv : lv_args 0 (.ref h0 :: ext) = lv)
    (body : ∀ (p : Program) (e : Env) (s : State) (m : MethodId) (args : Array Value) (below : List Frame) (meth : Method) (c : Code) (A : Nat → Prop), Cr p m c cc maxL s args wsY own D cs A → meth.sig.returnType = none → meth.locks = false → meth.name = "<init>" → Gr p l e rm s m args below meth c 0 0 (QN below args s D A F mc ms) D A maxL [(h0, e0)] 0 lv []) : CtN l y wsY rm D cs h0 ext e0 F mc ms := by
  intro sz
  refine Met.ofW (cc := cc) (maxL := maxL) (ret := none) hy hw ?_
  intro p e s m args below meth c s₁ B hml hv
  obtain ⟨rfl, hsz, hP, hK, hD0, hN⟩ := hv
  subst ho
  subst hsz
  have hts := atoms_spec (ws := wsY) B.pre
  have hown : s.vm.findClass y.cls = some m.cls := findClass_of_methodNamed B.named
  have hin : meth.name = y.name := (name_of_methodNamed B.named B.method).1
  have hl := lv_entry (.ref h0 :: ext) (n := maxL) hlen
  rw [lg_entry_eq]
  rw [hlv] at hl
  exact body p e s m _ below meth c _ ⟨⟨B.exec, B.bytes, hml, hown, hts⟩, hK, fun q h => Or.inr h, hN⟩ B.returns B.notSynchronized (hin.trans hnm) s.heap [] _ hP (hD0.self (sz := s.heap.size)) va_S.rf hl
theorem P_map {D : va_G} {ws ws' : va_W} {H : Heap} (h : va_P D vwCl ws H) (is : List Nat) (hs : is.map (fun i => ws[i]?) = ws'.map some) : va_P D vwCl ws' H := by
  intro k q hk
  have h1 : (is.map (fun i => ws[i]?))[k]? = some (some q) := by rw [hs, List.getElem?_map, hk]; rfl
  rw [List.getElem?_map] at h1
  cases hi : is[k]? with
  | none => rw [hi] at h1; cases h1
  | some i => rw [hi] at h1; exact h i q (Option.some.inj h1)
section GRW
variable {p : Program} {l : Launch} {e : Env} {R : Room} {s : State} {m : MethodId} {args : Array Value} {below : List Frame} {meth : Method} {c : Code} {cells slots : Nat} {Q : State → Prop} {D : va_G} {cs : Nat → ClassId} {A : Nat → Prop} {nL : Nat} {cc : ByteArray} {Ts : List Cond} {own : String} {pc : Nat} {lv lv2 : List (Nat × Value)} {rest : List Value} {ws : va_W}
theorem gr_ws {ws2 : va_W} (h : ws = ws2) (kk : Gr p l e R s m args below meth c cells slots Q D A nL ws2 pc lv rest) : Gr p l e R s m args below meth c cells slots Q D A nL ws pc lv rest := by subst h; exact kk
theorem gr_perm {ws2 : va_W} (is : List Nat) (hn : va_nd is = true) (hs : is.map (fun i => ws[i]?) = ws2.map some) (kk : Gr p l e R s m args below meth c cells slots Q D A nL ws2 pc lv rest) : Gr p l e R s m args below meth c cells slots Q D A nL ws pc lv rest := fun H locs ls hP hD hS hl => kk H locs ls (P_map hP is hs) (hD.sub is hn hs) hS hl
theorem gr_widen {k n : Nat} (h1 : cells ≤ k) (h2 : slots ≤ n) (kk : Gr p l e R s m args below meth c k n Q D A nL ws pc lv rest) : Gr p l e R s m args below meth c cells slots Q D A nL ws pc lv rest := fun H locs ls hP hD hS hl => W.widen h1 h2 (kk H locs ls hP hD hS hl)
theorem gr_iconst (X : Cr p m c cc nL s args Ts own D cs A) {n : Int} {v : Int32} (hdg : decode cc pc = .ok (.iconst n, 1)) (hv : Int32.ofInt n = v) (kk : Gr p l e R s m args below meth c cells slots Q D A nL ws (pc + 1) lv (.int v :: rest)) : Gr p l e R s m args below meth c cells slots Q D A nL ws pc lv rest := fun H locs ls hP hD hS hl => lv_iconst X.1.1 X.1.2.1 hdg hv (kk H locs ls hP hD hS hl)
theorem gr_bipush (X : Cr p m c cc nL s args Ts own D cs A) {n : Int} {v : Int32} (hdg : decode cc pc = .ok (.bipush n, 2)) (hv : (Int8.ofInt n).toInt32 = v) (kk : Gr p l e R s m args below meth c cells slots Q D A nL ws (pc + 2) lv (.int v :: rest)) : Gr p l e R s m args below meth c cells slots Q D A nL ws pc lv rest := fun H locs ls hP hD hS hl => lv_bipush X.1.1 X.1.2.1 hdg hv (kk H locs ls hP hD hS hl)
theorem gr_sipush (X : Cr p m c cc nL s args Ts own D cs A) {n : Int} {v : Int32} (hdg : decode cc pc = .ok (.sipush n, 3)) (hv : (Int16.ofInt n).toInt32 = v) (kk : Gr p l e R s m args below meth c cells slots Q D A nL ws (pc + 3) lv (.int v :: rest)) : Gr p l e R s m args below meth c cells slots Q D A nL ws pc lv rest := fun H locs ls hP hD hS hl => lv_sipush X.1.1 X.1.2.1 hdg hv (kk H locs ls hP hD hS hl)
theorem gr_aload_n (X : Cr p m c cc nL s args Ts own D cs A) {k : Fin 4} {i : Nat} {x : Nat} (hdg : decode cc pc = .ok (.aload_n k, 1)) (q : Nat) (hi : (k : Nat) = i) (hq : lv[q]? = some (i, .ref x)) (kk : Gr p l e R s m args below meth c cells slots Q D A nL ws (pc + 1) lv (.ref x :: rest)) : Gr p l e R s m args below meth c cells slots Q D A nL ws pc lv rest := fun H locs ls hP hD hS hl => lv_aload_n X.1.1 X.1.2.1 hdg hi (lv_at hl q hq) (kk H locs ls hP hD hS hl)
theorem gr_iload_n (X : Cr p m c cc nL s args Ts own D cs A) {k : Fin 4} {i : Nat} {x : Int32} (hdg : decode cc pc = .ok (.iload_n k, 1)) (q : Nat) (hi : (k : Nat) = i) (hq : lv[q]? = some (i, .int x)) (kk : Gr p l e R s m args below meth c cells slots Q D A nL ws (pc + 1) lv (.int x :: rest)) : Gr p l e R s m args below meth c cells slots Q D A nL ws pc lv rest := fun H locs ls hP hD hS hl => lv_iload_n X.1.1 X.1.2.1 hdg hi (lv_at hl q hq) (kk H locs ls hP hD hS hl)
theorem gr_istore_n (X : Cr p m c cc nL s args Ts own D cs A) {k : Fin 4} {i : Nat} {x : Int32} (hdg : decode cc pc = .ok (.istore_n k, 1)) (hi : (k : Nat) = i) (hn : i < nL) (hv : (i, Value.int x) :: lv.filter (fun q => !(q.1 == i) && !(q.1 + 1 == i && q.2.category == 2)) = lv2) (kk : Gr p l e R s m args below meth c cells slots Q D A nL ws (pc + 1) lv2 rest) : Gr p l e R s m args below meth c cells slots Q D A nL ws pc lv (.int x :: rest) := fun H locs ls hP hD hS hl => lv_istore_n X.1.1 X.1.2.1 hdg hi hl hn hv (fun ls2 hl2 => kk H locs ls2 hP hD hS hl2)
theorem gr_astore_n (X : Cr p m c cc nL s args Ts own D cs A) {k : Fin 4} {i : Nat} {x : Nat} (hdg : decode cc pc = .ok (.astore_n k, 1)) (hi : (k : Nat) = i) (hn : i < nL) (hv : (i, Value.ref x) :: lv.filter (fun q => !(q.1 == i) && !(q.1 + 1 == i && q.2.category == 2)) = lv2) (kk : Gr p l e R s m args below meth c cells slots Q D A nL ws (pc + 1) lv2 rest) : Gr p l e R s m args below meth c cells slots Q D A nL ws pc lv (.ref x :: rest) := fun H locs ls hP hD hS hl => lv_astore_n X.1.1 X.1.2.1 hdg hi hl hn hv (fun ls2 hl2 => kk H locs ls2 hP hD hS hl2)
theorem gr_dup (X : Cr p m c cc nL s args Ts own D cs A) {v : Nat} (hdg : decode cc pc = .ok (.dup, 1)) (kk : Gr p l e R s m args below meth c cells slots Q D A nL ws (pc + 1) lv (.ref v :: .ref v :: rest)) : Gr p l e R s m args below meth c cells slots Q D A nL ws pc lv (.ref v :: rest) := fun H locs ls hP hD hS hl => lv_dup X.1.1 X.1.2.1 hdg rfl (kk H locs ls hP hD hS hl)
theorem gr_objInit (X : Cr p m c cc nL s args Ts own D cs A) {idx a : Nat} (hlink : Cond.methodLink own idx objectInit ∈ Ts) (hinst : Cond.instanceMethod objectInit ∈ Ts) (hcode : Cond.code objectInit ⟨#[0xb1]⟩ 1 none ∈ Ts) (hdg : decode cc pc = .ok (.invokespecial idx, 3)) (hf : 1 ≤ R.frames) (hlo : 2 * (F0 m pc #[] []).monitorRoom + (rest.map fun v => v.category).sum + 12 ≤ R.locals) (kk : Gr p l e R s m args below meth c cells slots Q D A nL ws (pc + 3) lv rest) : Gr p l e R s m args below meth c cells slots Q D A nL ws pc lv (.ref a :: rest) := fun H locs ls hP hD hS hl =>
  W.objInit X.1.1 X.1.2.1 X.1.2.2.2.1 (X.1.2.2.2.2 _ hlink) (X.1.2.2.2.2 _ hinst) (X.1.2.2.2.2 _ hcode) rfl (by rw [X.1.2.2.1]; exact hl.1) rfl hdg hf hlo (kk H locs ls hP hD hS hl)
theorem gr_newa (X : Cr p m c cc nL s args Ts own D cs A) {atype : ArrayType} {ty : FieldType} {c0 : ClassId} (hty : newarray.typeOf atype = ty) (harr : Cond.arrayClass ty ∈ Ts) (k : Nat) (hk : (vTy cs)[k]? = some (c0, ty)) {n : Int32} {N' : Nat} {a0 : vp_A} (ha : ∀ cA : ClassId, vp_cell cA a0 = arrV cA N' (fun _ => defaultValue ty)) (hn : ¬ n < 0) (hN : n.toNatClampNeg = N') (hbytes : N' * componentBytes ty ≤ 536870912) (hcells : cells + 1 ≤ R.cells) (hslots : slots + N' ≤ R.slots) (hdg : decode cc pc = .ok (.newarray atype, 2))
    (kk : ∀ q : Nat, Gr p l e R s m args below meth c (cells + 1) (slots + N') Q D A nL (ws ++ [(q, .inl (c0, a0))]) (pc + 2) lv (.ref q :: rest)) : Gr p l e R s m args below meth c cells slots Q D A nL ws pc lv (.int n :: rest) := fun H locs ls hP hD hS hl => by
  refine va_newa X.1.1 X.1.2.1 (by rw [hty]; exact X.1.2.2.2.2 _ harr) hty X.2.1 hP hD hS X.2.2.1 ha hn hN hbytes hcells hslots hdg (fun q cA H1 hK1 hP1 hD1 hS1 => ?_)
  have e9 := va_K_det hK1 hk
  subst e9
  exact kk q H1 locs ls hP1 hD1 hS1 hl
theorem gr_newq (X : Cr p m c cc nL s args Ts own D cs A) {index : Nat} {c0 : ClassId} (hlink : Cond.classLink own index "BlankPardons$Row" ∈ Ts) (k : Nat) (hk : (vTy cs)[k]? = some (c0, .object "BlankPardons$Row")) {n : Int32} {N' : Nat} (hn : ¬ n < 0) (hN : n.toNatClampNeg = N') (hbytes : N' * 4 ≤ 536870912) (hcells : cells + 1 ≤ R.cells) (hslots : slots + N' ≤ R.slots) (hdg : decode cc pc = .ok (.anewarray index, 3))
    (kk : ∀ q : Nat, Gr p l e R s m args below meth c (cells + 1) (slots + N') Q D A nL (ws ++ [(q, .inl (c0, N', .inr (.inr (.inr (.inr (fun _ => none))))))]) (pc + 3) lv (.ref q :: rest)) : Gr p l e R s m args below meth c cells slots Q D A nL ws pc lv (.int n :: rest) := fun H locs ls hP hD hS hl => by
  refine va_newq X.1.1 X.1.2.1 X.1.2.2.2.1 (X.1.2.2.2.2 _ hlink) X.2.2.2.1 X.2.1 hP hD hS X.2.2.1 hn hN hbytes hcells hslots hdg (fun q cA H1 hK1 hP1 hD1 hS1 => ?_)
  have e9 := va_K_det hK1 hk
  subst e9
  exact kk q H1 locs ls hP1 hD1 hS1 hl
theorem pl_nil {N : Nat} {r : Nat → Nat} {f : Nat → va_E} {v : va_E} : va_pl ([] ++ (List.range N).map r) (vr_up f ((List.range N).map r) v) = (List.range N).map (fun i => (r i, v)) := by
  unfold va_pl
  rw [List.nil_append, List.map_map]
  apply List.map_congr_left
  intro i hi
  show (r i, vr_up f _ v (r i)) = _
  rw [vr_up_in (List.mem_map_of_mem hi)]
theorem gr_mna (X : Cr p m c cc nL s args Ts own D cs A) {index : Nat} {ty : FieldType} {cy c0 : ClassId} (hlink : Cond.classLink own index ("[" ++ (FieldType.array ty).toString) ∈ Ts) (hover : va_AOA ty s) (harr : Cond.arrayClass ty ∈ Ts) (hcy : s.vm.findClass (FieldType.array ty).toString = some cy) (k0 : Nat) (hk0 : (vTy cs)[k0]? = some (c0, .array ty)) {n k : Int32} {N' K' : Nat} {z : vp_A} (hn : ¬ n < 0) (hk : ¬ k < 0) (hN : n.toNatClampNeg = N') (hM : k.toNatClampNeg = K')
    (hb1 : N' * 4 ≤ 536870912) (hb2 : K' * componentBytes ty ≤ 536870912) (hb3 : K' ≤ 536870912) (hdf : fits ty (defaultValue ty) = true) (hdd : (defaultValue ty).isDefault = true) (hcells : cells + (1 + N') ≤ R.cells) (hslots : slots + (N' + N' * K') ≤ R.slots) (hz : ∀ c : ClassId, Jvm.Free.Multi.innerC c K' (defaultValue ty) = vp_cell c z) (hdg : decode cc pc = .ok (.multianewarray index 2, 4))
    (kk : ∀ (q : Nat) (r : Nat → Nat), Gr p l e R s m args below meth c (cells + 1 + N') (slots + N' + N' * K') Q D A nL ((ws ++ [(q, .inl (c0, N', .inr (.inr (.inr (.inr (fun i => if i < N' then some (r i) else none))))))]) ++ (List.range N').map (fun i => (r i, .inl (cy, z)))) (pc + 4) lv (.ref q :: rest)) : Gr p l e R s m args below meth c cells slots Q D A nL ws pc lv (.int k :: .int n :: rest) := fun H locs ls hP hD hS hl => by
  refine va_mna (X := ws) (L := []) (f := fun _ => .inr (0, [])) X.1.1 X.1.2.1 X.1.2.2.2.1 (X.1.2.2.2.2 _ hlink) hover (X.1.2.2.2.2 _ harr) hcy X.2.1 (by rw [show va_pl [] (fun _ => (.inr (0, []) : va_E)) = [] from rfl, List.append_nil]; exact hP) (by rw [show va_pl [] (fun _ => (.inr (0, []) : va_E)) = [] from rfl, List.append_nil]; exact hD) hS X.2.2.1 hn hk hN hM hb1 hb2 hb3 hdf hdd hcells hslots hz hdg (fun q r cA H1 _ _ hK1 hP1 hD1 hS1 => ?_)
  have e9 := va_K_det hK1 hk0
  subst e9
  rw [pl_nil] at hP1 hD1
  exact kk q r H1 locs ls hP1 hD1 hS1 hl
theorem gr_putf (X : Cr p m c cc nL s args Ts own D cs A) {a ci index M : Nat} {C : String} {T : u_T} (q0 : Nat) {fs : List Value} (he : ws[q0]? = some (a, .inr (ci, fs))) (hc : vwCl[ci]? = some (C, T, M)) (hin : ∀ w ∈ u_ws C T M, w ∈ Ts) (k : Nat) (hk : k < M) (hlk : Cond.fieldLink own index (T k).1 (T k).2.1 (T k).2.2.1 ∈ Ts) (ty0 : Nat → FieldType) (hty : ∀ k, k < M → parseFieldDescriptor (T k).2.2.1 = some (ty0 k)) (hnm : ∀ a, a < M → ∀ b, b < M → a ≠ b → (T a).2.1 ≠ (T b).2.1) (hfin : (T k).2.2.2 = true) (hin2 : meth.name = "<init>") (hdecl : (T k).1 = own) {ty : FieldType} {v : Value} (hd : parseFieldDescriptor (T k).2.2.1 = some ty) (hn : narrow ty v = v) (hfit : fits ty v = true) (hl0 : k < fs.length)
    (hdg : decode cc pc = .ok (.putfield index, 3)) (kk : Gr p l e R s m args below meth c cells slots Q D A nL (ws.set q0 (a, .inr (ci, fs.set k v))) (pc + 3) lv rest) : Gr p l e R s m args below meth c cells slots Q D A nL ws pc lv (v :: .ref a :: rest) := fun H locs ls hP hD hS hl =>
  va_putF X.1.1 X.1.2.1 X.1.2.2.2.2 hin ty0 hty hnm X.1.2.2.2.1 X.2.1 hP hD hS q0 he hc k hk (X.1.2.2.2.2 _ hlk) (fun _ h => h) hfin hin2 hdecl hd hn hfit hl0 hdg (fun H1 locs1 hP1 hD1 hS1 => kk H1 locs1 ls hP1 hD1 hS1 hl)
theorem gr_getr (X : Cr p m c cc nL s args Ts own D cs A) {a ci index M v : Nat} {C : String} {T : u_T} (q0 : Nat) {fs : List Value} (he : ws[q0]? = some (a, .inr (ci, fs))) (hc : vwCl[ci]? = some (C, T, M)) (hin : ∀ w ∈ u_ws C T M, w ∈ Ts) (k : Nat) (hk : k < M) (hlk : Cond.fieldLink own index (T k).1 (T k).2.1 (T k).2.2.1 ∈ Ts) (hv : fs[k]? = some (.ref v)) (hdg : decode cc pc = .ok (.getfield index, 3)) (kk : Gr p l e R s m args below meth c cells slots Q D A nL ws (pc + 3) lv (.ref v :: rest)) : Gr p l e R s m args below meth c cells slots Q D A nL ws pc lv (.ref a :: rest) := fun H locs ls hP hD hS hl =>
  va_get X.1.1 X.1.2.1 X.1.2.2.2.2 hin X.1.2.2.2.1 X.2.1 hP q0 he hc k hk (X.1.2.2.2.2 _ hlk) (fun _ h => h) hv hdg (kk H locs ls hP hD hS hl)
theorem gr_newo (X : Cr p m c cc nL s args Ts own D cs A) {ci index M : Nat} {C : String} {T : u_T} (hin : ∀ w ∈ u_ws C T M, w ∈ Ts) (ty : Nat → FieldType) (hty : ∀ k, k < M → parseFieldDescriptor (T k).2.2.1 = some (ty k)) (hcl : Cond.classLink own index C ∈ Ts) (hinst : Cond.instantiable C M ∈ Ts) (hini : Cond.initialized C ∈ Ts) (hc : vwCl[ci]? = some (C, T, M)) {fs : List Value} (hfs : ∀ j, j < M → defaultValue (ty j) = vp_V fs j) (hcells : cells + 1 ≤ R.cells) (hslots : slots + M ≤ R.slots) (hdg : decode cc pc = .ok (.new index, 3))
    (kk : ∀ q : Nat, Gr p l e R s m args below meth c (cells + 1) (slots + M) Q D A nL (ws ++ [(q, .inr (ci, fs))]) (pc + 3) lv (.ref q :: rest)) : Gr p l e R s m args below meth c cells slots Q D A nL ws pc lv rest := fun H locs ls hP hD hS hl =>
  va_new X.1.1 X.1.2.1 X.1.2.2.2.2 hin ty hty X.1.2.2.2.1 (X.1.2.2.2.2 _ hcl) (X.1.2.2.2.2 _ hinst) (X.1.2.2.2.2 _ hini) X.2.1 hP hD hS X.2.2.1 hc hfs hcells hslots hdg (fun q H1 hP1 hD1 hS1 => kk q H1 locs ls hP1 hD1 hS1 hl)
theorem gr_iast (X : Cr p m c cc nL s args Ts own D cs A) {a n : Nat} {cA : ClassId} {f : Nat → Int32} (q0 t0 : Nat) (ha : ws[q0]? = some (a, .inl (cA, n, .inl f))) (ht : (vTy cs)[t0]? = some (cA, .int)) {i x : Int32} (hin : vp_in i n) (hdg : decode cc pc = .ok (.iastore, 1)) (kk : Gr p l e R s m args below meth c cells slots Q D A nL (ws.set q0 (a, .inl (cA, n, .inl (upd f i.toNatClampNeg x)))) (pc + 1) lv rest) : Gr p l e R s m args below meth c cells slots Q D A nL ws pc lv (.int x :: .int i :: .ref a :: rest) := fun H locs ls hP hD hS hl =>
  va_iast X.1.1 X.1.2.1 X.2.1 hP hD hS q0 t0 ha ht hin hdg (fun H1 locs1 hP1 hD1 hS1 => kk H1 locs1 ls hP1 hD1 hS1 hl)
theorem gr_astq (X : Cr p m c cc nL s args Ts own D cs A) {a n v ci : Nat} {cA : ClassId} {r : vw_C} {vs : List Value} {f : Nat → Option Nat} (q0 t0 qk : Nat) (ha : ws[q0]? = some (a, .inl (cA, n, .inr (.inr (.inr (.inr f)))))) (ht : (vTy cs)[t0]? = some (cA, .object r.1)) (hv : ws[qk]? = some (v, .inr (ci, vs))) (hc : vwCl[ci]? = some r) {i : Int32} (hin : vp_in i n) (hdg : decode cc pc = .ok (.aastore, 1)) (kk : Gr p l e R s m args below meth c cells slots Q D A nL (ws.set q0 (a, .inl (cA, n, .inr (.inr (.inr (.inr (va_up f i.toNatClampNeg (some v)))))))) (pc + 1) lv rest) : Gr p l e R s m args below meth c cells slots Q D A nL ws pc lv (.ref v :: .int i :: .ref a :: rest) := fun H locs ls hP hD hS hl =>
  va_astq X.1.1 X.1.2.1 X.2.1 hP hD hS q0 t0 qk ci ha ht hv hc hin hdg (fun H1 locs1 hP1 hD1 hS1 => kk H1 locs1 ls hP1 hD1 hS1 hl)
theorem gr_goto (X : Cr p m c cc nL s args Ts own D cs A) {off : Int} {tgt : Nat} (hdg : decode cc pc = .ok (.goto off, 3)) (ht : (pc : Int) + off = (tgt : Int)) (kk : Gr p l e R s m args below meth c cells slots Q D A nL ws tgt lv rest) : Gr p l e R s m args below meth c cells slots Q D A nL ws pc lv rest := fun H locs ls hP hD hS hl => lv_goto X.1.1 X.1.2.1 hdg ht (kk H locs ls hP hD hS hl)
theorem gr_iinc (X : Cr p m c cc nL s args Ts own D cs A) {i : Nat} {k : Int} {x v : Int32} (hdg : decode cc pc = .ok (.iinc i k, 3)) (q : Nat) (hq : lv[q]? = some (i, .int x)) (hn : i < nL) (hv0 : x + Int32.ofInt k = v) (hv : (i, Value.int v) :: lv.filter (fun q => !(q.1 == i) && !(q.1 + 1 == i && q.2.category == 2)) = lv2) (kk : Gr p l e R s m args below meth c cells slots Q D A nL ws (pc + 3) lv2 rest) : Gr p l e R s m args below meth c cells slots Q D A nL ws pc lv rest := fun H locs ls hP hD hS hl => lv_iinc X.1.1 X.1.2.1 hdg hl hq hv0 hn hv (fun ls2 h2 => kk H locs ls2 hP hD hS h2)
theorem gr_icmp_ge (X : Cr p m c cc nL s args Ts own D cs A) {x y : Int32} {off : Int} {tgt : Nat} (hdg : decode cc pc = .ok (.if_icmp .ge off, 3)) (ht : (pc : Int) + off = (tgt : Int)) (kt : y ≤ x → Gr p l e R s m args below meth c cells slots Q D A nL ws tgt lv rest) (kf : ¬ y ≤ x → Gr p l e R s m args below meth c cells slots Q D A nL ws (pc + 3) lv rest) : Gr p l e R s m args below meth c cells slots Q D A nL ws pc lv (.int y :: .int x :: rest) := fun H locs ls hP hD hS hl => lv_icmp_ge X.1.1 X.1.2.1 hdg ht (fun h => kt h H locs ls hP hD hS hl) (fun h => kf h H locs ls hP hD hS hl)
theorem gr_return (X : Cr p m c cc nL s args Ts own D cs A) {S : Type} {F : S → va_W} (hr : meth.sig.returnType = none) (hlk : meth.locks = false) (hdg : decode cc pc = .ok (.return_, 1)) (u : S) (h : ws = F u) : Gr p l e R s m args below meth c cells slots (QN below args s D A F cells slots) D A nL ws pc lv [] := fun H locs ls hP hD hS hl => by
  subst h
  exact W.vret X.1.1 X.1.2.1 hr (fun t ht hW => ⟨⟨u, rfl, trivial, by rw [ht]; exact hP, hD⟩, hS.F ht⟩) hS.2.2 hdg hlk
theorem gr_join {b : Nat} {e0 : va_E} {H H1 : Heap} {wr w1 : va_W} (hP : va_P D vwCl ws H) (hD : va_D A ws) (hF : ∀ q, va_A [(b, e0)] H.size q → A q) (i : Nat) (isR : List Nat) (hC : ws[i]? = some (b, e0)) (hR : isR.map (fun i => ws[i]?) = wr.map some) (hn : va_nd isR = true) (hdis : i ∉ isR) (hk : ∀ q : Nat, q < H.size → ¬ va_A [(b, e0)] H.size q → H1[q]? = H[q]?) (hP1 : va_P D vwCl w1 H1) (hD1 : va_D (va_A [(b, e0)] H.size) w1) : va_P D vwCl (wr ++ w1) H1 ∧ va_D A (wr ++ w1) :=
  va_join hP hD [i] isR (by simp [hC]) hR hn (fun j hj => by simp only [List.mem_singleton]; intro q; exact hdis (q ▸ hj)) hk hF hP1 hD1
theorem gr_callIN (X : Cr p m c cc nL s args Ts own D cs A) {y : MethodName} {wsY wsY2 : List Cond} {rm : Room} {b k idx maxL mc ms : Nat} {ext st : List Value} {e0 : va_E} {S : Type} {F : S → va_W} {bytes : ByteArray} {host : String} {wr : va_W} (hM : CtN l y wsY rm D cs b ext e0 F mc ms) (hG : GoodIn Ts wsY) (hw : wsY = Cond.code y bytes maxL none :: wsY2) (hnest : va_Nw (.methodLinkNest own idx y host) s) (hini : Cond.initialized y.cls ∈ Ts) (hinst : Cond.instanceMethod y ∈ Ts) (hy1 : y.name = "<init>") (hd : y.cls ≠ "java/lang/invoke/MethodHandle" ∧ y.cls ≠ "java/lang/invoke/VarHandle" ∧ (parseMethodDescriptor y.desc).map (fun d => d.parameters.length) = some k)
    (hR : rm.cells = mc ∧ rm.slots = ms ∧ rm.frames + 1 ≤ R.frames ∧ 8 + (maxL + 11) + rm.locals ≤ R.locals ∧ cells + mc ≤ R.cells ∧ slots + ms ≤ R.slots) (hk : ext.length = k) (hst : st = ext.reverse ++ .ref b :: rest) (hroom : (rest.map fun v => v.category).sum ≤ 8) (hdg : decode cc pc = .ok (.invokespecial idx, 3)) (i : Nat) (isR : List Nat) (hC : ws[i]? = some (b, e0)) (hWr : isR.map (fun i => ws[i]?) = wr.map some) (hn : va_nd isR = true) (hdis : i ∉ isR)
    (kk : ∀ u : S, Gr p l e R s m args below meth c (cells + mc) (slots + ms) Q D A nL (wr ++ F u) (pc + 3) lv rest) : Gr p l e R s m args below meth c cells slots Q D A nL ws pc lv st := fun H locs ls hP hD hS hl => by
  have hC1 : [i].map (fun i => ws[i]?) = [(b, e0)].map some := by simp [hC]
  have hFc := va_free (wc := [(b, e0)]) hD hS X.2.2.1 [i] hC1
  have hDc := hD.sub (ws' := [(b, e0)]) [i] rfl hC1
  refine va_callv (va_runIN (As := ext) (rest := rest) X.1 (hM H.size) ⟨va_cnB k X.1.2.2.2.2 hG hw hR.1 hR.2.1 hnest (X.1.2.2.2.2 _ hini) hd ⟨hR.2.2.1, hR.2.2.2.1⟩, hy1, X.1.2.2.2.2 _ hinst⟩ ⟨Wn_blind, fun U hU hW => ⟨rfl, by rw [hU], by rw [hU]; exact P_map hP [i] hC1, va_K.moved hW.alike X.2.1, hDc.weaken (fun _ _ _ _ => trivial), Nq_warm hW X.2.2.2⟩⟩ rfl hk hl.1 hst (lv_room hroom) hdg hR.2.2.2.2) hS (fun q _ h => hFc q h) hFc (fun u t H1 locs1 ht hvm hp hB hz hk1 hS1 => ?_)
  obtain ⟨hP1, hD1⟩ := hB
  rw [ht] at hP1
  obtain ⟨hP2, hD2⟩ := gr_join hP hD hFc i isR hC hWr hn hdis hk1 hP1 hD1
  exact kk u H1 locs1 ls hP2 hD2 hS1 hl
theorem gr_callI (X : Cr p m c cc nL s args Ts own D cs A) {y : MethodName} {wsY wsY2 : List Cond} {rm : Room} {b k idx maxL mc ms : Nat} {ext st : List Value} {e0 : va_E} {S : Type} {F : S → va_W} {bytes : ByteArray} {wr : va_W} (hM : CtN l y wsY rm D cs b ext e0 F mc ms) (hG : GoodIn Ts wsY) (hw : wsY = Cond.code y bytes maxL none :: wsY2) (hlink : Cond.methodLink own idx y ∈ Ts) (hini : Cond.initialized y.cls ∈ Ts) (hinst : Cond.instanceMethod y ∈ Ts) (hy1 : y.name = "<init>") (hd : y.cls ≠ "java/lang/invoke/MethodHandle" ∧ y.cls ≠ "java/lang/invoke/VarHandle" ∧ (parseMethodDescriptor y.desc).map (fun d => d.parameters.length) = some k)
    (hR : rm.cells = mc ∧ rm.slots = ms ∧ rm.frames + 1 ≤ R.frames ∧ 8 + (maxL + 11) + rm.locals ≤ R.locals ∧ cells + mc ≤ R.cells ∧ slots + ms ≤ R.slots) (hk : ext.length = k) (hst : st = ext.reverse ++ .ref b :: rest) (hroom : (rest.map fun v => v.category).sum ≤ 8) (hdg : decode cc pc = .ok (.invokespecial idx, 3)) (i : Nat) (isR : List Nat) (hC : ws[i]? = some (b, e0)) (hWr : isR.map (fun i => ws[i]?) = wr.map some) (hn : va_nd isR = true) (hdis : i ∉ isR)
    (kk : ∀ u : S, Gr p l e R s m args below meth c (cells + mc) (slots + ms) Q D A nL (wr ++ F u) (pc + 3) lv rest) : Gr p l e R s m args below meth c cells slots Q D A nL ws pc lv st := fun H locs ls hP hD hS hl => by
  have hC1 : [i].map (fun i => ws[i]?) = [(b, e0)].map some := by simp [hC]
  have hFc := va_free (wc := [(b, e0)]) hD hS X.2.2.1 [i] hC1
  have hDc := hD.sub (ws' := [(b, e0)]) [i] rfl hC1
  refine va_callv (va_runI (As := ext) (rest := rest) X.1 (hM H.size) (cwI k X.1.2.2.2.2 hG hw hR.1 hR.2.1 (X.1.2.2.2.2 _ hini) (X.1.2.2.2.2 _ hlink) (X.1.2.2.2.2 _ hinst) hy1 hd ⟨hR.2.2.1, hR.2.2.2.1⟩) ⟨Wn_blind, fun U hU hW => ⟨rfl, by rw [hU], by rw [hU]; exact P_map hP [i] hC1, va_K.moved hW.alike X.2.1, hDc.weaken (fun _ _ _ _ => trivial), Nq_warm hW X.2.2.2⟩⟩ rfl hk hl.1 hst (lv_room hroom) hdg hR.2.2.2.2) hS (fun q _ h => hFc q h) hFc (fun u t H1 locs1 ht hvm hp hB hz hk1 hS1 => ?_)
  obtain ⟨hP1, hD1⟩ := hB
  rw [ht] at hP1
  obtain ⟨hP2, hD2⟩ := gr_join hP hD hFc i isR hC hWr hn hdis hk1 hP1 hD1
  exact kk u H1 locs1 ls hP2 hD2 hS1 hl
end GRW
