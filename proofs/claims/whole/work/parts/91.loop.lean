/-! THE CLAIM OUT OF ONE WALK OF THE LAW'S BODY. Your part is whole_start (and what it stands on); all else here is the same for every law, but numbers. -/
def R_law : String := "BlankPardonsLaw"
def lw_P (b : Addr) (xs : List Int32) (args : Array Value) (s : State) : Prop := args = #[.ref b] ∧ s.IntsAt b xs ∧ xs.length ≤ 384 ∧ (Jvm.Cond.and given_1 narrow_1).before args s = true
def lw_Q (_ : Array Value) (s : State) (o : Outcome) (t : State) : Prop := o = .returned (some (.int 1)) ∧ Framed s o t [] 600000 7302250
def lw_Z (below : List Frame) (a : Array Value) (s : State) : State → Prop := fun t => ∃ o, t.status = .running ∧ Ended t below o ∧ lw_Q a s o t
/-- the law's own end, with 1 on the stack, nothing written that was there before, its room as the claim has it -/
theorem lw_ret {p : Program} {l : Launch} {e : Env} {s : State} {m : MethodId} {below : List Frame} {meth : Method} {c : Code} {b : Nat} (hx : p.tables.exec = Jvm.exec) (hb : c.code = code) (hr : meth.sig.returnType = ret) (hlocks : meth.locks = false) {pc : Nat} {H : Heap} {ls : Array Slot} (hdg : decode code pc = .ok (.ireturn, 1)) : W p l e room_1 s m #[Value.ref b] below meth c H [] 600000 7302250 (lw_Z below #[Value.ref b] s) (F0 m pc ls [.int 1]) := by
  intro T hT X
  obtain ⟨fs, hret, hrun, hended, hW, hframe⟩ := X.leave (v := some (.int 1)) (hlocks := hlocks) (fun h => by rw [hr] at h; cases h)
  have hmeth' : T.vm.method? m = some meth := X.method'
  refine ⟨T.setFrames fs, ?_, .returned (some (.int 1)), hrun, hended, rfl, ⟨_, rfl⟩, hW, hframe⟩
  jvm_step X.here [X.here.top, hx, hb, hdg, hmeth', hr, ret, narrow_b1]
  (try refine ⟨rfl, ?_⟩); (try refine ⟨rfl, ?_⟩)
  first | (intro acts; rw [hret _ acts rfl rfl rfl]) | rw [hret _ _ rfl rfl rfl]
  exact Steps.refl _
/-- what holds at the law's entry: the machine, the code, the tables' words (any of lw_tbl by 'hts w (by decide +kernel)'), the script of L ints xs at the cell b, what the Statement gives of the start (any of its parts by flat_of_before) -/
def lw_At (p : Program) (s : State) (m : MethodId) (meth : Method) (c : Code) (b L : Nat) (xs : Nat → Int32) : Prop :=
  p.tables.exec = Jvm.exec ∧ c.code = code ∧ meth.sig.returnType = ret ∧ c.maxLocals = 4 ∧ s.vm.findClass R_law = some m.cls ∧ (∀ w ∈ lw_tbl, w.before #[Value.ref b] s = true) ∧ va_X b L xs s s.heap ∧ b < s.heap.size ∧ meth.locks = false ∧ (Jvm.Cond.and given_1 narrow_1).before #[Value.ref b] s = true
theorem and31 (x : Int32) : ∃ k, k < 32 ∧ x &&& 31 = nI k := by
  refine ⟨(x &&& 31).toBitVec.toNat, ?_, ?_⟩
  · rw [Int32.toBitVec_and, BitVec.toNat_and]
    exact Nat.lt_of_le_of_lt Nat.and_le_right (by decide)
  · apply Int32.toBitVec_inj.mp
    apply BitVec.eq_of_toNat_eq
    show _ = (BitVec.ofNat 32 (x &&& 31).toBitVec.toNat).toNat
    rw [BitVec.toNat_ofNat, Nat.mod_eq_of_lt (x &&& 31).toBitVec.isLt]
theorem law_end {L i : Nat} (hL : L ≤ 384) (hi : i ≤ 384) : nI L - 6 < nI i ↔ L < i + 6 := by
  rw [Int32.lt_iff_toInt_lt, show (6 : Int32) = nI 6 from rfl, pk_sub_toInt (by omega) (by decide), nI_toInt (by omega)]
  omega
section LOOP
variable {p : Program} {e : Env} {s : State} {m : MethodId} {below : List Frame} {meth : Method} {c : Code} {D : va_G} {cs : Nat → ClassId} {ad : Nat → Nat} {b L : Nat} {xs : Nat → Int32}
set_option maxHeartbeats 4000000 in
set_option maxRecDepth 100000 in
theorem law_loop (l : Launch) (hr : meth.sig.returnType = ret) (hlk : meth.locks = false) (X : Cx p m c cL_law 4 s #[Value.ref b] wsL_law RL D cs (fun q => s.heap.size ≤ q) ad 58) (S : Sc s (fun q => s.heap.size ≤ q) b L xs) : ∀ (n t : Nat) (σ : vSg) (τ : vTa), 65 - t < n → t ≤ 64 → (∃ nd ns nr, Rl σ σ nd ns nr) → Go p l e room_1 s m #[Value.ref b] below meth c (58 + t) (845 + 5 * t) (lw_Z below #[Value.ref b] s) D cs (fun q => s.heap.size ≤ q) ad 58 (shP 0) 4 σ τ 18 (lvL ad b (6 * t)) []
  | 0, t, σ, τ, hn, _, _ => absurd hn (Nat.not_lt_zero _)
  | n + 1, t, σ, τ, hn, ht, hR => by
    have hL := S.2.2.2
    refine go_iload_n X dL_law_18 0 rfl rfl ?_
    refine go_aload_n X dL_law_19 3 rfl rfl ?_
    intro H locs ls hP hS hl
    refine va_slen X.1.1 X.1.2.1 S.1 S.2.1 S.2.2.1 hS dL_law_20 ?_
    revert H locs ls
    suffices hG : Go p l e room_1 s m #[Value.ref b] below meth c (58 + t) (845 + 5 * t) (lw_Z below #[Value.ref b] s) D cs (fun q => s.heap.size ≤ q) ad 58 (shP 0) 4 σ τ 21 (lvL ad b (6 * t)) [.int (nI L), .int (nI (6 * t))] from fun H locs ls hP hS hl => hG H locs ls hP hS hl
    refine go_bipush X (v := 6) dL_law_21 (by decide) ?_
    refine go_isub X dL_law_23 ?_
    refine go_icmp_gt X (tgt := 1149) dL_law_24 rfl (fun c24 => ?_) (fun c24 => ?_)
    · refine go_iconst X (v := 1) dL_law_1149 (by decide) ?_
      intro H locs ls hP hS hl
      refine va_forget (fun q hq => hS.2.2 q hq) ?_
      refine W.widen (k := 600000) (n := 7302250) (by omega) (by omega) ?_
      exact lw_ret X.1.1 X.1.2.1 hr hlk dL_law_1150
    · have hi : 6 * t + 6 ≤ L := Nat.le_of_not_lt (fun z => c24 ((law_end hL (show 6 * t ≤ 384 by omega)).mpr z))
      have ht2 : t < 64 := by omega
      obtain ⟨nd, ns, nr, h⟩ := hR
      have again : ∀ (σ' : vSg) (τ' : vTa), (∃ nd ns nr, Rl σ' σ' nd ns nr) → Go p l e room_1 s m #[Value.ref b] below meth c (58 + t + 1) (845 + 5 * t + 5) (lw_Z below #[Value.ref b] s) D cs (fun q => s.heap.size ≤ q) ad 58 (shP 0) 4 σ' τ' 1143 (lvL ad b (6 * t)) [] := fun σ' τ' hR' => by
        refine go_iinc X (k := 0) (v := nI (6 * (t + 1))) dL_law_1143 rfl (nI_add (6 * t) 6) (by decide) rfl ?_
        refine go_goto X (tgt := 18) dL_law_1146 rfl ?_
        exact law_loop l hr hlk X S n (t + 1) σ' τ' (by omega) (by omega) hR'
      refine go_aload_n X dL_law_27 3 rfl rfl ?_
      refine go_iload_n X dL_law_28 0 rfl rfl ?_
      intro H locs ls hP hS hl
      refine va_sld X.1.1 X.1.2.1 S.1 S.2.1 S.2.2.1 hS (i := nI (6 * t)) (vp_in_nI (by omega) (by omega)) dL_law_29 ?_
      rw [nI_clamp (by omega)]
      revert H locs ls
      suffices hG : Go p l e room_1 s m #[Value.ref b] below meth c (58 + t) (845 + 5 * t) (lw_Z below #[Value.ref b] s) D cs (fun q => s.heap.size ≤ q) ad 58 (shP 0) 4 σ τ 30 (lvL ad b (6 * t)) [.int (xs (6 * t))] from fun H locs ls hP hS hl => hG H locs ls hP hS hl
      refine go_bipush X (v := 31) dL_law_30 (by decide) ?_
      refine go_iand X dL_law_32 ?_
      obtain ⟨k, hk, ek⟩ := and31 (xs (6 * t))
      refine go_topi (v := nI k) ek ?_
      have hcc : 58 + t + 1 ≤ 600000 ∧ 845 + 5 * t + 5 ≤ 7302250 := ⟨by omega, by omega⟩
      match k, hk with
      | 0, _ => exact go_tableIn X (tgt := 160) dL_law_33 (by decide) (by decide) rfl rfl (ln_kingdom X S hi hcc h again)
      | 1, _ => exact go_tableIn X (tgt := 213) dL_law_33 (by decide) (by decide) rfl rfl (ln_ofDeed X S hi hcc h again)
      | 2, _ => exact go_tableIn X (tgt := 246) dL_law_33 (by decide) (by decide) rfl rfl (ln_ofSubject X S hi hcc h again)
      | 3, _ => exact go_tableIn X (tgt := 279) dL_law_33 (by decide) (by decide) rfl rfl (ln_fear X S hi hcc h again)
      | 4, _ => exact go_tableIn X (tgt := 312) dL_law_33 (by decide) (by decide) rfl rfl (ln_alter X S hi hcc h again)
      | 5, _ => exact go_tableIn X (tgt := 355) dL_law_33 (by decide) (by decide) rfl rfl (ln_grant X S hi hcc h again)
      | 6, _ => exact go_tableIn X (tgt := 388) dL_law_33 (by decide) (by decide) rfl rfl (ln_year X S hi hcc h again)
      | 7, _ => exact go_tableIn X (tgt := 451) dL_law_33 (by decide) (by decide) rfl rfl (ln_hope X S hi hcc h again)
      | 8, _ => exact go_tableIn X (tgt := 505) dL_law_33 (by decide) (by decide) rfl rfl (ln_uses X S hi hcc h again)
      | 9, _ => exact go_tableIn X (tgt := 548) dL_law_33 (by decide) (by decide) rfl rfl (ln_buyers X S hi hcc h again)
      | 10, _ => exact go_tableIn X (tgt := 581) dL_law_33 (by decide) (by decide) rfl rfl (ln_best X S hi hcc h again)
      | 11, _ => exact go_tableIn X (tgt := 604) dL_law_33 (by decide) (by decide) rfl rfl (ln_reading X S hi hcc h again)
      | 12, _ => exact go_tableIn X (tgt := 663) dL_law_33 (by decide) (by decide) rfl rfl (ln_back X S hi hcc h again)
      | 13, _ => exact go_tableIn X (tgt := 686) dL_law_33 (by decide) (by decide) rfl rfl (ln_risks X S hi hcc h again)
      | 14, _ => exact go_tableIn X (tgt := 709) dL_law_33 (by decide) (by decide) rfl rfl (ln_hurts X S hi hcc h again)
      | 15, _ => exact go_tableIn X (tgt := 732) dL_law_33 (by decide) (by decide) rfl rfl (ln_kinds X S hi hcc h again)
      | 16, _ => exact go_tableIn X (tgt := 755) dL_law_33 (by decide) (by decide) rfl rfl (ln_odds X S hi hcc h again)
      | 17, _ => exact go_tableIn X (tgt := 799) dL_law_33 (by decide) (by decide) rfl rfl (ln_sheet X S hi hcc h again)
      | 18, _ => exact go_tableIn X (tgt := 842) dL_law_33 (by decide) (by decide) rfl rfl (ln_lose X S hi hcc h again)
      | 19, _ => exact go_tableIn X (tgt := 865) dL_law_33 (by decide) (by decide) rfl rfl (ln_put X S hi hcc h again)
      | 20, _ => exact go_tableIn X (tgt := 908) dL_law_33 (by decide) (by decide) rfl rfl (ln_cell X S hi hcc h again)
      | 21, _ => exact go_tableIn X (tgt := 952) dL_law_33 (by decide) (by decide) rfl rfl (ln_copy X S hi hcc h again)
      | 22, _ => exact go_tableIn X (tgt := 1015) dL_law_33 (by decide) (by decide) rfl rfl (ln_tell X S hi hcc h again)
      | 23, _ => exact go_tableIn X (tgt := 1038) dL_law_33 (by decide) (by decide) rfl rfl (ln_name X S hi hcc h again)
      | 24, _ => exact go_tableIn X (tgt := 1061) dL_law_33 (by decide) (by decide) rfl rfl (ln_as X S hi hcc h again)
      | 25, _ => exact go_tableIn X (tgt := 1094) dL_law_33 (by decide) (by decide) rfl rfl (ln_trace X S hi hcc h again)
      | 26, _ => exact go_tableIn X (tgt := 1107) dL_law_33 (by decide) (by decide) rfl rfl (ln_fault X S hi hcc h again)
      | 27, _ => exact go_tableIn X (tgt := 1120) dL_law_33 (by decide) (by decide) rfl rfl (ln_many X S hi hcc h again)
      | 28, _ => exact go_tableOut X (tgt := 1143) dL_law_33 (by decide) rfl (go_widen (by omega) (by omega) (again σ τ ⟨nd, ns, nr, h⟩))
      | 29, _ => exact go_tableOut X (tgt := 1143) dL_law_33 (by decide) rfl (go_widen (by omega) (by omega) (again σ τ ⟨nd, ns, nr, h⟩))
      | 30, _ => exact go_tableOut X (tgt := 1143) dL_law_33 (by decide) rfl (go_widen (by omega) (by omega) (again σ τ ⟨nd, ns, nr, h⟩))
      | 31, _ => exact go_tableOut X (tgt := 1143) dL_law_33 (by decide) rfl (go_widen (by omega) (by omega) (again σ τ ⟨nd, ns, nr, h⟩))
      | k9 + 32, hk => exact absurd hk (by omega)
end LOOP
