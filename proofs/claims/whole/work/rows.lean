section
-- ===== PART A: goes FIRST, ahead of the names: the tables' words, and 'selects' of the private methods out of them =====
/-- a private method of a class that the tables say can be made, by its rows of tables_1 -/
def lw_okq (q : MethodName × Nat) : Prop := (q.1.cls ≠ "java/lang/invoke/MethodHandle" ∧ q.1.cls ≠ "java/lang/invoke/VarHandle") ∧ Cond.instantiable q.1.cls q.2 ∈ tables_1 ∧ Cond.privateMethod q.1 ∈ tables_1 ∧ Cond.instanceMethod q.1 ∈ tables_1
theorem lw_p0 : lw_okq (⟨"BlankPardons", "failed", "(I)I"⟩, 8) := ⟨⟨by decide +kernel, by decide +kernel⟩, List.mem_of_getElem? (i := 13) (by decide +kernel), List.mem_of_getElem? (i := 180) (by decide +kernel), List.mem_of_getElem? (i := 181) (by decide +kernel)⟩
theorem lw_p1 : lw_okq (⟨"BlankPardons$Text", "code", "(I)I"⟩, 5) := ⟨⟨by decide +kernel, by decide +kernel⟩, List.mem_of_getElem? (i := 188) (by decide +kernel), List.mem_of_getElem? (i := 216) (by decide +kernel), List.mem_of_getElem? (i := 217) (by decide +kernel)⟩
theorem lw_p2 : lw_okq (⟨"BlankPardons$Text", "isDigit", "(II)Z"⟩, 5) := ⟨⟨by decide +kernel, by decide +kernel⟩, List.mem_of_getElem? (i := 188) (by decide +kernel), List.mem_of_getElem? (i := 221) (by decide +kernel), List.mem_of_getElem? (i := 222) (by decide +kernel)⟩
theorem lw_p3 : lw_okq (⟨"BlankPardons$Text", "kindAt", "(I)I"⟩, 5) := ⟨⟨by decide +kernel, by decide +kernel⟩, List.mem_of_getElem? (i := 188) (by decide +kernel), List.mem_of_getElem? (i := 225) (by decide +kernel), List.mem_of_getElem? (i := 226) (by decide +kernel)⟩
theorem lw_p4 : lw_okq (⟨"BlankPardons", "areTriples", "(LBlankPardons$Row;II)Z"⟩, 8) := ⟨⟨by decide +kernel, by decide +kernel⟩, List.mem_of_getElem? (i := 13) (by decide +kernel), List.mem_of_getElem? (i := 306) (by decide +kernel), List.mem_of_getElem? (i := 307) (by decide +kernel)⟩
theorem lw_p5 : lw_okq (⟨"BlankPardons$Year", "goesOn", "(LBlankPardons$Realm;III)Z"⟩, 4) := ⟨⟨by decide +kernel, by decide +kernel⟩, List.mem_of_getElem? (i := 95) (by decide +kernel), List.mem_of_getElem? (i := 314) (by decide +kernel), List.mem_of_getElem? (i := 315) (by decide +kernel)⟩
theorem lw_p6 : lw_okq (⟨"BlankPardons", "ofYear", "(I)I"⟩, 8) := ⟨⟨by decide +kernel, by decide +kernel⟩, List.mem_of_getElem? (i := 13) (by decide +kernel), List.mem_of_getElem? (i := 321) (by decide +kernel), List.mem_of_getElem? (i := 322) (by decide +kernel)⟩
theorem lw_p7 : lw_okq (⟨"BlankPardons$Outlook", "sumOfBest", "(LBlankPardons$Realm;III)J"⟩, 2) := ⟨⟨by decide +kernel, by decide +kernel⟩, List.mem_of_getElem? (i := 77) (by decide +kernel), List.mem_of_getElem? (i := 335) (by decide +kernel), List.mem_of_getElem? (i := 336) (by decide +kernel)⟩
theorem lw_p8 : lw_okq (⟨"BlankPardons", "weighPapers", "(I)V"⟩, 8) := ⟨⟨by decide +kernel, by decide +kernel⟩, List.mem_of_getElem? (i := 13) (by decide +kernel), List.mem_of_getElem? (i := 371) (by decide +kernel), List.mem_of_getElem? (i := 372) (by decide +kernel)⟩
theorem lw_p9 : lw_okq (⟨"BlankPardons", "buyersAt", "(II)I"⟩, 8) := ⟨⟨by decide +kernel, by decide +kernel⟩, List.mem_of_getElem? (i := 13) (by decide +kernel), List.mem_of_getElem? (i := 375) (by decide +kernel), List.mem_of_getElem? (i := 376) (by decide +kernel)⟩
theorem lw_p10 : lw_okq (⟨"BlankPardons$Readings", "allAreSo", "(LBlankPardons$Realm;)Z"⟩, 4) := ⟨⟨by decide +kernel, by decide +kernel⟩, List.mem_of_getElem? (i := 56) (by decide +kernel), List.mem_of_getElem? (i := 409) (by decide +kernel), List.mem_of_getElem? (i := 410) (by decide +kernel)⟩
theorem lw_p11 : lw_okq (⟨"BlankPardons", "tellHoly", "(I)I"⟩, 8) := ⟨⟨by decide +kernel, by decide +kernel⟩, List.mem_of_getElem? (i := 13) (by decide +kernel), List.mem_of_getElem? (i := 462) (by decide +kernel), List.mem_of_getElem? (i := 463) (by decide +kernel)⟩
theorem lw_p12 : lw_okq (⟨"BlankPardons", "leave", "(I)V"⟩, 8) := ⟨⟨by decide +kernel, by decide +kernel⟩, List.mem_of_getElem? (i := 13) (by decide +kernel), List.mem_of_getElem? (i := 466) (by decide +kernel), List.mem_of_getElem? (i := 467) (by decide +kernel)⟩
theorem lw_p13 : lw_okq (⟨"BlankPardons", "tellMeek", "(I)I"⟩, 8) := ⟨⟨by decide +kernel, by decide +kernel⟩, List.mem_of_getElem? (i := 13) (by decide +kernel), List.mem_of_getElem? (i := 470) (by decide +kernel), List.mem_of_getElem? (i := 471) (by decide +kernel)⟩
theorem lw_p14 : lw_okq (⟨"BlankPardons", "tellSubject", "(I)I"⟩, 8) := ⟨⟨by decide +kernel, by decide +kernel⟩, List.mem_of_getElem? (i := 13) (by decide +kernel), List.mem_of_getElem? (i := 474) (by decide +kernel), List.mem_of_getElem? (i := 475) (by decide +kernel)⟩
theorem lw_p15 : lw_okq (⟨"BlankPardonsModel", "refused", "(I)I"⟩, 30) := ⟨⟨by decide +kernel, by decide +kernel⟩, List.mem_of_getElem? (i := 502) (by decide +kernel), List.mem_of_getElem? (i := 610) (by decide +kernel), List.mem_of_getElem? (i := 611) (by decide +kernel)⟩
def lw_privs_1 : List (MethodName × Nat) := [(⟨"BlankPardons", "failed", "(I)I"⟩, 8), (⟨"BlankPardons$Text", "code", "(I)I"⟩, 5), (⟨"BlankPardons$Text", "isDigit", "(II)Z"⟩, 5), (⟨"BlankPardons$Text", "kindAt", "(I)I"⟩, 5), (⟨"BlankPardons", "areTriples", "(LBlankPardons$Row;II)Z"⟩, 8), (⟨"BlankPardons$Year", "goesOn", "(LBlankPardons$Realm;III)Z"⟩, 4), (⟨"BlankPardons", "ofYear", "(I)I"⟩, 8), (⟨"BlankPardons$Outlook", "sumOfBest", "(LBlankPardons$Realm;III)J"⟩, 2), (⟨"BlankPardons", "weighPapers", "(I)V"⟩, 8), (⟨"BlankPardons", "buyersAt", "(II)I"⟩, 8), (⟨"BlankPardons$Readings", "allAreSo", "(LBlankPardons$Realm;)Z"⟩, 4), (⟨"BlankPardons", "tellHoly", "(I)I"⟩, 8), (⟨"BlankPardons", "leave", "(I)V"⟩, 8), (⟨"BlankPardons", "tellMeek", "(I)I"⟩, 8), (⟨"BlankPardons", "tellSubject", "(I)I"⟩, 8), (⟨"BlankPardonsModel", "refused", "(I)I"⟩, 30)]
theorem lw_r1 : ∀ q ∈ lw_privs_1, lw_okq q := List.forall_mem_cons.mpr ⟨lw_p0, List.forall_mem_cons.mpr ⟨lw_p1, List.forall_mem_cons.mpr ⟨lw_p2, List.forall_mem_cons.mpr ⟨lw_p3, List.forall_mem_cons.mpr ⟨lw_p4, List.forall_mem_cons.mpr ⟨lw_p5, List.forall_mem_cons.mpr ⟨lw_p6, List.forall_mem_cons.mpr ⟨lw_p7, List.forall_mem_cons.mpr ⟨lw_p8, List.forall_mem_cons.mpr ⟨lw_p9, List.forall_mem_cons.mpr ⟨lw_p10, List.forall_mem_cons.mpr ⟨lw_p11, List.forall_mem_cons.mpr ⟨lw_p12, List.forall_mem_cons.mpr ⟨lw_p13, List.forall_mem_cons.mpr ⟨lw_p14, List.forall_mem_cons.mpr ⟨lw_p15, fun _ h => absurd h List.not_mem_nil⟩⟩⟩⟩⟩⟩⟩⟩⟩⟩⟩⟩⟩⟩⟩⟩
theorem lw_p16 : lw_okq (⟨"BlankPardonsModel", "cellsBarred", "(IIIJ)I"⟩, 30) := ⟨⟨by decide +kernel, by decide +kernel⟩, List.mem_of_getElem? (i := 502) (by decide +kernel), List.mem_of_getElem? (i := 615) (by decide +kernel), List.mem_of_getElem? (i := 616) (by decide +kernel)⟩
theorem lw_p17 : lw_okq (⟨"BlankPardonsModel", "failed", "(I)I"⟩, 30) := ⟨⟨by decide +kernel, by decide +kernel⟩, List.mem_of_getElem? (i := 502) (by decide +kernel), List.mem_of_getElem? (i := 619) (by decide +kernel), List.mem_of_getElem? (i := 620) (by decide +kernel)⟩
theorem lw_p18 : lw_okq (⟨"BlankPardonsModel", "readsKingdom", "(II)Z"⟩, 30) := ⟨⟨by decide +kernel, by decide +kernel⟩, List.mem_of_getElem? (i := 502) (by decide +kernel), List.mem_of_getElem? (i := 626) (by decide +kernel), List.mem_of_getElem? (i := 627) (by decide +kernel)⟩
theorem lw_p19 : lw_okq (⟨"BlankPardonsModel", "codeAt", "(II)I"⟩, 30) := ⟨⟨by decide +kernel, by decide +kernel⟩, List.mem_of_getElem? (i := 502) (by decide +kernel), List.mem_of_getElem? (i := 630) (by decide +kernel), List.mem_of_getElem? (i := 631) (by decide +kernel)⟩
theorem lw_p20 : lw_okq (⟨"BlankPardonsModel", "readsDeed", "(II)Z"⟩, 30) := ⟨⟨by decide +kernel, by decide +kernel⟩, List.mem_of_getElem? (i := 502) (by decide +kernel), List.mem_of_getElem? (i := 634) (by decide +kernel), List.mem_of_getElem? (i := 635) (by decide +kernel)⟩
theorem lw_p21 : lw_okq (⟨"BlankPardonsModel", "figure", "(IIII)I"⟩, 30) := ⟨⟨by decide +kernel, by decide +kernel⟩, List.mem_of_getElem? (i := 502) (by decide +kernel), List.mem_of_getElem? (i := 638) (by decide +kernel), List.mem_of_getElem? (i := 639) (by decide +kernel)⟩
theorem lw_p22 : lw_okq (⟨"BlankPardonsModel", "readsSubject", "(II)Z"⟩, 30) := ⟨⟨by decide +kernel, by decide +kernel⟩, List.mem_of_getElem? (i := 502) (by decide +kernel), List.mem_of_getElem? (i := 642) (by decide +kernel), List.mem_of_getElem? (i := 643) (by decide +kernel)⟩
theorem lw_p23 : lw_okq (⟨"BlankPardonsModel", "noDeed", "(I)Z"⟩, 30) := ⟨⟨by decide +kernel, by decide +kernel⟩, List.mem_of_getElem? (i := 502) (by decide +kernel), List.mem_of_getElem? (i := 650) (by decide +kernel), List.mem_of_getElem? (i := 651) (by decide +kernel)⟩
theorem lw_p24 : lw_okq (⟨"BlankPardonsModel", "ofDeedBy", "(II)I"⟩, 30) := ⟨⟨by decide +kernel, by decide +kernel⟩, List.mem_of_getElem? (i := 502) (by decide +kernel), List.mem_of_getElem? (i := 654) (by decide +kernel), List.mem_of_getElem? (i := 655) (by decide +kernel)⟩
theorem lw_p25 : lw_okq (⟨"BlankPardonsModel", "noSubject", "(I)Z"⟩, 30) := ⟨⟨by decide +kernel, by decide +kernel⟩, List.mem_of_getElem? (i := 502) (by decide +kernel), List.mem_of_getElem? (i := 662) (by decide +kernel), List.mem_of_getElem? (i := 663) (by decide +kernel)⟩
theorem lw_p26 : lw_okq (⟨"BlankPardonsModel", "doneBy", "(I)I"⟩, 30) := ⟨⟨by decide +kernel, by decide +kernel⟩, List.mem_of_getElem? (i := 502) (by decide +kernel), List.mem_of_getElem? (i := 666) (by decide +kernel), List.mem_of_getElem? (i := 667) (by decide +kernel)⟩
theorem lw_p27 : lw_okq (⟨"BlankPardonsModel", "valueOf", "(II)I"⟩, 30) := ⟨⟨by decide +kernel, by decide +kernel⟩, List.mem_of_getElem? (i := 502) (by decide +kernel), List.mem_of_getElem? (i := 670) (by decide +kernel), List.mem_of_getElem? (i := 671) (by decide +kernel)⟩
theorem lw_p28 : lw_okq (⟨"BlankPardonsModel", "fearOf", "(II)I"⟩, 30) := ⟨⟨by decide +kernel, by decide +kernel⟩, List.mem_of_getElem? (i := 502) (by decide +kernel), List.mem_of_getElem? (i := 674) (by decide +kernel), List.mem_of_getElem? (i := 675) (by decide +kernel)⟩
theorem lw_p29 : lw_okq (⟨"BlankPardonsModel", "goYear", "(II)V"⟩, 30) := ⟨⟨by decide +kernel, by decide +kernel⟩, List.mem_of_getElem? (i := 502) (by decide +kernel), List.mem_of_getElem? (i := 698) (by decide +kernel), List.mem_of_getElem? (i := 699) (by decide +kernel)⟩
theorem lw_p30 : lw_okq (⟨"BlankPardonsModel", "goHope", "(II)V"⟩, 30) := ⟨⟨by decide +kernel, by decide +kernel⟩, List.mem_of_getElem? (i := 502) (by decide +kernel), List.mem_of_getElem? (i := 712) (by decide +kernel), List.mem_of_getElem? (i := 713) (by decide +kernel)⟩
theorem lw_p31 : lw_okq (⟨"BlankPardonsModel", "bestBy", "(IIII)J"⟩, 30) := ⟨⟨by decide +kernel, by decide +kernel⟩, List.mem_of_getElem? (i := 502) (by decide +kernel), List.mem_of_getElem? (i := 716) (by decide +kernel), List.mem_of_getElem? (i := 717) (by decide +kernel)⟩
def lw_privs_2 : List (MethodName × Nat) := [(⟨"BlankPardonsModel", "cellsBarred", "(IIIJ)I"⟩, 30), (⟨"BlankPardonsModel", "failed", "(I)I"⟩, 30), (⟨"BlankPardonsModel", "readsKingdom", "(II)Z"⟩, 30), (⟨"BlankPardonsModel", "codeAt", "(II)I"⟩, 30), (⟨"BlankPardonsModel", "readsDeed", "(II)Z"⟩, 30), (⟨"BlankPardonsModel", "figure", "(IIII)I"⟩, 30), (⟨"BlankPardonsModel", "readsSubject", "(II)Z"⟩, 30), (⟨"BlankPardonsModel", "noDeed", "(I)Z"⟩, 30), (⟨"BlankPardonsModel", "ofDeedBy", "(II)I"⟩, 30), (⟨"BlankPardonsModel", "noSubject", "(I)Z"⟩, 30), (⟨"BlankPardonsModel", "doneBy", "(I)I"⟩, 30), (⟨"BlankPardonsModel", "valueOf", "(II)I"⟩, 30), (⟨"BlankPardonsModel", "fearOf", "(II)I"⟩, 30), (⟨"BlankPardonsModel", "goYear", "(II)V"⟩, 30), (⟨"BlankPardonsModel", "goHope", "(II)V"⟩, 30), (⟨"BlankPardonsModel", "bestBy", "(IIII)J"⟩, 30)]
theorem lw_r2 : ∀ q ∈ lw_privs_2, lw_okq q := List.forall_mem_cons.mpr ⟨lw_p16, List.forall_mem_cons.mpr ⟨lw_p17, List.forall_mem_cons.mpr ⟨lw_p18, List.forall_mem_cons.mpr ⟨lw_p19, List.forall_mem_cons.mpr ⟨lw_p20, List.forall_mem_cons.mpr ⟨lw_p21, List.forall_mem_cons.mpr ⟨lw_p22, List.forall_mem_cons.mpr ⟨lw_p23, List.forall_mem_cons.mpr ⟨lw_p24, List.forall_mem_cons.mpr ⟨lw_p25, List.forall_mem_cons.mpr ⟨lw_p26, List.forall_mem_cons.mpr ⟨lw_p27, List.forall_mem_cons.mpr ⟨lw_p28, List.forall_mem_cons.mpr ⟨lw_p29, List.forall_mem_cons.mpr ⟨lw_p30, List.forall_mem_cons.mpr ⟨lw_p31, fun _ h => absurd h List.not_mem_nil⟩⟩⟩⟩⟩⟩⟩⟩⟩⟩⟩⟩⟩⟩⟩⟩
theorem lw_p32 : lw_okq (⟨"BlankPardonsModel", "timesOf", "(I)J"⟩, 30) := ⟨⟨by decide +kernel, by decide +kernel⟩, List.mem_of_getElem? (i := 502) (by decide +kernel), List.mem_of_getElem? (i := 720) (by decide +kernel), List.mem_of_getElem? (i := 721) (by decide +kernel)⟩
theorem lw_p33 : lw_okq (⟨"BlankPardonsModel", "greater", "(JJ)J"⟩, 30) := ⟨⟨by decide +kernel, by decide +kernel⟩, List.mem_of_getElem? (i := 502) (by decide +kernel), List.mem_of_getElem? (i := 724) (by decide +kernel), List.mem_of_getElem? (i := 725) (by decide +kernel)⟩
theorem lw_p34 : lw_okq (⟨"BlankPardonsModel", "buyersAt", "(II)I"⟩, 30) := ⟨⟨by decide +kernel, by decide +kernel⟩, List.mem_of_getElem? (i := 502) (by decide +kernel), List.mem_of_getElem? (i := 740) (by decide +kernel), List.mem_of_getElem? (i := 741) (by decide +kernel)⟩
theorem lw_p35 : lw_okq (⟨"BlankPardonsModel", "areSo", "()Z"⟩, 30) := ⟨⟨by decide +kernel, by decide +kernel⟩, List.mem_of_getElem? (i := 502) (by decide +kernel), List.mem_of_getElem? (i := 763) (by decide +kernel), List.mem_of_getElem? (i := 764) (by decide +kernel)⟩
theorem lw_p36 : lw_okq (⟨"BlankPardonsModel", "noCell", "(II)I"⟩, 30) := ⟨⟨by decide +kernel, by decide +kernel⟩, List.mem_of_getElem? (i := 502) (by decide +kernel), List.mem_of_getElem? (i := 794) (by decide +kernel), List.mem_of_getElem? (i := 795) (by decide +kernel)⟩
theorem lw_p37 : lw_okq (⟨"BlankPardonsModel", "failedLong", "(I)J"⟩, 30) := ⟨⟨by decide +kernel, by decide +kernel⟩, List.mem_of_getElem? (i := 502) (by decide +kernel), List.mem_of_getElem? (i := 802) (by decide +kernel), List.mem_of_getElem? (i := 803) (by decide +kernel)⟩
theorem lw_p38 : lw_okq (⟨"BlankPardonsModel", "traced", "(I)V"⟩, 30) := ⟨⟨by decide +kernel, by decide +kernel⟩, List.mem_of_getElem? (i := 502) (by decide +kernel), List.mem_of_getElem? (i := 814) (by decide +kernel), List.mem_of_getElem? (i := 815) (by decide +kernel)⟩
theorem lw_p39 : lw_okq (⟨"BlankPardonsModel", "papersNow", "()I"⟩, 30) := ⟨⟨by decide +kernel, by decide +kernel⟩, List.mem_of_getElem? (i := 502) (by decide +kernel), List.mem_of_getElem? (i := 838) (by decide +kernel), List.mem_of_getElem? (i := 839) (by decide +kernel)⟩
def lw_privs_3 : List (MethodName × Nat) := [(⟨"BlankPardonsModel", "timesOf", "(I)J"⟩, 30), (⟨"BlankPardonsModel", "greater", "(JJ)J"⟩, 30), (⟨"BlankPardonsModel", "buyersAt", "(II)I"⟩, 30), (⟨"BlankPardonsModel", "areSo", "()Z"⟩, 30), (⟨"BlankPardonsModel", "noCell", "(II)I"⟩, 30), (⟨"BlankPardonsModel", "failedLong", "(I)J"⟩, 30), (⟨"BlankPardonsModel", "traced", "(I)V"⟩, 30), (⟨"BlankPardonsModel", "papersNow", "()I"⟩, 30)]
theorem lw_r3 : ∀ q ∈ lw_privs_3, lw_okq q := List.forall_mem_cons.mpr ⟨lw_p32, List.forall_mem_cons.mpr ⟨lw_p33, List.forall_mem_cons.mpr ⟨lw_p34, List.forall_mem_cons.mpr ⟨lw_p35, List.forall_mem_cons.mpr ⟨lw_p36, List.forall_mem_cons.mpr ⟨lw_p37, List.forall_mem_cons.mpr ⟨lw_p38, List.forall_mem_cons.mpr ⟨lw_p39, fun _ h => absurd h List.not_mem_nil⟩⟩⟩⟩⟩⟩⟩⟩
def lw_privs : List (MethodName × Nat) := lw_privs_1 ++ (lw_privs_2 ++ (lw_privs_3))
def lw_tbl : List Cond := k2_sels lw_privs ++ tables_1
theorem lw_privs_ok : ∀ q ∈ lw_privs, lw_okq q := by
  show ∀ q ∈ lw_privs_1 ++ (lw_privs_2 ++ (lw_privs_3)), lw_okq q
  exact List.forall_mem_append.mpr ⟨lw_r1, List.forall_mem_append.mpr ⟨lw_r2, lw_r3⟩⟩
end
section
/-! ===== BEGIN words of one list among another's, by their places ===== -/
theorem goodIn_r {big : List Cond} (ws : List Cond) (ps : List Nat) (hp : ws = ps.filterMap (fun i => big[i]?)) (h : ws.all goodWord = true) : GoodIn big ws := by
  intro w hw
  have h1 := List.all_eq_true.mp h w hw
  rw [hp] at hw
  obtain ⟨i, -, hi⟩ := List.mem_filterMap.mp hw
  have hm : w ∈ big := by first | exact List.mem_of_getElem? hi | exact List.getElem?_mem hi
  exact ⟨hm, good_of_word h1⟩
theorem goodIn_app {big a b : List Cond} (ha : GoodIn big a) (hb : GoodIn big b) : GoodIn big (a ++ b) := fun w h => (List.mem_append.mp h).elim (ha w) (hb w)
theorem goodIn_ca {big a b : List Cond} {c : Cond} (ha : GoodIn big (c :: a)) (hb : GoodIn big b) : GoodIn big (c :: (a ++ b)) := fun w h => (List.mem_cons.mp h).elim (fun e => ha w (List.mem_cons.mpr (Or.inl e))) (fun h => (List.mem_append.mp h).elim (fun h => ha w (List.mem_cons.mpr (Or.inr h))) (hb w))
theorem goodIn_sub {big ws : List Cond} (hm : ∀ w ∈ ws, w ∈ big) (h : ws.all goodWord = true) : GoodIn big ws := fun w hw => ⟨hm w hw, good_of_word (List.all_eq_true.mp h w hw)⟩
/-! ===== END ===== -/
/-! ===== BEGIN printed: names, fields, word lists, decode rows ===== -/
def RX0 : String := "BlankPardons$Outlook"
def TX0 : u_T := fun k => match k with
  | 0 => ("BlankPardons$Outlook", "hopes", "[[J", true)
  | _ => ("BlankPardons$Outlook", "scales", "[J", true)
def tyX0 : Nat → FieldType := fun k => match k with
  | 0 => .array (.array .long)
  | _ => .array .long
abbrev wsX00 : List Cond := u_ws RX0 TX0 2
theorem nmX0 : ∀ a, a < 2 → ∀ b, b < 2 → a ≠ b → (TX0 a).2.1 ≠ (TX0 b).2.1 := by decide +kernel
theorem tyX0_ok : ∀ k, k < 2 → parseFieldDescriptor (TX0 k).2.2.1 = some (tyX0 k) := by decide +kernel
abbrev cX0_init : ByteArray := prog_2_method_1_code
def yX0_init : MethodName := ⟨RX0, "<init>", "()V"⟩
abbrev cX0_lookAhead : ByteArray := prog_2_method_2_code
def yX0_lookAhead : MethodName := ⟨RX0, "lookAhead", "(LBlankPardons$Realm;II)V"⟩
abbrev cX0_sumOfBest : ByteArray := prog_2_method_3_code
def yX0_sumOfBest : MethodName := ⟨RX0, "sumOfBest", "(LBlankPardons$Realm;III)J"⟩
abbrev cX0_byPaper : ByteArray := prog_2_method_4_code
def yX0_byPaper : MethodName := ⟨RX0, "byPaper", "(LBlankPardons$Realm;III)J"⟩
abbrev cX0_byNone : ByteArray := prog_2_method_5_code
def yX0_byNone : MethodName := ⟨RX0, "byNone", "(LBlankPardons$Realm;IIII)J"⟩
def RX1 : String := "BlankPardons$Readings"
def TX1 : u_T := fun k => match k with
  | 0 => ("BlankPardons$Readings", "subjects", "[I", true)
  | 1 => ("BlankPardons$Readings", "deeds", "[I", true)
  | 2 => ("BlankPardons$Readings", "done", "[Z", true)
  | _ => ("BlankPardons$Readings", "count", "I", false)
def tyX1 : Nat → FieldType := fun k => match k with
  | 0 => .array .int
  | 1 => .array .int
  | 2 => .array .boolean
  | _ => .int
abbrev wsX10 : List Cond := u_ws RX1 TX1 4
theorem nmX1 : ∀ a, a < 4 → ∀ b, b < 4 → a ≠ b → (TX1 a).2.1 ≠ (TX1 b).2.1 := by decide +kernel
theorem tyX1_ok : ∀ k, k < 4 → parseFieldDescriptor (TX1 k).2.2.1 = some (tyX1 k) := by decide +kernel
abbrev cX1_init : ByteArray := prog_3_method_1_code
def yX1_init : MethodName := ⟨RX1, "<init>", "()V"⟩
abbrev cX1_note : ByteArray := prog_3_method_2_code
def yX1_note : MethodName := ⟨RX1, "note", "(IIZ)I"⟩
abbrev cX1_fitting : ByteArray := prog_3_method_3_code
def yX1_fitting : MethodName := ⟨RX1, "fitting", "(LBlankPardons$Realm;[III)I"⟩
abbrev cX1_allAreSo : ByteArray := prog_3_method_4_code
def yX1_allAreSo : MethodName := ⟨RX1, "allAreSo", "(LBlankPardons$Realm;)Z"⟩
def RX2 : String := "BlankPardons$Realm"
def TX2 : u_T := fun k => match k with
  | 0 => ("BlankPardons$Realm", "deeds", "[[I", true)
  | 1 => ("BlankPardons$Realm", "kindOf", "[I", true)
  | 2 => ("BlankPardons$Realm", "papers", "[I", true)
  | 3 => ("BlankPardons$Realm", "deedCount", "I", false)
  | _ => ("BlankPardons$Realm", "subjectCount", "I", false)
def tyX2 : Nat → FieldType := fun k => match k with
  | 0 => .array (.array .int)
  | 1 => .array .int
  | 2 => .array .int
  | 3 => .int
  | _ => .int
abbrev wsX20 : List Cond := u_ws RX2 TX2 5
theorem nmX2 : ∀ a, a < 5 → ∀ b, b < 5 → a ≠ b → (TX2 a).2.1 ≠ (TX2 b).2.1 := by decide +kernel
theorem tyX2_ok : ∀ k, k < 5 → parseFieldDescriptor (TX2 k).2.2.1 = some (tyX2 k) := by decide +kernel
abbrev cX2_init : ByteArray := prog_4_method_1_code
def yX2_init : MethodName := ⟨RX2, "<init>", "()V"⟩
abbrev cX2_found : ByteArray := prog_4_method_2_code
def yX2_found : MethodName := ⟨RX2, "found", "(LBlankPardons$Text;)V"⟩
abbrev cX2_isThere : ByteArray := prog_4_method_3_code
def yX2_isThere : MethodName := ⟨RX2, "isThere", "()Z"⟩
abbrev cX2_hasDeed : ByteArray := prog_4_method_4_code
def yX2_hasDeed : MethodName := ⟨RX2, "hasDeed", "(I)Z"⟩
abbrev cX2_hasSubject : ByteArray := prog_4_method_5_code
def yX2_hasSubject : MethodName := ⟨RX2, "hasSubject", "(I)Z"⟩
abbrev cX2_fearOf : ByteArray := prog_4_method_6_code
def yX2_fearOf : MethodName := ⟨RX2, "fearOf", "(II)I"⟩
abbrev cX2_pardonedValue : ByteArray := prog_4_method_7_code
def yX2_pardonedValue : MethodName := ⟨RX2, "pardonedValue", "(I)I"⟩
abbrev cX2_unpardonedValue : ByteArray := prog_4_method_8_code
def yX2_unpardonedValue : MethodName := ⟨RX2, "unpardonedValue", "(II)I"⟩
abbrev cX2_wouldDo : ByteArray := prog_4_method_9_code
def yX2_wouldDo : MethodName := ⟨RX2, "wouldDo", "(II)Z"⟩
abbrev cX2_doneBy : ByteArray := prog_4_method_10_code
def yX2_doneBy : MethodName := ⟨RX2, "doneBy", "(I)I"⟩
abbrev cX2_allPapers : ByteArray := prog_4_method_11_code
def yX2_allPapers : MethodName := ⟨RX2, "allPapers", "()I"⟩
def RX3 : String := "BlankPardons$Row"
def TX3 : u_T := fun k => match k with
  | 0 => ("BlankPardons$Row", "cells", "[I", true)
  | 1 => ("BlankPardons$Row", "isThere", "Z", false)
  | 2 => ("BlankPardons$Row", "lane", "I", false)
  | _ => ("BlankPardons$Row", "length", "I", false)
def tyX3 : Nat → FieldType := fun k => match k with
  | 0 => .array .int
  | 1 => .boolean
  | 2 => .int
  | _ => .int
abbrev wsX30 : List Cond := u_ws RX3 TX3 4
theorem nmX3 : ∀ a, a < 4 → ∀ b, b < 4 → a ≠ b → (TX3 a).2.1 ≠ (TX3 b).2.1 := by decide +kernel
theorem tyX3_ok : ∀ k, k < 4 → parseFieldDescriptor (TX3 k).2.2.1 = some (tyX3 k) := by decide +kernel
abbrev cX3_init : ByteArray := prog_5_method_1_code
def yX3_init : MethodName := ⟨RX3, "<init>", "()V"⟩
abbrev cX3_renew : ByteArray := prog_5_method_2_code
def yX3_renew : MethodName := ⟨RX3, "renew", "(II)V"⟩
abbrev cX3_cut : ByteArray := prog_5_method_3_code
def yX3_cut : MethodName := ⟨RX3, "cut", "(I)I"⟩
abbrev cX3_spans : ByteArray := prog_5_method_4_code
def yX3_spans : MethodName := ⟨RX3, "spans", "(II)Z"⟩
def RX4 : String := "BlankPardons$Text"
def TX4 : u_T := fun k => match k with
  | 0 => ("BlankPardons$Text", "row", "LBlankPardons$Row;", true)
  | 1 => ("BlankPardons$Text", "from", "I", true)
  | 2 => ("BlankPardons$Text", "size", "I", true)
  | 3 => ("BlankPardons$Text", "deeds", "I", false)
  | _ => ("BlankPardons$Text", "subjects", "I", false)
def tyX4 : Nat → FieldType := fun k => match k with
  | 0 => .object "BlankPardons$Row"
  | 1 => .int
  | 2 => .int
  | 3 => .int
  | _ => .int
abbrev wsX40 : List Cond := u_ws RX4 TX4 5
theorem nmX4 : ∀ a, a < 5 → ∀ b, b < 5 → a ≠ b → (TX4 a).2.1 ≠ (TX4 b).2.1 := by decide +kernel
theorem tyX4_ok : ∀ k, k < 5 → parseFieldDescriptor (TX4 k).2.2.1 = some (tyX4 k) := by decide +kernel
abbrev cX4_init : ByteArray := prog_6_method_1_code
def yX4_init : MethodName := ⟨RX4, "<init>", "(LBlankPardons$Row;II)V"⟩
abbrev cX4_firstFault : ByteArray := prog_6_method_2_code
def yX4_firstFault : MethodName := ⟨RX4, "firstFault", "()I"⟩
abbrev cX4_digitOfDeed : ByteArray := prog_6_method_3_code
def yX4_digitOfDeed : MethodName := ⟨RX4, "digitOfDeed", "(II)I"⟩
abbrev cX4_kindOfSubject : ByteArray := prog_6_method_4_code
def yX4_kindOfSubject : MethodName := ⟨RX4, "kindOfSubject", "(I)I"⟩
abbrev cX4_papersOfSubject : ByteArray := prog_6_method_5_code
def yX4_papersOfSubject : MethodName := ⟨RX4, "papersOfSubject", "(I)I"⟩
abbrev cX4_code : ByteArray := prog_6_method_6_code
def yX4_code : MethodName := ⟨RX4, "code", "(I)I"⟩
abbrev cX4_isDigit : ByteArray := prog_6_method_7_code
def yX4_isDigit : MethodName := ⟨RX4, "isDigit", "(II)Z"⟩
abbrev cX4_kindAt : ByteArray := prog_6_method_8_code
def yX4_kindAt : MethodName := ⟨RX4, "kindAt", "(I)I"⟩
def RX5 : String := "BlankPardons$Year"
def TX5 : u_T := fun k => match k with
  | 0 => ("BlankPardons$Year", "left", "[I", true)
  | 1 => ("BlankPardons$Year", "values", "I", false)
  | 2 => ("BlankPardons$Year", "pardoned", "I", false)
  | _ => ("BlankPardons$Year", "firstWrong", "I", false)
def tyX5 : Nat → FieldType := fun k => match k with
  | 0 => .array .int
  | 1 => .int
  | 2 => .int
  | _ => .int
abbrev wsX50 : List Cond := u_ws RX5 TX5 4
theorem nmX5 : ∀ a, a < 4 → ∀ b, b < 4 → a ≠ b → (TX5 a).2.1 ≠ (TX5 b).2.1 := by decide +kernel
theorem tyX5_ok : ∀ k, k < 4 → parseFieldDescriptor (TX5 k).2.2.1 = some (tyX5 k) := by decide +kernel
abbrev cX5_init : ByteArray := prog_7_method_1_code
def yX5_init : MethodName := ⟨RX5, "<init>", "()V"⟩
abbrev cX5_live : ByteArray := prog_7_method_2_code
def yX5_live : MethodName := ⟨RX5, "live", "(LBlankPardons$Realm;LBlankPardons$Row;II)V"⟩
abbrev cX5_goesOn : ByteArray := prog_7_method_3_code
def yX5_goesOn : MethodName := ⟨RX5, "goesOn", "(LBlankPardons$Realm;III)Z"⟩
def RX6 : String := "BlankPardons"
def TX6 : u_T := fun k => match k with
  | 0 => ("BlankPardons", "sheets", "[LBlankPardons$Row;", true)
  | 1 => ("BlankPardons", "realm", "LBlankPardons$Realm;", true)
  | 2 => ("BlankPardons", "readings", "LBlankPardons$Readings;", true)
  | 3 => ("BlankPardons", "outlook", "LBlankPardons$Outlook;", true)
  | 4 => ("BlankPardons", "lived", "LBlankPardons$Year;", true)
  | 5 => ("BlankPardons", "gains", "[J", true)
  | 6 => ("BlankPardons", "traced", "I", false)
  | _ => ("BlankPardons", "latestFault", "I", false)
def tyX6 : Nat → FieldType := fun k => match k with
  | 0 => .array (.object "BlankPardons$Row")
  | 1 => .object "BlankPardons$Realm"
  | 2 => .object "BlankPardons$Readings"
  | 3 => .object "BlankPardons$Outlook"
  | 4 => .object "BlankPardons$Year"
  | 5 => .array .long
  | 6 => .int
  | _ => .int
abbrev wsX60 : List Cond := u_ws RX6 TX6 8
theorem nmX6 : ∀ a, a < 8 → ∀ b, b < 8 → a ≠ b → (TX6 a).2.1 ≠ (TX6 b).2.1 := by decide +kernel
theorem tyX6_ok : ∀ k, k < 8 → parseFieldDescriptor (TX6 k).2.2.1 = some (tyX6 k) := by decide +kernel
abbrev cX6_init : ByteArray := prog_1_method_1_code
def yX6_init : MethodName := ⟨RX6, "<init>", "()V"⟩
abbrev cX6_kingdom : ByteArray := prog_1_method_2_code
def yX6_kingdom : MethodName := ⟨RX6, "kingdom", "(IIII)I"⟩
abbrev cX6_ofDeed : ByteArray := prog_1_method_3_code
def yX6_ofDeed : MethodName := ⟨RX6, "ofDeed", "(II)I"⟩
abbrev cX6_ofSubject : ByteArray := prog_1_method_4_code
def yX6_ofSubject : MethodName := ⟨RX6, "ofSubject", "(II)I"⟩
abbrev cX6_fear : ByteArray := prog_1_method_5_code
def yX6_fear : MethodName := ⟨RX6, "fear", "(II)I"⟩
abbrev cX6_alter : ByteArray := prog_1_method_6_code
def yX6_alter : MethodName := ⟨RX6, "alter", "(III)I"⟩
abbrev cX6_grant : ByteArray := prog_1_method_7_code
def yX6_grant : MethodName := ⟨RX6, "grant", "(II)I"⟩
abbrev cX6_year : ByteArray := prog_1_method_8_code
def yX6_year : MethodName := ⟨RX6, "year", "(IIIII)I"⟩
abbrev cX6_isAskedOfYears : ByteArray := prog_1_method_9_code
def yX6_isAskedOfYears : MethodName := ⟨RX6, "isAskedOfYears", "(I)Z"⟩
abbrev cX6_areTriples : ByteArray := prog_1_method_10_code
def yX6_areTriples : MethodName := ⟨RX6, "areTriples", "(LBlankPardons$Row;II)Z"⟩
abbrev cX6_ofYear : ByteArray := prog_1_method_11_code
def yX6_ofYear : MethodName := ⟨RX6, "ofYear", "(I)I"⟩
abbrev cX6_hope : ByteArray := prog_1_method_12_code
def yX6_hope : MethodName := ⟨RX6, "hope", "(IIII)J"⟩
abbrev cX6_uses : ByteArray := prog_1_method_13_code
def yX6_uses : MethodName := ⟨RX6, "uses", "(III)I"⟩
abbrev cX6_buyers : ByteArray := prog_1_method_14_code
def yX6_buyers : MethodName := ⟨RX6, "buyers", "(II)I"⟩
abbrev cX6_best : ByteArray := prog_1_method_15_code
def yX6_best : MethodName := ⟨RX6, "best", "(I)I"⟩
abbrev cX6_weighPapers : ByteArray := prog_1_method_16_code
def yX6_weighPapers : MethodName := ⟨RX6, "weighPapers", "(I)V"⟩
abbrev cX6_buyersAt : ByteArray := prog_1_method_17_code
def yX6_buyersAt : MethodName := ⟨RX6, "buyersAt", "(II)I"⟩
abbrev cX6_reading : ByteArray := prog_1_method_18_code
def yX6_reading : MethodName := ⟨RX6, "reading", "(IIZ)I"⟩
abbrev cX6_back : ByteArray := prog_1_method_19_code
def yX6_back : MethodName := ⟨RX6, "back", "(I)I"⟩
abbrev cX6_risks : ByteArray := prog_1_method_20_code
def yX6_risks : MethodName := ⟨RX6, "risks", "(I)I"⟩
abbrev cX6_hurts : ByteArray := prog_1_method_21_code
def yX6_hurts : MethodName := ⟨RX6, "hurts", "(I)I"⟩
abbrev cX6_kinds : ByteArray := prog_1_method_22_code
def yX6_kinds : MethodName := ⟨RX6, "kinds", "(I)I"⟩
abbrev cX6_odds : ByteArray := prog_1_method_23_code
def yX6_odds : MethodName := ⟨RX6, "odds", "(III)J"⟩
abbrev cX6_sheet : ByteArray := prog_1_method_24_code
def yX6_sheet : MethodName := ⟨RX6, "sheet", "(III)I"⟩
abbrev cX6_lose : ByteArray := prog_1_method_25_code
def yX6_lose : MethodName := ⟨RX6, "lose", "(I)I"⟩
abbrev cX6_put : ByteArray := prog_1_method_26_code
def yX6_put : MethodName := ⟨RX6, "put", "(III)I"⟩
abbrev cX6_cell : ByteArray := prog_1_method_27_code
def yX6_cell : MethodName := ⟨RX6, "cell", "(III)J"⟩
abbrev cX6_copy : ByteArray := prog_1_method_28_code
def yX6_copy : MethodName := ⟨RX6, "copy", "(IIIII)I"⟩
abbrev cX6_tell : ByteArray := prog_1_method_29_code
def yX6_tell : MethodName := ⟨RX6, "tell", "(I)I"⟩
abbrev cX6_name : ByteArray := prog_1_method_30_code
def yX6_name : MethodName := ⟨RX6, "name", "(I)I"⟩
abbrev cX6_as : ByteArray := prog_1_method_31_code
def yX6_as : MethodName := ⟨RX6, "as", "(II)I"⟩
abbrev cX6_trace : ByteArray := prog_1_method_32_code
def yX6_trace : MethodName := ⟨RX6, "trace", "()I"⟩
abbrev cX6_fault : ByteArray := prog_1_method_33_code
def yX6_fault : MethodName := ⟨RX6, "fault", "()I"⟩
abbrev cX6_many : ByteArray := prog_1_method_34_code
def yX6_many : MethodName := ⟨RX6, "many", "(I)I"⟩
abbrev cX6_tellSubject : ByteArray := prog_1_method_35_code
def yX6_tellSubject : MethodName := ⟨RX6, "tellSubject", "(I)I"⟩
abbrev cX6_tellMeek : ByteArray := prog_1_method_36_code
def yX6_tellMeek : MethodName := ⟨RX6, "tellMeek", "(I)I"⟩
abbrev cX6_tellHoly : ByteArray := prog_1_method_37_code
def yX6_tellHoly : MethodName := ⟨RX6, "tellHoly", "(I)I"⟩
abbrev cX6_leave : ByteArray := prog_1_method_38_code
def yX6_leave : MethodName := ⟨RX6, "leave", "(I)V"⟩
abbrev cX6_failed : ByteArray := prog_1_method_39_code
def yX6_failed : MethodName := ⟨RX6, "failed", "(I)I"⟩
abbrev cX6_faultAs : ByteArray := prog_1_method_40_code
def yX6_faultAs : MethodName := ⟨RX6, "faultAs", "(LBlankPardons$Row;I)I"⟩
abbrev cX6_isSheet : ByteArray := prog_1_method_41_code
def yX6_isSheet : MethodName := ⟨RX6, "isSheet", "(I)Z"⟩
abbrev cX6_isBelow : ByteArray := prog_1_method_42_code
def yX6_isBelow : MethodName := ⟨RX6, "isBelow", "(II)Z"⟩
abbrev cX6_inLeastTerms : ByteArray := prog_1_method_43_code
def yX6_inLeastTerms : MethodName := ⟨RX6, "inLeastTerms", "(JJI)J"⟩
abbrev cX6_commonDivisor : ByteArray := prog_1_method_44_code
def yX6_commonDivisor : MethodName := ⟨RX6, "commonDivisor", "(JJ)J"⟩
def RX7 : String := "BlankPardonsModel"
def TX7 : u_T := fun k => match k with
  | 0 => ("BlankPardonsModel", "fault", "I", false)
  | 1 => ("BlankPardonsModel", "deeds", "I", false)
  | 2 => ("BlankPardonsModel", "worthOf", "[I", true)
  | 3 => ("BlankPardonsModel", "riskOf", "[I", true)
  | 4 => ("BlankPardonsModel", "hurtOf", "[I", true)
  | 5 => ("BlankPardonsModel", "subjects", "I", false)
  | 6 => ("BlankPardonsModel", "kindOf", "[I", true)
  | 7 => ("BlankPardonsModel", "papersOf", "[I", true)
  | 8 => ("BlankPardonsModel", "readAt", "I", false)
  | 9 => ("BlankPardonsModel", "readDeeds", "I", false)
  | 10 => ("BlankPardonsModel", "readSubjects", "I", false)
  | 11 => ("BlankPardonsModel", "readWorth", "[I", true)
  | 12 => ("BlankPardonsModel", "readRisk", "[I", true)
  | 13 => ("BlankPardonsModel", "readHurt", "[I", true)
  | 14 => ("BlankPardonsModel", "readKind", "[I", true)
  | 15 => ("BlankPardonsModel", "readPapers", "[I", true)
  | 16 => ("BlankPardonsModel", "firstWrong", "I", false)
  | 17 => ("BlankPardonsModel", "sumNow", "I", false)
  | 18 => ("BlankPardonsModel", "pardonedNow", "I", false)
  | 19 => ("BlankPardonsModel", "leftOf", "[I", true)
  | 20 => ("BlankPardonsModel", "hopeOf", "[J", true)
  | 21 => ("BlankPardonsModel", "readings", "I", false)
  | 22 => ("BlankPardonsModel", "readingOf", "[I", true)
  | 23 => ("BlankPardonsModel", "readingBy", "[I", true)
  | 24 => ("BlankPardonsModel", "readingDoes", "[Z", true)
  | 25 => ("BlankPardonsModel", "sheetSize", "[I", true)
  | 26 => ("BlankPardonsModel", "sheetLane", "[I", true)
  | 27 => ("BlankPardonsModel", "sheet", "[I", true)
  | 28 => ("BlankPardonsModel", "hands", "[I", true)
  | _ => ("BlankPardonsModel", "traceNow", "I", false)
def tyX7 : Nat → FieldType := fun k => match k with
  | 0 => .int
  | 1 => .int
  | 2 => .array .int
  | 3 => .array .int
  | 4 => .array .int
  | 5 => .int
  | 6 => .array .int
  | 7 => .array .int
  | 8 => .int
  | 9 => .int
  | 10 => .int
  | 11 => .array .int
  | 12 => .array .int
  | 13 => .array .int
  | 14 => .array .int
  | 15 => .array .int
  | 16 => .int
  | 17 => .int
  | 18 => .int
  | 19 => .array .int
  | 20 => .array .long
  | 21 => .int
  | 22 => .array .int
  | 23 => .array .int
  | 24 => .array .boolean
  | 25 => .array .int
  | 26 => .array .int
  | 27 => .array .int
  | 28 => .array .int
  | _ => .int
abbrev wsX70 : List Cond := u_ws RX7 TX7 30
theorem nmX7 : ∀ a, a < 30 → ∀ b, b < 30 → a ≠ b → (TX7 a).2.1 ≠ (TX7 b).2.1 := by decide +kernel
theorem tyX7_ok : ∀ k, k < 30 → parseFieldDescriptor (TX7 k).2.2.1 = some (tyX7 k) := by decide +kernel
abbrev cX7_init : ByteArray := prog_9_method_1_code
def yX7_init : MethodName := ⟨RX7, "<init>", "()V"⟩
abbrev cX7_in : ByteArray := prog_9_method_2_code
def yX7_in : MethodName := ⟨RX7, "in", "(JJJ)Z"⟩
abbrev cX7_lost : ByteArray := prog_9_method_3_code
def yX7_lost : MethodName := ⟨RX7, "lost", "()J"⟩
abbrev cX7_isIn : ByteArray := prog_9_method_4_code
def yX7_isIn : MethodName := ⟨RX7, "isIn", "(II)Z"⟩
abbrev cX7_bits : ByteArray := prog_9_method_5_code
def yX7_bits : MethodName := ⟨RX7, "bits", "(I)I"⟩
abbrev cX7_share : ByteArray := prog_9_method_6_code
def yX7_share : MethodName := ⟨RX7, "share", "(JJI)J"⟩
abbrev cX7_refused : ByteArray := prog_9_method_7_code
def yX7_refused : MethodName := ⟨RX7, "refused", "(I)I"⟩
abbrev cX7_failed : ByteArray := prog_9_method_8_code
def yX7_failed : MethodName := ⟨RX7, "failed", "(I)I"⟩
abbrev cX7_failedLong : ByteArray := prog_9_method_9_code
def yX7_failedLong : MethodName := ⟨RX7, "failedLong", "(I)J"⟩
abbrev cX7_noDeed : ByteArray := prog_9_method_10_code
def yX7_noDeed : MethodName := ⟨RX7, "noDeed", "(I)Z"⟩
abbrev cX7_noSubject : ByteArray := prog_9_method_11_code
def yX7_noSubject : MethodName := ⟨RX7, "noSubject", "(I)Z"⟩
abbrev cX7_codeAt : ByteArray := prog_9_method_12_code
def yX7_codeAt : MethodName := ⟨RX7, "codeAt", "(II)I"⟩
abbrev cX7_figure : ByteArray := prog_9_method_13_code
def yX7_figure : MethodName := ⟨RX7, "figure", "(IIII)I"⟩
abbrev cX7_readsDeed : ByteArray := prog_9_method_14_code
def yX7_readsDeed : MethodName := ⟨RX7, "readsDeed", "(II)Z"⟩
abbrev cX7_readsSubject : ByteArray := prog_9_method_15_code
def yX7_readsSubject : MethodName := ⟨RX7, "readsSubject", "(II)Z"⟩
abbrev cX7_readsKingdom : ByteArray := prog_9_method_16_code
def yX7_readsKingdom : MethodName := ⟨RX7, "readsKingdom", "(II)Z"⟩
abbrev cX7_cellsBarred : ByteArray := prog_9_method_17_code
def yX7_cellsBarred : MethodName := ⟨RX7, "cellsBarred", "(IIIJ)I"⟩
abbrev cX7_kingdom : ByteArray := prog_9_method_18_code
def yX7_kingdom : MethodName := ⟨RX7, "kingdom", "(IIII)I"⟩
abbrev cX7_fearOf : ByteArray := prog_9_method_19_code
def yX7_fearOf : MethodName := ⟨RX7, "fearOf", "(II)I"⟩
abbrev cX7_valueOf : ByteArray := prog_9_method_20_code
def yX7_valueOf : MethodName := ⟨RX7, "valueOf", "(II)I"⟩
abbrev cX7_doneBy : ByteArray := prog_9_method_21_code
def yX7_doneBy : MethodName := ⟨RX7, "doneBy", "(I)I"⟩
abbrev cX7_ofDeedBy : ByteArray := prog_9_method_22_code
def yX7_ofDeedBy : MethodName := ⟨RX7, "ofDeedBy", "(II)I"⟩
abbrev cX7_ofDeed : ByteArray := prog_9_method_23_code
def yX7_ofDeed : MethodName := ⟨RX7, "ofDeed", "(II)I"⟩
abbrev cX7_ofSubject : ByteArray := prog_9_method_24_code
def yX7_ofSubject : MethodName := ⟨RX7, "ofSubject", "(II)I"⟩
abbrev cX7_fear : ByteArray := prog_9_method_25_code
def yX7_fear : MethodName := ⟨RX7, "fear", "(II)I"⟩
abbrev cX7_alter : ByteArray := prog_9_method_26_code
def yX7_alter : MethodName := ⟨RX7, "alter", "(III)I"⟩
abbrev cX7_grant : ByteArray := prog_9_method_27_code
def yX7_grant : MethodName := ⟨RX7, "grant", "(II)I"⟩
abbrev cX7_goYear : ByteArray := prog_9_method_28_code
def yX7_goYear : MethodName := ⟨RX7, "goYear", "(II)V"⟩
abbrev cX7_year : ByteArray := prog_9_method_29_code
def yX7_year : MethodName := ⟨RX7, "year", "(IIIII)I"⟩
abbrev cX7_timesOf : ByteArray := prog_9_method_30_code
def yX7_timesOf : MethodName := ⟨RX7, "timesOf", "(I)J"⟩
abbrev cX7_greater : ByteArray := prog_9_method_31_code
def yX7_greater : MethodName := ⟨RX7, "greater", "(JJ)J"⟩
abbrev cX7_bestBy : ByteArray := prog_9_method_32_code
def yX7_bestBy : MethodName := ⟨RX7, "bestBy", "(IIII)J"⟩
abbrev cX7_goHope : ByteArray := prog_9_method_33_code
def yX7_goHope : MethodName := ⟨RX7, "goHope", "(II)V"⟩
abbrev cX7_hope : ByteArray := prog_9_method_34_code
def yX7_hope : MethodName := ⟨RX7, "hope", "(IIII)J"⟩
abbrev cX7_uses : ByteArray := prog_9_method_35_code
def yX7_uses : MethodName := ⟨RX7, "uses", "(III)I"⟩
abbrev cX7_buyersAt : ByteArray := prog_9_method_36_code
def yX7_buyersAt : MethodName := ⟨RX7, "buyersAt", "(II)I"⟩
abbrev cX7_buyers : ByteArray := prog_9_method_37_code
def yX7_buyers : MethodName := ⟨RX7, "buyers", "(II)I"⟩
abbrev cX7_best : ByteArray := prog_9_method_38_code
def yX7_best : MethodName := ⟨RX7, "best", "(I)I"⟩
abbrev cX7_reading : ByteArray := prog_9_method_39_code
def yX7_reading : MethodName := ⟨RX7, "reading", "(IIZ)I"⟩
abbrev cX7_back : ByteArray := prog_9_method_40_code
def yX7_back : MethodName := ⟨RX7, "back", "(I)I"⟩
abbrev cX7_areSo : ByteArray := prog_9_method_41_code
def yX7_areSo : MethodName := ⟨RX7, "areSo", "()Z"⟩
abbrev cX7_risks : ByteArray := prog_9_method_42_code
def yX7_risks : MethodName := ⟨RX7, "risks", "(I)I"⟩
abbrev cX7_hurts : ByteArray := prog_9_method_43_code
def yX7_hurts : MethodName := ⟨RX7, "hurts", "(I)I"⟩
abbrev cX7_kinds : ByteArray := prog_9_method_44_code
def yX7_kinds : MethodName := ⟨RX7, "kinds", "(I)I"⟩
abbrev cX7_odds : ByteArray := prog_9_method_45_code
def yX7_odds : MethodName := ⟨RX7, "odds", "(III)J"⟩
abbrev cX7_noSheet : ByteArray := prog_9_method_46_code
def yX7_noSheet : MethodName := ⟨RX7, "noSheet", "(I)Z"⟩
abbrev cX7_sheet : ByteArray := prog_9_method_47_code
def yX7_sheet : MethodName := ⟨RX7, "sheet", "(III)I"⟩
abbrev cX7_lose : ByteArray := prog_9_method_48_code
def yX7_lose : MethodName := ⟨RX7, "lose", "(I)I"⟩
abbrev cX7_noCell : ByteArray := prog_9_method_49_code
def yX7_noCell : MethodName := ⟨RX7, "noCell", "(II)I"⟩
abbrev cX7_put : ByteArray := prog_9_method_50_code
def yX7_put : MethodName := ⟨RX7, "put", "(III)I"⟩
abbrev cX7_cell : ByteArray := prog_9_method_51_code
def yX7_cell : MethodName := ⟨RX7, "cell", "(III)J"⟩
abbrev cX7_isBeyond : ByteArray := prog_9_method_52_code
def yX7_isBeyond : MethodName := ⟨RX7, "isBeyond", "(IJI)Z"⟩
abbrev cX7_copy : ByteArray := prog_9_method_53_code
def yX7_copy : MethodName := ⟨RX7, "copy", "(IIIII)I"⟩
abbrev cX7_traced : ByteArray := prog_9_method_54_code
def yX7_traced : MethodName := ⟨RX7, "traced", "(I)V"⟩
abbrev cX7_tell : ByteArray := prog_9_method_55_code
def yX7_tell : MethodName := ⟨RX7, "tell", "(I)I"⟩
abbrev cX7_name : ByteArray := prog_9_method_56_code
def yX7_name : MethodName := ⟨RX7, "name", "(I)I"⟩
abbrev cX7_as : ByteArray := prog_9_method_57_code
def yX7_as : MethodName := ⟨RX7, "as", "(II)I"⟩
abbrev cX7_trace : ByteArray := prog_9_method_58_code
def yX7_trace : MethodName := ⟨RX7, "trace", "()I"⟩
abbrev cX7_fault : ByteArray := prog_9_method_59_code
def yX7_fault : MethodName := ⟨RX7, "fault", "()I"⟩
abbrev cX7_papersNow : ByteArray := prog_9_method_60_code
def yX7_papersNow : MethodName := ⟨RX7, "papersNow", "()I"⟩
abbrev cX7_many : ByteArray := prog_9_method_61_code
def yX7_many : MethodName := ⟨RX7, "many", "(I)I"⟩
def RJ6 : String := "java/lang/Integer"
def TJ6 : u_T := fun k => match k with
  | _ => ("", "", "", false)
def tyJ6 : Nat → FieldType := fun k => match k with
  | _ => .int
abbrev wsJ60 : List Cond := u_ws RJ6 TJ6 0
theorem nmJ6 : ∀ a, a < 0 → ∀ b, b < 0 → a ≠ b → (TJ6 a).2.1 ≠ (TJ6 b).2.1 := by decide +kernel
theorem tyJ6_ok : ∀ k, k < 0 → parseFieldDescriptor (TJ6 k).2.2.1 = some (tyJ6 k) := by decide +kernel
abbrev cJ6_bitCount_0f7a4 : ByteArray := prog_10_method_49_code
def yJ6_bitCount_0f7a4 : MethodName := ⟨RJ6, "bitCount", "(I)I"⟩
def RJ9 : String := "java/lang/Math"
def TJ9 : u_T := fun k => match k with
  | _ => ("", "", "", false)
def tyJ9 : Nat → FieldType := fun k => match k with
  | _ => .int
abbrev wsJ90 : List Cond := u_ws RJ9 TJ9 0
theorem nmJ9 : ∀ a, a < 0 → ∀ b, b < 0 → a ≠ b → (TJ9 a).2.1 ≠ (TJ9 b).2.1 := by decide +kernel
theorem tyJ9_ok : ∀ k, k < 0 → parseFieldDescriptor (TJ9 k).2.2.1 = some (tyJ9 k) := by decide +kernel
abbrev cJ9_max_7cf53 : ByteArray := prog_11_method_65_code
def yJ9_max_7cf53 : MethodName := ⟨RJ9, "max", "(II)I"⟩
abbrev cJ9_max_f86c9 : ByteArray := prog_11_method_66_code
def yJ9_max_f86c9 : MethodName := ⟨RJ9, "max", "(JJ)J"⟩
def RJ10 : String := "java/lang/System"
def TJ10 : u_T := fun k => match k with
  | _ => ("", "", "", false)
def tyJ10 : Nat → FieldType := fun k => match k with
  | _ => .int
abbrev wsJ100 : List Cond := u_ws RJ10 TJ10 0
theorem nmJ10 : ∀ a, a < 0 → ∀ b, b < 0 → a ≠ b → (TJ10 a).2.1 ≠ (TJ10 b).2.1 := by decide +kernel
theorem tyJ10_ok : ∀ k, k < 0 → parseFieldDescriptor (TJ10 k).2.2.1 = some (tyJ10 k) := by decide +kernel
def RL : String := "BlankPardonsLaw"
abbrev cL_law : ByteArray := code
def yL_law : MethodName := ⟨RL, "law", "([I)Z"⟩
def wsX0_init : List Cond := .code yX0_init cX0_init 1 none :: ([.methodLink RX0 3 objectInit, .instanceMethod objectInit, .code objectInit ⟨#[0xb1]⟩ 1 none, .classLink RX0 9 "[[J", .arrayClass .long, .fieldLink RX0 11 "BlankPardons$Outlook" "hopes" "[[J", .fieldLink RX0 16 "BlankPardons$Outlook" "scales" "[J"] ++ wsX00)
def wsX2_pardonedValue : List Cond := .code yX2_pardonedValue cX2_pardonedValue 2 (some .int) :: ([.fieldLink RX2 11 "BlankPardons$Realm" "deeds" "[[I"] ++ wsX20)
def wsX2_fearOf : List Cond := .code yX2_fearOf cX2_fearOf 4 (some .int) :: ([.fieldLink RX2 11 "BlankPardons$Realm" "deeds" "[[I", .fieldLink RX2 16 "BlankPardons$Realm" "kindOf" "[I"] ++ wsX20)
def wsX2_unpardonedValue : List Cond := .code yX2_unpardonedValue cX2_unpardonedValue 3 (some .int) :: ([.methodLink RX2 52 yX2_pardonedValue, .instanceMethod yX2_pardonedValue, .selects RX2 yX2_pardonedValue yX2_pardonedValue, .initialized RX2, .code yX2_pardonedValue cX2_pardonedValue 2 (some .int), .fieldLink RX2 11 "BlankPardons$Realm" "deeds" "[[I", .methodLink RX2 55 yX2_fearOf, .instanceMethod yX2_fearOf, .selects RX2 yX2_fearOf yX2_fearOf, .code yX2_fearOf cX2_fearOf 4 (some .int), .fieldLink RX2 16 "BlankPardons$Realm" "kindOf" "[I"] ++ wsX20)
def wsX0_byNone : List Cond := .code yX0_byNone cX0_byNone 6 (some .long) :: ([.methodLink RX0 51 Lib.Math.max.name, .static Lib.Math.max.name, .initialized "java/lang/Math", .code Lib.Math.max.name Lib.Math.max.code 2 (some .int), .fieldLink RX0 16 "BlankPardons$Outlook" "scales" "[J", .fieldLink RX0 11 "BlankPardons$Outlook" "hopes" "[[J", .methodLink RX0 47 yX2_unpardonedValue, .instanceMethod yX2_unpardonedValue, .selects RX2 yX2_unpardonedValue yX2_unpardonedValue, .initialized RX2, .code yX2_unpardonedValue cX2_unpardonedValue 3 (some .int), .methodLink RX2 52 yX2_pardonedValue, .instanceMethod yX2_pardonedValue, .selects RX2 yX2_pardonedValue yX2_pardonedValue, .code yX2_pardonedValue cX2_pardonedValue 2 (some .int), .fieldLink RX2 11 "BlankPardons$Realm" "deeds" "[[I", .methodLink RX2 55 yX2_fearOf, .instanceMethod yX2_fearOf, .selects RX2 yX2_fearOf yX2_fearOf, .code yX2_fearOf cX2_fearOf 4 (some .int), .fieldLink RX2 16 "BlankPardons$Realm" "kindOf" "[I"] ++ wsX00 ++ wsX20)
def wsX0_byPaper : List Cond := .code yX0_byPaper cX0_byPaper 5 (some .long) :: ([.fieldLink RX0 16 "BlankPardons$Outlook" "scales" "[J", .fieldLink RX0 11 "BlankPardons$Outlook" "hopes" "[[J", .methodLink RX0 43 yX2_pardonedValue, .instanceMethod yX2_pardonedValue, .selects RX2 yX2_pardonedValue yX2_pardonedValue, .initialized RX2, .code yX2_pardonedValue cX2_pardonedValue 2 (some .int), .fieldLink RX2 11 "BlankPardons$Realm" "deeds" "[[I"] ++ wsX00 ++ wsX20)
def wsX0_sumOfBest_r1 : List Cond := [Cond.fieldLink RX0 20 "BlankPardons$Realm" "deedCount" "I", Cond.methodLink RX0 37 Lib.MathLoose.max_long.x, Cond.static Lib.MathLoose.max_long.x, Cond.initialized "java/lang/Math", Cond.code Lib.MathLoose.max_long.x Lib.MathLoose.max_long.code 4 (some .long), Cond.methodLink RX0 30 yX0_byNone, Cond.instanceMethod yX0_byNone, Cond.selects RX0 yX0_byNone yX0_byNone, Cond.initialized RX0, Cond.code yX0_byNone cX0_byNone 6 (some .long), Cond.methodLink RX0 51 Lib.Math.max.name, Cond.static Lib.Math.max.name, Cond.code Lib.Math.max.name Lib.Math.max.code 2 (some .int), Cond.fieldLink RX0 16 "BlankPardons$Outlook" "scales" "[J", Cond.fieldLink RX0 11 "BlankPardons$Outlook" "hopes" "[[J", Cond.methodLink RX0 47 yX2_unpardonedValue, Cond.instanceMethod yX2_unpardonedValue, Cond.selects RX2 yX2_unpardonedValue yX2_unpardonedValue, Cond.initialized RX2, Cond.code yX2_unpardonedValue cX2_unpardonedValue 3 (some .int), Cond.methodLink RX2 52 yX2_pardonedValue, Cond.instanceMethod yX2_pardonedValue, Cond.selects RX2 yX2_pardonedValue yX2_pardonedValue, Cond.code yX2_pardonedValue cX2_pardonedValue 2 (some .int)]
def wsX0_sumOfBest_r2 : List Cond := [Cond.fieldLink RX2 11 "BlankPardons$Realm" "deeds" "[[I", Cond.methodLink RX2 55 yX2_fearOf, Cond.instanceMethod yX2_fearOf, Cond.selects RX2 yX2_fearOf yX2_fearOf, Cond.code yX2_fearOf cX2_fearOf 4 (some .int), Cond.fieldLink RX2 16 "BlankPardons$Realm" "kindOf" "[I", Cond.methodLink RX0 34 yX0_byPaper, Cond.instanceMethod yX0_byPaper, Cond.selects RX0 yX0_byPaper yX0_byPaper, Cond.code yX0_byPaper cX0_byPaper 5 (some .long), Cond.methodLink RX0 43 yX2_pardonedValue]
def wsX0_sumOfBest : List Cond := .code yX0_sumOfBest cX0_sumOfBest 10 (some .long) :: ((wsX0_sumOfBest_r1 ++ wsX0_sumOfBest_r2) ++ wsX20 ++ wsX00)
def wsX0_lookAhead_r1 : List Cond := [Cond.fieldLink RX0 16 "BlankPardons$Outlook" "scales" "[J", Cond.fieldLink RX0 11 "BlankPardons$Outlook" "hopes" "[[J", Cond.fieldLink RX0 20 "BlankPardons$Realm" "deedCount" "I", Cond.methodLink RX0 26 yX0_sumOfBest, Cond.instanceMethod yX0_sumOfBest, Cond.selects RX0 yX0_sumOfBest yX0_sumOfBest, Cond.initialized RX0, Cond.code yX0_sumOfBest cX0_sumOfBest 10 (some .long), Cond.methodLink RX0 37 Lib.MathLoose.max_long.x, Cond.static Lib.MathLoose.max_long.x, Cond.initialized "java/lang/Math", Cond.code Lib.MathLoose.max_long.x Lib.MathLoose.max_long.code 4 (some .long), Cond.methodLink RX0 30 yX0_byNone, Cond.instanceMethod yX0_byNone, Cond.selects RX0 yX0_byNone yX0_byNone, Cond.code yX0_byNone cX0_byNone 6 (some .long), Cond.methodLink RX0 51 Lib.Math.max.name, Cond.static Lib.Math.max.name, Cond.code Lib.Math.max.name Lib.Math.max.code 2 (some .int), Cond.methodLink RX0 47 yX2_unpardonedValue, Cond.instanceMethod yX2_unpardonedValue, Cond.selects RX2 yX2_unpardonedValue yX2_unpardonedValue, Cond.initialized RX2, Cond.code yX2_unpardonedValue cX2_unpardonedValue 3 (some .int)]
def wsX0_lookAhead_r2 : List Cond := [Cond.methodLink RX2 52 yX2_pardonedValue, Cond.instanceMethod yX2_pardonedValue, Cond.selects RX2 yX2_pardonedValue yX2_pardonedValue, Cond.code yX2_pardonedValue cX2_pardonedValue 2 (some .int), Cond.fieldLink RX2 11 "BlankPardons$Realm" "deeds" "[[I", Cond.methodLink RX2 55 yX2_fearOf, Cond.instanceMethod yX2_fearOf, Cond.selects RX2 yX2_fearOf yX2_fearOf, Cond.code yX2_fearOf cX2_fearOf 4 (some .int), Cond.fieldLink RX2 16 "BlankPardons$Realm" "kindOf" "[I", Cond.methodLink RX0 34 yX0_byPaper, Cond.instanceMethod yX0_byPaper, Cond.selects RX0 yX0_byPaper yX0_byPaper, Cond.code yX0_byPaper cX0_byPaper 5 (some .long), Cond.methodLink RX0 43 yX2_pardonedValue]
def wsX0_lookAhead : List Cond := .code yX0_lookAhead cX0_lookAhead 6 none :: ((wsX0_lookAhead_r1 ++ wsX0_lookAhead_r2) ++ wsX00 ++ wsX20)
def wsX1_init : List Cond := .code yX1_init cX1_init 1 none :: ([.methodLink RX1 3 objectInit, .instanceMethod objectInit, .code objectInit ⟨#[0xb1]⟩ 1 none, .arrayClass .int, .fieldLink RX1 9 "BlankPardons$Readings" "subjects" "[I", .fieldLink RX1 15 "BlankPardons$Readings" "deeds" "[I", .arrayClass .boolean, .fieldLink RX1 18 "BlankPardons$Readings" "done" "[Z"] ++ wsX10)
def wsX1_note : List Cond := .code yX1_note cX1_note 4 (some .int) :: ([.fieldLink RX1 9 "BlankPardons$Readings" "subjects" "[I", .fieldLink RX1 22 "BlankPardons$Readings" "count" "I", .fieldLink RX1 15 "BlankPardons$Readings" "deeds" "[I", .fieldLink RX1 18 "BlankPardons$Readings" "done" "[Z"] ++ wsX10)
def wsX2_wouldDo : List Cond := .code yX2_wouldDo cX2_wouldDo 3 (some .boolean) :: ([.methodLink RX2 58 yX2_unpardonedValue, .instanceMethod yX2_unpardonedValue, .selects RX2 yX2_unpardonedValue yX2_unpardonedValue, .initialized RX2, .code yX2_unpardonedValue cX2_unpardonedValue 3 (some .int), .methodLink RX2 52 yX2_pardonedValue, .instanceMethod yX2_pardonedValue, .selects RX2 yX2_pardonedValue yX2_pardonedValue, .code yX2_pardonedValue cX2_pardonedValue 2 (some .int), .fieldLink RX2 11 "BlankPardons$Realm" "deeds" "[[I", .methodLink RX2 55 yX2_fearOf, .instanceMethod yX2_fearOf, .selects RX2 yX2_fearOf yX2_fearOf, .code yX2_fearOf cX2_fearOf 4 (some .int), .fieldLink RX2 16 "BlankPardons$Realm" "kindOf" "[I"] ++ wsX20)
def wsX1_allAreSo : List Cond := .code yX1_allAreSo cX1_allAreSo 3 (some .boolean) :: ([.fieldLink RX1 22 "BlankPardons$Readings" "count" "I", .fieldLink RX1 9 "BlankPardons$Readings" "subjects" "[I", .fieldLink RX1 15 "BlankPardons$Readings" "deeds" "[I", .fieldLink RX1 18 "BlankPardons$Readings" "done" "[Z", .methodLink RX1 30 yX2_wouldDo, .instanceMethod yX2_wouldDo, .selects RX2 yX2_wouldDo yX2_wouldDo, .initialized RX2, .code yX2_wouldDo cX2_wouldDo 3 (some .boolean), .methodLink RX2 58 yX2_unpardonedValue, .instanceMethod yX2_unpardonedValue, .selects RX2 yX2_unpardonedValue yX2_unpardonedValue, .code yX2_unpardonedValue cX2_unpardonedValue 3 (some .int), .methodLink RX2 52 yX2_pardonedValue, .instanceMethod yX2_pardonedValue, .selects RX2 yX2_pardonedValue yX2_pardonedValue, .code yX2_pardonedValue cX2_pardonedValue 2 (some .int), .fieldLink RX2 11 "BlankPardons$Realm" "deeds" "[[I", .methodLink RX2 55 yX2_fearOf, .instanceMethod yX2_fearOf, .selects RX2 yX2_fearOf yX2_fearOf, .code yX2_fearOf cX2_fearOf 4 (some .int), .fieldLink RX2 16 "BlankPardons$Realm" "kindOf" "[I"] ++ wsX10 ++ wsX20)
def wsX1_fitting_r1 : List Cond := [Cond.methodLink RX1 26 yX1_allAreSo, Cond.instanceMethod yX1_allAreSo, Cond.selects RX1 yX1_allAreSo yX1_allAreSo, Cond.initialized RX1, Cond.code yX1_allAreSo cX1_allAreSo 3 (some .boolean), Cond.fieldLink RX1 22 "BlankPardons$Readings" "count" "I", Cond.fieldLink RX1 9 "BlankPardons$Readings" "subjects" "[I", Cond.fieldLink RX1 15 "BlankPardons$Readings" "deeds" "[I", Cond.fieldLink RX1 18 "BlankPardons$Readings" "done" "[Z", Cond.methodLink RX1 30 yX2_wouldDo, Cond.instanceMethod yX2_wouldDo, Cond.selects RX2 yX2_wouldDo yX2_wouldDo, Cond.initialized RX2, Cond.code yX2_wouldDo cX2_wouldDo 3 (some .boolean), Cond.methodLink RX2 58 yX2_unpardonedValue, Cond.instanceMethod yX2_unpardonedValue, Cond.selects RX2 yX2_unpardonedValue yX2_unpardonedValue, Cond.code yX2_unpardonedValue cX2_unpardonedValue 3 (some .int), Cond.methodLink RX2 52 yX2_pardonedValue, Cond.instanceMethod yX2_pardonedValue, Cond.selects RX2 yX2_pardonedValue yX2_pardonedValue, Cond.code yX2_pardonedValue cX2_pardonedValue 2 (some .int), Cond.fieldLink RX2 11 "BlankPardons$Realm" "deeds" "[[I", Cond.methodLink RX2 55 yX2_fearOf]
def wsX1_fitting_r2 : List Cond := [Cond.instanceMethod yX2_fearOf, Cond.selects RX2 yX2_fearOf yX2_fearOf, Cond.code yX2_fearOf cX2_fearOf 4 (some .int), Cond.fieldLink RX2 16 "BlankPardons$Realm" "kindOf" "[I"]
def wsX1_fitting : List Cond := .code yX1_fitting cX1_fitting 8 (some .int) :: ((wsX1_fitting_r1 ++ wsX1_fitting_r2) ++ wsX10 ++ wsX20)
def wsX2_init : List Cond := .code yX2_init cX2_init 1 none :: ([.methodLink RX2 3 objectInit, .instanceMethod objectInit, .code objectInit ⟨#[0xb1]⟩ 1 none, .classLink RX2 9 "[[I", .arrayClass .int, .fieldLink RX2 11 "BlankPardons$Realm" "deeds" "[[I", .fieldLink RX2 16 "BlankPardons$Realm" "kindOf" "[I", .fieldLink RX2 20 "BlankPardons$Realm" "papers" "[I"] ++ wsX20)
def wsX6_isBelow : List Cond := .code yX6_isBelow cX6_isBelow 2 (some .boolean) :: ([])
def wsX4_code : List Cond := .code yX4_code cX4_code 2 (some .int) :: ([.fieldLink RX4 19 "BlankPardons$Text" "size" "I", .fieldLink RX4 9 "BlankPardons$Text" "row" "LBlankPardons$Row;", .fieldLink RX4 42 "BlankPardons$Row" "cells" "[I", .fieldLink RX4 15 "BlankPardons$Text" "from" "I", .static yX6_isBelow, .initialized RX6, .code yX6_isBelow cX6_isBelow 2 (some .boolean)] ++ wsX40 ++ wsX30)
def wsX4_digitOfDeed : List Cond := .code yX4_digitOfDeed cX4_digitOfDeed 3 (some .int) :: ([.methodLink RX4 22 yX4_code, .instanceMethod yX4_code, .selects RX4 yX4_code yX4_code, .initialized RX4, .code yX4_code cX4_code 2 (some .int), .fieldLink RX4 19 "BlankPardons$Text" "size" "I", .fieldLink RX4 9 "BlankPardons$Text" "row" "LBlankPardons$Row;", .fieldLink RX4 42 "BlankPardons$Row" "cells" "[I", .fieldLink RX4 15 "BlankPardons$Text" "from" "I", .static yX6_isBelow, .initialized RX6, .code yX6_isBelow cX6_isBelow 2 (some .boolean)] ++ wsX40 ++ wsX30)
def wsX4_kindAt : List Cond := .code yX4_kindAt cX4_kindAt 2 (some .int) :: ([.methodLink RX4 22 yX4_code, .instanceMethod yX4_code, .selects RX4 yX4_code yX4_code, .initialized RX4, .code yX4_code cX4_code 2 (some .int), .fieldLink RX4 19 "BlankPardons$Text" "size" "I", .fieldLink RX4 9 "BlankPardons$Text" "row" "LBlankPardons$Row;", .fieldLink RX4 42 "BlankPardons$Row" "cells" "[I", .fieldLink RX4 15 "BlankPardons$Text" "from" "I", .static yX6_isBelow, .initialized RX6, .code yX6_isBelow cX6_isBelow 2 (some .boolean)] ++ wsX40 ++ wsX30)
def wsX4_kindOfSubject : List Cond := .code yX4_kindOfSubject cX4_kindOfSubject 2 (some .int) :: ([.fieldLink RX4 26 "BlankPardons$Text" "deeds" "I", .methodLink RX4 36 yX4_kindAt, .instanceMethod yX4_kindAt, .selects RX4 yX4_kindAt yX4_kindAt, .initialized RX4, .code yX4_kindAt cX4_kindAt 2 (some .int), .methodLink RX4 22 yX4_code, .instanceMethod yX4_code, .selects RX4 yX4_code yX4_code, .code yX4_code cX4_code 2 (some .int), .fieldLink RX4 19 "BlankPardons$Text" "size" "I", .fieldLink RX4 9 "BlankPardons$Text" "row" "LBlankPardons$Row;", .fieldLink RX4 42 "BlankPardons$Row" "cells" "[I", .fieldLink RX4 15 "BlankPardons$Text" "from" "I", .static yX6_isBelow, .initialized RX6, .code yX6_isBelow cX6_isBelow 2 (some .boolean)] ++ wsX40 ++ wsX30)
def wsX4_papersOfSubject : List Cond := .code yX4_papersOfSubject cX4_papersOfSubject 2 (some .int) :: ([.fieldLink RX4 26 "BlankPardons$Text" "deeds" "I", .methodLink RX4 22 yX4_code, .instanceMethod yX4_code, .selects RX4 yX4_code yX4_code, .initialized RX4, .code yX4_code cX4_code 2 (some .int), .fieldLink RX4 19 "BlankPardons$Text" "size" "I", .fieldLink RX4 9 "BlankPardons$Text" "row" "LBlankPardons$Row;", .fieldLink RX4 42 "BlankPardons$Row" "cells" "[I", .fieldLink RX4 15 "BlankPardons$Text" "from" "I", .static yX6_isBelow, .initialized RX6, .code yX6_isBelow cX6_isBelow 2 (some .boolean)] ++ wsX40 ++ wsX30)
def wsX2_found_r1 : List Cond := [Cond.fieldLink RX2 23 "BlankPardons$Text" "deeds" "I", Cond.fieldLink RX2 28 "BlankPardons$Realm" "deedCount" "I", Cond.fieldLink RX2 31 "BlankPardons$Text" "subjects" "I", Cond.fieldLink RX2 34 "BlankPardons$Realm" "subjectCount" "I", Cond.fieldLink RX2 11 "BlankPardons$Realm" "deeds" "[[I", Cond.fieldLink RX2 16 "BlankPardons$Realm" "kindOf" "[I", Cond.fieldLink RX2 20 "BlankPardons$Realm" "papers" "[I", Cond.methodLink RX2 37 yX4_digitOfDeed, Cond.instanceMethod yX4_digitOfDeed, Cond.selects RX4 yX4_digitOfDeed yX4_digitOfDeed, Cond.initialized RX4, Cond.code yX4_digitOfDeed cX4_digitOfDeed 3 (some .int), Cond.methodLink RX4 22 yX4_code, Cond.instanceMethod yX4_code, Cond.selects RX4 yX4_code yX4_code, Cond.code yX4_code cX4_code 2 (some .int), Cond.fieldLink RX4 19 "BlankPardons$Text" "size" "I", Cond.fieldLink RX4 9 "BlankPardons$Text" "row" "LBlankPardons$Row;", Cond.fieldLink RX4 42 "BlankPardons$Row" "cells" "[I", Cond.fieldLink RX4 15 "BlankPardons$Text" "from" "I", Cond.static yX6_isBelow, Cond.initialized RX6, Cond.code yX6_isBelow cX6_isBelow 2 (some .boolean), Cond.methodLink RX2 41 yX4_kindOfSubject]
def wsX2_found_r2 : List Cond := [Cond.instanceMethod yX4_kindOfSubject, Cond.selects RX4 yX4_kindOfSubject yX4_kindOfSubject, Cond.code yX4_kindOfSubject cX4_kindOfSubject 2 (some .int), Cond.fieldLink RX4 26 "BlankPardons$Text" "deeds" "I", Cond.methodLink RX4 36 yX4_kindAt, Cond.instanceMethod yX4_kindAt, Cond.selects RX4 yX4_kindAt yX4_kindAt, Cond.code yX4_kindAt cX4_kindAt 2 (some .int), Cond.methodLink RX2 45 yX4_papersOfSubject, Cond.instanceMethod yX4_papersOfSubject, Cond.selects RX4 yX4_papersOfSubject yX4_papersOfSubject, Cond.code yX4_papersOfSubject cX4_papersOfSubject 2 (some .int)]
def wsX2_found : List Cond := .code yX2_found cX2_found 4 none :: ((wsX2_found_r1 ++ wsX2_found_r2) ++ wsX40 ++ wsX20 ++ wsX30)
def wsX2_isThere : List Cond := .code yX2_isThere cX2_isThere 1 (some .boolean) :: ([.fieldLink RX2 34 "BlankPardons$Realm" "subjectCount" "I"] ++ wsX20)
def wsX2_hasDeed : List Cond := .code yX2_hasDeed cX2_hasDeed 2 (some .boolean) :: ([.fieldLink RX2 28 "BlankPardons$Realm" "deedCount" "I", .static yX6_isBelow, .initialized RX6, .code yX6_isBelow cX6_isBelow 2 (some .boolean)] ++ wsX20)
def wsX2_hasSubject : List Cond := .code yX2_hasSubject cX2_hasSubject 2 (some .boolean) :: ([.fieldLink RX2 34 "BlankPardons$Realm" "subjectCount" "I", .static yX6_isBelow, .initialized RX6, .code yX6_isBelow cX6_isBelow 2 (some .boolean)] ++ wsX20)
def wsX2_doneBy : List Cond := .code yX2_doneBy cX2_doneBy 4 (some .int) :: ([.fieldLink RX2 28 "BlankPardons$Realm" "deedCount" "I", .methodLink RX2 61 yX2_wouldDo, .instanceMethod yX2_wouldDo, .selects RX2 yX2_wouldDo yX2_wouldDo, .initialized RX2, .code yX2_wouldDo cX2_wouldDo 3 (some .boolean), .methodLink RX2 58 yX2_unpardonedValue, .instanceMethod yX2_unpardonedValue, .selects RX2 yX2_unpardonedValue yX2_unpardonedValue, .code yX2_unpardonedValue cX2_unpardonedValue 3 (some .int), .methodLink RX2 52 yX2_pardonedValue, .instanceMethod yX2_pardonedValue, .selects RX2 yX2_pardonedValue yX2_pardonedValue, .code yX2_pardonedValue cX2_pardonedValue 2 (some .int), .fieldLink RX2 11 "BlankPardons$Realm" "deeds" "[[I", .methodLink RX2 55 yX2_fearOf, .instanceMethod yX2_fearOf, .selects RX2 yX2_fearOf yX2_fearOf, .code yX2_fearOf cX2_fearOf 4 (some .int), .fieldLink RX2 16 "BlankPardons$Realm" "kindOf" "[I"] ++ wsX20)
def wsX2_allPapers : List Cond := .code yX2_allPapers cX2_allPapers 3 (some .int) :: ([.fieldLink RX2 34 "BlankPardons$Realm" "subjectCount" "I", .fieldLink RX2 20 "BlankPardons$Realm" "papers" "[I"] ++ wsX20)
def wsX3_init : List Cond := .code yX3_init cX3_init 1 none :: ([.methodLink RX3 3 objectInit, .instanceMethod objectInit, .code objectInit ⟨#[0xb1]⟩ 1 none, .arrayClass .int, .fieldLink RX3 9 "BlankPardons$Row" "cells" "[I"] ++ wsX30)
def wsX3_renew : List Cond := .code yX3_renew cX3_renew 4 none :: ([.fieldLink RX3 15 "BlankPardons$Row" "isThere" "Z", .fieldLink RX3 19 "BlankPardons$Row" "lane" "I", .fieldLink RX3 23 "BlankPardons$Row" "length" "I", .fieldLink RX3 9 "BlankPardons$Row" "cells" "[I"] ++ wsX30)
def wsX3_cut : List Cond := .code yX3_cut cX3_cut 2 (some .int) :: ([.fieldLink RX3 19 "BlankPardons$Row" "lane" "I"] ++ wsX30)
def wsX3_spans : List Cond := .code yX3_spans cX3_spans 3 (some .boolean) :: ([.fieldLink RX3 23 "BlankPardons$Row" "length" "I"] ++ wsX30)
def wsX4_init : List Cond := .code yX4_init cX4_init 4 none :: ([.methodLink RX4 3 objectInit, .instanceMethod objectInit, .code objectInit ⟨#[0xb1]⟩ 1 none, .fieldLink RX4 9 "BlankPardons$Text" "row" "LBlankPardons$Row;", .fieldLink RX4 15 "BlankPardons$Text" "from" "I", .fieldLink RX4 19 "BlankPardons$Text" "size" "I"] ++ wsX40)
def wsX4_isDigit : List Cond := .code yX4_isDigit cX4_isDigit 4 (some .boolean) :: ([.methodLink RX4 22 yX4_code, .instanceMethod yX4_code, .selects RX4 yX4_code yX4_code, .initialized RX4, .code yX4_code cX4_code 2 (some .int), .fieldLink RX4 19 "BlankPardons$Text" "size" "I", .fieldLink RX4 9 "BlankPardons$Text" "row" "LBlankPardons$Row;", .fieldLink RX4 42 "BlankPardons$Row" "cells" "[I", .fieldLink RX4 15 "BlankPardons$Text" "from" "I", .static yX6_isBelow, .initialized RX6, .code yX6_isBelow cX6_isBelow 2 (some .boolean)] ++ wsX40 ++ wsX30)
def wsX4_firstFault : List Cond := .code yX4_firstFault cX4_firstFault 3 (some .int) :: ([.fieldLink RX4 26 "BlankPardons$Text" "deeds" "I", .fieldLink RX4 33 "BlankPardons$Text" "subjects" "I", .fieldLink RX4 19 "BlankPardons$Text" "size" "I", .methodLink RX4 22 yX4_code, .instanceMethod yX4_code, .selects RX4 yX4_code yX4_code, .initialized RX4, .code yX4_code cX4_code 2 (some .int), .fieldLink RX4 9 "BlankPardons$Text" "row" "LBlankPardons$Row;", .fieldLink RX4 42 "BlankPardons$Row" "cells" "[I", .fieldLink RX4 15 "BlankPardons$Text" "from" "I", .static yX6_isBelow, .initialized RX6, .code yX6_isBelow cX6_isBelow 2 (some .boolean), .methodLink RX4 29 yX4_isDigit, .instanceMethod yX4_isDigit, .selects RX4 yX4_isDigit yX4_isDigit, .code yX4_isDigit cX4_isDigit 4 (some .boolean), .methodLink RX4 36 yX4_kindAt, .instanceMethod yX4_kindAt, .selects RX4 yX4_kindAt yX4_kindAt, .code yX4_kindAt cX4_kindAt 2 (some .int)] ++ wsX40 ++ wsX30)
def wsX5_init : List Cond := .code yX5_init cX5_init 1 none :: ([.methodLink RX5 3 objectInit, .instanceMethod objectInit, .code objectInit ⟨#[0xb1]⟩ 1 none, .arrayClass .int, .fieldLink RX5 9 "BlankPardons$Year" "left" "[I"] ++ wsX50)
def wsX5_goesOn : List Cond := .code yX5_goesOn cX5_goesOn 5 (some .boolean) :: ([.fieldLink RX5 9 "BlankPardons$Year" "left" "[I", .fieldLink RX5 19 "BlankPardons$Year" "pardoned" "I", .fieldLink RX5 15 "BlankPardons$Year" "values" "I", .methodLink RX5 42 yX2_pardonedValue, .instanceMethod yX2_pardonedValue, .selects RX2 yX2_pardonedValue yX2_pardonedValue, .initialized RX2, .code yX2_pardonedValue cX2_pardonedValue 2 (some .int), .fieldLink RX2 11 "BlankPardons$Realm" "deeds" "[[I", .methodLink RX5 46 yX2_unpardonedValue, .instanceMethod yX2_unpardonedValue, .selects RX2 yX2_unpardonedValue yX2_unpardonedValue, .code yX2_unpardonedValue cX2_unpardonedValue 3 (some .int), .methodLink RX2 52 yX2_pardonedValue, .methodLink RX2 55 yX2_fearOf, .instanceMethod yX2_fearOf, .selects RX2 yX2_fearOf yX2_fearOf, .code yX2_fearOf cX2_fearOf 4 (some .int), .fieldLink RX2 16 "BlankPardons$Realm" "kindOf" "[I", .methodLink RX5 50 yX2_wouldDo, .instanceMethod yX2_wouldDo, .selects RX2 yX2_wouldDo yX2_wouldDo, .code yX2_wouldDo cX2_wouldDo 3 (some .boolean), .methodLink RX2 58 yX2_unpardonedValue] ++ wsX50 ++ wsX20)
def wsX5_live_r1 : List Cond := [Cond.fieldLink RX5 15 "BlankPardons$Year" "values" "I", Cond.fieldLink RX5 19 "BlankPardons$Year" "pardoned" "I", Cond.fieldLink RX5 22 "BlankPardons$Year" "firstWrong" "I", Cond.fieldLink RX5 25 "BlankPardons$Realm" "subjectCount" "I", Cond.fieldLink RX5 9 "BlankPardons$Year" "left" "[I", Cond.fieldLink RX5 30 "BlankPardons$Realm" "papers" "[I", Cond.fieldLink RX5 33 "BlankPardons$Row" "cells" "[I", Cond.methodLink RX5 38 yX5_goesOn, Cond.instanceMethod yX5_goesOn, Cond.selects RX5 yX5_goesOn yX5_goesOn, Cond.initialized RX5, Cond.code yX5_goesOn cX5_goesOn 5 (some .boolean), Cond.methodLink RX5 42 yX2_pardonedValue, Cond.instanceMethod yX2_pardonedValue, Cond.selects RX2 yX2_pardonedValue yX2_pardonedValue, Cond.initialized RX2, Cond.code yX2_pardonedValue cX2_pardonedValue 2 (some .int), Cond.fieldLink RX2 11 "BlankPardons$Realm" "deeds" "[[I", Cond.methodLink RX5 46 yX2_unpardonedValue, Cond.instanceMethod yX2_unpardonedValue, Cond.selects RX2 yX2_unpardonedValue yX2_unpardonedValue, Cond.code yX2_unpardonedValue cX2_unpardonedValue 3 (some .int), Cond.methodLink RX2 52 yX2_pardonedValue, Cond.methodLink RX2 55 yX2_fearOf]
def wsX5_live_r2 : List Cond := [Cond.instanceMethod yX2_fearOf, Cond.selects RX2 yX2_fearOf yX2_fearOf, Cond.code yX2_fearOf cX2_fearOf 4 (some .int), Cond.fieldLink RX2 16 "BlankPardons$Realm" "kindOf" "[I", Cond.methodLink RX5 50 yX2_wouldDo, Cond.instanceMethod yX2_wouldDo, Cond.selects RX2 yX2_wouldDo yX2_wouldDo, Cond.code yX2_wouldDo cX2_wouldDo 3 (some .boolean), Cond.methodLink RX2 58 yX2_unpardonedValue]
def wsX5_live : List Cond := .code yX5_live cX5_live 7 none :: ((wsX5_live_r1 ++ wsX5_live_r2) ++ wsX50 ++ wsX20 ++ wsX30)
def wsX6_init_r1 : List Cond := [Cond.methodLink RX6 3 objectInit, Cond.instanceMethod objectInit, Cond.code objectInit ⟨#[0xb1]⟩ 1 none, Cond.classLink RX6 11 RX3, Cond.fieldLink RX6 13 "BlankPardons" "sheets" "[LBlankPardons$Row;", Cond.classLink RX6 17 RX2, Cond.instantiable RX2 5, Cond.initialized RX2, Cond.fieldLink RX6 20 "BlankPardons" "realm" "LBlankPardons$Realm;", Cond.classLink RX6 24 RX1, Cond.instantiable RX1 4, Cond.initialized RX1, Cond.fieldLink RX6 27 "BlankPardons" "readings" "LBlankPardons$Readings;", Cond.classLink RX6 31 RX0, Cond.instantiable RX0 2, Cond.initialized RX0, Cond.fieldLink RX6 34 "BlankPardons" "outlook" "LBlankPardons$Outlook;", Cond.classLink RX6 38 RX5, Cond.instantiable RX5 4, Cond.initialized RX5, Cond.fieldLink RX6 41 "BlankPardons" "lived" "LBlankPardons$Year;", Cond.arrayClass .long, Cond.fieldLink RX6 45 "BlankPardons" "gains" "[J", Cond.instantiable RX3 4]
def wsX6_init_r2 : List Cond := [Cond.initialized RX3, Cond.instanceMethod yX2_init, Cond.code yX2_init cX2_init 1 none, Cond.methodLink RX2 3 objectInit, Cond.classLink RX2 9 "[[I", Cond.arrayClass .int, Cond.fieldLink RX2 11 "BlankPardons$Realm" "deeds" "[[I", Cond.fieldLink RX2 16 "BlankPardons$Realm" "kindOf" "[I", Cond.fieldLink RX2 20 "BlankPardons$Realm" "papers" "[I", Cond.instanceMethod yX1_init, Cond.code yX1_init cX1_init 1 none, Cond.methodLink RX1 3 objectInit, Cond.fieldLink RX1 9 "BlankPardons$Readings" "subjects" "[I", Cond.fieldLink RX1 15 "BlankPardons$Readings" "deeds" "[I", Cond.arrayClass .boolean, Cond.fieldLink RX1 18 "BlankPardons$Readings" "done" "[Z", Cond.instanceMethod yX0_init, Cond.code yX0_init cX0_init 1 none, Cond.methodLink RX0 3 objectInit, Cond.classLink RX0 9 "[[J", Cond.fieldLink RX0 11 "BlankPardons$Outlook" "hopes" "[[J", Cond.fieldLink RX0 16 "BlankPardons$Outlook" "scales" "[J", Cond.instanceMethod yX5_init, Cond.code yX5_init cX5_init 1 none]
def wsX6_init_r3 : List Cond := [Cond.methodLink RX5 3 objectInit, Cond.fieldLink RX5 9 "BlankPardons$Year" "left" "[I", Cond.instanceMethod yX3_init, Cond.code yX3_init cX3_init 1 none, Cond.methodLink RX3 3 objectInit, Cond.fieldLink RX3 9 "BlankPardons$Row" "cells" "[I"]
def wsX6_init : List Cond := .code yX6_init cX6_init 2 none :: ((wsX6_init_r1 ++ (wsX6_init_r2 ++ wsX6_init_r3)) ++ wsX60 ++ wsX20 ++ wsX10 ++ wsX00 ++ wsX50 ++ wsX30)
def wsX6_isSheet : List Cond := .code yX6_isSheet cX6_isSheet 1 (some .boolean) :: ([.methodLink RX6 58 yX6_isBelow, .static yX6_isBelow, .initialized RX6, .code yX6_isBelow cX6_isBelow 2 (some .boolean)])
def wsX6_faultAs : List Cond := .code yX6_faultAs cX6_faultAs 2 (some .int) :: ([.fieldLink RX6 204 "BlankPardons$Row" "isThere" "Z", .fieldLink RX6 213 "BlankPardons$Row" "lane" "I"] ++ wsX30)
def wsX6_failed : List Cond := .code yX6_failed cX6_failed 2 (some .int) :: ([.fieldLink RX6 50 "BlankPardons" "latestFault" "I"] ++ wsX60)
def wsX6_kingdom_r1 : List Cond := [Cond.fieldLink RX6 50 "BlankPardons" "latestFault" "I", Cond.fieldLink RX6 13 "BlankPardons" "sheets" "[LBlankPardons$Row;", Cond.classLink RX6 73 RX4, Cond.instantiable RX4 5, Cond.initialized RX4, Cond.fieldLink RX6 20 "BlankPardons" "realm" "LBlankPardons$Realm;", Cond.fieldLink RX6 27 "BlankPardons" "readings" "LBlankPardons$Readings;", Cond.fieldLink RX6 86 "BlankPardons$Readings" "count" "I", Cond.fieldLink RX6 89 "BlankPardons$Realm" "subjectCount" "I", Cond.methodLink RX6 54 yX6_isSheet, Cond.static yX6_isSheet, Cond.initialized RX6, Cond.code yX6_isSheet cX6_isSheet 1 (some .boolean), Cond.methodLink RX6 58 yX6_isBelow, Cond.static yX6_isBelow, Cond.code yX6_isBelow cX6_isBelow 2 (some .boolean), Cond.methodLink RX6 62 yX6_faultAs, Cond.static yX6_faultAs, Cond.code yX6_faultAs cX6_faultAs 2 (some .int), Cond.fieldLink RX6 204 "BlankPardons$Row" "isThere" "Z", Cond.fieldLink RX6 213 "BlankPardons$Row" "lane" "I", Cond.methodLink RX6 66 yX6_failed, Cond.instanceMethod yX6_failed, Cond.selects RX6 yX6_failed yX6_failed]
def wsX6_kingdom_r2 : List Cond := [Cond.code yX6_failed cX6_failed 2 (some .int), Cond.methodLink RX6 70 yX3_spans, Cond.instanceMethod yX3_spans, Cond.selects RX3 yX3_spans yX3_spans, Cond.initialized RX3, Cond.code yX3_spans cX3_spans 3 (some .boolean), Cond.fieldLink RX3 23 "BlankPardons$Row" "length" "I", Cond.methodLink RX6 75 yX4_init, Cond.instanceMethod yX4_init, Cond.code yX4_init cX4_init 4 none, Cond.methodLink RX4 3 objectInit, Cond.instanceMethod objectInit, Cond.code objectInit ⟨#[0xb1]⟩ 1 none, Cond.fieldLink RX4 9 "BlankPardons$Text" "row" "LBlankPardons$Row;", Cond.fieldLink RX4 15 "BlankPardons$Text" "from" "I", Cond.fieldLink RX4 19 "BlankPardons$Text" "size" "I", Cond.methodLink RX6 78 yX4_firstFault, Cond.instanceMethod yX4_firstFault, Cond.selects RX4 yX4_firstFault yX4_firstFault, Cond.code yX4_firstFault cX4_firstFault 3 (some .int), Cond.fieldLink RX4 26 "BlankPardons$Text" "deeds" "I", Cond.fieldLink RX4 33 "BlankPardons$Text" "subjects" "I", Cond.methodLink RX4 22 yX4_code, Cond.instanceMethod yX4_code]
def wsX6_kingdom_r3 : List Cond := [Cond.selects RX4 yX4_code yX4_code, Cond.code yX4_code cX4_code 2 (some .int), Cond.fieldLink RX4 42 "BlankPardons$Row" "cells" "[I", Cond.methodLink RX4 29 yX4_isDigit, Cond.instanceMethod yX4_isDigit, Cond.selects RX4 yX4_isDigit yX4_isDigit, Cond.code yX4_isDigit cX4_isDigit 4 (some .boolean), Cond.methodLink RX4 36 yX4_kindAt, Cond.instanceMethod yX4_kindAt, Cond.selects RX4 yX4_kindAt yX4_kindAt, Cond.code yX4_kindAt cX4_kindAt 2 (some .int), Cond.methodLink RX6 82 yX2_found, Cond.instanceMethod yX2_found, Cond.selects RX2 yX2_found yX2_found, Cond.initialized RX2, Cond.code yX2_found cX2_found 4 none, Cond.fieldLink RX2 23 "BlankPardons$Text" "deeds" "I", Cond.fieldLink RX2 28 "BlankPardons$Realm" "deedCount" "I", Cond.fieldLink RX2 31 "BlankPardons$Text" "subjects" "I", Cond.fieldLink RX2 34 "BlankPardons$Realm" "subjectCount" "I", Cond.fieldLink RX2 11 "BlankPardons$Realm" "deeds" "[[I", Cond.fieldLink RX2 16 "BlankPardons$Realm" "kindOf" "[I", Cond.fieldLink RX2 20 "BlankPardons$Realm" "papers" "[I", Cond.methodLink RX2 37 yX4_digitOfDeed]
def wsX6_kingdom_r4 : List Cond := [Cond.instanceMethod yX4_digitOfDeed, Cond.selects RX4 yX4_digitOfDeed yX4_digitOfDeed, Cond.code yX4_digitOfDeed cX4_digitOfDeed 3 (some .int), Cond.methodLink RX2 41 yX4_kindOfSubject, Cond.instanceMethod yX4_kindOfSubject, Cond.selects RX4 yX4_kindOfSubject yX4_kindOfSubject, Cond.code yX4_kindOfSubject cX4_kindOfSubject 2 (some .int), Cond.methodLink RX2 45 yX4_papersOfSubject, Cond.instanceMethod yX4_papersOfSubject, Cond.selects RX4 yX4_papersOfSubject yX4_papersOfSubject, Cond.code yX4_papersOfSubject cX4_papersOfSubject 2 (some .int)]
def wsX6_kingdom : List Cond := .code yX6_kingdom cX6_kingdom 9 (some .int) :: ((wsX6_kingdom_r1 ++ (wsX6_kingdom_r2 ++ (wsX6_kingdom_r3 ++ wsX6_kingdom_r4))) ++ wsX60 ++ wsX40 ++ wsX10 ++ wsX20 ++ wsX30)
def wsX6_ofDeed : List Cond := .code yX6_ofDeed cX6_ofDeed 3 (some .int) :: ([.fieldLink RX6 20 "BlankPardons" "realm" "LBlankPardons$Realm;", .fieldLink RX6 95 "BlankPardons$Realm" "deeds" "[[I", .methodLink RX6 92 yX2_hasDeed, .instanceMethod yX2_hasDeed, .selects RX2 yX2_hasDeed yX2_hasDeed, .initialized RX2, .code yX2_hasDeed cX2_hasDeed 2 (some .boolean), .fieldLink RX2 28 "BlankPardons$Realm" "deedCount" "I", .static yX6_isBelow, .initialized RX6, .code yX6_isBelow cX6_isBelow 2 (some .boolean), .methodLink RX6 58 yX6_isBelow] ++ wsX60 ++ wsX20)
def wsX6_ofSubject_r1 : List Cond := [Cond.fieldLink RX6 20 "BlankPardons" "realm" "LBlankPardons$Realm;", Cond.fieldLink RX6 102 "BlankPardons$Realm" "kindOf" "[I", Cond.fieldLink RX6 106 "BlankPardons$Realm" "papers" "[I", Cond.methodLink RX6 99 yX2_hasSubject, Cond.instanceMethod yX2_hasSubject, Cond.selects RX2 yX2_hasSubject yX2_hasSubject, Cond.initialized RX2, Cond.code yX2_hasSubject cX2_hasSubject 2 (some .boolean), Cond.fieldLink RX2 34 "BlankPardons$Realm" "subjectCount" "I", Cond.static yX6_isBelow, Cond.initialized RX6, Cond.code yX6_isBelow cX6_isBelow 2 (some .boolean), Cond.methodLink RX6 109 yX2_doneBy, Cond.instanceMethod yX2_doneBy, Cond.selects RX2 yX2_doneBy yX2_doneBy, Cond.code yX2_doneBy cX2_doneBy 4 (some .int), Cond.fieldLink RX2 28 "BlankPardons$Realm" "deedCount" "I", Cond.methodLink RX2 61 yX2_wouldDo, Cond.instanceMethod yX2_wouldDo, Cond.selects RX2 yX2_wouldDo yX2_wouldDo, Cond.code yX2_wouldDo cX2_wouldDo 3 (some .boolean), Cond.methodLink RX2 58 yX2_unpardonedValue, Cond.instanceMethod yX2_unpardonedValue, Cond.selects RX2 yX2_unpardonedValue yX2_unpardonedValue]
def wsX6_ofSubject_r2 : List Cond := [Cond.code yX2_unpardonedValue cX2_unpardonedValue 3 (some .int), Cond.methodLink RX2 52 yX2_pardonedValue, Cond.instanceMethod yX2_pardonedValue, Cond.selects RX2 yX2_pardonedValue yX2_pardonedValue, Cond.code yX2_pardonedValue cX2_pardonedValue 2 (some .int), Cond.fieldLink RX2 11 "BlankPardons$Realm" "deeds" "[[I", Cond.methodLink RX2 55 yX2_fearOf, Cond.instanceMethod yX2_fearOf, Cond.selects RX2 yX2_fearOf yX2_fearOf, Cond.code yX2_fearOf cX2_fearOf 4 (some .int), Cond.fieldLink RX2 16 "BlankPardons$Realm" "kindOf" "[I"]
def wsX6_ofSubject : List Cond := .code yX6_ofSubject cX6_ofSubject 3 (some .int) :: ((wsX6_ofSubject_r1 ++ wsX6_ofSubject_r2) ++ wsX60 ++ wsX20)
def wsX6_fear : List Cond := .code yX6_fear cX6_fear 3 (some .int) :: ([.fieldLink RX6 20 "BlankPardons" "realm" "LBlankPardons$Realm;", .methodLink RX6 99 yX2_hasSubject, .instanceMethod yX2_hasSubject, .selects RX2 yX2_hasSubject yX2_hasSubject, .initialized RX2, .code yX2_hasSubject cX2_hasSubject 2 (some .boolean), .fieldLink RX2 34 "BlankPardons$Realm" "subjectCount" "I", .static yX6_isBelow, .initialized RX6, .code yX6_isBelow cX6_isBelow 2 (some .boolean), .methodLink RX6 92 yX2_hasDeed, .instanceMethod yX2_hasDeed, .selects RX2 yX2_hasDeed yX2_hasDeed, .code yX2_hasDeed cX2_hasDeed 2 (some .boolean), .fieldLink RX2 28 "BlankPardons$Realm" "deedCount" "I", .methodLink RX6 112 yX2_fearOf, .instanceMethod yX2_fearOf, .selects RX2 yX2_fearOf yX2_fearOf, .code yX2_fearOf cX2_fearOf 4 (some .int), .fieldLink RX2 11 "BlankPardons$Realm" "deeds" "[[I", .fieldLink RX2 16 "BlankPardons$Realm" "kindOf" "[I"] ++ wsX60 ++ wsX20)
def wsX6_alter : List Cond := .code yX6_alter cX6_alter 5 (some .int) :: ([.fieldLink RX6 20 "BlankPardons" "realm" "LBlankPardons$Realm;", .fieldLink RX6 95 "BlankPardons$Realm" "deeds" "[[I", .methodLink RX6 92 yX2_hasDeed, .instanceMethod yX2_hasDeed, .selects RX2 yX2_hasDeed yX2_hasDeed, .initialized RX2, .code yX2_hasDeed cX2_hasDeed 2 (some .boolean), .fieldLink RX2 28 "BlankPardons$Realm" "deedCount" "I", .static yX6_isBelow, .initialized RX6, .code yX6_isBelow cX6_isBelow 2 (some .boolean), .methodLink RX6 58 yX6_isBelow] ++ wsX60 ++ wsX20)
def wsX6_grant : List Cond := .code yX6_grant cX6_grant 4 (some .int) :: ([.fieldLink RX6 20 "BlankPardons" "realm" "LBlankPardons$Realm;", .fieldLink RX6 106 "BlankPardons$Realm" "papers" "[I", .methodLink RX6 99 yX2_hasSubject, .instanceMethod yX2_hasSubject, .selects RX2 yX2_hasSubject yX2_hasSubject, .initialized RX2, .code yX2_hasSubject cX2_hasSubject 2 (some .boolean), .fieldLink RX2 34 "BlankPardons$Realm" "subjectCount" "I", .static yX6_isBelow, .initialized RX6, .code yX6_isBelow cX6_isBelow 2 (some .boolean), .methodLink RX6 58 yX6_isBelow] ++ wsX60 ++ wsX20)
def wsX6_isAskedOfYears : List Cond := .code yX6_isAskedOfYears cX6_isAskedOfYears 1 (some .boolean) :: ([.methodLink RX6 58 yX6_isBelow, .static yX6_isBelow, .initialized RX6, .code yX6_isBelow cX6_isBelow 2 (some .boolean)])
def wsX6_areTriples : List Cond := .code yX6_areTriples cX6_areTriples 6 (some .boolean) :: ([.fieldLink RX6 20 "BlankPardons" "realm" "LBlankPardons$Realm;", .fieldLink RX6 134 "BlankPardons$Row" "cells" "[I", .methodLink RX6 99 yX2_hasSubject, .instanceMethod yX2_hasSubject, .selects RX2 yX2_hasSubject yX2_hasSubject, .initialized RX2, .code yX2_hasSubject cX2_hasSubject 2 (some .boolean), .fieldLink RX2 34 "BlankPardons$Realm" "subjectCount" "I", .static yX6_isBelow, .initialized RX6, .code yX6_isBelow cX6_isBelow 2 (some .boolean), .methodLink RX6 92 yX2_hasDeed, .instanceMethod yX2_hasDeed, .selects RX2 yX2_hasDeed yX2_hasDeed, .code yX2_hasDeed cX2_hasDeed 2 (some .boolean), .fieldLink RX2 28 "BlankPardons$Realm" "deedCount" "I", .methodLink RX6 58 yX6_isBelow] ++ wsX60 ++ wsX30 ++ wsX20)
def wsX6_ofYear : List Cond := .code yX6_ofYear cX6_ofYear 3 (some .int) :: ([.fieldLink RX6 41 "BlankPardons" "lived" "LBlankPardons$Year;", .fieldLink RX6 137 "BlankPardons$Year" "firstWrong" "I", .constant RX6 140 (-100000), .fieldLink RX6 141 "BlankPardons$Year" "values" "I", .fieldLink RX6 144 "BlankPardons$Year" "pardoned" "I", .fieldLink RX6 20 "BlankPardons" "realm" "LBlankPardons$Realm;", .fieldLink RX6 147 "BlankPardons$Year" "left" "[I", .methodLink RX6 99 yX2_hasSubject, .instanceMethod yX2_hasSubject, .selects RX2 yX2_hasSubject yX2_hasSubject, .initialized RX2, .code yX2_hasSubject cX2_hasSubject 2 (some .boolean), .fieldLink RX2 34 "BlankPardons$Realm" "subjectCount" "I", .static yX6_isBelow, .initialized RX6, .code yX6_isBelow cX6_isBelow 2 (some .boolean)] ++ wsX60 ++ wsX50 ++ wsX20)
def wsX6_year_r1 : List Cond := [Cond.fieldLink RX6 50 "BlankPardons" "latestFault" "I", Cond.fieldLink RX6 20 "BlankPardons" "realm" "LBlankPardons$Realm;", Cond.fieldLink RX6 13 "BlankPardons" "sheets" "[LBlankPardons$Row;", Cond.fieldLink RX6 41 "BlankPardons" "lived" "LBlankPardons$Year;", Cond.methodLink RX6 54 yX6_isSheet, Cond.static yX6_isSheet, Cond.initialized RX6, Cond.code yX6_isSheet cX6_isSheet 1 (some .boolean), Cond.methodLink RX6 58 yX6_isBelow, Cond.static yX6_isBelow, Cond.code yX6_isBelow cX6_isBelow 2 (some .boolean), Cond.methodLink RX6 116 yX6_isAskedOfYears, Cond.static yX6_isAskedOfYears, Cond.code yX6_isAskedOfYears cX6_isAskedOfYears 1 (some .boolean), Cond.methodLink RX6 119 yX2_isThere, Cond.instanceMethod yX2_isThere, Cond.selects RX2 yX2_isThere yX2_isThere, Cond.initialized RX2, Cond.code yX2_isThere cX2_isThere 1 (some .boolean), Cond.fieldLink RX2 34 "BlankPardons$Realm" "subjectCount" "I", Cond.methodLink RX6 62 yX6_faultAs, Cond.static yX6_faultAs, Cond.code yX6_faultAs cX6_faultAs 2 (some .int), Cond.fieldLink RX6 204 "BlankPardons$Row" "isThere" "Z"]
def wsX6_year_r2 : List Cond := [Cond.fieldLink RX6 213 "BlankPardons$Row" "lane" "I", Cond.methodLink RX6 66 yX6_failed, Cond.instanceMethod yX6_failed, Cond.selects RX6 yX6_failed yX6_failed, Cond.code yX6_failed cX6_failed 2 (some .int), Cond.methodLink RX6 70 yX3_spans, Cond.instanceMethod yX3_spans, Cond.selects RX3 yX3_spans yX3_spans, Cond.initialized RX3, Cond.code yX3_spans cX3_spans 3 (some .boolean), Cond.fieldLink RX3 23 "BlankPardons$Row" "length" "I", Cond.methodLink RX6 123 yX6_areTriples, Cond.instanceMethod yX6_areTriples, Cond.selects RX6 yX6_areTriples yX6_areTriples, Cond.code yX6_areTriples cX6_areTriples 6 (some .boolean), Cond.fieldLink RX6 134 "BlankPardons$Row" "cells" "[I", Cond.methodLink RX6 99 yX2_hasSubject, Cond.instanceMethod yX2_hasSubject, Cond.selects RX2 yX2_hasSubject yX2_hasSubject, Cond.code yX2_hasSubject cX2_hasSubject 2 (some .boolean), Cond.methodLink RX6 92 yX2_hasDeed, Cond.instanceMethod yX2_hasDeed, Cond.selects RX2 yX2_hasDeed yX2_hasDeed, Cond.code yX2_hasDeed cX2_hasDeed 2 (some .boolean)]
def wsX6_year_r3 : List Cond := [Cond.fieldLink RX2 28 "BlankPardons$Realm" "deedCount" "I", Cond.methodLink RX6 127 yX5_live, Cond.instanceMethod yX5_live, Cond.selects RX5 yX5_live yX5_live, Cond.initialized RX5, Cond.code yX5_live cX5_live 7 none, Cond.fieldLink RX5 15 "BlankPardons$Year" "values" "I", Cond.fieldLink RX5 19 "BlankPardons$Year" "pardoned" "I", Cond.fieldLink RX5 22 "BlankPardons$Year" "firstWrong" "I", Cond.fieldLink RX5 25 "BlankPardons$Realm" "subjectCount" "I", Cond.fieldLink RX5 9 "BlankPardons$Year" "left" "[I", Cond.fieldLink RX5 30 "BlankPardons$Realm" "papers" "[I", Cond.fieldLink RX5 33 "BlankPardons$Row" "cells" "[I", Cond.methodLink RX5 38 yX5_goesOn, Cond.instanceMethod yX5_goesOn, Cond.selects RX5 yX5_goesOn yX5_goesOn, Cond.code yX5_goesOn cX5_goesOn 5 (some .boolean), Cond.methodLink RX5 42 yX2_pardonedValue, Cond.instanceMethod yX2_pardonedValue, Cond.selects RX2 yX2_pardonedValue yX2_pardonedValue, Cond.code yX2_pardonedValue cX2_pardonedValue 2 (some .int), Cond.fieldLink RX2 11 "BlankPardons$Realm" "deeds" "[[I", Cond.methodLink RX5 46 yX2_unpardonedValue, Cond.instanceMethod yX2_unpardonedValue]
def wsX6_year_r4 : List Cond := [Cond.selects RX2 yX2_unpardonedValue yX2_unpardonedValue, Cond.code yX2_unpardonedValue cX2_unpardonedValue 3 (some .int), Cond.methodLink RX2 52 yX2_pardonedValue, Cond.methodLink RX2 55 yX2_fearOf, Cond.instanceMethod yX2_fearOf, Cond.selects RX2 yX2_fearOf yX2_fearOf, Cond.code yX2_fearOf cX2_fearOf 4 (some .int), Cond.fieldLink RX2 16 "BlankPardons$Realm" "kindOf" "[I", Cond.methodLink RX5 50 yX2_wouldDo, Cond.instanceMethod yX2_wouldDo, Cond.selects RX2 yX2_wouldDo yX2_wouldDo, Cond.code yX2_wouldDo cX2_wouldDo 3 (some .boolean), Cond.methodLink RX2 58 yX2_unpardonedValue, Cond.methodLink RX6 131 yX6_ofYear, Cond.instanceMethod yX6_ofYear, Cond.selects RX6 yX6_ofYear yX6_ofYear, Cond.code yX6_ofYear cX6_ofYear 3 (some .int), Cond.fieldLink RX6 137 "BlankPardons$Year" "firstWrong" "I", Cond.constant RX6 140 (-100000), Cond.fieldLink RX6 141 "BlankPardons$Year" "values" "I", Cond.fieldLink RX6 144 "BlankPardons$Year" "pardoned" "I", Cond.fieldLink RX6 147 "BlankPardons$Year" "left" "[I"]
def wsX6_year : List Cond := .code yX6_year cX6_year 8 (some .int) :: ((wsX6_year_r1 ++ (wsX6_year_r2 ++ (wsX6_year_r3 ++ wsX6_year_r4))) ++ wsX60 ++ wsX20 ++ wsX30 ++ wsX50)
def wsX6_commonDivisor : List Cond := .code yX6_commonDivisor cX6_commonDivisor 11 (some .long) :: ([])
def wsX6_inLeastTerms : List Cond := .code yX6_inLeastTerms cX6_inLeastTerms 9 (some .long) :: ([.methodLink RX6 240 yX6_commonDivisor, .static yX6_commonDivisor, .initialized RX6, .code yX6_commonDivisor cX6_commonDivisor 11 (some .long)])
def wsX6_hope_r1 : List Cond := [Cond.fieldLink RX6 20 "BlankPardons" "realm" "LBlankPardons$Realm;", Cond.constantLong RX6 150 (-9223372036854775808), Cond.fieldLink RX6 34 "BlankPardons" "outlook" "LBlankPardons$Outlook;", Cond.fieldLink RX6 156 "BlankPardons$Outlook" "hopes" "[[J", Cond.fieldLink RX6 160 "BlankPardons$Outlook" "scales" "[J", Cond.methodLink RX6 99 yX2_hasSubject, Cond.instanceMethod yX2_hasSubject, Cond.selects RX2 yX2_hasSubject yX2_hasSubject, Cond.initialized RX2, Cond.code yX2_hasSubject cX2_hasSubject 2 (some .boolean), Cond.fieldLink RX2 34 "BlankPardons$Realm" "subjectCount" "I", Cond.static yX6_isBelow, Cond.initialized RX6, Cond.code yX6_isBelow cX6_isBelow 2 (some .boolean), Cond.methodLink RX6 58 yX6_isBelow, Cond.methodLink RX6 152 yX0_lookAhead, Cond.instanceMethod yX0_lookAhead, Cond.selects RX0 yX0_lookAhead yX0_lookAhead, Cond.initialized RX0, Cond.code yX0_lookAhead cX0_lookAhead 6 none, Cond.fieldLink RX0 16 "BlankPardons$Outlook" "scales" "[J", Cond.fieldLink RX0 11 "BlankPardons$Outlook" "hopes" "[[J", Cond.fieldLink RX0 20 "BlankPardons$Realm" "deedCount" "I", Cond.methodLink RX0 26 yX0_sumOfBest]
def wsX6_hope_r2 : List Cond := [Cond.instanceMethod yX0_sumOfBest, Cond.selects RX0 yX0_sumOfBest yX0_sumOfBest, Cond.code yX0_sumOfBest cX0_sumOfBest 10 (some .long), Cond.methodLink RX0 37 Lib.MathLoose.max_long.x, Cond.static Lib.MathLoose.max_long.x, Cond.initialized "java/lang/Math", Cond.code Lib.MathLoose.max_long.x Lib.MathLoose.max_long.code 4 (some .long), Cond.methodLink RX0 30 yX0_byNone, Cond.instanceMethod yX0_byNone, Cond.selects RX0 yX0_byNone yX0_byNone, Cond.code yX0_byNone cX0_byNone 6 (some .long), Cond.methodLink RX0 51 Lib.Math.max.name, Cond.static Lib.Math.max.name, Cond.code Lib.Math.max.name Lib.Math.max.code 2 (some .int), Cond.methodLink RX0 47 yX2_unpardonedValue, Cond.instanceMethod yX2_unpardonedValue, Cond.selects RX2 yX2_unpardonedValue yX2_unpardonedValue, Cond.code yX2_unpardonedValue cX2_unpardonedValue 3 (some .int), Cond.methodLink RX2 52 yX2_pardonedValue, Cond.instanceMethod yX2_pardonedValue, Cond.selects RX2 yX2_pardonedValue yX2_pardonedValue, Cond.code yX2_pardonedValue cX2_pardonedValue 2 (some .int), Cond.fieldLink RX2 11 "BlankPardons$Realm" "deeds" "[[I", Cond.methodLink RX2 55 yX2_fearOf]
def wsX6_hope_r3 : List Cond := [Cond.instanceMethod yX2_fearOf, Cond.selects RX2 yX2_fearOf yX2_fearOf, Cond.code yX2_fearOf cX2_fearOf 4 (some .int), Cond.fieldLink RX2 16 "BlankPardons$Realm" "kindOf" "[I", Cond.methodLink RX0 34 yX0_byPaper, Cond.instanceMethod yX0_byPaper, Cond.selects RX0 yX0_byPaper yX0_byPaper, Cond.code yX0_byPaper cX0_byPaper 5 (some .long), Cond.methodLink RX0 43 yX2_pardonedValue, Cond.methodLink RX6 163 yX6_inLeastTerms, Cond.static yX6_inLeastTerms, Cond.code yX6_inLeastTerms cX6_inLeastTerms 9 (some .long), Cond.methodLink RX6 240 yX6_commonDivisor, Cond.static yX6_commonDivisor, Cond.code yX6_commonDivisor cX6_commonDivisor 11 (some .long)]
def wsX6_hope : List Cond := .code yX6_hope cX6_hope 5 (some .long) :: ((wsX6_hope_r1 ++ (wsX6_hope_r2 ++ wsX6_hope_r3)) ++ wsX60 ++ wsX00 ++ wsX20)
def wsX6_uses_r1 : List Cond := [Cond.fieldLink RX6 20 "BlankPardons" "realm" "LBlankPardons$Realm;", Cond.fieldLink RX6 34 "BlankPardons" "outlook" "LBlankPardons$Outlook;", Cond.fieldLink RX6 167 "BlankPardons$Realm" "deedCount" "I", Cond.methodLink RX6 99 yX2_hasSubject, Cond.instanceMethod yX2_hasSubject, Cond.selects RX2 yX2_hasSubject yX2_hasSubject, Cond.initialized RX2, Cond.code yX2_hasSubject cX2_hasSubject 2 (some .boolean), Cond.fieldLink RX2 34 "BlankPardons$Realm" "subjectCount" "I", Cond.static yX6_isBelow, Cond.initialized RX6, Cond.code yX6_isBelow cX6_isBelow 2 (some .boolean), Cond.methodLink RX6 152 yX0_lookAhead, Cond.instanceMethod yX0_lookAhead, Cond.selects RX0 yX0_lookAhead yX0_lookAhead, Cond.initialized RX0, Cond.code yX0_lookAhead cX0_lookAhead 6 none, Cond.fieldLink RX0 16 "BlankPardons$Outlook" "scales" "[J", Cond.fieldLink RX0 11 "BlankPardons$Outlook" "hopes" "[[J", Cond.fieldLink RX0 20 "BlankPardons$Realm" "deedCount" "I", Cond.methodLink RX0 26 yX0_sumOfBest, Cond.instanceMethod yX0_sumOfBest, Cond.selects RX0 yX0_sumOfBest yX0_sumOfBest, Cond.code yX0_sumOfBest cX0_sumOfBest 10 (some .long)]
def wsX6_uses_r2 : List Cond := [Cond.methodLink RX0 37 Lib.MathLoose.max_long.x, Cond.static Lib.MathLoose.max_long.x, Cond.initialized "java/lang/Math", Cond.code Lib.MathLoose.max_long.x Lib.MathLoose.max_long.code 4 (some .long), Cond.methodLink RX0 30 yX0_byNone, Cond.instanceMethod yX0_byNone, Cond.selects RX0 yX0_byNone yX0_byNone, Cond.code yX0_byNone cX0_byNone 6 (some .long), Cond.methodLink RX0 51 Lib.Math.max.name, Cond.static Lib.Math.max.name, Cond.code Lib.Math.max.name Lib.Math.max.code 2 (some .int), Cond.methodLink RX0 47 yX2_unpardonedValue, Cond.instanceMethod yX2_unpardonedValue, Cond.selects RX2 yX2_unpardonedValue yX2_unpardonedValue, Cond.code yX2_unpardonedValue cX2_unpardonedValue 3 (some .int), Cond.methodLink RX2 52 yX2_pardonedValue, Cond.instanceMethod yX2_pardonedValue, Cond.selects RX2 yX2_pardonedValue yX2_pardonedValue, Cond.code yX2_pardonedValue cX2_pardonedValue 2 (some .int), Cond.fieldLink RX2 11 "BlankPardons$Realm" "deeds" "[[I", Cond.methodLink RX2 55 yX2_fearOf, Cond.instanceMethod yX2_fearOf, Cond.selects RX2 yX2_fearOf yX2_fearOf, Cond.code yX2_fearOf cX2_fearOf 4 (some .int)]
def wsX6_uses_r3 : List Cond := [Cond.fieldLink RX2 16 "BlankPardons$Realm" "kindOf" "[I", Cond.methodLink RX0 34 yX0_byPaper, Cond.instanceMethod yX0_byPaper, Cond.selects RX0 yX0_byPaper yX0_byPaper, Cond.code yX0_byPaper cX0_byPaper 5 (some .long), Cond.methodLink RX0 43 yX2_pardonedValue, Cond.methodLink RX6 170 yX0_byPaper, Cond.methodLink RX6 174 yX0_byNone]
def wsX6_uses : List Cond := .code yX6_uses cX6_uses 6 (some .int) :: ((wsX6_uses_r1 ++ (wsX6_uses_r2 ++ wsX6_uses_r3)) ++ wsX60 ++ wsX20 ++ wsX00)
def wsX6_weighPapers_r1 : List Cond := [Cond.fieldLink RX6 20 "BlankPardons" "realm" "LBlankPardons$Realm;", Cond.fieldLink RX6 89 "BlankPardons$Realm" "subjectCount" "I", Cond.fieldLink RX6 34 "BlankPardons" "outlook" "LBlankPardons$Outlook;", Cond.fieldLink RX6 45 "BlankPardons" "gains" "[J", Cond.fieldLink RX6 156 "BlankPardons$Outlook" "hopes" "[[J", Cond.methodLink RX6 152 yX0_lookAhead, Cond.instanceMethod yX0_lookAhead, Cond.selects RX0 yX0_lookAhead yX0_lookAhead, Cond.initialized RX0, Cond.code yX0_lookAhead cX0_lookAhead 6 none, Cond.fieldLink RX0 16 "BlankPardons$Outlook" "scales" "[J", Cond.fieldLink RX0 11 "BlankPardons$Outlook" "hopes" "[[J", Cond.fieldLink RX0 20 "BlankPardons$Realm" "deedCount" "I", Cond.methodLink RX0 26 yX0_sumOfBest, Cond.instanceMethod yX0_sumOfBest, Cond.selects RX0 yX0_sumOfBest yX0_sumOfBest, Cond.code yX0_sumOfBest cX0_sumOfBest 10 (some .long), Cond.methodLink RX0 37 Lib.MathLoose.max_long.x, Cond.static Lib.MathLoose.max_long.x, Cond.initialized "java/lang/Math", Cond.code Lib.MathLoose.max_long.x Lib.MathLoose.max_long.code 4 (some .long), Cond.methodLink RX0 30 yX0_byNone, Cond.instanceMethod yX0_byNone, Cond.selects RX0 yX0_byNone yX0_byNone]
def wsX6_weighPapers_r2 : List Cond := [Cond.code yX0_byNone cX0_byNone 6 (some .long), Cond.methodLink RX0 51 Lib.Math.max.name, Cond.static Lib.Math.max.name, Cond.code Lib.Math.max.name Lib.Math.max.code 2 (some .int), Cond.methodLink RX0 47 yX2_unpardonedValue, Cond.instanceMethod yX2_unpardonedValue, Cond.selects RX2 yX2_unpardonedValue yX2_unpardonedValue, Cond.initialized RX2, Cond.code yX2_unpardonedValue cX2_unpardonedValue 3 (some .int), Cond.methodLink RX2 52 yX2_pardonedValue, Cond.instanceMethod yX2_pardonedValue, Cond.selects RX2 yX2_pardonedValue yX2_pardonedValue, Cond.code yX2_pardonedValue cX2_pardonedValue 2 (some .int), Cond.fieldLink RX2 11 "BlankPardons$Realm" "deeds" "[[I", Cond.methodLink RX2 55 yX2_fearOf, Cond.instanceMethod yX2_fearOf, Cond.selects RX2 yX2_fearOf yX2_fearOf, Cond.code yX2_fearOf cX2_fearOf 4 (some .int), Cond.fieldLink RX2 16 "BlankPardons$Realm" "kindOf" "[I", Cond.methodLink RX0 34 yX0_byPaper, Cond.instanceMethod yX0_byPaper, Cond.selects RX0 yX0_byPaper yX0_byPaper, Cond.code yX0_byPaper cX0_byPaper 5 (some .long), Cond.methodLink RX0 43 yX2_pardonedValue]
def wsX6_weighPapers : List Cond := .code yX6_weighPapers cX6_weighPapers 3 none :: ((wsX6_weighPapers_r1 ++ wsX6_weighPapers_r2) ++ wsX60 ++ wsX20 ++ wsX00)
def wsX6_buyersAt : List Cond := .code yX6_buyersAt cX6_buyersAt 5 (some .int) :: ([.fieldLink RX6 20 "BlankPardons" "realm" "LBlankPardons$Realm;", .fieldLink RX6 89 "BlankPardons$Realm" "subjectCount" "I", .fieldLink RX6 45 "BlankPardons" "gains" "[J", .fieldLink RX6 34 "BlankPardons" "outlook" "LBlankPardons$Outlook;", .fieldLink RX6 160 "BlankPardons$Outlook" "scales" "[J"] ++ wsX60 ++ wsX20 ++ wsX00)
def wsX6_buyers_r1 : List Cond := [Cond.fieldLink RX6 20 "BlankPardons" "realm" "LBlankPardons$Realm;", Cond.methodLink RX6 58 yX6_isBelow, Cond.static yX6_isBelow, Cond.initialized RX6, Cond.code yX6_isBelow cX6_isBelow 2 (some .boolean), Cond.methodLink RX6 119 yX2_isThere, Cond.instanceMethod yX2_isThere, Cond.selects RX2 yX2_isThere yX2_isThere, Cond.initialized RX2, Cond.code yX2_isThere cX2_isThere 1 (some .boolean), Cond.fieldLink RX2 34 "BlankPardons$Realm" "subjectCount" "I", Cond.methodLink RX6 178 yX6_weighPapers, Cond.instanceMethod yX6_weighPapers, Cond.selects RX6 yX6_weighPapers yX6_weighPapers, Cond.code yX6_weighPapers cX6_weighPapers 3 none, Cond.fieldLink RX6 89 "BlankPardons$Realm" "subjectCount" "I", Cond.fieldLink RX6 34 "BlankPardons" "outlook" "LBlankPardons$Outlook;", Cond.fieldLink RX6 45 "BlankPardons" "gains" "[J", Cond.fieldLink RX6 156 "BlankPardons$Outlook" "hopes" "[[J", Cond.methodLink RX6 152 yX0_lookAhead, Cond.instanceMethod yX0_lookAhead, Cond.selects RX0 yX0_lookAhead yX0_lookAhead, Cond.initialized RX0, Cond.code yX0_lookAhead cX0_lookAhead 6 none]
def wsX6_buyers_r2 : List Cond := [Cond.fieldLink RX0 16 "BlankPardons$Outlook" "scales" "[J", Cond.fieldLink RX0 11 "BlankPardons$Outlook" "hopes" "[[J", Cond.fieldLink RX0 20 "BlankPardons$Realm" "deedCount" "I", Cond.methodLink RX0 26 yX0_sumOfBest, Cond.instanceMethod yX0_sumOfBest, Cond.selects RX0 yX0_sumOfBest yX0_sumOfBest, Cond.code yX0_sumOfBest cX0_sumOfBest 10 (some .long), Cond.methodLink RX0 37 Lib.MathLoose.max_long.x, Cond.static Lib.MathLoose.max_long.x, Cond.initialized "java/lang/Math", Cond.code Lib.MathLoose.max_long.x Lib.MathLoose.max_long.code 4 (some .long), Cond.methodLink RX0 30 yX0_byNone, Cond.instanceMethod yX0_byNone, Cond.selects RX0 yX0_byNone yX0_byNone, Cond.code yX0_byNone cX0_byNone 6 (some .long), Cond.methodLink RX0 51 Lib.Math.max.name, Cond.static Lib.Math.max.name, Cond.code Lib.Math.max.name Lib.Math.max.code 2 (some .int), Cond.methodLink RX0 47 yX2_unpardonedValue, Cond.instanceMethod yX2_unpardonedValue, Cond.selects RX2 yX2_unpardonedValue yX2_unpardonedValue, Cond.code yX2_unpardonedValue cX2_unpardonedValue 3 (some .int), Cond.methodLink RX2 52 yX2_pardonedValue, Cond.instanceMethod yX2_pardonedValue]
def wsX6_buyers_r3 : List Cond := [Cond.selects RX2 yX2_pardonedValue yX2_pardonedValue, Cond.code yX2_pardonedValue cX2_pardonedValue 2 (some .int), Cond.fieldLink RX2 11 "BlankPardons$Realm" "deeds" "[[I", Cond.methodLink RX2 55 yX2_fearOf, Cond.instanceMethod yX2_fearOf, Cond.selects RX2 yX2_fearOf yX2_fearOf, Cond.code yX2_fearOf cX2_fearOf 4 (some .int), Cond.fieldLink RX2 16 "BlankPardons$Realm" "kindOf" "[I", Cond.methodLink RX0 34 yX0_byPaper, Cond.instanceMethod yX0_byPaper, Cond.selects RX0 yX0_byPaper yX0_byPaper, Cond.code yX0_byPaper cX0_byPaper 5 (some .long), Cond.methodLink RX0 43 yX2_pardonedValue, Cond.methodLink RX6 182 yX6_buyersAt, Cond.instanceMethod yX6_buyersAt, Cond.selects RX6 yX6_buyersAt yX6_buyersAt, Cond.code yX6_buyersAt cX6_buyersAt 5 (some .int), Cond.fieldLink RX6 160 "BlankPardons$Outlook" "scales" "[J"]
def wsX6_buyers : List Cond := .code yX6_buyers cX6_buyers 3 (some .int) :: ((wsX6_buyers_r1 ++ (wsX6_buyers_r2 ++ wsX6_buyers_r3)) ++ wsX60 ++ wsX20 ++ wsX00)
def wsJ6_bitCount_0f7a4 : List Cond := .code yJ6_bitCount_0f7a4 cJ6_bitCount_0f7a4 1 (some .int) :: ([.constant RJ6 265 (1431655765), .constant RJ6 266 (858993459), .constant RJ6 267 (252645135)])
def wsX6_best_r1 : List Cond := [Cond.fieldLink RX6 20 "BlankPardons" "realm" "LBlankPardons$Realm;", Cond.methodLink RX6 58 yX6_isBelow, Cond.static yX6_isBelow, Cond.initialized RX6, Cond.code yX6_isBelow cX6_isBelow 2 (some .boolean), Cond.methodLink RX6 119 yX2_isThere, Cond.instanceMethod yX2_isThere, Cond.selects RX2 yX2_isThere yX2_isThere, Cond.initialized RX2, Cond.code yX2_isThere cX2_isThere 1 (some .boolean), Cond.fieldLink RX2 34 "BlankPardons$Realm" "subjectCount" "I", Cond.methodLink RX6 178 yX6_weighPapers, Cond.instanceMethod yX6_weighPapers, Cond.selects RX6 yX6_weighPapers yX6_weighPapers, Cond.code yX6_weighPapers cX6_weighPapers 3 none, Cond.fieldLink RX6 89 "BlankPardons$Realm" "subjectCount" "I", Cond.fieldLink RX6 34 "BlankPardons" "outlook" "LBlankPardons$Outlook;", Cond.fieldLink RX6 45 "BlankPardons" "gains" "[J", Cond.fieldLink RX6 156 "BlankPardons$Outlook" "hopes" "[[J", Cond.methodLink RX6 152 yX0_lookAhead, Cond.instanceMethod yX0_lookAhead, Cond.selects RX0 yX0_lookAhead yX0_lookAhead, Cond.initialized RX0, Cond.code yX0_lookAhead cX0_lookAhead 6 none]
def wsX6_best_r2 : List Cond := [Cond.fieldLink RX0 16 "BlankPardons$Outlook" "scales" "[J", Cond.fieldLink RX0 11 "BlankPardons$Outlook" "hopes" "[[J", Cond.fieldLink RX0 20 "BlankPardons$Realm" "deedCount" "I", Cond.methodLink RX0 26 yX0_sumOfBest, Cond.instanceMethod yX0_sumOfBest, Cond.selects RX0 yX0_sumOfBest yX0_sumOfBest, Cond.code yX0_sumOfBest cX0_sumOfBest 10 (some .long), Cond.methodLink RX0 37 Lib.MathLoose.max_long.x, Cond.static Lib.MathLoose.max_long.x, Cond.initialized "java/lang/Math", Cond.code Lib.MathLoose.max_long.x Lib.MathLoose.max_long.code 4 (some .long), Cond.methodLink RX0 30 yX0_byNone, Cond.instanceMethod yX0_byNone, Cond.selects RX0 yX0_byNone yX0_byNone, Cond.code yX0_byNone cX0_byNone 6 (some .long), Cond.methodLink RX0 51 Lib.Math.max.name, Cond.static Lib.Math.max.name, Cond.code Lib.Math.max.name Lib.Math.max.code 2 (some .int), Cond.methodLink RX0 47 yX2_unpardonedValue, Cond.instanceMethod yX2_unpardonedValue, Cond.selects RX2 yX2_unpardonedValue yX2_unpardonedValue, Cond.code yX2_unpardonedValue cX2_unpardonedValue 3 (some .int), Cond.methodLink RX2 52 yX2_pardonedValue, Cond.instanceMethod yX2_pardonedValue]
def wsX6_best_r3 : List Cond := [Cond.selects RX2 yX2_pardonedValue yX2_pardonedValue, Cond.code yX2_pardonedValue cX2_pardonedValue 2 (some .int), Cond.fieldLink RX2 11 "BlankPardons$Realm" "deeds" "[[I", Cond.methodLink RX2 55 yX2_fearOf, Cond.instanceMethod yX2_fearOf, Cond.selects RX2 yX2_fearOf yX2_fearOf, Cond.code yX2_fearOf cX2_fearOf 4 (some .int), Cond.fieldLink RX2 16 "BlankPardons$Realm" "kindOf" "[I", Cond.methodLink RX0 34 yX0_byPaper, Cond.instanceMethod yX0_byPaper, Cond.selects RX0 yX0_byPaper yX0_byPaper, Cond.code yX0_byPaper cX0_byPaper 5 (some .long), Cond.methodLink RX0 43 yX2_pardonedValue, Cond.methodLink RX6 182 yX6_buyersAt, Cond.instanceMethod yX6_buyersAt, Cond.selects RX6 yX6_buyersAt yX6_buyersAt, Cond.code yX6_buyersAt cX6_buyersAt 5 (some .int), Cond.fieldLink RX6 160 "BlankPardons$Outlook" "scales" "[J", Cond.methodLink RX6 185 yJ6_bitCount_0f7a4, Cond.static yJ6_bitCount_0f7a4, Cond.initialized RJ6, Cond.code yJ6_bitCount_0f7a4 cJ6_bitCount_0f7a4 1 (some .int), Cond.constant RJ6 265 (1431655765), Cond.constant RJ6 266 (858993459)]
def wsX6_best_r4 : List Cond := [Cond.constant RJ6 267 (252645135)]
def wsX6_best : List Cond := .code yX6_best cX6_best 6 (some .int) :: ((wsX6_best_r1 ++ (wsX6_best_r2 ++ (wsX6_best_r3 ++ wsX6_best_r4))) ++ wsX60 ++ wsX20 ++ wsX00)
def wsX6_reading_r1 : List Cond := [Cond.fieldLink RX6 20 "BlankPardons" "realm" "LBlankPardons$Realm;", Cond.fieldLink RX6 27 "BlankPardons" "readings" "LBlankPardons$Readings;", Cond.fieldLink RX6 86 "BlankPardons$Readings" "count" "I", Cond.methodLink RX6 99 yX2_hasSubject, Cond.instanceMethod yX2_hasSubject, Cond.selects RX2 yX2_hasSubject yX2_hasSubject, Cond.initialized RX2, Cond.code yX2_hasSubject cX2_hasSubject 2 (some .boolean), Cond.fieldLink RX2 34 "BlankPardons$Realm" "subjectCount" "I", Cond.static yX6_isBelow, Cond.initialized RX6, Cond.code yX6_isBelow cX6_isBelow 2 (some .boolean), Cond.methodLink RX6 92 yX2_hasDeed, Cond.instanceMethod yX2_hasDeed, Cond.selects RX2 yX2_hasDeed yX2_hasDeed, Cond.code yX2_hasDeed cX2_hasDeed 2 (some .boolean), Cond.fieldLink RX2 28 "BlankPardons$Realm" "deedCount" "I", Cond.methodLink RX6 190 yX1_note, Cond.instanceMethod yX1_note, Cond.selects RX1 yX1_note yX1_note, Cond.initialized RX1, Cond.code yX1_note cX1_note 4 (some .int), Cond.fieldLink RX1 9 "BlankPardons$Readings" "subjects" "[I", Cond.fieldLink RX1 22 "BlankPardons$Readings" "count" "I"]
def wsX6_reading_r2 : List Cond := [Cond.fieldLink RX1 15 "BlankPardons$Readings" "deeds" "[I", Cond.fieldLink RX1 18 "BlankPardons$Readings" "done" "[Z"]
def wsX6_reading : List Cond := .code yX6_reading cX6_reading 4 (some .int) :: ((wsX6_reading_r1 ++ wsX6_reading_r2) ++ wsX60 ++ wsX10 ++ wsX20)
def wsX6_back : List Cond := .code yX6_back cX6_back 2 (some .int) :: ([.fieldLink RX6 27 "BlankPardons" "readings" "LBlankPardons$Readings;", .fieldLink RX6 86 "BlankPardons$Readings" "count" "I"] ++ wsX60 ++ wsX10)
def wsX6_risks_r1 : List Cond := [Cond.fieldLink RX6 20 "BlankPardons" "realm" "LBlankPardons$Realm;", Cond.fieldLink RX6 27 "BlankPardons" "readings" "LBlankPardons$Readings;", Cond.fieldLink RX6 95 "BlankPardons$Realm" "deeds" "[[I", Cond.methodLink RX6 92 yX2_hasDeed, Cond.instanceMethod yX2_hasDeed, Cond.selects RX2 yX2_hasDeed yX2_hasDeed, Cond.initialized RX2, Cond.code yX2_hasDeed cX2_hasDeed 2 (some .boolean), Cond.fieldLink RX2 28 "BlankPardons$Realm" "deedCount" "I", Cond.static yX6_isBelow, Cond.initialized RX6, Cond.code yX6_isBelow cX6_isBelow 2 (some .boolean), Cond.methodLink RX6 194 yX1_fitting, Cond.instanceMethod yX1_fitting, Cond.selects RX1 yX1_fitting yX1_fitting, Cond.initialized RX1, Cond.code yX1_fitting cX1_fitting 8 (some .int), Cond.methodLink RX1 26 yX1_allAreSo, Cond.instanceMethod yX1_allAreSo, Cond.selects RX1 yX1_allAreSo yX1_allAreSo, Cond.code yX1_allAreSo cX1_allAreSo 3 (some .boolean), Cond.fieldLink RX1 22 "BlankPardons$Readings" "count" "I", Cond.fieldLink RX1 9 "BlankPardons$Readings" "subjects" "[I", Cond.fieldLink RX1 15 "BlankPardons$Readings" "deeds" "[I"]
def wsX6_risks_r2 : List Cond := [Cond.fieldLink RX1 18 "BlankPardons$Readings" "done" "[Z", Cond.methodLink RX1 30 yX2_wouldDo, Cond.instanceMethod yX2_wouldDo, Cond.selects RX2 yX2_wouldDo yX2_wouldDo, Cond.code yX2_wouldDo cX2_wouldDo 3 (some .boolean), Cond.methodLink RX2 58 yX2_unpardonedValue, Cond.instanceMethod yX2_unpardonedValue, Cond.selects RX2 yX2_unpardonedValue yX2_unpardonedValue, Cond.code yX2_unpardonedValue cX2_unpardonedValue 3 (some .int), Cond.methodLink RX2 52 yX2_pardonedValue, Cond.instanceMethod yX2_pardonedValue, Cond.selects RX2 yX2_pardonedValue yX2_pardonedValue, Cond.code yX2_pardonedValue cX2_pardonedValue 2 (some .int), Cond.fieldLink RX2 11 "BlankPardons$Realm" "deeds" "[[I", Cond.methodLink RX2 55 yX2_fearOf, Cond.instanceMethod yX2_fearOf, Cond.selects RX2 yX2_fearOf yX2_fearOf, Cond.code yX2_fearOf cX2_fearOf 4 (some .int), Cond.fieldLink RX2 16 "BlankPardons$Realm" "kindOf" "[I"]
def wsX6_risks : List Cond := .code yX6_risks cX6_risks 2 (some .int) :: ((wsX6_risks_r1 ++ wsX6_risks_r2) ++ wsX60 ++ wsX20 ++ wsX10)
def wsX6_hurts_r1 : List Cond := [Cond.fieldLink RX6 20 "BlankPardons" "realm" "LBlankPardons$Realm;", Cond.fieldLink RX6 27 "BlankPardons" "readings" "LBlankPardons$Readings;", Cond.fieldLink RX6 95 "BlankPardons$Realm" "deeds" "[[I", Cond.methodLink RX6 92 yX2_hasDeed, Cond.instanceMethod yX2_hasDeed, Cond.selects RX2 yX2_hasDeed yX2_hasDeed, Cond.initialized RX2, Cond.code yX2_hasDeed cX2_hasDeed 2 (some .boolean), Cond.fieldLink RX2 28 "BlankPardons$Realm" "deedCount" "I", Cond.static yX6_isBelow, Cond.initialized RX6, Cond.code yX6_isBelow cX6_isBelow 2 (some .boolean), Cond.methodLink RX6 194 yX1_fitting, Cond.instanceMethod yX1_fitting, Cond.selects RX1 yX1_fitting yX1_fitting, Cond.initialized RX1, Cond.code yX1_fitting cX1_fitting 8 (some .int), Cond.methodLink RX1 26 yX1_allAreSo, Cond.instanceMethod yX1_allAreSo, Cond.selects RX1 yX1_allAreSo yX1_allAreSo, Cond.code yX1_allAreSo cX1_allAreSo 3 (some .boolean), Cond.fieldLink RX1 22 "BlankPardons$Readings" "count" "I", Cond.fieldLink RX1 9 "BlankPardons$Readings" "subjects" "[I", Cond.fieldLink RX1 15 "BlankPardons$Readings" "deeds" "[I"]
def wsX6_hurts_r2 : List Cond := [Cond.fieldLink RX1 18 "BlankPardons$Readings" "done" "[Z", Cond.methodLink RX1 30 yX2_wouldDo, Cond.instanceMethod yX2_wouldDo, Cond.selects RX2 yX2_wouldDo yX2_wouldDo, Cond.code yX2_wouldDo cX2_wouldDo 3 (some .boolean), Cond.methodLink RX2 58 yX2_unpardonedValue, Cond.instanceMethod yX2_unpardonedValue, Cond.selects RX2 yX2_unpardonedValue yX2_unpardonedValue, Cond.code yX2_unpardonedValue cX2_unpardonedValue 3 (some .int), Cond.methodLink RX2 52 yX2_pardonedValue, Cond.instanceMethod yX2_pardonedValue, Cond.selects RX2 yX2_pardonedValue yX2_pardonedValue, Cond.code yX2_pardonedValue cX2_pardonedValue 2 (some .int), Cond.fieldLink RX2 11 "BlankPardons$Realm" "deeds" "[[I", Cond.methodLink RX2 55 yX2_fearOf, Cond.instanceMethod yX2_fearOf, Cond.selects RX2 yX2_fearOf yX2_fearOf, Cond.code yX2_fearOf cX2_fearOf 4 (some .int), Cond.fieldLink RX2 16 "BlankPardons$Realm" "kindOf" "[I"]
def wsX6_hurts : List Cond := .code yX6_hurts cX6_hurts 2 (some .int) :: ((wsX6_hurts_r1 ++ wsX6_hurts_r2) ++ wsX60 ++ wsX20 ++ wsX10)
def wsX6_kinds_r1 : List Cond := [Cond.fieldLink RX6 20 "BlankPardons" "realm" "LBlankPardons$Realm;", Cond.fieldLink RX6 27 "BlankPardons" "readings" "LBlankPardons$Readings;", Cond.fieldLink RX6 102 "BlankPardons$Realm" "kindOf" "[I", Cond.methodLink RX6 99 yX2_hasSubject, Cond.instanceMethod yX2_hasSubject, Cond.selects RX2 yX2_hasSubject yX2_hasSubject, Cond.initialized RX2, Cond.code yX2_hasSubject cX2_hasSubject 2 (some .boolean), Cond.fieldLink RX2 34 "BlankPardons$Realm" "subjectCount" "I", Cond.static yX6_isBelow, Cond.initialized RX6, Cond.code yX6_isBelow cX6_isBelow 2 (some .boolean), Cond.methodLink RX6 194 yX1_fitting, Cond.instanceMethod yX1_fitting, Cond.selects RX1 yX1_fitting yX1_fitting, Cond.initialized RX1, Cond.code yX1_fitting cX1_fitting 8 (some .int), Cond.methodLink RX1 26 yX1_allAreSo, Cond.instanceMethod yX1_allAreSo, Cond.selects RX1 yX1_allAreSo yX1_allAreSo, Cond.code yX1_allAreSo cX1_allAreSo 3 (some .boolean), Cond.fieldLink RX1 22 "BlankPardons$Readings" "count" "I", Cond.fieldLink RX1 9 "BlankPardons$Readings" "subjects" "[I", Cond.fieldLink RX1 15 "BlankPardons$Readings" "deeds" "[I"]
def wsX6_kinds_r2 : List Cond := [Cond.fieldLink RX1 18 "BlankPardons$Readings" "done" "[Z", Cond.methodLink RX1 30 yX2_wouldDo, Cond.instanceMethod yX2_wouldDo, Cond.selects RX2 yX2_wouldDo yX2_wouldDo, Cond.code yX2_wouldDo cX2_wouldDo 3 (some .boolean), Cond.methodLink RX2 58 yX2_unpardonedValue, Cond.instanceMethod yX2_unpardonedValue, Cond.selects RX2 yX2_unpardonedValue yX2_unpardonedValue, Cond.code yX2_unpardonedValue cX2_unpardonedValue 3 (some .int), Cond.methodLink RX2 52 yX2_pardonedValue, Cond.instanceMethod yX2_pardonedValue, Cond.selects RX2 yX2_pardonedValue yX2_pardonedValue, Cond.code yX2_pardonedValue cX2_pardonedValue 2 (some .int), Cond.fieldLink RX2 11 "BlankPardons$Realm" "deeds" "[[I", Cond.methodLink RX2 55 yX2_fearOf, Cond.instanceMethod yX2_fearOf, Cond.selects RX2 yX2_fearOf yX2_fearOf, Cond.code yX2_fearOf cX2_fearOf 4 (some .int), Cond.fieldLink RX2 16 "BlankPardons$Realm" "kindOf" "[I"]
def wsX6_kinds : List Cond := .code yX6_kinds cX6_kinds 2 (some .int) :: ((wsX6_kinds_r1 ++ wsX6_kinds_r2) ++ wsX60 ++ wsX20 ++ wsX10)
def wsX6_odds : List Cond := .code yX6_odds cX6_odds 11 (some .long) :: ([.fieldLink RX6 20 "BlankPardons" "realm" "LBlankPardons$Realm;", .constantLong RX6 150 (-9223372036854775808), .fieldLink RX6 167 "BlankPardons$Realm" "deedCount" "I", .fieldLink RX6 95 "BlankPardons$Realm" "deeds" "[[I", .constantLong RX6 198 (10), .methodLink RX6 119 yX2_isThere, .instanceMethod yX2_isThere, .selects RX2 yX2_isThere yX2_isThere, .initialized RX2, .code yX2_isThere cX2_isThere 1 (some .boolean), .fieldLink RX2 34 "BlankPardons$Realm" "subjectCount" "I", .methodLink RX6 58 yX6_isBelow, .static yX6_isBelow, .initialized RX6, .code yX6_isBelow cX6_isBelow 2 (some .boolean), .methodLink RX6 163 yX6_inLeastTerms, .static yX6_inLeastTerms, .code yX6_inLeastTerms cX6_inLeastTerms 9 (some .long), .methodLink RX6 240 yX6_commonDivisor, .static yX6_commonDivisor, .code yX6_commonDivisor cX6_commonDivisor 11 (some .long)] ++ wsX60 ++ wsX20)
def wsX6_sheet : List Cond := .code yX6_sheet cX6_sheet 4 (some .int) :: ([.fieldLink RX6 50 "BlankPardons" "latestFault" "I", .fieldLink RX6 13 "BlankPardons" "sheets" "[LBlankPardons$Row;", .methodLink RX6 54 yX6_isSheet, .static yX6_isSheet, .initialized RX6, .code yX6_isSheet cX6_isSheet 1 (some .boolean), .methodLink RX6 58 yX6_isBelow, .static yX6_isBelow, .code yX6_isBelow cX6_isBelow 2 (some .boolean), .methodLink RX6 66 yX6_failed, .instanceMethod yX6_failed, .selects RX6 yX6_failed yX6_failed, .code yX6_failed cX6_failed 2 (some .int), .methodLink RX6 200 yX3_renew, .instanceMethod yX3_renew, .selects RX3 yX3_renew yX3_renew, .initialized RX3, .code yX3_renew cX3_renew 4 none, .fieldLink RX3 15 "BlankPardons$Row" "isThere" "Z", .fieldLink RX3 19 "BlankPardons$Row" "lane" "I", .fieldLink RX3 23 "BlankPardons$Row" "length" "I", .fieldLink RX3 9 "BlankPardons$Row" "cells" "[I"] ++ wsX60 ++ wsX30)
def wsX6_lose : List Cond := .code yX6_lose cX6_lose 3 (some .int) :: ([.fieldLink RX6 13 "BlankPardons" "sheets" "[LBlankPardons$Row;", .fieldLink RX6 204 "BlankPardons$Row" "isThere" "Z", .methodLink RX6 54 yX6_isSheet, .static yX6_isSheet, .initialized RX6, .code yX6_isSheet cX6_isSheet 1 (some .boolean), .methodLink RX6 58 yX6_isBelow, .static yX6_isBelow, .code yX6_isBelow cX6_isBelow 2 (some .boolean)] ++ wsX60 ++ wsX30)
def wsX6_put : List Cond := .code yX6_put cX6_put 5 (some .int) :: ([.fieldLink RX6 50 "BlankPardons" "latestFault" "I", .fieldLink RX6 13 "BlankPardons" "sheets" "[LBlankPardons$Row;", .fieldLink RX6 204 "BlankPardons$Row" "isThere" "Z", .fieldLink RX6 207 "BlankPardons$Row" "length" "I", .fieldLink RX6 134 "BlankPardons$Row" "cells" "[I", .methodLink RX6 54 yX6_isSheet, .static yX6_isSheet, .initialized RX6, .code yX6_isSheet cX6_isSheet 1 (some .boolean), .methodLink RX6 58 yX6_isBelow, .static yX6_isBelow, .code yX6_isBelow cX6_isBelow 2 (some .boolean), .methodLink RX6 66 yX6_failed, .instanceMethod yX6_failed, .selects RX6 yX6_failed yX6_failed, .code yX6_failed cX6_failed 2 (some .int), .methodLink RX6 210 yX3_cut, .instanceMethod yX3_cut, .selects RX3 yX3_cut yX3_cut, .initialized RX3, .code yX3_cut cX3_cut 2 (some .int), .fieldLink RX3 19 "BlankPardons$Row" "lane" "I"] ++ wsX60 ++ wsX30)
def wsX6_cell : List Cond := .code yX6_cell cX6_cell 5 (some .long) :: ([.fieldLink RX6 50 "BlankPardons" "latestFault" "I", .constantLong RX6 150 (-9223372036854775808), .fieldLink RX6 13 "BlankPardons" "sheets" "[LBlankPardons$Row;", .fieldLink RX6 207 "BlankPardons$Row" "length" "I", .fieldLink RX6 134 "BlankPardons$Row" "cells" "[I", .methodLink RX6 54 yX6_isSheet, .static yX6_isSheet, .initialized RX6, .code yX6_isSheet cX6_isSheet 1 (some .boolean), .methodLink RX6 58 yX6_isBelow, .static yX6_isBelow, .code yX6_isBelow cX6_isBelow 2 (some .boolean), .methodLink RX6 62 yX6_faultAs, .static yX6_faultAs, .code yX6_faultAs cX6_faultAs 2 (some .int), .fieldLink RX6 204 "BlankPardons$Row" "isThere" "Z", .fieldLink RX6 213 "BlankPardons$Row" "lane" "I"] ++ wsX60 ++ wsX30)
def wsX6_copy_r1 : List Cond := [Cond.fieldLink RX6 50 "BlankPardons" "latestFault" "I", Cond.fieldLink RX6 13 "BlankPardons" "sheets" "[LBlankPardons$Row;", Cond.fieldLink RX6 204 "BlankPardons$Row" "isThere" "Z", Cond.fieldLink RX6 213 "BlankPardons$Row" "lane" "I", Cond.fieldLink RX6 134 "BlankPardons$Row" "cells" "[I", Cond.methodLink RX6 216 arraycopyName, Cond.native arraycopyName, Cond.static arraycopyName, Cond.initialized "java/lang/System", Cond.methodLink RX6 54 yX6_isSheet, Cond.static yX6_isSheet, Cond.initialized RX6, Cond.code yX6_isSheet cX6_isSheet 1 (some .boolean), Cond.methodLink RX6 58 yX6_isBelow, Cond.static yX6_isBelow, Cond.code yX6_isBelow cX6_isBelow 2 (some .boolean), Cond.methodLink RX6 66 yX6_failed, Cond.instanceMethod yX6_failed, Cond.selects RX6 yX6_failed yX6_failed, Cond.code yX6_failed cX6_failed 2 (some .int), Cond.methodLink RX6 70 yX3_spans, Cond.instanceMethod yX3_spans, Cond.selects RX3 yX3_spans yX3_spans, Cond.initialized RX3]
def wsX6_copy_r2 : List Cond := [Cond.code yX3_spans cX3_spans 3 (some .boolean), Cond.fieldLink RX3 23 "BlankPardons$Row" "length" "I"]
def wsX6_copy : List Cond := .code yX6_copy cX6_copy 8 (some .int) :: ((wsX6_copy_r1 ++ wsX6_copy_r2) ++ wsX60 ++ wsX30)
def wsX6_leave : List Cond := .code yX6_leave cX6_leave 2 none :: ([.fieldLink RX6 234 "BlankPardons" "traced" "I"] ++ wsX60)
def wsX6_tellSubject : List Cond := .code yX6_tellSubject cX6_tellSubject 2 (some .int) :: ([.fieldLink RX6 20 "BlankPardons" "realm" "LBlankPardons$Realm;", .fieldLink RX6 106 "BlankPardons$Realm" "papers" "[I", .methodLink RX6 231 yX6_leave, .instanceMethod yX6_leave, .selects RX6 yX6_leave yX6_leave, .initialized RX6, .code yX6_leave cX6_leave 2 none, .fieldLink RX6 234 "BlankPardons" "traced" "I"] ++ wsX60 ++ wsX20)
def wsX6_tellMeek : List Cond := .code yX6_tellMeek cX6_tellMeek 2 (some .int) :: ([.methodLink RX6 231 yX6_leave, .instanceMethod yX6_leave, .selects RX6 yX6_leave yX6_leave, .initialized RX6, .code yX6_leave cX6_leave 2 none, .fieldLink RX6 234 "BlankPardons" "traced" "I", .methodLink RX6 228 yX6_tellSubject, .instanceMethod yX6_tellSubject, .selects RX6 yX6_tellSubject yX6_tellSubject, .code yX6_tellSubject cX6_tellSubject 2 (some .int), .fieldLink RX6 20 "BlankPardons" "realm" "LBlankPardons$Realm;", .fieldLink RX6 106 "BlankPardons$Realm" "papers" "[I"] ++ wsX60 ++ wsX20)
def wsX6_tellHoly : List Cond := .code yX6_tellHoly cX6_tellHoly 3 (some .int) :: ([.methodLink RX6 231 yX6_leave, .instanceMethod yX6_leave, .selects RX6 yX6_leave yX6_leave, .initialized RX6, .code yX6_leave cX6_leave 2 none, .fieldLink RX6 234 "BlankPardons" "traced" "I", .methodLink RX6 225 yX6_tellMeek, .instanceMethod yX6_tellMeek, .selects RX6 yX6_tellMeek yX6_tellMeek, .code yX6_tellMeek cX6_tellMeek 2 (some .int), .methodLink RX6 228 yX6_tellSubject, .instanceMethod yX6_tellSubject, .selects RX6 yX6_tellSubject yX6_tellSubject, .code yX6_tellSubject cX6_tellSubject 2 (some .int), .fieldLink RX6 20 "BlankPardons" "realm" "LBlankPardons$Realm;", .fieldLink RX6 106 "BlankPardons$Realm" "papers" "[I"] ++ wsX60 ++ wsX20)
def wsX6_tell_r1 : List Cond := [Cond.fieldLink RX6 20 "BlankPardons" "realm" "LBlankPardons$Realm;", Cond.fieldLink RX6 102 "BlankPardons$Realm" "kindOf" "[I", Cond.methodLink RX6 99 yX2_hasSubject, Cond.instanceMethod yX2_hasSubject, Cond.selects RX2 yX2_hasSubject yX2_hasSubject, Cond.initialized RX2, Cond.code yX2_hasSubject cX2_hasSubject 2 (some .boolean), Cond.fieldLink RX2 34 "BlankPardons$Realm" "subjectCount" "I", Cond.static yX6_isBelow, Cond.initialized RX6, Cond.code yX6_isBelow cX6_isBelow 2 (some .boolean), Cond.methodLink RX6 222 yX6_tellHoly, Cond.instanceMethod yX6_tellHoly, Cond.selects RX6 yX6_tellHoly yX6_tellHoly, Cond.code yX6_tellHoly cX6_tellHoly 3 (some .int), Cond.methodLink RX6 231 yX6_leave, Cond.instanceMethod yX6_leave, Cond.selects RX6 yX6_leave yX6_leave, Cond.code yX6_leave cX6_leave 2 none, Cond.fieldLink RX6 234 "BlankPardons" "traced" "I", Cond.methodLink RX6 225 yX6_tellMeek, Cond.instanceMethod yX6_tellMeek, Cond.selects RX6 yX6_tellMeek yX6_tellMeek, Cond.code yX6_tellMeek cX6_tellMeek 2 (some .int)]
def wsX6_tell_r2 : List Cond := [Cond.methodLink RX6 228 yX6_tellSubject, Cond.instanceMethod yX6_tellSubject, Cond.selects RX6 yX6_tellSubject yX6_tellSubject, Cond.code yX6_tellSubject cX6_tellSubject 2 (some .int), Cond.fieldLink RX6 106 "BlankPardons$Realm" "papers" "[I"]
def wsX6_tell : List Cond := .code yX6_tell cX6_tell 2 (some .int) :: ((wsX6_tell_r1 ++ wsX6_tell_r2) ++ wsX60 ++ wsX20)
def wsX6_name : List Cond := .code yX6_name cX6_name 2 (some .int) :: ([.fieldLink RX6 20 "BlankPardons" "realm" "LBlankPardons$Realm;", .fieldLink RX6 102 "BlankPardons$Realm" "kindOf" "[I", .methodLink RX6 99 yX2_hasSubject, .instanceMethod yX2_hasSubject, .selects RX2 yX2_hasSubject yX2_hasSubject, .initialized RX2, .code yX2_hasSubject cX2_hasSubject 2 (some .boolean), .fieldLink RX2 34 "BlankPardons$Realm" "subjectCount" "I", .static yX6_isBelow, .initialized RX6, .code yX6_isBelow cX6_isBelow 2 (some .boolean), .methodLink RX6 231 yX6_leave, .instanceMethod yX6_leave, .selects RX6 yX6_leave yX6_leave, .code yX6_leave cX6_leave 2 none, .fieldLink RX6 234 "BlankPardons" "traced" "I"] ++ wsX60 ++ wsX20)
def wsX6_as : List Cond := .code yX6_as cX6_as 3 (some .int) :: ([.fieldLink RX6 50 "BlankPardons" "latestFault" "I", .fieldLink RX6 20 "BlankPardons" "realm" "LBlankPardons$Realm;", .fieldLink RX6 102 "BlankPardons$Realm" "kindOf" "[I", .methodLink RX6 99 yX2_hasSubject, .instanceMethod yX2_hasSubject, .selects RX2 yX2_hasSubject yX2_hasSubject, .initialized RX2, .code yX2_hasSubject cX2_hasSubject 2 (some .boolean), .fieldLink RX2 34 "BlankPardons$Realm" "subjectCount" "I", .static yX6_isBelow, .initialized RX6, .code yX6_isBelow cX6_isBelow 2 (some .boolean), .methodLink RX6 58 yX6_isBelow, .methodLink RX6 66 yX6_failed, .instanceMethod yX6_failed, .selects RX6 yX6_failed yX6_failed, .code yX6_failed cX6_failed 2 (some .int)] ++ wsX60 ++ wsX20)
def wsX6_trace : List Cond := .code yX6_trace cX6_trace 1 (some .int) :: ([.fieldLink RX6 234 "BlankPardons" "traced" "I"] ++ wsX60)
def wsX6_fault : List Cond := .code yX6_fault cX6_fault 1 (some .int) :: ([.fieldLink RX6 50 "BlankPardons" "latestFault" "I"] ++ wsX60)
def wsX6_many : List Cond := .code yX6_many cX6_many 2 (some .int) :: ([.fieldLink RX6 20 "BlankPardons" "realm" "LBlankPardons$Realm;", .fieldLink RX6 89 "BlankPardons$Realm" "subjectCount" "I", .fieldLink RX6 167 "BlankPardons$Realm" "deedCount" "I", .fieldLink RX6 27 "BlankPardons" "readings" "LBlankPardons$Readings;", .fieldLink RX6 86 "BlankPardons$Readings" "count" "I", .methodLink RX6 237 yX2_allPapers, .instanceMethod yX2_allPapers, .selects RX2 yX2_allPapers yX2_allPapers, .initialized RX2, .code yX2_allPapers cX2_allPapers 3 (some .int), .fieldLink RX2 34 "BlankPardons$Realm" "subjectCount" "I", .fieldLink RX2 20 "BlankPardons$Realm" "papers" "[I"] ++ wsX60 ++ wsX20 ++ wsX10)
def wsX7_init_r1 : List Cond := [Cond.methodLink RX7 1 objectInit, Cond.instanceMethod objectInit, Cond.code objectInit ⟨#[0xb1]⟩ 1 none, Cond.arrayClass .int, Cond.fieldLink RX7 7 "BlankPardonsModel" "worthOf" "[I", Cond.fieldLink RX7 13 "BlankPardonsModel" "riskOf" "[I", Cond.fieldLink RX7 16 "BlankPardonsModel" "hurtOf" "[I", Cond.fieldLink RX7 19 "BlankPardonsModel" "kindOf" "[I", Cond.fieldLink RX7 22 "BlankPardonsModel" "papersOf" "[I", Cond.fieldLink RX7 25 "BlankPardonsModel" "readWorth" "[I", Cond.fieldLink RX7 28 "BlankPardonsModel" "readRisk" "[I", Cond.fieldLink RX7 31 "BlankPardonsModel" "readHurt" "[I", Cond.fieldLink RX7 34 "BlankPardonsModel" "readKind" "[I", Cond.fieldLink RX7 37 "BlankPardonsModel" "readPapers" "[I", Cond.fieldLink RX7 40 "BlankPardonsModel" "leftOf" "[I", Cond.arrayClass .long, Cond.fieldLink RX7 43 "BlankPardonsModel" "hopeOf" "[J", Cond.fieldLink RX7 47 "BlankPardonsModel" "readingOf" "[I", Cond.fieldLink RX7 50 "BlankPardonsModel" "readingBy" "[I", Cond.arrayClass .boolean, Cond.fieldLink RX7 53 "BlankPardonsModel" "readingDoes" "[Z", Cond.fieldLink RX7 57 "BlankPardonsModel" "sheetSize" "[I", Cond.fieldLink RX7 60 "BlankPardonsModel" "sheetLane" "[I", Cond.fieldLink RX7 63 "BlankPardonsModel" "sheet" "[I"]
def wsX7_init_r2 : List Cond := [Cond.fieldLink RX7 66 "BlankPardonsModel" "hands" "[I"]
def wsX7_init : List Cond := .code yX7_init cX7_init 2 none :: ((wsX7_init_r1 ++ wsX7_init_r2) ++ wsX70)
def wsX7_in : List Cond := .code yX7_in cX7_in 6 (some .boolean) :: ([])
def wsX7_lost : List Cond := .code yX7_lost cX7_lost 0 (some .long) :: ([.constantLong RX7 69 (-9223372036854775808)])
def wsX7_isIn : List Cond := .code yX7_isIn cX7_isIn 2 (some .boolean) :: ([])
def wsX7_bits : List Cond := .code yX7_bits cX7_bits 3 (some .int) :: ([])
def wsX7_share : List Cond := .code yX7_share cX7_share 11 (some .long) :: ([])
def wsX7_refused : List Cond := .code yX7_refused cX7_refused 2 (some .int) :: ([.fieldLink RX7 71 "BlankPardonsModel" "fault" "I"] ++ wsX70)
def wsX7_failed : List Cond := .code yX7_failed cX7_failed 2 (some .int) :: ([.fieldLink RX7 71 "BlankPardonsModel" "fault" "I"] ++ wsX70)
def wsX7_failedLong : List Cond := .code yX7_failedLong cX7_failedLong 2 (some .long) :: ([.fieldLink RX7 71 "BlankPardonsModel" "fault" "I", .methodLink RX7 75 yX7_lost, .static yX7_lost, .initialized RX7, .code yX7_lost cX7_lost 0 (some .long), .constantLong RX7 69 (-9223372036854775808)] ++ wsX70)
def wsX7_noDeed : List Cond := .code yX7_noDeed cX7_noDeed 2 (some .boolean) :: ([.fieldLink RX7 79 "BlankPardonsModel" "deeds" "I", .methodLink RX7 82 yX7_in, .static yX7_in, .initialized RX7, .code yX7_in cX7_in 6 (some .boolean)] ++ wsX70)
def wsX7_noSubject : List Cond := .code yX7_noSubject cX7_noSubject 2 (some .boolean) :: ([.fieldLink RX7 86 "BlankPardonsModel" "subjects" "I", .methodLink RX7 82 yX7_in, .static yX7_in, .initialized RX7, .code yX7_in cX7_in 6 (some .boolean)] ++ wsX70)
def wsX7_codeAt : List Cond := .code yX7_codeAt cX7_codeAt 3 (some .int) :: ([.fieldLink RX7 89 "BlankPardonsModel" "readAt" "I", .fieldLink RX7 63 "BlankPardonsModel" "sheet" "[I"] ++ wsX70)
def wsX7_figure : List Cond := .code yX7_figure cX7_figure 7 (some .int) :: ([.fieldLink RX7 89 "BlankPardonsModel" "readAt" "I", .methodLink RX7 92 yX7_codeAt, .instanceMethod yX7_codeAt, .selects RX7 yX7_codeAt yX7_codeAt, .initialized RX7, .code yX7_codeAt cX7_codeAt 3 (some .int), .fieldLink RX7 63 "BlankPardonsModel" "sheet" "[I", .methodLink RX7 82 yX7_in, .static yX7_in, .code yX7_in cX7_in 6 (some .boolean)] ++ wsX70)
def wsX7_readsDeed : List Cond := .code yX7_readsDeed cX7_readsDeed 6 (some .boolean) :: ([.fieldLink RX7 96 "BlankPardonsModel" "readDeeds" "I", .fieldLink RX7 89 "BlankPardonsModel" "readAt" "I", .fieldLink RX7 25 "BlankPardonsModel" "readWorth" "[I", .fieldLink RX7 28 "BlankPardonsModel" "readRisk" "[I", .fieldLink RX7 31 "BlankPardonsModel" "readHurt" "[I", .methodLink RX7 92 yX7_codeAt, .instanceMethod yX7_codeAt, .selects RX7 yX7_codeAt yX7_codeAt, .initialized RX7, .code yX7_codeAt cX7_codeAt 3 (some .int), .fieldLink RX7 63 "BlankPardonsModel" "sheet" "[I", .methodLink RX7 99 yX7_figure, .instanceMethod yX7_figure, .selects RX7 yX7_figure yX7_figure, .code yX7_figure cX7_figure 7 (some .int), .methodLink RX7 82 yX7_in, .static yX7_in, .code yX7_in cX7_in 6 (some .boolean)] ++ wsX70)
def wsX7_readsSubject : List Cond := .code yX7_readsSubject cX7_readsSubject 5 (some .boolean) :: ([.fieldLink RX7 103 "BlankPardonsModel" "readSubjects" "I", .fieldLink RX7 89 "BlankPardonsModel" "readAt" "I", .fieldLink RX7 34 "BlankPardonsModel" "readKind" "[I", .fieldLink RX7 37 "BlankPardonsModel" "readPapers" "[I", .methodLink RX7 92 yX7_codeAt, .instanceMethod yX7_codeAt, .selects RX7 yX7_codeAt yX7_codeAt, .initialized RX7, .code yX7_codeAt cX7_codeAt 3 (some .int), .fieldLink RX7 63 "BlankPardonsModel" "sheet" "[I", .methodLink RX7 99 yX7_figure, .instanceMethod yX7_figure, .selects RX7 yX7_figure yX7_figure, .code yX7_figure cX7_figure 7 (some .int), .methodLink RX7 82 yX7_in, .static yX7_in, .code yX7_in cX7_in 6 (some .boolean)] ++ wsX70)
def wsX7_readsKingdom_r1 : List Cond := [Cond.fieldLink RX7 89 "BlankPardonsModel" "readAt" "I", Cond.fieldLink RX7 96 "BlankPardonsModel" "readDeeds" "I", Cond.fieldLink RX7 103 "BlankPardonsModel" "readSubjects" "I", Cond.methodLink RX7 92 yX7_codeAt, Cond.instanceMethod yX7_codeAt, Cond.selects RX7 yX7_codeAt yX7_codeAt, Cond.initialized RX7, Cond.code yX7_codeAt cX7_codeAt 3 (some .int), Cond.fieldLink RX7 63 "BlankPardonsModel" "sheet" "[I", Cond.methodLink RX7 106 yX7_readsDeed, Cond.instanceMethod yX7_readsDeed, Cond.selects RX7 yX7_readsDeed yX7_readsDeed, Cond.code yX7_readsDeed cX7_readsDeed 6 (some .boolean), Cond.fieldLink RX7 25 "BlankPardonsModel" "readWorth" "[I", Cond.fieldLink RX7 28 "BlankPardonsModel" "readRisk" "[I", Cond.fieldLink RX7 31 "BlankPardonsModel" "readHurt" "[I", Cond.methodLink RX7 99 yX7_figure, Cond.instanceMethod yX7_figure, Cond.selects RX7 yX7_figure yX7_figure, Cond.code yX7_figure cX7_figure 7 (some .int), Cond.methodLink RX7 82 yX7_in, Cond.static yX7_in, Cond.code yX7_in cX7_in 6 (some .boolean), Cond.methodLink RX7 110 yX7_readsSubject]
def wsX7_readsKingdom_r2 : List Cond := [Cond.instanceMethod yX7_readsSubject, Cond.selects RX7 yX7_readsSubject yX7_readsSubject, Cond.code yX7_readsSubject cX7_readsSubject 5 (some .boolean), Cond.fieldLink RX7 34 "BlankPardonsModel" "readKind" "[I", Cond.fieldLink RX7 37 "BlankPardonsModel" "readPapers" "[I"]
def wsX7_readsKingdom : List Cond := .code yX7_readsKingdom cX7_readsKingdom 4 (some .boolean) :: ((wsX7_readsKingdom_r1 ++ wsX7_readsKingdom_r2) ++ wsX70)
def wsX7_isBeyond : List Cond := .code yX7_isBeyond cX7_isBeyond 4 (some .boolean) :: ([])
def wsX7_cellsBarred : List Cond := .code yX7_cellsBarred cX7_cellsBarred 6 (some .int) :: ([.fieldLink RX7 57 "BlankPardonsModel" "sheetSize" "[I", .fieldLink RX7 60 "BlankPardonsModel" "sheetLane" "[I", .methodLink RX7 113 yX7_failed, .instanceMethod yX7_failed, .selects RX7 yX7_failed yX7_failed, .initialized RX7, .code yX7_failed cX7_failed 2 (some .int), .fieldLink RX7 71 "BlankPardonsModel" "fault" "I", .methodLink RX7 117 yX7_isBeyond, .static yX7_isBeyond, .code yX7_isBeyond cX7_isBeyond 4 (some .boolean)] ++ wsX70)
def wsX7_noSheet : List Cond := .code yX7_noSheet cX7_noSheet 1 (some .boolean) :: ([.constantLong RX7 160 (3), .methodLink RX7 82 yX7_in, .static yX7_in, .initialized RX7, .code yX7_in cX7_in 6 (some .boolean)])
def wsX7_kingdom_r1 : List Cond := [Cond.constantLong RX7 128 (2), Cond.fieldLink RX7 89 "BlankPardonsModel" "readAt" "I", Cond.fieldLink RX7 96 "BlankPardonsModel" "readDeeds" "I", Cond.fieldLink RX7 79 "BlankPardonsModel" "deeds" "I", Cond.fieldLink RX7 103 "BlankPardonsModel" "readSubjects" "I", Cond.fieldLink RX7 86 "BlankPardonsModel" "subjects" "I", Cond.fieldLink RX7 7 "BlankPardonsModel" "worthOf" "[I", Cond.fieldLink RX7 25 "BlankPardonsModel" "readWorth" "[I", Cond.fieldLink RX7 13 "BlankPardonsModel" "riskOf" "[I", Cond.fieldLink RX7 28 "BlankPardonsModel" "readRisk" "[I", Cond.fieldLink RX7 16 "BlankPardonsModel" "hurtOf" "[I", Cond.fieldLink RX7 31 "BlankPardonsModel" "readHurt" "[I", Cond.fieldLink RX7 19 "BlankPardonsModel" "kindOf" "[I", Cond.fieldLink RX7 34 "BlankPardonsModel" "readKind" "[I", Cond.fieldLink RX7 22 "BlankPardonsModel" "papersOf" "[I", Cond.fieldLink RX7 37 "BlankPardonsModel" "readPapers" "[I", Cond.fieldLink RX7 137 "BlankPardonsModel" "readings" "I", Cond.methodLink RX7 121 yX7_noSheet, Cond.static yX7_noSheet, Cond.initialized RX7, Cond.code yX7_noSheet cX7_noSheet 1 (some .boolean), Cond.constantLong RX7 160 (3), Cond.methodLink RX7 82 yX7_in, Cond.static yX7_in]
def wsX7_kingdom_r2 : List Cond := [Cond.code yX7_in cX7_in 6 (some .boolean), Cond.methodLink RX7 125 yX7_refused, Cond.instanceMethod yX7_refused, Cond.selects RX7 yX7_refused yX7_refused, Cond.code yX7_refused cX7_refused 2 (some .int), Cond.fieldLink RX7 71 "BlankPardonsModel" "fault" "I", Cond.methodLink RX7 130 yX7_cellsBarred, Cond.instanceMethod yX7_cellsBarred, Cond.selects RX7 yX7_cellsBarred yX7_cellsBarred, Cond.code yX7_cellsBarred cX7_cellsBarred 6 (some .int), Cond.fieldLink RX7 57 "BlankPardonsModel" "sheetSize" "[I", Cond.fieldLink RX7 60 "BlankPardonsModel" "sheetLane" "[I", Cond.methodLink RX7 113 yX7_failed, Cond.instanceMethod yX7_failed, Cond.selects RX7 yX7_failed yX7_failed, Cond.code yX7_failed cX7_failed 2 (some .int), Cond.methodLink RX7 117 yX7_isBeyond, Cond.static yX7_isBeyond, Cond.code yX7_isBeyond cX7_isBeyond 4 (some .boolean), Cond.methodLink RX7 134 yX7_readsKingdom, Cond.instanceMethod yX7_readsKingdom, Cond.selects RX7 yX7_readsKingdom yX7_readsKingdom, Cond.code yX7_readsKingdom cX7_readsKingdom 4 (some .boolean), Cond.methodLink RX7 92 yX7_codeAt]
def wsX7_kingdom_r3 : List Cond := [Cond.instanceMethod yX7_codeAt, Cond.selects RX7 yX7_codeAt yX7_codeAt, Cond.code yX7_codeAt cX7_codeAt 3 (some .int), Cond.fieldLink RX7 63 "BlankPardonsModel" "sheet" "[I", Cond.methodLink RX7 106 yX7_readsDeed, Cond.instanceMethod yX7_readsDeed, Cond.selects RX7 yX7_readsDeed yX7_readsDeed, Cond.code yX7_readsDeed cX7_readsDeed 6 (some .boolean), Cond.methodLink RX7 99 yX7_figure, Cond.instanceMethod yX7_figure, Cond.selects RX7 yX7_figure yX7_figure, Cond.code yX7_figure cX7_figure 7 (some .int), Cond.methodLink RX7 110 yX7_readsSubject, Cond.instanceMethod yX7_readsSubject, Cond.selects RX7 yX7_readsSubject yX7_readsSubject, Cond.code yX7_readsSubject cX7_readsSubject 5 (some .boolean)]
def wsX7_kingdom : List Cond := .code yX7_kingdom cX7_kingdom 7 (some .int) :: ((wsX7_kingdom_r1 ++ (wsX7_kingdom_r2 ++ wsX7_kingdom_r3)) ++ wsX70)
def wsX7_fearOf : List Cond := .code yX7_fearOf cX7_fearOf 4 (some .int) :: ([.fieldLink RX7 13 "BlankPardonsModel" "riskOf" "[I", .fieldLink RX7 16 "BlankPardonsModel" "hurtOf" "[I", .fieldLink RX7 19 "BlankPardonsModel" "kindOf" "[I"] ++ wsX70)
def wsX7_valueOf : List Cond := .code yX7_valueOf cX7_valueOf 3 (some .int) :: ([.fieldLink RX7 7 "BlankPardonsModel" "worthOf" "[I", .methodLink RX7 140 yX7_fearOf, .instanceMethod yX7_fearOf, .selects RX7 yX7_fearOf yX7_fearOf, .initialized RX7, .code yX7_fearOf cX7_fearOf 4 (some .int), .fieldLink RX7 13 "BlankPardonsModel" "riskOf" "[I", .fieldLink RX7 16 "BlankPardonsModel" "hurtOf" "[I", .fieldLink RX7 19 "BlankPardonsModel" "kindOf" "[I"] ++ wsX70)
def wsX7_doneBy : List Cond := .code yX7_doneBy cX7_doneBy 4 (some .int) :: ([.fieldLink RX7 79 "BlankPardonsModel" "deeds" "I", .methodLink RX7 143 yX7_valueOf, .instanceMethod yX7_valueOf, .selects RX7 yX7_valueOf yX7_valueOf, .initialized RX7, .code yX7_valueOf cX7_valueOf 3 (some .int), .fieldLink RX7 7 "BlankPardonsModel" "worthOf" "[I", .methodLink RX7 140 yX7_fearOf, .instanceMethod yX7_fearOf, .selects RX7 yX7_fearOf yX7_fearOf, .code yX7_fearOf cX7_fearOf 4 (some .int), .fieldLink RX7 13 "BlankPardonsModel" "riskOf" "[I", .fieldLink RX7 16 "BlankPardonsModel" "hurtOf" "[I", .fieldLink RX7 19 "BlankPardonsModel" "kindOf" "[I"] ++ wsX70)
def wsX7_ofDeedBy : List Cond := .code yX7_ofDeedBy cX7_ofDeedBy 3 (some .int) :: ([.fieldLink RX7 7 "BlankPardonsModel" "worthOf" "[I", .fieldLink RX7 13 "BlankPardonsModel" "riskOf" "[I", .fieldLink RX7 16 "BlankPardonsModel" "hurtOf" "[I"] ++ wsX70)
def wsX7_ofDeed : List Cond := .code yX7_ofDeed cX7_ofDeed 3 (some .int) :: ([.constantLong RX7 128 (2), .methodLink RX7 146 yX7_noDeed, .instanceMethod yX7_noDeed, .selects RX7 yX7_noDeed yX7_noDeed, .initialized RX7, .code yX7_noDeed cX7_noDeed 2 (some .boolean), .fieldLink RX7 79 "BlankPardonsModel" "deeds" "I", .methodLink RX7 82 yX7_in, .static yX7_in, .code yX7_in cX7_in 6 (some .boolean), .methodLink RX7 149 yX7_ofDeedBy, .instanceMethod yX7_ofDeedBy, .selects RX7 yX7_ofDeedBy yX7_ofDeedBy, .code yX7_ofDeedBy cX7_ofDeedBy 3 (some .int), .fieldLink RX7 7 "BlankPardonsModel" "worthOf" "[I", .fieldLink RX7 13 "BlankPardonsModel" "riskOf" "[I", .fieldLink RX7 16 "BlankPardonsModel" "hurtOf" "[I"] ++ wsX70)
def wsX7_ofSubject_r1 : List Cond := [Cond.fieldLink RX7 19 "BlankPardonsModel" "kindOf" "[I", Cond.fieldLink RX7 22 "BlankPardonsModel" "papersOf" "[I", Cond.methodLink RX7 152 yX7_noSubject, Cond.instanceMethod yX7_noSubject, Cond.selects RX7 yX7_noSubject yX7_noSubject, Cond.initialized RX7, Cond.code yX7_noSubject cX7_noSubject 2 (some .boolean), Cond.fieldLink RX7 86 "BlankPardonsModel" "subjects" "I", Cond.methodLink RX7 82 yX7_in, Cond.static yX7_in, Cond.code yX7_in cX7_in 6 (some .boolean), Cond.methodLink RX7 155 yX7_doneBy, Cond.instanceMethod yX7_doneBy, Cond.selects RX7 yX7_doneBy yX7_doneBy, Cond.code yX7_doneBy cX7_doneBy 4 (some .int), Cond.fieldLink RX7 79 "BlankPardonsModel" "deeds" "I", Cond.methodLink RX7 143 yX7_valueOf, Cond.instanceMethod yX7_valueOf, Cond.selects RX7 yX7_valueOf yX7_valueOf, Cond.code yX7_valueOf cX7_valueOf 3 (some .int), Cond.fieldLink RX7 7 "BlankPardonsModel" "worthOf" "[I", Cond.methodLink RX7 140 yX7_fearOf, Cond.instanceMethod yX7_fearOf, Cond.selects RX7 yX7_fearOf yX7_fearOf]
def wsX7_ofSubject_r2 : List Cond := [Cond.code yX7_fearOf cX7_fearOf 4 (some .int), Cond.fieldLink RX7 13 "BlankPardonsModel" "riskOf" "[I", Cond.fieldLink RX7 16 "BlankPardonsModel" "hurtOf" "[I"]
def wsX7_ofSubject : List Cond := .code yX7_ofSubject cX7_ofSubject 3 (some .int) :: ((wsX7_ofSubject_r1 ++ wsX7_ofSubject_r2) ++ wsX70)
def wsX7_fear : List Cond := .code yX7_fear cX7_fear 3 (some .int) :: ([.methodLink RX7 152 yX7_noSubject, .instanceMethod yX7_noSubject, .selects RX7 yX7_noSubject yX7_noSubject, .initialized RX7, .code yX7_noSubject cX7_noSubject 2 (some .boolean), .fieldLink RX7 86 "BlankPardonsModel" "subjects" "I", .methodLink RX7 82 yX7_in, .static yX7_in, .code yX7_in cX7_in 6 (some .boolean), .methodLink RX7 146 yX7_noDeed, .instanceMethod yX7_noDeed, .selects RX7 yX7_noDeed yX7_noDeed, .code yX7_noDeed cX7_noDeed 2 (some .boolean), .fieldLink RX7 79 "BlankPardonsModel" "deeds" "I", .methodLink RX7 140 yX7_fearOf, .instanceMethod yX7_fearOf, .selects RX7 yX7_fearOf yX7_fearOf, .code yX7_fearOf cX7_fearOf 4 (some .int), .fieldLink RX7 13 "BlankPardonsModel" "riskOf" "[I", .fieldLink RX7 16 "BlankPardonsModel" "hurtOf" "[I", .fieldLink RX7 19 "BlankPardonsModel" "kindOf" "[I"] ++ wsX70)
def wsX7_alter : List Cond := .code yX7_alter cX7_alter 5 (some .int) :: ([.constantLong RX7 128 (2), .constantLong RX7 158 (9), .fieldLink RX7 7 "BlankPardonsModel" "worthOf" "[I", .fieldLink RX7 13 "BlankPardonsModel" "riskOf" "[I", .fieldLink RX7 16 "BlankPardonsModel" "hurtOf" "[I", .methodLink RX7 146 yX7_noDeed, .instanceMethod yX7_noDeed, .selects RX7 yX7_noDeed yX7_noDeed, .initialized RX7, .code yX7_noDeed cX7_noDeed 2 (some .boolean), .fieldLink RX7 79 "BlankPardonsModel" "deeds" "I", .methodLink RX7 82 yX7_in, .static yX7_in, .code yX7_in cX7_in 6 (some .boolean), .methodLink RX7 149 yX7_ofDeedBy, .instanceMethod yX7_ofDeedBy, .selects RX7 yX7_ofDeedBy yX7_ofDeedBy, .code yX7_ofDeedBy cX7_ofDeedBy 3 (some .int)] ++ wsX70)
def wsX7_grant : List Cond := .code yX7_grant cX7_grant 4 (some .int) :: ([.constantLong RX7 160 (3), .fieldLink RX7 22 "BlankPardonsModel" "papersOf" "[I", .methodLink RX7 152 yX7_noSubject, .instanceMethod yX7_noSubject, .selects RX7 yX7_noSubject yX7_noSubject, .initialized RX7, .code yX7_noSubject cX7_noSubject 2 (some .boolean), .fieldLink RX7 86 "BlankPardonsModel" "subjects" "I", .methodLink RX7 82 yX7_in, .static yX7_in, .code yX7_in cX7_in 6 (some .boolean)] ++ wsX70)
def wsX7_goYear : List Cond := .code yX7_goYear cX7_goYear 8 none :: ([.fieldLink RX7 162 "BlankPardonsModel" "firstWrong" "I", .fieldLink RX7 165 "BlankPardonsModel" "sumNow" "I", .fieldLink RX7 168 "BlankPardonsModel" "pardonedNow" "I", .fieldLink RX7 86 "BlankPardonsModel" "subjects" "I", .fieldLink RX7 40 "BlankPardonsModel" "leftOf" "[I", .fieldLink RX7 22 "BlankPardonsModel" "papersOf" "[I", .fieldLink RX7 63 "BlankPardonsModel" "sheet" "[I", .fieldLink RX7 7 "BlankPardonsModel" "worthOf" "[I", .methodLink RX7 143 yX7_valueOf, .instanceMethod yX7_valueOf, .selects RX7 yX7_valueOf yX7_valueOf, .initialized RX7, .code yX7_valueOf cX7_valueOf 3 (some .int), .methodLink RX7 140 yX7_fearOf, .instanceMethod yX7_fearOf, .selects RX7 yX7_fearOf yX7_fearOf, .code yX7_fearOf cX7_fearOf 4 (some .int), .fieldLink RX7 13 "BlankPardonsModel" "riskOf" "[I", .fieldLink RX7 16 "BlankPardonsModel" "hurtOf" "[I", .fieldLink RX7 19 "BlankPardonsModel" "kindOf" "[I"] ++ wsX70)
def wsX7_year_r1 : List Cond := [Cond.constantLong RX7 128 (2), Cond.constantLong RX7 171 (10), Cond.constantLong RX7 173 (13), Cond.constantLong RX7 175 (20), Cond.fieldLink RX7 86 "BlankPardonsModel" "subjects" "I", Cond.constantLong RX7 160 (3), Cond.fieldLink RX7 63 "BlankPardonsModel" "sheet" "[I", Cond.fieldLink RX7 162 "BlankPardonsModel" "firstWrong" "I", Cond.constant RX7 181 (-100000), Cond.fieldLink RX7 40 "BlankPardonsModel" "leftOf" "[I", Cond.fieldLink RX7 165 "BlankPardonsModel" "sumNow" "I", Cond.fieldLink RX7 168 "BlankPardonsModel" "pardonedNow" "I", Cond.methodLink RX7 121 yX7_noSheet, Cond.static yX7_noSheet, Cond.initialized RX7, Cond.code yX7_noSheet cX7_noSheet 1 (some .boolean), Cond.methodLink RX7 82 yX7_in, Cond.static yX7_in, Cond.code yX7_in cX7_in 6 (some .boolean), Cond.methodLink RX7 125 yX7_refused, Cond.instanceMethod yX7_refused, Cond.selects RX7 yX7_refused yX7_refused, Cond.code yX7_refused cX7_refused 2 (some .int), Cond.fieldLink RX7 71 "BlankPardonsModel" "fault" "I"]
def wsX7_year_r2 : List Cond := [Cond.methodLink RX7 130 yX7_cellsBarred, Cond.instanceMethod yX7_cellsBarred, Cond.selects RX7 yX7_cellsBarred yX7_cellsBarred, Cond.code yX7_cellsBarred cX7_cellsBarred 6 (some .int), Cond.fieldLink RX7 57 "BlankPardonsModel" "sheetSize" "[I", Cond.fieldLink RX7 60 "BlankPardonsModel" "sheetLane" "[I", Cond.methodLink RX7 113 yX7_failed, Cond.instanceMethod yX7_failed, Cond.selects RX7 yX7_failed yX7_failed, Cond.code yX7_failed cX7_failed 2 (some .int), Cond.methodLink RX7 117 yX7_isBeyond, Cond.static yX7_isBeyond, Cond.code yX7_isBeyond cX7_isBeyond 4 (some .boolean), Cond.methodLink RX7 152 yX7_noSubject, Cond.instanceMethod yX7_noSubject, Cond.selects RX7 yX7_noSubject yX7_noSubject, Cond.code yX7_noSubject cX7_noSubject 2 (some .boolean), Cond.methodLink RX7 146 yX7_noDeed, Cond.instanceMethod yX7_noDeed, Cond.selects RX7 yX7_noDeed yX7_noDeed, Cond.code yX7_noDeed cX7_noDeed 2 (some .boolean), Cond.fieldLink RX7 79 "BlankPardonsModel" "deeds" "I", Cond.methodLink RX7 177 yX7_goYear, Cond.instanceMethod yX7_goYear]
def wsX7_year_r3 : List Cond := [Cond.selects RX7 yX7_goYear yX7_goYear, Cond.code yX7_goYear cX7_goYear 8 none, Cond.fieldLink RX7 22 "BlankPardonsModel" "papersOf" "[I", Cond.fieldLink RX7 7 "BlankPardonsModel" "worthOf" "[I", Cond.methodLink RX7 143 yX7_valueOf, Cond.instanceMethod yX7_valueOf, Cond.selects RX7 yX7_valueOf yX7_valueOf, Cond.code yX7_valueOf cX7_valueOf 3 (some .int), Cond.methodLink RX7 140 yX7_fearOf, Cond.instanceMethod yX7_fearOf, Cond.selects RX7 yX7_fearOf yX7_fearOf, Cond.code yX7_fearOf cX7_fearOf 4 (some .int), Cond.fieldLink RX7 13 "BlankPardonsModel" "riskOf" "[I", Cond.fieldLink RX7 16 "BlankPardonsModel" "hurtOf" "[I", Cond.fieldLink RX7 19 "BlankPardonsModel" "kindOf" "[I"]
def wsX7_year : List Cond := .code yX7_year cX7_year 10 (some .int) :: ((wsX7_year_r1 ++ (wsX7_year_r2 ++ wsX7_year_r3)) ++ wsX70)
def wsX7_timesOf : List Cond := .code yX7_timesOf cX7_timesOf 5 (some .long) :: ([.fieldLink RX7 79 "BlankPardonsModel" "deeds" "I"] ++ wsX70)
def wsX7_greater : List Cond := .code yX7_greater cX7_greater 5 (some .long) :: ([])
def wsX7_bestBy : List Cond := .code yX7_bestBy cX7_bestBy 11 (some .long) :: ([.fieldLink RX7 43 "BlankPardonsModel" "hopeOf" "[J", .constantLong RX7 171 (10), .fieldLink RX7 7 "BlankPardonsModel" "worthOf" "[I", .methodLink RX7 182 yX7_timesOf, .instanceMethod yX7_timesOf, .selects RX7 yX7_timesOf yX7_timesOf, .initialized RX7, .code yX7_timesOf cX7_timesOf 5 (some .long), .fieldLink RX7 79 "BlankPardonsModel" "deeds" "I", .methodLink RX7 143 yX7_valueOf, .instanceMethod yX7_valueOf, .selects RX7 yX7_valueOf yX7_valueOf, .code yX7_valueOf cX7_valueOf 3 (some .int), .methodLink RX7 140 yX7_fearOf, .instanceMethod yX7_fearOf, .selects RX7 yX7_fearOf yX7_fearOf, .code yX7_fearOf cX7_fearOf 4 (some .int), .fieldLink RX7 13 "BlankPardonsModel" "riskOf" "[I", .fieldLink RX7 16 "BlankPardonsModel" "hurtOf" "[I", .fieldLink RX7 19 "BlankPardonsModel" "kindOf" "[I", .methodLink RX7 186 yX7_greater, .instanceMethod yX7_greater, .selects RX7 yX7_greater yX7_greater, .code yX7_greater cX7_greater 5 (some .long)] ++ wsX70)
def wsX7_goHope_r1 : List Cond := [Cond.fieldLink RX7 43 "BlankPardonsModel" "hopeOf" "[J", Cond.fieldLink RX7 79 "BlankPardonsModel" "deeds" "I", Cond.methodLink RX7 190 yX7_bestBy, Cond.instanceMethod yX7_bestBy, Cond.selects RX7 yX7_bestBy yX7_bestBy, Cond.initialized RX7, Cond.code yX7_bestBy cX7_bestBy 11 (some .long), Cond.constantLong RX7 171 (10), Cond.fieldLink RX7 7 "BlankPardonsModel" "worthOf" "[I", Cond.methodLink RX7 182 yX7_timesOf, Cond.instanceMethod yX7_timesOf, Cond.selects RX7 yX7_timesOf yX7_timesOf, Cond.code yX7_timesOf cX7_timesOf 5 (some .long), Cond.methodLink RX7 143 yX7_valueOf, Cond.instanceMethod yX7_valueOf, Cond.selects RX7 yX7_valueOf yX7_valueOf, Cond.code yX7_valueOf cX7_valueOf 3 (some .int), Cond.methodLink RX7 140 yX7_fearOf, Cond.instanceMethod yX7_fearOf, Cond.selects RX7 yX7_fearOf yX7_fearOf, Cond.code yX7_fearOf cX7_fearOf 4 (some .int), Cond.fieldLink RX7 13 "BlankPardonsModel" "riskOf" "[I", Cond.fieldLink RX7 16 "BlankPardonsModel" "hurtOf" "[I", Cond.fieldLink RX7 19 "BlankPardonsModel" "kindOf" "[I"]
def wsX7_goHope_r2 : List Cond := [Cond.methodLink RX7 186 yX7_greater, Cond.instanceMethod yX7_greater, Cond.selects RX7 yX7_greater yX7_greater, Cond.code yX7_greater cX7_greater 5 (some .long)]
def wsX7_goHope : List Cond := .code yX7_goHope cX7_goHope 8 none :: ((wsX7_goHope_r1 ++ wsX7_goHope_r2) ++ wsX70)
def wsX7_hope_r1 : List Cond := [Cond.constantLong RX7 194 (8), Cond.constantLong RX7 160 (3), Cond.fieldLink RX7 43 "BlankPardonsModel" "hopeOf" "[J", Cond.methodLink RX7 152 yX7_noSubject, Cond.instanceMethod yX7_noSubject, Cond.selects RX7 yX7_noSubject yX7_noSubject, Cond.initialized RX7, Cond.code yX7_noSubject cX7_noSubject 2 (some .boolean), Cond.fieldLink RX7 86 "BlankPardonsModel" "subjects" "I", Cond.methodLink RX7 82 yX7_in, Cond.static yX7_in, Cond.code yX7_in cX7_in 6 (some .boolean), Cond.methodLink RX7 75 yX7_lost, Cond.static yX7_lost, Cond.code yX7_lost cX7_lost 0 (some .long), Cond.constantLong RX7 69 (-9223372036854775808), Cond.methodLink RX7 196 yX7_goHope, Cond.instanceMethod yX7_goHope, Cond.selects RX7 yX7_goHope yX7_goHope, Cond.code yX7_goHope cX7_goHope 8 none, Cond.fieldLink RX7 79 "BlankPardonsModel" "deeds" "I", Cond.methodLink RX7 190 yX7_bestBy, Cond.instanceMethod yX7_bestBy, Cond.selects RX7 yX7_bestBy yX7_bestBy]
def wsX7_hope_r2 : List Cond := [Cond.code yX7_bestBy cX7_bestBy 11 (some .long), Cond.constantLong RX7 171 (10), Cond.fieldLink RX7 7 "BlankPardonsModel" "worthOf" "[I", Cond.methodLink RX7 182 yX7_timesOf, Cond.instanceMethod yX7_timesOf, Cond.selects RX7 yX7_timesOf yX7_timesOf, Cond.code yX7_timesOf cX7_timesOf 5 (some .long), Cond.methodLink RX7 143 yX7_valueOf, Cond.instanceMethod yX7_valueOf, Cond.selects RX7 yX7_valueOf yX7_valueOf, Cond.code yX7_valueOf cX7_valueOf 3 (some .int), Cond.methodLink RX7 140 yX7_fearOf, Cond.instanceMethod yX7_fearOf, Cond.selects RX7 yX7_fearOf yX7_fearOf, Cond.code yX7_fearOf cX7_fearOf 4 (some .int), Cond.fieldLink RX7 13 "BlankPardonsModel" "riskOf" "[I", Cond.fieldLink RX7 16 "BlankPardonsModel" "hurtOf" "[I", Cond.fieldLink RX7 19 "BlankPardonsModel" "kindOf" "[I", Cond.methodLink RX7 186 yX7_greater, Cond.instanceMethod yX7_greater, Cond.selects RX7 yX7_greater yX7_greater, Cond.code yX7_greater cX7_greater 5 (some .long), Cond.methodLink RX7 199 yX7_share, Cond.static yX7_share]
def wsX7_hope_r3 : List Cond := [Cond.code yX7_share cX7_share 11 (some .long)]
def wsX7_hope : List Cond := .code yX7_hope cX7_hope 5 (some .long) :: ((wsX7_hope_r1 ++ (wsX7_hope_r2 ++ wsX7_hope_r3)) ++ wsX70)
def wsX7_uses_r1 : List Cond := [Cond.constantLong RX7 194 (8), Cond.constantLong RX7 160 (3), Cond.fieldLink RX7 43 "BlankPardonsModel" "hopeOf" "[J", Cond.fieldLink RX7 79 "BlankPardonsModel" "deeds" "I", Cond.constantLong RX7 171 (10), Cond.fieldLink RX7 7 "BlankPardonsModel" "worthOf" "[I", Cond.methodLink RX7 152 yX7_noSubject, Cond.instanceMethod yX7_noSubject, Cond.selects RX7 yX7_noSubject yX7_noSubject, Cond.initialized RX7, Cond.code yX7_noSubject cX7_noSubject 2 (some .boolean), Cond.fieldLink RX7 86 "BlankPardonsModel" "subjects" "I", Cond.methodLink RX7 82 yX7_in, Cond.static yX7_in, Cond.code yX7_in cX7_in 6 (some .boolean), Cond.methodLink RX7 196 yX7_goHope, Cond.instanceMethod yX7_goHope, Cond.selects RX7 yX7_goHope yX7_goHope, Cond.code yX7_goHope cX7_goHope 8 none, Cond.methodLink RX7 190 yX7_bestBy, Cond.instanceMethod yX7_bestBy, Cond.selects RX7 yX7_bestBy yX7_bestBy, Cond.code yX7_bestBy cX7_bestBy 11 (some .long), Cond.methodLink RX7 182 yX7_timesOf]
def wsX7_uses_r2 : List Cond := [Cond.instanceMethod yX7_timesOf, Cond.selects RX7 yX7_timesOf yX7_timesOf, Cond.code yX7_timesOf cX7_timesOf 5 (some .long), Cond.methodLink RX7 143 yX7_valueOf, Cond.instanceMethod yX7_valueOf, Cond.selects RX7 yX7_valueOf yX7_valueOf, Cond.code yX7_valueOf cX7_valueOf 3 (some .int), Cond.methodLink RX7 140 yX7_fearOf, Cond.instanceMethod yX7_fearOf, Cond.selects RX7 yX7_fearOf yX7_fearOf, Cond.code yX7_fearOf cX7_fearOf 4 (some .int), Cond.fieldLink RX7 13 "BlankPardonsModel" "riskOf" "[I", Cond.fieldLink RX7 16 "BlankPardonsModel" "hurtOf" "[I", Cond.fieldLink RX7 19 "BlankPardonsModel" "kindOf" "[I", Cond.methodLink RX7 186 yX7_greater, Cond.instanceMethod yX7_greater, Cond.selects RX7 yX7_greater yX7_greater, Cond.code yX7_greater cX7_greater 5 (some .long)]
def wsX7_uses : List Cond := .code yX7_uses cX7_uses 14 (some .int) :: ((wsX7_uses_r1 ++ wsX7_uses_r2) ++ wsX70)
def wsX7_buyersAt_r1 : List Cond := [Cond.fieldLink RX7 86 "BlankPardonsModel" "subjects" "I", Cond.fieldLink RX7 43 "BlankPardonsModel" "hopeOf" "[J", Cond.methodLink RX7 196 yX7_goHope, Cond.instanceMethod yX7_goHope, Cond.selects RX7 yX7_goHope yX7_goHope, Cond.initialized RX7, Cond.code yX7_goHope cX7_goHope 8 none, Cond.fieldLink RX7 79 "BlankPardonsModel" "deeds" "I", Cond.methodLink RX7 190 yX7_bestBy, Cond.instanceMethod yX7_bestBy, Cond.selects RX7 yX7_bestBy yX7_bestBy, Cond.code yX7_bestBy cX7_bestBy 11 (some .long), Cond.constantLong RX7 171 (10), Cond.fieldLink RX7 7 "BlankPardonsModel" "worthOf" "[I", Cond.methodLink RX7 182 yX7_timesOf, Cond.instanceMethod yX7_timesOf, Cond.selects RX7 yX7_timesOf yX7_timesOf, Cond.code yX7_timesOf cX7_timesOf 5 (some .long), Cond.methodLink RX7 143 yX7_valueOf, Cond.instanceMethod yX7_valueOf, Cond.selects RX7 yX7_valueOf yX7_valueOf, Cond.code yX7_valueOf cX7_valueOf 3 (some .int), Cond.methodLink RX7 140 yX7_fearOf, Cond.instanceMethod yX7_fearOf]
def wsX7_buyersAt_r2 : List Cond := [Cond.selects RX7 yX7_fearOf yX7_fearOf, Cond.code yX7_fearOf cX7_fearOf 4 (some .int), Cond.fieldLink RX7 13 "BlankPardonsModel" "riskOf" "[I", Cond.fieldLink RX7 16 "BlankPardonsModel" "hurtOf" "[I", Cond.fieldLink RX7 19 "BlankPardonsModel" "kindOf" "[I", Cond.methodLink RX7 186 yX7_greater, Cond.instanceMethod yX7_greater, Cond.selects RX7 yX7_greater yX7_greater, Cond.code yX7_greater cX7_greater 5 (some .long)]
def wsX7_buyersAt : List Cond := .code yX7_buyersAt cX7_buyersAt 5 (some .int) :: ((wsX7_buyersAt_r1 ++ wsX7_buyersAt_r2) ++ wsX70)
def wsX7_buyers_r1 : List Cond := [Cond.constantLong RX7 203 (99), Cond.constantLong RX7 194 (8), Cond.fieldLink RX7 86 "BlankPardonsModel" "subjects" "I", Cond.methodLink RX7 82 yX7_in, Cond.static yX7_in, Cond.initialized RX7, Cond.code yX7_in cX7_in 6 (some .boolean), Cond.methodLink RX7 205 yX7_buyersAt, Cond.instanceMethod yX7_buyersAt, Cond.selects RX7 yX7_buyersAt yX7_buyersAt, Cond.code yX7_buyersAt cX7_buyersAt 5 (some .int), Cond.fieldLink RX7 43 "BlankPardonsModel" "hopeOf" "[J", Cond.methodLink RX7 196 yX7_goHope, Cond.instanceMethod yX7_goHope, Cond.selects RX7 yX7_goHope yX7_goHope, Cond.code yX7_goHope cX7_goHope 8 none, Cond.fieldLink RX7 79 "BlankPardonsModel" "deeds" "I", Cond.methodLink RX7 190 yX7_bestBy, Cond.instanceMethod yX7_bestBy, Cond.selects RX7 yX7_bestBy yX7_bestBy, Cond.code yX7_bestBy cX7_bestBy 11 (some .long), Cond.constantLong RX7 171 (10), Cond.fieldLink RX7 7 "BlankPardonsModel" "worthOf" "[I", Cond.methodLink RX7 182 yX7_timesOf]
def wsX7_buyers_r2 : List Cond := [Cond.instanceMethod yX7_timesOf, Cond.selects RX7 yX7_timesOf yX7_timesOf, Cond.code yX7_timesOf cX7_timesOf 5 (some .long), Cond.methodLink RX7 143 yX7_valueOf, Cond.instanceMethod yX7_valueOf, Cond.selects RX7 yX7_valueOf yX7_valueOf, Cond.code yX7_valueOf cX7_valueOf 3 (some .int), Cond.methodLink RX7 140 yX7_fearOf, Cond.instanceMethod yX7_fearOf, Cond.selects RX7 yX7_fearOf yX7_fearOf, Cond.code yX7_fearOf cX7_fearOf 4 (some .int), Cond.fieldLink RX7 13 "BlankPardonsModel" "riskOf" "[I", Cond.fieldLink RX7 16 "BlankPardonsModel" "hurtOf" "[I", Cond.fieldLink RX7 19 "BlankPardonsModel" "kindOf" "[I", Cond.methodLink RX7 186 yX7_greater, Cond.instanceMethod yX7_greater, Cond.selects RX7 yX7_greater yX7_greater, Cond.code yX7_greater cX7_greater 5 (some .long)]
def wsX7_buyers : List Cond := .code yX7_buyers cX7_buyers 3 (some .int) :: ((wsX7_buyers_r1 ++ wsX7_buyers_r2) ++ wsX70)
def wsX7_best_r1 : List Cond := [Cond.constantLong RX7 194 (8), Cond.fieldLink RX7 86 "BlankPardonsModel" "subjects" "I", Cond.methodLink RX7 82 yX7_in, Cond.static yX7_in, Cond.initialized RX7, Cond.code yX7_in cX7_in 6 (some .boolean), Cond.methodLink RX7 205 yX7_buyersAt, Cond.instanceMethod yX7_buyersAt, Cond.selects RX7 yX7_buyersAt yX7_buyersAt, Cond.code yX7_buyersAt cX7_buyersAt 5 (some .int), Cond.fieldLink RX7 43 "BlankPardonsModel" "hopeOf" "[J", Cond.methodLink RX7 196 yX7_goHope, Cond.instanceMethod yX7_goHope, Cond.selects RX7 yX7_goHope yX7_goHope, Cond.code yX7_goHope cX7_goHope 8 none, Cond.fieldLink RX7 79 "BlankPardonsModel" "deeds" "I", Cond.methodLink RX7 190 yX7_bestBy, Cond.instanceMethod yX7_bestBy, Cond.selects RX7 yX7_bestBy yX7_bestBy, Cond.code yX7_bestBy cX7_bestBy 11 (some .long), Cond.constantLong RX7 171 (10), Cond.fieldLink RX7 7 "BlankPardonsModel" "worthOf" "[I", Cond.methodLink RX7 182 yX7_timesOf, Cond.instanceMethod yX7_timesOf]
def wsX7_best_r2 : List Cond := [Cond.selects RX7 yX7_timesOf yX7_timesOf, Cond.code yX7_timesOf cX7_timesOf 5 (some .long), Cond.methodLink RX7 143 yX7_valueOf, Cond.instanceMethod yX7_valueOf, Cond.selects RX7 yX7_valueOf yX7_valueOf, Cond.code yX7_valueOf cX7_valueOf 3 (some .int), Cond.methodLink RX7 140 yX7_fearOf, Cond.instanceMethod yX7_fearOf, Cond.selects RX7 yX7_fearOf yX7_fearOf, Cond.code yX7_fearOf cX7_fearOf 4 (some .int), Cond.fieldLink RX7 13 "BlankPardonsModel" "riskOf" "[I", Cond.fieldLink RX7 16 "BlankPardonsModel" "hurtOf" "[I", Cond.fieldLink RX7 19 "BlankPardonsModel" "kindOf" "[I", Cond.methodLink RX7 186 yX7_greater, Cond.instanceMethod yX7_greater, Cond.selects RX7 yX7_greater yX7_greater, Cond.code yX7_greater cX7_greater 5 (some .long), Cond.methodLink RX7 208 yX7_bits, Cond.static yX7_bits, Cond.code yX7_bits cX7_bits 3 (some .int)]
def wsX7_best : List Cond := .code yX7_best cX7_best 6 (some .int) :: ((wsX7_best_r1 ++ wsX7_best_r2) ++ wsX70)
def wsX7_reading : List Cond := .code yX7_reading cX7_reading 4 (some .int) :: ([.fieldLink RX7 137 "BlankPardonsModel" "readings" "I", .fieldLink RX7 47 "BlankPardonsModel" "readingOf" "[I", .fieldLink RX7 50 "BlankPardonsModel" "readingBy" "[I", .fieldLink RX7 53 "BlankPardonsModel" "readingDoes" "[Z", .methodLink RX7 152 yX7_noSubject, .instanceMethod yX7_noSubject, .selects RX7 yX7_noSubject yX7_noSubject, .initialized RX7, .code yX7_noSubject cX7_noSubject 2 (some .boolean), .fieldLink RX7 86 "BlankPardonsModel" "subjects" "I", .methodLink RX7 82 yX7_in, .static yX7_in, .code yX7_in cX7_in 6 (some .boolean), .methodLink RX7 146 yX7_noDeed, .instanceMethod yX7_noDeed, .selects RX7 yX7_noDeed yX7_noDeed, .code yX7_noDeed cX7_noDeed 2 (some .boolean), .fieldLink RX7 79 "BlankPardonsModel" "deeds" "I"] ++ wsX70)
def wsX7_back : List Cond := .code yX7_back cX7_back 2 (some .int) :: ([.fieldLink RX7 137 "BlankPardonsModel" "readings" "I", .methodLink RX7 82 yX7_in, .static yX7_in, .initialized RX7, .code yX7_in cX7_in 6 (some .boolean)] ++ wsX70)
def wsX7_areSo : List Cond := .code yX7_areSo cX7_areSo 3 (some .boolean) :: ([.fieldLink RX7 137 "BlankPardonsModel" "readings" "I", .fieldLink RX7 47 "BlankPardonsModel" "readingOf" "[I", .fieldLink RX7 50 "BlankPardonsModel" "readingBy" "[I", .fieldLink RX7 53 "BlankPardonsModel" "readingDoes" "[Z", .methodLink RX7 143 yX7_valueOf, .instanceMethod yX7_valueOf, .selects RX7 yX7_valueOf yX7_valueOf, .initialized RX7, .code yX7_valueOf cX7_valueOf 3 (some .int), .fieldLink RX7 7 "BlankPardonsModel" "worthOf" "[I", .methodLink RX7 140 yX7_fearOf, .instanceMethod yX7_fearOf, .selects RX7 yX7_fearOf yX7_fearOf, .code yX7_fearOf cX7_fearOf 4 (some .int), .fieldLink RX7 13 "BlankPardonsModel" "riskOf" "[I", .fieldLink RX7 16 "BlankPardonsModel" "hurtOf" "[I", .fieldLink RX7 19 "BlankPardonsModel" "kindOf" "[I"] ++ wsX70)
def wsX7_risks_r1 : List Cond := [Cond.fieldLink RX7 13 "BlankPardonsModel" "riskOf" "[I", Cond.methodLink RX7 146 yX7_noDeed, Cond.instanceMethod yX7_noDeed, Cond.selects RX7 yX7_noDeed yX7_noDeed, Cond.initialized RX7, Cond.code yX7_noDeed cX7_noDeed 2 (some .boolean), Cond.fieldLink RX7 79 "BlankPardonsModel" "deeds" "I", Cond.methodLink RX7 82 yX7_in, Cond.static yX7_in, Cond.code yX7_in cX7_in 6 (some .boolean), Cond.methodLink RX7 211 yX7_areSo, Cond.instanceMethod yX7_areSo, Cond.selects RX7 yX7_areSo yX7_areSo, Cond.code yX7_areSo cX7_areSo 3 (some .boolean), Cond.fieldLink RX7 137 "BlankPardonsModel" "readings" "I", Cond.fieldLink RX7 47 "BlankPardonsModel" "readingOf" "[I", Cond.fieldLink RX7 50 "BlankPardonsModel" "readingBy" "[I", Cond.fieldLink RX7 53 "BlankPardonsModel" "readingDoes" "[Z", Cond.methodLink RX7 143 yX7_valueOf, Cond.instanceMethod yX7_valueOf, Cond.selects RX7 yX7_valueOf yX7_valueOf, Cond.code yX7_valueOf cX7_valueOf 3 (some .int), Cond.fieldLink RX7 7 "BlankPardonsModel" "worthOf" "[I", Cond.methodLink RX7 140 yX7_fearOf]
def wsX7_risks_r2 : List Cond := [Cond.instanceMethod yX7_fearOf, Cond.selects RX7 yX7_fearOf yX7_fearOf, Cond.code yX7_fearOf cX7_fearOf 4 (some .int), Cond.fieldLink RX7 16 "BlankPardonsModel" "hurtOf" "[I", Cond.fieldLink RX7 19 "BlankPardonsModel" "kindOf" "[I"]
def wsX7_risks : List Cond := .code yX7_risks cX7_risks 5 (some .int) :: ((wsX7_risks_r1 ++ wsX7_risks_r2) ++ wsX70)
def wsX7_hurts_r1 : List Cond := [Cond.fieldLink RX7 16 "BlankPardonsModel" "hurtOf" "[I", Cond.methodLink RX7 146 yX7_noDeed, Cond.instanceMethod yX7_noDeed, Cond.selects RX7 yX7_noDeed yX7_noDeed, Cond.initialized RX7, Cond.code yX7_noDeed cX7_noDeed 2 (some .boolean), Cond.fieldLink RX7 79 "BlankPardonsModel" "deeds" "I", Cond.methodLink RX7 82 yX7_in, Cond.static yX7_in, Cond.code yX7_in cX7_in 6 (some .boolean), Cond.methodLink RX7 211 yX7_areSo, Cond.instanceMethod yX7_areSo, Cond.selects RX7 yX7_areSo yX7_areSo, Cond.code yX7_areSo cX7_areSo 3 (some .boolean), Cond.fieldLink RX7 137 "BlankPardonsModel" "readings" "I", Cond.fieldLink RX7 47 "BlankPardonsModel" "readingOf" "[I", Cond.fieldLink RX7 50 "BlankPardonsModel" "readingBy" "[I", Cond.fieldLink RX7 53 "BlankPardonsModel" "readingDoes" "[Z", Cond.methodLink RX7 143 yX7_valueOf, Cond.instanceMethod yX7_valueOf, Cond.selects RX7 yX7_valueOf yX7_valueOf, Cond.code yX7_valueOf cX7_valueOf 3 (some .int), Cond.fieldLink RX7 7 "BlankPardonsModel" "worthOf" "[I", Cond.methodLink RX7 140 yX7_fearOf]
def wsX7_hurts_r2 : List Cond := [Cond.instanceMethod yX7_fearOf, Cond.selects RX7 yX7_fearOf yX7_fearOf, Cond.code yX7_fearOf cX7_fearOf 4 (some .int), Cond.fieldLink RX7 13 "BlankPardonsModel" "riskOf" "[I", Cond.fieldLink RX7 19 "BlankPardonsModel" "kindOf" "[I"]
def wsX7_hurts : List Cond := .code yX7_hurts cX7_hurts 5 (some .int) :: ((wsX7_hurts_r1 ++ wsX7_hurts_r2) ++ wsX70)
def wsX7_kinds_r1 : List Cond := [Cond.fieldLink RX7 19 "BlankPardonsModel" "kindOf" "[I", Cond.methodLink RX7 152 yX7_noSubject, Cond.instanceMethod yX7_noSubject, Cond.selects RX7 yX7_noSubject yX7_noSubject, Cond.initialized RX7, Cond.code yX7_noSubject cX7_noSubject 2 (some .boolean), Cond.fieldLink RX7 86 "BlankPardonsModel" "subjects" "I", Cond.methodLink RX7 82 yX7_in, Cond.static yX7_in, Cond.code yX7_in cX7_in 6 (some .boolean), Cond.methodLink RX7 211 yX7_areSo, Cond.instanceMethod yX7_areSo, Cond.selects RX7 yX7_areSo yX7_areSo, Cond.code yX7_areSo cX7_areSo 3 (some .boolean), Cond.fieldLink RX7 137 "BlankPardonsModel" "readings" "I", Cond.fieldLink RX7 47 "BlankPardonsModel" "readingOf" "[I", Cond.fieldLink RX7 50 "BlankPardonsModel" "readingBy" "[I", Cond.fieldLink RX7 53 "BlankPardonsModel" "readingDoes" "[Z", Cond.methodLink RX7 143 yX7_valueOf, Cond.instanceMethod yX7_valueOf, Cond.selects RX7 yX7_valueOf yX7_valueOf, Cond.code yX7_valueOf cX7_valueOf 3 (some .int), Cond.fieldLink RX7 7 "BlankPardonsModel" "worthOf" "[I", Cond.methodLink RX7 140 yX7_fearOf]
def wsX7_kinds_r2 : List Cond := [Cond.instanceMethod yX7_fearOf, Cond.selects RX7 yX7_fearOf yX7_fearOf, Cond.code yX7_fearOf cX7_fearOf 4 (some .int), Cond.fieldLink RX7 13 "BlankPardonsModel" "riskOf" "[I", Cond.fieldLink RX7 16 "BlankPardonsModel" "hurtOf" "[I"]
def wsX7_kinds : List Cond := .code yX7_kinds cX7_kinds 5 (some .int) :: ((wsX7_kinds_r1 ++ wsX7_kinds_r2) ++ wsX70)
def wsX7_odds : List Cond := .code yX7_odds cX7_odds 10 (some .long) :: ([.fieldLink RX7 86 "BlankPardonsModel" "subjects" "I", .fieldLink RX7 79 "BlankPardonsModel" "deeds" "I", .constantLong RX7 160 (3), .constantLong RX7 171 (10), .fieldLink RX7 13 "BlankPardonsModel" "riskOf" "[I", .methodLink RX7 82 yX7_in, .static yX7_in, .initialized RX7, .code yX7_in cX7_in 6 (some .boolean), .methodLink RX7 75 yX7_lost, .static yX7_lost, .code yX7_lost cX7_lost 0 (some .long), .constantLong RX7 69 (-9223372036854775808), .methodLink RX7 215 yX7_isIn, .static yX7_isIn, .code yX7_isIn cX7_isIn 2 (some .boolean), .methodLink RX7 199 yX7_share, .static yX7_share, .code yX7_share cX7_share 11 (some .long)] ++ wsX70)
def wsX7_sheet : List Cond := .code yX7_sheet cX7_sheet 5 (some .int) :: ([.constantLong RX7 128 (2), .fieldLink RX7 57 "BlankPardonsModel" "sheetSize" "[I", .fieldLink RX7 60 "BlankPardonsModel" "sheetLane" "[I", .fieldLink RX7 63 "BlankPardonsModel" "sheet" "[I", .methodLink RX7 121 yX7_noSheet, .static yX7_noSheet, .initialized RX7, .code yX7_noSheet cX7_noSheet 1 (some .boolean), .constantLong RX7 160 (3), .methodLink RX7 82 yX7_in, .static yX7_in, .code yX7_in cX7_in 6 (some .boolean), .methodLink RX7 125 yX7_refused, .instanceMethod yX7_refused, .selects RX7 yX7_refused yX7_refused, .code yX7_refused cX7_refused 2 (some .int), .fieldLink RX7 71 "BlankPardonsModel" "fault" "I", .methodLink RX7 113 yX7_failed, .instanceMethod yX7_failed, .selects RX7 yX7_failed yX7_failed, .code yX7_failed cX7_failed 2 (some .int)] ++ wsX70)
def wsX7_lose : List Cond := .code yX7_lose cX7_lose 3 (some .int) :: ([.fieldLink RX7 57 "BlankPardonsModel" "sheetSize" "[I", .methodLink RX7 121 yX7_noSheet, .static yX7_noSheet, .initialized RX7, .code yX7_noSheet cX7_noSheet 1 (some .boolean), .constantLong RX7 160 (3), .methodLink RX7 82 yX7_in, .static yX7_in, .code yX7_in cX7_in 6 (some .boolean)] ++ wsX70)
def wsX7_noCell : List Cond := .code yX7_noCell cX7_noCell 3 (some .int) :: ([.fieldLink RX7 57 "BlankPardonsModel" "sheetSize" "[I", .methodLink RX7 82 yX7_in, .static yX7_in, .initialized RX7, .code yX7_in cX7_in 6 (some .boolean)] ++ wsX70)
def wsX7_put : List Cond := .code yX7_put cX7_put 4 (some .int) :: ([.fieldLink RX7 63 "BlankPardonsModel" "sheet" "[I", .fieldLink RX7 60 "BlankPardonsModel" "sheetLane" "[I", .methodLink RX7 121 yX7_noSheet, .static yX7_noSheet, .initialized RX7, .code yX7_noSheet cX7_noSheet 1 (some .boolean), .constantLong RX7 160 (3), .methodLink RX7 82 yX7_in, .static yX7_in, .code yX7_in cX7_in 6 (some .boolean), .methodLink RX7 125 yX7_refused, .instanceMethod yX7_refused, .selects RX7 yX7_refused yX7_refused, .code yX7_refused cX7_refused 2 (some .int), .fieldLink RX7 71 "BlankPardonsModel" "fault" "I", .methodLink RX7 218 yX7_noCell, .instanceMethod yX7_noCell, .selects RX7 yX7_noCell yX7_noCell, .code yX7_noCell cX7_noCell 3 (some .int), .fieldLink RX7 57 "BlankPardonsModel" "sheetSize" "[I", .methodLink RX7 113 yX7_failed, .instanceMethod yX7_failed, .selects RX7 yX7_failed yX7_failed, .code yX7_failed cX7_failed 2 (some .int)] ++ wsX70)
def wsX7_cell_r1 : List Cond := [Cond.fieldLink RX7 71 "BlankPardonsModel" "fault" "I", Cond.constantLong RX7 128 (2), Cond.fieldLink RX7 57 "BlankPardonsModel" "sheetSize" "[I", Cond.fieldLink RX7 60 "BlankPardonsModel" "sheetLane" "[I", Cond.fieldLink RX7 63 "BlankPardonsModel" "sheet" "[I", Cond.methodLink RX7 121 yX7_noSheet, Cond.static yX7_noSheet, Cond.initialized RX7, Cond.code yX7_noSheet cX7_noSheet 1 (some .boolean), Cond.constantLong RX7 160 (3), Cond.methodLink RX7 82 yX7_in, Cond.static yX7_in, Cond.code yX7_in cX7_in 6 (some .boolean), Cond.methodLink RX7 75 yX7_lost, Cond.static yX7_lost, Cond.code yX7_lost cX7_lost 0 (some .long), Cond.constantLong RX7 69 (-9223372036854775808), Cond.methodLink RX7 221 yX7_failedLong, Cond.instanceMethod yX7_failedLong, Cond.selects RX7 yX7_failedLong yX7_failedLong, Cond.code yX7_failedLong cX7_failedLong 2 (some .long), Cond.methodLink RX7 218 yX7_noCell, Cond.instanceMethod yX7_noCell, Cond.selects RX7 yX7_noCell yX7_noCell]
def wsX7_cell_r2 : List Cond := [Cond.code yX7_noCell cX7_noCell 3 (some .int)]
def wsX7_cell : List Cond := .code yX7_cell cX7_cell 4 (some .long) :: ((wsX7_cell_r1 ++ wsX7_cell_r2) ++ wsX70)
def wsX7_copy : List Cond := .code yX7_copy cX7_copy 7 (some .int) :: ([.fieldLink RX7 57 "BlankPardonsModel" "sheetSize" "[I", .fieldLink RX7 60 "BlankPardonsModel" "sheetLane" "[I", .fieldLink RX7 66 "BlankPardonsModel" "hands" "[I", .fieldLink RX7 63 "BlankPardonsModel" "sheet" "[I", .methodLink RX7 121 yX7_noSheet, .static yX7_noSheet, .initialized RX7, .code yX7_noSheet cX7_noSheet 1 (some .boolean), .constantLong RX7 160 (3), .methodLink RX7 82 yX7_in, .static yX7_in, .code yX7_in cX7_in 6 (some .boolean), .methodLink RX7 125 yX7_refused, .instanceMethod yX7_refused, .selects RX7 yX7_refused yX7_refused, .code yX7_refused cX7_refused 2 (some .int), .fieldLink RX7 71 "BlankPardonsModel" "fault" "I", .methodLink RX7 113 yX7_failed, .instanceMethod yX7_failed, .selects RX7 yX7_failed yX7_failed, .code yX7_failed cX7_failed 2 (some .int), .methodLink RX7 117 yX7_isBeyond, .static yX7_isBeyond, .code yX7_isBeyond cX7_isBeyond 4 (some .boolean)] ++ wsX70)
def wsX7_traced : List Cond := .code yX7_traced cX7_traced 2 none :: ([.fieldLink RX7 224 "BlankPardonsModel" "traceNow" "I"] ++ wsX70)
def wsX7_tell : List Cond := .code yX7_tell cX7_tell 4 (some .int) :: ([.fieldLink RX7 19 "BlankPardonsModel" "kindOf" "[I", .fieldLink RX7 22 "BlankPardonsModel" "papersOf" "[I", .methodLink RX7 152 yX7_noSubject, .instanceMethod yX7_noSubject, .selects RX7 yX7_noSubject yX7_noSubject, .initialized RX7, .code yX7_noSubject cX7_noSubject 2 (some .boolean), .fieldLink RX7 86 "BlankPardonsModel" "subjects" "I", .methodLink RX7 82 yX7_in, .static yX7_in, .code yX7_in cX7_in 6 (some .boolean), .methodLink RX7 227 yX7_traced, .instanceMethod yX7_traced, .selects RX7 yX7_traced yX7_traced, .code yX7_traced cX7_traced 2 none, .fieldLink RX7 224 "BlankPardonsModel" "traceNow" "I"] ++ wsX70)
def wsX7_name : List Cond := .code yX7_name cX7_name 2 (some .int) :: ([.fieldLink RX7 19 "BlankPardonsModel" "kindOf" "[I", .methodLink RX7 152 yX7_noSubject, .instanceMethod yX7_noSubject, .selects RX7 yX7_noSubject yX7_noSubject, .initialized RX7, .code yX7_noSubject cX7_noSubject 2 (some .boolean), .fieldLink RX7 86 "BlankPardonsModel" "subjects" "I", .methodLink RX7 82 yX7_in, .static yX7_in, .code yX7_in cX7_in 6 (some .boolean), .methodLink RX7 227 yX7_traced, .instanceMethod yX7_traced, .selects RX7 yX7_traced yX7_traced, .code yX7_traced cX7_traced 2 none, .fieldLink RX7 224 "BlankPardonsModel" "traceNow" "I"] ++ wsX70)
def wsX7_as : List Cond := .code yX7_as cX7_as 3 (some .int) :: ([.constantLong RX7 128 (2), .fieldLink RX7 19 "BlankPardonsModel" "kindOf" "[I", .methodLink RX7 152 yX7_noSubject, .instanceMethod yX7_noSubject, .selects RX7 yX7_noSubject yX7_noSubject, .initialized RX7, .code yX7_noSubject cX7_noSubject 2 (some .boolean), .fieldLink RX7 86 "BlankPardonsModel" "subjects" "I", .methodLink RX7 82 yX7_in, .static yX7_in, .code yX7_in cX7_in 6 (some .boolean), .methodLink RX7 125 yX7_refused, .instanceMethod yX7_refused, .selects RX7 yX7_refused yX7_refused, .code yX7_refused cX7_refused 2 (some .int), .fieldLink RX7 71 "BlankPardonsModel" "fault" "I", .methodLink RX7 113 yX7_failed, .instanceMethod yX7_failed, .selects RX7 yX7_failed yX7_failed, .code yX7_failed cX7_failed 2 (some .int)] ++ wsX70)
def wsX7_trace : List Cond := .code yX7_trace cX7_trace 1 (some .int) :: ([.fieldLink RX7 224 "BlankPardonsModel" "traceNow" "I"] ++ wsX70)
def wsX7_fault : List Cond := .code yX7_fault cX7_fault 1 (some .int) :: ([.fieldLink RX7 71 "BlankPardonsModel" "fault" "I"] ++ wsX70)
def wsX7_papersNow : List Cond := .code yX7_papersNow cX7_papersNow 3 (some .int) :: ([.fieldLink RX7 86 "BlankPardonsModel" "subjects" "I", .fieldLink RX7 22 "BlankPardonsModel" "papersOf" "[I"] ++ wsX70)
def wsX7_many : List Cond := .code yX7_many cX7_many 2 (some .int) :: ([.fieldLink RX7 86 "BlankPardonsModel" "subjects" "I", .fieldLink RX7 79 "BlankPardonsModel" "deeds" "I", .fieldLink RX7 137 "BlankPardonsModel" "readings" "I", .methodLink RX7 231 yX7_papersNow, .instanceMethod yX7_papersNow, .selects RX7 yX7_papersNow yX7_papersNow, .initialized RX7, .code yX7_papersNow cX7_papersNow 3 (some .int), .fieldLink RX7 22 "BlankPardonsModel" "papersOf" "[I"] ++ wsX70)
def wsJ9_max_7cf53 : List Cond := .code yJ9_max_7cf53 cJ9_max_7cf53 2 (some .int) :: ([])
def wsJ9_max_f86c9 : List Cond := .code yJ9_max_f86c9 cJ9_max_f86c9 4 (some .long) :: ([])
def wsL_law_r1 : List Cond := [Cond.classLink RL 7 RX6, Cond.instantiable RX6 8, Cond.initialized RX6, Cond.classLink RL 10 RX7, Cond.instantiable RX7 30, Cond.initialized RX7, Cond.methodLink RL 9 yX6_init, Cond.instanceMethod yX6_init, Cond.code yX6_init cX6_init 2 none, Cond.methodLink RX6 3 objectInit, Cond.instanceMethod objectInit, Cond.code objectInit ⟨#[0xb1]⟩ 1 none, Cond.classLink RX6 11 RX3, Cond.fieldLink RX6 13 "BlankPardons" "sheets" "[LBlankPardons$Row;", Cond.classLink RX6 17 RX2, Cond.instantiable RX2 5, Cond.initialized RX2, Cond.fieldLink RX6 20 "BlankPardons" "realm" "LBlankPardons$Realm;", Cond.classLink RX6 24 RX1, Cond.instantiable RX1 4, Cond.initialized RX1, Cond.fieldLink RX6 27 "BlankPardons" "readings" "LBlankPardons$Readings;", Cond.classLink RX6 31 RX0, Cond.instantiable RX0 2]
def wsL_law_r2 : List Cond := [Cond.initialized RX0, Cond.fieldLink RX6 34 "BlankPardons" "outlook" "LBlankPardons$Outlook;", Cond.classLink RX6 38 RX5, Cond.instantiable RX5 4, Cond.initialized RX5, Cond.fieldLink RX6 41 "BlankPardons" "lived" "LBlankPardons$Year;", Cond.arrayClass .long, Cond.fieldLink RX6 45 "BlankPardons" "gains" "[J", Cond.instantiable RX3 4, Cond.initialized RX3, Cond.instanceMethod yX2_init, Cond.code yX2_init cX2_init 1 none, Cond.methodLink RX2 3 objectInit, Cond.classLink RX2 9 "[[I", Cond.arrayClass .int, Cond.fieldLink RX2 11 "BlankPardons$Realm" "deeds" "[[I", Cond.fieldLink RX2 16 "BlankPardons$Realm" "kindOf" "[I", Cond.fieldLink RX2 20 "BlankPardons$Realm" "papers" "[I", Cond.instanceMethod yX1_init, Cond.code yX1_init cX1_init 1 none, Cond.methodLink RX1 3 objectInit, Cond.fieldLink RX1 9 "BlankPardons$Readings" "subjects" "[I", Cond.fieldLink RX1 15 "BlankPardons$Readings" "deeds" "[I", Cond.arrayClass .boolean]
def wsL_law_r3 : List Cond := [Cond.fieldLink RX1 18 "BlankPardons$Readings" "done" "[Z", Cond.instanceMethod yX0_init, Cond.code yX0_init cX0_init 1 none, Cond.methodLink RX0 3 objectInit, Cond.classLink RX0 9 "[[J", Cond.fieldLink RX0 11 "BlankPardons$Outlook" "hopes" "[[J", Cond.fieldLink RX0 16 "BlankPardons$Outlook" "scales" "[J", Cond.instanceMethod yX5_init, Cond.code yX5_init cX5_init 1 none, Cond.methodLink RX5 3 objectInit, Cond.fieldLink RX5 9 "BlankPardons$Year" "left" "[I", Cond.instanceMethod yX3_init, Cond.code yX3_init cX3_init 1 none, Cond.methodLink RX3 3 objectInit, Cond.fieldLink RX3 9 "BlankPardons$Row" "cells" "[I", Cond.methodLink RL 12 yX7_init, Cond.instanceMethod yX7_init, Cond.code yX7_init cX7_init 2 none, Cond.methodLink RX7 1 objectInit, Cond.fieldLink RX7 7 "BlankPardonsModel" "worthOf" "[I", Cond.fieldLink RX7 13 "BlankPardonsModel" "riskOf" "[I", Cond.fieldLink RX7 16 "BlankPardonsModel" "hurtOf" "[I", Cond.fieldLink RX7 19 "BlankPardonsModel" "kindOf" "[I", Cond.fieldLink RX7 22 "BlankPardonsModel" "papersOf" "[I"]
def wsL_law_r4 : List Cond := [Cond.fieldLink RX7 25 "BlankPardonsModel" "readWorth" "[I", Cond.fieldLink RX7 28 "BlankPardonsModel" "readRisk" "[I", Cond.fieldLink RX7 31 "BlankPardonsModel" "readHurt" "[I", Cond.fieldLink RX7 34 "BlankPardonsModel" "readKind" "[I", Cond.fieldLink RX7 37 "BlankPardonsModel" "readPapers" "[I", Cond.fieldLink RX7 40 "BlankPardonsModel" "leftOf" "[I", Cond.fieldLink RX7 43 "BlankPardonsModel" "hopeOf" "[J", Cond.fieldLink RX7 47 "BlankPardonsModel" "readingOf" "[I", Cond.fieldLink RX7 50 "BlankPardonsModel" "readingBy" "[I", Cond.fieldLink RX7 53 "BlankPardonsModel" "readingDoes" "[Z", Cond.fieldLink RX7 57 "BlankPardonsModel" "sheetSize" "[I", Cond.fieldLink RX7 60 "BlankPardonsModel" "sheetLane" "[I", Cond.fieldLink RX7 63 "BlankPardonsModel" "sheet" "[I", Cond.fieldLink RX7 66 "BlankPardonsModel" "hands" "[I", Cond.methodLink RL 13 yX6_kingdom, Cond.instanceMethod yX6_kingdom, Cond.selects RX6 yX6_kingdom yX6_kingdom, Cond.code yX6_kingdom cX6_kingdom 9 (some .int), Cond.fieldLink RX6 50 "BlankPardons" "latestFault" "I", Cond.classLink RX6 73 RX4, Cond.instantiable RX4 5, Cond.initialized RX4, Cond.fieldLink RX6 86 "BlankPardons$Readings" "count" "I", Cond.fieldLink RX6 89 "BlankPardons$Realm" "subjectCount" "I"]
def wsL_law_r5 : List Cond := [Cond.methodLink RX6 54 yX6_isSheet, Cond.static yX6_isSheet, Cond.code yX6_isSheet cX6_isSheet 1 (some .boolean), Cond.methodLink RX6 58 yX6_isBelow, Cond.static yX6_isBelow, Cond.code yX6_isBelow cX6_isBelow 2 (some .boolean), Cond.methodLink RX6 62 yX6_faultAs, Cond.static yX6_faultAs, Cond.code yX6_faultAs cX6_faultAs 2 (some .int), Cond.fieldLink RX6 204 "BlankPardons$Row" "isThere" "Z", Cond.fieldLink RX6 213 "BlankPardons$Row" "lane" "I", Cond.methodLink RX6 66 yX6_failed, Cond.instanceMethod yX6_failed, Cond.selects RX6 yX6_failed yX6_failed, Cond.code yX6_failed cX6_failed 2 (some .int), Cond.methodLink RX6 70 yX3_spans, Cond.instanceMethod yX3_spans, Cond.selects RX3 yX3_spans yX3_spans, Cond.code yX3_spans cX3_spans 3 (some .boolean), Cond.fieldLink RX3 23 "BlankPardons$Row" "length" "I", Cond.methodLink RX6 75 yX4_init, Cond.instanceMethod yX4_init, Cond.code yX4_init cX4_init 4 none, Cond.methodLink RX4 3 objectInit]
def wsL_law_r6 : List Cond := [Cond.fieldLink RX4 9 "BlankPardons$Text" "row" "LBlankPardons$Row;", Cond.fieldLink RX4 15 "BlankPardons$Text" "from" "I", Cond.fieldLink RX4 19 "BlankPardons$Text" "size" "I", Cond.methodLink RX6 78 yX4_firstFault, Cond.instanceMethod yX4_firstFault, Cond.selects RX4 yX4_firstFault yX4_firstFault, Cond.code yX4_firstFault cX4_firstFault 3 (some .int), Cond.fieldLink RX4 26 "BlankPardons$Text" "deeds" "I", Cond.fieldLink RX4 33 "BlankPardons$Text" "subjects" "I", Cond.methodLink RX4 22 yX4_code, Cond.instanceMethod yX4_code, Cond.selects RX4 yX4_code yX4_code, Cond.code yX4_code cX4_code 2 (some .int), Cond.fieldLink RX4 42 "BlankPardons$Row" "cells" "[I", Cond.methodLink RX4 29 yX4_isDigit, Cond.instanceMethod yX4_isDigit, Cond.selects RX4 yX4_isDigit yX4_isDigit, Cond.code yX4_isDigit cX4_isDigit 4 (some .boolean), Cond.methodLink RX4 36 yX4_kindAt, Cond.instanceMethod yX4_kindAt, Cond.selects RX4 yX4_kindAt yX4_kindAt, Cond.code yX4_kindAt cX4_kindAt 2 (some .int), Cond.methodLink RX6 82 yX2_found, Cond.instanceMethod yX2_found]
def wsL_law_r7 : List Cond := [Cond.selects RX2 yX2_found yX2_found, Cond.code yX2_found cX2_found 4 none, Cond.fieldLink RX2 23 "BlankPardons$Text" "deeds" "I", Cond.fieldLink RX2 28 "BlankPardons$Realm" "deedCount" "I", Cond.fieldLink RX2 31 "BlankPardons$Text" "subjects" "I", Cond.fieldLink RX2 34 "BlankPardons$Realm" "subjectCount" "I", Cond.methodLink RX2 37 yX4_digitOfDeed, Cond.instanceMethod yX4_digitOfDeed, Cond.selects RX4 yX4_digitOfDeed yX4_digitOfDeed, Cond.code yX4_digitOfDeed cX4_digitOfDeed 3 (some .int), Cond.methodLink RX2 41 yX4_kindOfSubject, Cond.instanceMethod yX4_kindOfSubject, Cond.selects RX4 yX4_kindOfSubject yX4_kindOfSubject, Cond.code yX4_kindOfSubject cX4_kindOfSubject 2 (some .int), Cond.methodLink RX2 45 yX4_papersOfSubject, Cond.instanceMethod yX4_papersOfSubject, Cond.selects RX4 yX4_papersOfSubject yX4_papersOfSubject, Cond.code yX4_papersOfSubject cX4_papersOfSubject 2 (some .int), Cond.methodLink RL 17 yX7_kingdom, Cond.instanceMethod yX7_kingdom, Cond.selects RX7 yX7_kingdom yX7_kingdom, Cond.code yX7_kingdom cX7_kingdom 7 (some .int), Cond.constantLong RX7 128 (2), Cond.fieldLink RX7 89 "BlankPardonsModel" "readAt" "I"]
def wsL_law_r8 : List Cond := [Cond.fieldLink RX7 96 "BlankPardonsModel" "readDeeds" "I", Cond.fieldLink RX7 79 "BlankPardonsModel" "deeds" "I", Cond.fieldLink RX7 103 "BlankPardonsModel" "readSubjects" "I", Cond.fieldLink RX7 86 "BlankPardonsModel" "subjects" "I", Cond.fieldLink RX7 137 "BlankPardonsModel" "readings" "I", Cond.methodLink RX7 121 yX7_noSheet, Cond.static yX7_noSheet, Cond.code yX7_noSheet cX7_noSheet 1 (some .boolean), Cond.constantLong RX7 160 (3), Cond.methodLink RX7 82 yX7_in, Cond.static yX7_in, Cond.code yX7_in cX7_in 6 (some .boolean), Cond.methodLink RX7 125 yX7_refused, Cond.instanceMethod yX7_refused, Cond.selects RX7 yX7_refused yX7_refused, Cond.code yX7_refused cX7_refused 2 (some .int), Cond.fieldLink RX7 71 "BlankPardonsModel" "fault" "I", Cond.methodLink RX7 130 yX7_cellsBarred, Cond.instanceMethod yX7_cellsBarred, Cond.selects RX7 yX7_cellsBarred yX7_cellsBarred, Cond.code yX7_cellsBarred cX7_cellsBarred 6 (some .int), Cond.methodLink RX7 113 yX7_failed, Cond.instanceMethod yX7_failed, Cond.selects RX7 yX7_failed yX7_failed]
def wsL_law_r9 : List Cond := [Cond.code yX7_failed cX7_failed 2 (some .int), Cond.methodLink RX7 117 yX7_isBeyond, Cond.static yX7_isBeyond, Cond.code yX7_isBeyond cX7_isBeyond 4 (some .boolean), Cond.methodLink RX7 134 yX7_readsKingdom, Cond.instanceMethod yX7_readsKingdom, Cond.selects RX7 yX7_readsKingdom yX7_readsKingdom, Cond.code yX7_readsKingdom cX7_readsKingdom 4 (some .boolean), Cond.methodLink RX7 92 yX7_codeAt, Cond.instanceMethod yX7_codeAt, Cond.selects RX7 yX7_codeAt yX7_codeAt, Cond.code yX7_codeAt cX7_codeAt 3 (some .int), Cond.methodLink RX7 106 yX7_readsDeed, Cond.instanceMethod yX7_readsDeed, Cond.selects RX7 yX7_readsDeed yX7_readsDeed, Cond.code yX7_readsDeed cX7_readsDeed 6 (some .boolean), Cond.methodLink RX7 99 yX7_figure, Cond.instanceMethod yX7_figure, Cond.selects RX7 yX7_figure yX7_figure, Cond.code yX7_figure cX7_figure 7 (some .int), Cond.methodLink RX7 110 yX7_readsSubject, Cond.instanceMethod yX7_readsSubject, Cond.selects RX7 yX7_readsSubject yX7_readsSubject, Cond.code yX7_readsSubject cX7_readsSubject 5 (some .boolean)]
def wsL_law_r10 : List Cond := [Cond.methodLink RL 18 yX6_ofDeed, Cond.instanceMethod yX6_ofDeed, Cond.selects RX6 yX6_ofDeed yX6_ofDeed, Cond.code yX6_ofDeed cX6_ofDeed 3 (some .int), Cond.fieldLink RX6 95 "BlankPardons$Realm" "deeds" "[[I", Cond.methodLink RX6 92 yX2_hasDeed, Cond.instanceMethod yX2_hasDeed, Cond.selects RX2 yX2_hasDeed yX2_hasDeed, Cond.code yX2_hasDeed cX2_hasDeed 2 (some .boolean), Cond.methodLink RL 22 yX7_ofDeed, Cond.instanceMethod yX7_ofDeed, Cond.selects RX7 yX7_ofDeed yX7_ofDeed, Cond.code yX7_ofDeed cX7_ofDeed 3 (some .int), Cond.methodLink RX7 146 yX7_noDeed, Cond.instanceMethod yX7_noDeed, Cond.selects RX7 yX7_noDeed yX7_noDeed, Cond.code yX7_noDeed cX7_noDeed 2 (some .boolean), Cond.methodLink RX7 149 yX7_ofDeedBy, Cond.instanceMethod yX7_ofDeedBy, Cond.selects RX7 yX7_ofDeedBy yX7_ofDeedBy, Cond.code yX7_ofDeedBy cX7_ofDeedBy 3 (some .int), Cond.methodLink RL 23 yX6_ofSubject, Cond.instanceMethod yX6_ofSubject, Cond.selects RX6 yX6_ofSubject yX6_ofSubject]
def wsL_law_r11 : List Cond := [Cond.code yX6_ofSubject cX6_ofSubject 3 (some .int), Cond.fieldLink RX6 102 "BlankPardons$Realm" "kindOf" "[I", Cond.fieldLink RX6 106 "BlankPardons$Realm" "papers" "[I", Cond.methodLink RX6 99 yX2_hasSubject, Cond.instanceMethod yX2_hasSubject, Cond.selects RX2 yX2_hasSubject yX2_hasSubject, Cond.code yX2_hasSubject cX2_hasSubject 2 (some .boolean), Cond.methodLink RX6 109 yX2_doneBy, Cond.instanceMethod yX2_doneBy, Cond.selects RX2 yX2_doneBy yX2_doneBy, Cond.code yX2_doneBy cX2_doneBy 4 (some .int), Cond.methodLink RX2 61 yX2_wouldDo, Cond.instanceMethod yX2_wouldDo, Cond.selects RX2 yX2_wouldDo yX2_wouldDo, Cond.code yX2_wouldDo cX2_wouldDo 3 (some .boolean), Cond.methodLink RX2 58 yX2_unpardonedValue, Cond.instanceMethod yX2_unpardonedValue, Cond.selects RX2 yX2_unpardonedValue yX2_unpardonedValue, Cond.code yX2_unpardonedValue cX2_unpardonedValue 3 (some .int), Cond.methodLink RX2 52 yX2_pardonedValue, Cond.instanceMethod yX2_pardonedValue, Cond.selects RX2 yX2_pardonedValue yX2_pardonedValue, Cond.code yX2_pardonedValue cX2_pardonedValue 2 (some .int), Cond.methodLink RX2 55 yX2_fearOf]
def wsL_law_r12 : List Cond := [Cond.instanceMethod yX2_fearOf, Cond.selects RX2 yX2_fearOf yX2_fearOf, Cond.code yX2_fearOf cX2_fearOf 4 (some .int), Cond.methodLink RL 26 yX7_ofSubject, Cond.instanceMethod yX7_ofSubject, Cond.selects RX7 yX7_ofSubject yX7_ofSubject, Cond.code yX7_ofSubject cX7_ofSubject 3 (some .int), Cond.methodLink RX7 152 yX7_noSubject, Cond.instanceMethod yX7_noSubject, Cond.selects RX7 yX7_noSubject yX7_noSubject, Cond.code yX7_noSubject cX7_noSubject 2 (some .boolean), Cond.methodLink RX7 155 yX7_doneBy, Cond.instanceMethod yX7_doneBy, Cond.selects RX7 yX7_doneBy yX7_doneBy, Cond.code yX7_doneBy cX7_doneBy 4 (some .int), Cond.methodLink RX7 143 yX7_valueOf, Cond.instanceMethod yX7_valueOf, Cond.selects RX7 yX7_valueOf yX7_valueOf, Cond.code yX7_valueOf cX7_valueOf 3 (some .int), Cond.methodLink RX7 140 yX7_fearOf, Cond.instanceMethod yX7_fearOf, Cond.selects RX7 yX7_fearOf yX7_fearOf, Cond.code yX7_fearOf cX7_fearOf 4 (some .int), Cond.methodLink RL 27 yX6_fear]
def wsL_law_r13 : List Cond := [Cond.instanceMethod yX6_fear, Cond.selects RX6 yX6_fear yX6_fear, Cond.code yX6_fear cX6_fear 3 (some .int), Cond.methodLink RX6 112 yX2_fearOf, Cond.methodLink RL 30 yX7_fear, Cond.instanceMethod yX7_fear, Cond.selects RX7 yX7_fear yX7_fear, Cond.code yX7_fear cX7_fear 3 (some .int), Cond.methodLink RL 31 yX6_alter, Cond.instanceMethod yX6_alter, Cond.selects RX6 yX6_alter yX6_alter, Cond.code yX6_alter cX6_alter 5 (some .int), Cond.methodLink RL 35 yX7_alter, Cond.instanceMethod yX7_alter, Cond.selects RX7 yX7_alter yX7_alter, Cond.code yX7_alter cX7_alter 5 (some .int), Cond.constantLong RX7 158 (9), Cond.methodLink RL 36 yX6_grant, Cond.instanceMethod yX6_grant, Cond.selects RX6 yX6_grant yX6_grant, Cond.code yX6_grant cX6_grant 4 (some .int), Cond.methodLink RL 39 yX7_grant, Cond.instanceMethod yX7_grant, Cond.selects RX7 yX7_grant yX7_grant]
def wsL_law_r14 : List Cond := [Cond.code yX7_grant cX7_grant 4 (some .int), Cond.methodLink RL 40 yX6_year, Cond.instanceMethod yX6_year, Cond.selects RX6 yX6_year yX6_year, Cond.code yX6_year cX6_year 8 (some .int), Cond.methodLink RX6 116 yX6_isAskedOfYears, Cond.static yX6_isAskedOfYears, Cond.code yX6_isAskedOfYears cX6_isAskedOfYears 1 (some .boolean), Cond.methodLink RX6 119 yX2_isThere, Cond.instanceMethod yX2_isThere, Cond.selects RX2 yX2_isThere yX2_isThere, Cond.code yX2_isThere cX2_isThere 1 (some .boolean), Cond.methodLink RX6 123 yX6_areTriples, Cond.instanceMethod yX6_areTriples, Cond.selects RX6 yX6_areTriples yX6_areTriples, Cond.code yX6_areTriples cX6_areTriples 6 (some .boolean), Cond.fieldLink RX6 134 "BlankPardons$Row" "cells" "[I", Cond.methodLink RX6 127 yX5_live, Cond.instanceMethod yX5_live, Cond.selects RX5 yX5_live yX5_live, Cond.code yX5_live cX5_live 7 none, Cond.fieldLink RX5 15 "BlankPardons$Year" "values" "I", Cond.fieldLink RX5 19 "BlankPardons$Year" "pardoned" "I", Cond.fieldLink RX5 22 "BlankPardons$Year" "firstWrong" "I"]
def wsL_law_r15 : List Cond := [Cond.fieldLink RX5 25 "BlankPardons$Realm" "subjectCount" "I", Cond.fieldLink RX5 30 "BlankPardons$Realm" "papers" "[I", Cond.fieldLink RX5 33 "BlankPardons$Row" "cells" "[I", Cond.methodLink RX5 38 yX5_goesOn, Cond.instanceMethod yX5_goesOn, Cond.selects RX5 yX5_goesOn yX5_goesOn, Cond.code yX5_goesOn cX5_goesOn 5 (some .boolean), Cond.methodLink RX5 42 yX2_pardonedValue, Cond.methodLink RX5 46 yX2_unpardonedValue, Cond.methodLink RX5 50 yX2_wouldDo, Cond.methodLink RX6 131 yX6_ofYear, Cond.instanceMethod yX6_ofYear, Cond.selects RX6 yX6_ofYear yX6_ofYear, Cond.code yX6_ofYear cX6_ofYear 3 (some .int), Cond.fieldLink RX6 137 "BlankPardons$Year" "firstWrong" "I", Cond.constant RX6 140 (-100000), Cond.fieldLink RX6 141 "BlankPardons$Year" "values" "I", Cond.fieldLink RX6 144 "BlankPardons$Year" "pardoned" "I", Cond.fieldLink RX6 147 "BlankPardons$Year" "left" "[I", Cond.methodLink RL 44 yX7_year, Cond.instanceMethod yX7_year, Cond.selects RX7 yX7_year yX7_year, Cond.code yX7_year cX7_year 10 (some .int), Cond.constantLong RX7 171 (10)]
def wsL_law_r16 : List Cond := [Cond.constantLong RX7 173 (13), Cond.constantLong RX7 175 (20), Cond.fieldLink RX7 162 "BlankPardonsModel" "firstWrong" "I", Cond.constant RX7 181 (-100000), Cond.fieldLink RX7 165 "BlankPardonsModel" "sumNow" "I", Cond.fieldLink RX7 168 "BlankPardonsModel" "pardonedNow" "I", Cond.methodLink RX7 177 yX7_goYear, Cond.instanceMethod yX7_goYear, Cond.selects RX7 yX7_goYear yX7_goYear, Cond.code yX7_goYear cX7_goYear 8 none, Cond.methodLink RL 45 yX6_hope, Cond.instanceMethod yX6_hope, Cond.selects RX6 yX6_hope yX6_hope, Cond.code yX6_hope cX6_hope 5 (some .long), Cond.constantLong RX6 150 (-9223372036854775808), Cond.fieldLink RX6 156 "BlankPardons$Outlook" "hopes" "[[J", Cond.fieldLink RX6 160 "BlankPardons$Outlook" "scales" "[J", Cond.methodLink RX6 152 yX0_lookAhead, Cond.instanceMethod yX0_lookAhead, Cond.selects RX0 yX0_lookAhead yX0_lookAhead, Cond.code yX0_lookAhead cX0_lookAhead 6 none, Cond.fieldLink RX0 20 "BlankPardons$Realm" "deedCount" "I", Cond.methodLink RX0 26 yX0_sumOfBest, Cond.instanceMethod yX0_sumOfBest]
def wsL_law_r17 : List Cond := [Cond.selects RX0 yX0_sumOfBest yX0_sumOfBest, Cond.code yX0_sumOfBest cX0_sumOfBest 10 (some .long), Cond.methodLink RX0 37 Lib.MathLoose.max_long.x, Cond.static Lib.MathLoose.max_long.x, Cond.initialized "java/lang/Math", Cond.code Lib.MathLoose.max_long.x Lib.MathLoose.max_long.code 4 (some .long), Cond.methodLink RX0 30 yX0_byNone, Cond.instanceMethod yX0_byNone, Cond.selects RX0 yX0_byNone yX0_byNone, Cond.code yX0_byNone cX0_byNone 6 (some .long), Cond.methodLink RX0 51 Lib.Math.max.name, Cond.static Lib.Math.max.name, Cond.code Lib.Math.max.name Lib.Math.max.code 2 (some .int), Cond.methodLink RX0 47 yX2_unpardonedValue, Cond.methodLink RX0 34 yX0_byPaper, Cond.instanceMethod yX0_byPaper, Cond.selects RX0 yX0_byPaper yX0_byPaper, Cond.code yX0_byPaper cX0_byPaper 5 (some .long), Cond.methodLink RX0 43 yX2_pardonedValue, Cond.methodLink RX6 163 yX6_inLeastTerms, Cond.static yX6_inLeastTerms, Cond.code yX6_inLeastTerms cX6_inLeastTerms 9 (some .long), Cond.methodLink RX6 240 yX6_commonDivisor, Cond.static yX6_commonDivisor]
def wsL_law_r18 : List Cond := [Cond.code yX6_commonDivisor cX6_commonDivisor 11 (some .long), Cond.methodLink RL 49 yX7_hope, Cond.instanceMethod yX7_hope, Cond.selects RX7 yX7_hope yX7_hope, Cond.code yX7_hope cX7_hope 5 (some .long), Cond.constantLong RX7 194 (8), Cond.methodLink RX7 75 yX7_lost, Cond.static yX7_lost, Cond.code yX7_lost cX7_lost 0 (some .long), Cond.constantLong RX7 69 (-9223372036854775808), Cond.methodLink RX7 196 yX7_goHope, Cond.instanceMethod yX7_goHope, Cond.selects RX7 yX7_goHope yX7_goHope, Cond.code yX7_goHope cX7_goHope 8 none, Cond.methodLink RX7 190 yX7_bestBy, Cond.instanceMethod yX7_bestBy, Cond.selects RX7 yX7_bestBy yX7_bestBy, Cond.code yX7_bestBy cX7_bestBy 11 (some .long), Cond.methodLink RX7 182 yX7_timesOf, Cond.instanceMethod yX7_timesOf, Cond.selects RX7 yX7_timesOf yX7_timesOf, Cond.code yX7_timesOf cX7_timesOf 5 (some .long), Cond.methodLink RX7 186 yX7_greater, Cond.instanceMethod yX7_greater]
def wsL_law_r19 : List Cond := [Cond.selects RX7 yX7_greater yX7_greater, Cond.code yX7_greater cX7_greater 5 (some .long), Cond.methodLink RX7 199 yX7_share, Cond.static yX7_share, Cond.code yX7_share cX7_share 11 (some .long), Cond.methodLink RL 50 yX6_uses, Cond.instanceMethod yX6_uses, Cond.selects RX6 yX6_uses yX6_uses, Cond.code yX6_uses cX6_uses 6 (some .int), Cond.fieldLink RX6 167 "BlankPardons$Realm" "deedCount" "I", Cond.methodLink RX6 170 yX0_byPaper, Cond.methodLink RX6 174 yX0_byNone, Cond.methodLink RL 53 yX7_uses, Cond.instanceMethod yX7_uses, Cond.selects RX7 yX7_uses yX7_uses, Cond.code yX7_uses cX7_uses 14 (some .int), Cond.methodLink RL 54 yX6_buyers, Cond.instanceMethod yX6_buyers, Cond.selects RX6 yX6_buyers yX6_buyers, Cond.code yX6_buyers cX6_buyers 3 (some .int), Cond.methodLink RX6 178 yX6_weighPapers, Cond.instanceMethod yX6_weighPapers, Cond.selects RX6 yX6_weighPapers yX6_weighPapers, Cond.code yX6_weighPapers cX6_weighPapers 3 none]
def wsL_law_r20 : List Cond := [Cond.methodLink RX6 182 yX6_buyersAt, Cond.instanceMethod yX6_buyersAt, Cond.selects RX6 yX6_buyersAt yX6_buyersAt, Cond.code yX6_buyersAt cX6_buyersAt 5 (some .int), Cond.methodLink RL 57 yX7_buyers, Cond.instanceMethod yX7_buyers, Cond.selects RX7 yX7_buyers yX7_buyers, Cond.code yX7_buyers cX7_buyers 3 (some .int), Cond.constantLong RX7 203 (99), Cond.methodLink RX7 205 yX7_buyersAt, Cond.instanceMethod yX7_buyersAt, Cond.selects RX7 yX7_buyersAt yX7_buyersAt, Cond.code yX7_buyersAt cX7_buyersAt 5 (some .int), Cond.methodLink RL 58 yX6_best, Cond.instanceMethod yX6_best, Cond.selects RX6 yX6_best yX6_best, Cond.code yX6_best cX6_best 6 (some .int), Cond.methodLink RX6 185 yJ6_bitCount_0f7a4, Cond.static yJ6_bitCount_0f7a4, Cond.initialized RJ6, Cond.code yJ6_bitCount_0f7a4 cJ6_bitCount_0f7a4 1 (some .int), Cond.constant RJ6 265 (1431655765), Cond.constant RJ6 266 (858993459), Cond.constant RJ6 267 (252645135)]
def wsL_law_r21 : List Cond := [Cond.methodLink RL 62 yX7_best, Cond.instanceMethod yX7_best, Cond.selects RX7 yX7_best yX7_best, Cond.code yX7_best cX7_best 6 (some .int), Cond.methodLink RX7 208 yX7_bits, Cond.static yX7_bits, Cond.code yX7_bits cX7_bits 3 (some .int), Cond.methodLink RL 63 yX6_reading, Cond.instanceMethod yX6_reading, Cond.selects RX6 yX6_reading yX6_reading, Cond.code yX6_reading cX6_reading 4 (some .int), Cond.methodLink RX6 190 yX1_note, Cond.instanceMethod yX1_note, Cond.selects RX1 yX1_note yX1_note, Cond.code yX1_note cX1_note 4 (some .int), Cond.fieldLink RX1 22 "BlankPardons$Readings" "count" "I", Cond.methodLink RL 67 yX7_reading, Cond.instanceMethod yX7_reading, Cond.selects RX7 yX7_reading yX7_reading, Cond.code yX7_reading cX7_reading 4 (some .int), Cond.methodLink RL 68 yX6_back, Cond.instanceMethod yX6_back, Cond.selects RX6 yX6_back yX6_back, Cond.code yX6_back cX6_back 2 (some .int)]
def wsL_law_r22 : List Cond := [Cond.methodLink RL 71 yX7_back, Cond.instanceMethod yX7_back, Cond.selects RX7 yX7_back yX7_back, Cond.code yX7_back cX7_back 2 (some .int), Cond.methodLink RL 72 yX6_risks, Cond.instanceMethod yX6_risks, Cond.selects RX6 yX6_risks yX6_risks, Cond.code yX6_risks cX6_risks 2 (some .int), Cond.methodLink RX6 194 yX1_fitting, Cond.instanceMethod yX1_fitting, Cond.selects RX1 yX1_fitting yX1_fitting, Cond.code yX1_fitting cX1_fitting 8 (some .int), Cond.methodLink RX1 26 yX1_allAreSo, Cond.instanceMethod yX1_allAreSo, Cond.selects RX1 yX1_allAreSo yX1_allAreSo, Cond.code yX1_allAreSo cX1_allAreSo 3 (some .boolean), Cond.methodLink RX1 30 yX2_wouldDo, Cond.methodLink RL 75 yX7_risks, Cond.instanceMethod yX7_risks, Cond.selects RX7 yX7_risks yX7_risks, Cond.code yX7_risks cX7_risks 5 (some .int), Cond.methodLink RX7 211 yX7_areSo, Cond.instanceMethod yX7_areSo, Cond.selects RX7 yX7_areSo yX7_areSo]
def wsL_law_r23 : List Cond := [Cond.code yX7_areSo cX7_areSo 3 (some .boolean), Cond.methodLink RL 76 yX6_hurts, Cond.instanceMethod yX6_hurts, Cond.selects RX6 yX6_hurts yX6_hurts, Cond.code yX6_hurts cX6_hurts 2 (some .int), Cond.methodLink RL 79 yX7_hurts, Cond.instanceMethod yX7_hurts, Cond.selects RX7 yX7_hurts yX7_hurts, Cond.code yX7_hurts cX7_hurts 5 (some .int), Cond.methodLink RL 80 yX6_kinds, Cond.instanceMethod yX6_kinds, Cond.selects RX6 yX6_kinds yX6_kinds, Cond.code yX6_kinds cX6_kinds 2 (some .int), Cond.methodLink RL 83 yX7_kinds, Cond.instanceMethod yX7_kinds, Cond.selects RX7 yX7_kinds yX7_kinds, Cond.code yX7_kinds cX7_kinds 5 (some .int), Cond.methodLink RL 84 yX6_odds, Cond.instanceMethod yX6_odds, Cond.selects RX6 yX6_odds yX6_odds, Cond.code yX6_odds cX6_odds 11 (some .long), Cond.constantLong RX6 198 (10), Cond.methodLink RL 88 yX7_odds, Cond.instanceMethod yX7_odds]
def wsL_law_r24 : List Cond := [Cond.selects RX7 yX7_odds yX7_odds, Cond.code yX7_odds cX7_odds 10 (some .long), Cond.methodLink RX7 215 yX7_isIn, Cond.static yX7_isIn, Cond.code yX7_isIn cX7_isIn 2 (some .boolean), Cond.methodLink RL 89 yX6_sheet, Cond.instanceMethod yX6_sheet, Cond.selects RX6 yX6_sheet yX6_sheet, Cond.code yX6_sheet cX6_sheet 4 (some .int), Cond.methodLink RX6 200 yX3_renew, Cond.instanceMethod yX3_renew, Cond.selects RX3 yX3_renew yX3_renew, Cond.code yX3_renew cX3_renew 4 none, Cond.fieldLink RX3 15 "BlankPardons$Row" "isThere" "Z", Cond.fieldLink RX3 19 "BlankPardons$Row" "lane" "I", Cond.methodLink RL 92 yX7_sheet, Cond.instanceMethod yX7_sheet, Cond.selects RX7 yX7_sheet yX7_sheet, Cond.code yX7_sheet cX7_sheet 5 (some .int), Cond.methodLink RL 93 yX6_lose, Cond.instanceMethod yX6_lose, Cond.selects RX6 yX6_lose yX6_lose, Cond.code yX6_lose cX6_lose 3 (some .int), Cond.methodLink RL 96 yX7_lose]
def wsL_law_r25 : List Cond := [Cond.instanceMethod yX7_lose, Cond.selects RX7 yX7_lose yX7_lose, Cond.code yX7_lose cX7_lose 3 (some .int), Cond.methodLink RL 97 yX6_put, Cond.instanceMethod yX6_put, Cond.selects RX6 yX6_put yX6_put, Cond.code yX6_put cX6_put 5 (some .int), Cond.fieldLink RX6 207 "BlankPardons$Row" "length" "I", Cond.methodLink RX6 210 yX3_cut, Cond.instanceMethod yX3_cut, Cond.selects RX3 yX3_cut yX3_cut, Cond.code yX3_cut cX3_cut 2 (some .int), Cond.methodLink RL 100 yX7_put, Cond.instanceMethod yX7_put, Cond.selects RX7 yX7_put yX7_put, Cond.code yX7_put cX7_put 4 (some .int), Cond.methodLink RX7 218 yX7_noCell, Cond.instanceMethod yX7_noCell, Cond.selects RX7 yX7_noCell yX7_noCell, Cond.code yX7_noCell cX7_noCell 3 (some .int), Cond.methodLink RL 101 yX6_cell, Cond.instanceMethod yX6_cell, Cond.selects RX6 yX6_cell yX6_cell, Cond.code yX6_cell cX6_cell 5 (some .long)]
def wsL_law_r26 : List Cond := [Cond.methodLink RL 104 yX7_cell, Cond.instanceMethod yX7_cell, Cond.selects RX7 yX7_cell yX7_cell, Cond.code yX7_cell cX7_cell 4 (some .long), Cond.methodLink RX7 221 yX7_failedLong, Cond.instanceMethod yX7_failedLong, Cond.selects RX7 yX7_failedLong yX7_failedLong, Cond.code yX7_failedLong cX7_failedLong 2 (some .long), Cond.methodLink RL 105 yX6_copy, Cond.instanceMethod yX6_copy, Cond.selects RX6 yX6_copy yX6_copy, Cond.code yX6_copy cX6_copy 8 (some .int), Cond.methodLink RX6 216 arraycopyName, Cond.native arraycopyName, Cond.static arraycopyName, Cond.initialized "java/lang/System", Cond.methodLink RL 108 yX7_copy, Cond.instanceMethod yX7_copy, Cond.selects RX7 yX7_copy yX7_copy, Cond.code yX7_copy cX7_copy 7 (some .int), Cond.methodLink RL 109 yX6_tell, Cond.instanceMethod yX6_tell, Cond.selects RX6 yX6_tell yX6_tell, Cond.code yX6_tell cX6_tell 2 (some .int)]
def wsL_law_r27 : List Cond := [Cond.methodLink RX6 222 yX6_tellHoly, Cond.instanceMethod yX6_tellHoly, Cond.selects RX6 yX6_tellHoly yX6_tellHoly, Cond.code yX6_tellHoly cX6_tellHoly 3 (some .int), Cond.methodLink RX6 231 yX6_leave, Cond.instanceMethod yX6_leave, Cond.selects RX6 yX6_leave yX6_leave, Cond.code yX6_leave cX6_leave 2 none, Cond.fieldLink RX6 234 "BlankPardons" "traced" "I", Cond.methodLink RX6 225 yX6_tellMeek, Cond.instanceMethod yX6_tellMeek, Cond.selects RX6 yX6_tellMeek yX6_tellMeek, Cond.code yX6_tellMeek cX6_tellMeek 2 (some .int), Cond.methodLink RX6 228 yX6_tellSubject, Cond.instanceMethod yX6_tellSubject, Cond.selects RX6 yX6_tellSubject yX6_tellSubject, Cond.code yX6_tellSubject cX6_tellSubject 2 (some .int), Cond.methodLink RL 112 yX7_tell, Cond.instanceMethod yX7_tell, Cond.selects RX7 yX7_tell yX7_tell, Cond.code yX7_tell cX7_tell 4 (some .int), Cond.methodLink RX7 227 yX7_traced, Cond.instanceMethod yX7_traced, Cond.selects RX7 yX7_traced yX7_traced]
def wsL_law_r28 : List Cond := [Cond.code yX7_traced cX7_traced 2 none, Cond.fieldLink RX7 224 "BlankPardonsModel" "traceNow" "I", Cond.methodLink RL 113 yX6_name, Cond.instanceMethod yX6_name, Cond.selects RX6 yX6_name yX6_name, Cond.code yX6_name cX6_name 2 (some .int), Cond.methodLink RL 116 yX7_name, Cond.instanceMethod yX7_name, Cond.selects RX7 yX7_name yX7_name, Cond.code yX7_name cX7_name 2 (some .int), Cond.methodLink RL 117 yX6_as, Cond.instanceMethod yX6_as, Cond.selects RX6 yX6_as yX6_as, Cond.code yX6_as cX6_as 3 (some .int), Cond.methodLink RL 120 yX7_as, Cond.instanceMethod yX7_as, Cond.selects RX7 yX7_as yX7_as, Cond.code yX7_as cX7_as 3 (some .int), Cond.methodLink RL 121 yX6_trace, Cond.instanceMethod yX6_trace, Cond.selects RX6 yX6_trace yX6_trace, Cond.code yX6_trace cX6_trace 1 (some .int), Cond.methodLink RL 125 yX7_trace, Cond.instanceMethod yX7_trace]
def wsL_law_r29 : List Cond := [Cond.selects RX7 yX7_trace yX7_trace, Cond.code yX7_trace cX7_trace 1 (some .int), Cond.methodLink RL 126 yX6_fault, Cond.instanceMethod yX6_fault, Cond.selects RX6 yX6_fault yX6_fault, Cond.code yX6_fault cX6_fault 1 (some .int), Cond.methodLink RL 129 yX7_fault, Cond.instanceMethod yX7_fault, Cond.selects RX7 yX7_fault yX7_fault, Cond.code yX7_fault cX7_fault 1 (some .int), Cond.methodLink RL 130 yX6_many, Cond.instanceMethod yX6_many, Cond.selects RX6 yX6_many yX6_many, Cond.code yX6_many cX6_many 2 (some .int), Cond.methodLink RX6 237 yX2_allPapers, Cond.instanceMethod yX2_allPapers, Cond.selects RX2 yX2_allPapers yX2_allPapers, Cond.code yX2_allPapers cX2_allPapers 3 (some .int), Cond.methodLink RL 133 yX7_many, Cond.instanceMethod yX7_many, Cond.selects RX7 yX7_many yX7_many, Cond.code yX7_many cX7_many 2 (some .int), Cond.methodLink RX7 231 yX7_papersNow, Cond.instanceMethod yX7_papersNow]
def wsL_law_r30 : List Cond := [Cond.selects RX7 yX7_papersNow yX7_papersNow, Cond.code yX7_papersNow cX7_papersNow 3 (some .int)]
def wsL_law : List Cond := (wsL_law_r1 ++ (wsL_law_r2 ++ (wsL_law_r3 ++ (wsL_law_r4 ++ (wsL_law_r5 ++ (wsL_law_r6 ++ (wsL_law_r7 ++ (wsL_law_r8 ++ (wsL_law_r9 ++ (wsL_law_r10 ++ (wsL_law_r11 ++ (wsL_law_r12 ++ (wsL_law_r13 ++ (wsL_law_r14 ++ (wsL_law_r15 ++ (wsL_law_r16 ++ (wsL_law_r17 ++ (wsL_law_r18 ++ (wsL_law_r19 ++ (wsL_law_r20 ++ (wsL_law_r21 ++ (wsL_law_r22 ++ (wsL_law_r23 ++ (wsL_law_r24 ++ (wsL_law_r25 ++ (wsL_law_r26 ++ (wsL_law_r27 ++ (wsL_law_r28 ++ (wsL_law_r29 ++ wsL_law_r30))))))))))))))))))))))))))))) ++ wsX60 ++ wsX70 ++ wsX20 ++ wsX10 ++ wsX00 ++ wsX50 ++ wsX30 ++ wsX40 ++ ([] : List Cond)
end
section
theorem t1_in {w : Cond} (i : Nat) (h : tables_1_1[i]? = some w) : w ∈ lw_tbl := List.mem_append_right _ (List.mem_append_left _ (List.mem_of_getElem? h))
theorem t2_in {w : Cond} (i : Nat) (h : tables_1_2[i]? = some w) : w ∈ lw_tbl := List.mem_append_right _ (List.mem_append_right _ (List.mem_append_left _ (List.mem_of_getElem? h)))
theorem t3_in {w : Cond} (i : Nat) (h : tables_1_3[i]? = some w) : w ∈ lw_tbl := List.mem_append_right _ (List.mem_append_right _ (List.mem_append_right _ (List.mem_append_left _ (List.mem_of_getElem? h))))
theorem t4_in {w : Cond} (i : Nat) (h : tables_1_4[i]? = some w) : w ∈ lw_tbl := List.mem_append_right _ (List.mem_append_right _ (List.mem_append_right _ (List.mem_append_right _ (List.mem_of_getElem? h))))
theorem s_in {w : Cond} (i : Nat) (h : (k2_sels lw_privs)[i]? = some w) : w ∈ lw_tbl := List.mem_append_left _ (List.mem_of_getElem? h)
set_option maxRecDepth 20000 in
theorem wsL_in_r1 : ∀ w ∈ wsL_law_r1, w ∈ lw_tbl := List.forall_mem_cons.mpr ⟨t1_in 12 rfl, List.forall_mem_cons.mpr ⟨t1_in 13 rfl, List.forall_mem_cons.mpr ⟨t1_in 1 rfl, List.forall_mem_cons.mpr ⟨t3_in 21 rfl, List.forall_mem_cons.mpr ⟨t3_in 22 rfl, List.forall_mem_cons.mpr ⟨t1_in 7 rfl, List.forall_mem_cons.mpr ⟨t1_in 14 rfl, List.forall_mem_cons.mpr ⟨t1_in 15 rfl, List.forall_mem_cons.mpr ⟨t1_in 16 rfl, List.forall_mem_cons.mpr ⟨t1_in 17 rfl, List.forall_mem_cons.mpr ⟨t1_in 18 rfl, List.forall_mem_cons.mpr ⟨t1_in 19 rfl, List.forall_mem_cons.mpr ⟨t1_in 20 rfl, List.forall_mem_cons.mpr ⟨t1_in 141 rfl, List.forall_mem_cons.mpr ⟨t1_in 22 rfl, List.forall_mem_cons.mpr ⟨t1_in 23 rfl, List.forall_mem_cons.mpr ⟨t1_in 2 rfl, List.forall_mem_cons.mpr ⟨t1_in 142 rfl, List.forall_mem_cons.mpr ⟨t1_in 55 rfl, List.forall_mem_cons.mpr ⟨t1_in 56 rfl, List.forall_mem_cons.mpr ⟨t1_in 3 rfl, List.forall_mem_cons.mpr ⟨t1_in 143 rfl, List.forall_mem_cons.mpr ⟨t1_in 76 rfl, List.forall_mem_cons.mpr ⟨t1_in 77 rfl, fun _ h => absurd h List.not_mem_nil⟩⟩⟩⟩⟩⟩⟩⟩⟩⟩⟩⟩⟩⟩⟩⟩⟩⟩⟩⟩⟩⟩⟩⟩
set_option maxRecDepth 20000 in
theorem wsL_in_r2 : ∀ w ∈ wsL_law_r2, w ∈ lw_tbl := List.forall_mem_cons.mpr ⟨t1_in 4 rfl, List.forall_mem_cons.mpr ⟨t1_in 144 rfl, List.forall_mem_cons.mpr ⟨t1_in 94 rfl, List.forall_mem_cons.mpr ⟨t1_in 95 rfl, List.forall_mem_cons.mpr ⟨t1_in 5 rfl, List.forall_mem_cons.mpr ⟨t1_in 145 rfl, List.forall_mem_cons.mpr ⟨t1_in 93 rfl, List.forall_mem_cons.mpr ⟨t1_in 146 rfl, List.forall_mem_cons.mpr ⟨t1_in 117 rfl, List.forall_mem_cons.mpr ⟨t1_in 6 rfl, List.forall_mem_cons.mpr ⟨t1_in 25 rfl, List.forall_mem_cons.mpr ⟨t1_in 26 rfl, List.forall_mem_cons.mpr ⟨t1_in 27 rfl, List.forall_mem_cons.mpr ⟨t1_in 28 rfl, List.forall_mem_cons.mpr ⟨t1_in 54 rfl, List.forall_mem_cons.mpr ⟨t1_in 30 rfl, List.forall_mem_cons.mpr ⟨t1_in 32 rfl, List.forall_mem_cons.mpr ⟨t1_in 34 rfl, List.forall_mem_cons.mpr ⟨t1_in 58 rfl, List.forall_mem_cons.mpr ⟨t1_in 59 rfl, List.forall_mem_cons.mpr ⟨t1_in 60 rfl, List.forall_mem_cons.mpr ⟨t1_in 61 rfl, List.forall_mem_cons.mpr ⟨t1_in 62 rfl, List.forall_mem_cons.mpr ⟨t1_in 75 rfl, fun _ h => absurd h List.not_mem_nil⟩⟩⟩⟩⟩⟩⟩⟩⟩⟩⟩⟩⟩⟩⟩⟩⟩⟩⟩⟩⟩⟩⟩⟩
set_option maxRecDepth 20000 in
theorem wsL_in_r3 : ∀ w ∈ wsL_law_r3, w ∈ lw_tbl := List.forall_mem_cons.mpr ⟨t1_in 63 rfl, List.forall_mem_cons.mpr ⟨t1_in 79 rfl, List.forall_mem_cons.mpr ⟨t1_in 80 rfl, List.forall_mem_cons.mpr ⟨t1_in 81 rfl, List.forall_mem_cons.mpr ⟨t1_in 82 rfl, List.forall_mem_cons.mpr ⟨t1_in 84 rfl, List.forall_mem_cons.mpr ⟨t1_in 86 rfl, List.forall_mem_cons.mpr ⟨t1_in 97 rfl, List.forall_mem_cons.mpr ⟨t1_in 98 rfl, List.forall_mem_cons.mpr ⟨t1_in 99 rfl, List.forall_mem_cons.mpr ⟨t1_in 100 rfl, List.forall_mem_cons.mpr ⟨t1_in 119 rfl, List.forall_mem_cons.mpr ⟨t1_in 120 rfl, List.forall_mem_cons.mpr ⟨t1_in 121 rfl, List.forall_mem_cons.mpr ⟨t1_in 122 rfl, List.forall_mem_cons.mpr ⟨t3_in 23 rfl, List.forall_mem_cons.mpr ⟨t3_in 24 rfl, List.forall_mem_cons.mpr ⟨t3_in 25 rfl, List.forall_mem_cons.mpr ⟨t3_in 26 rfl, List.forall_mem_cons.mpr ⟨t3_in 29 rfl, List.forall_mem_cons.mpr ⟨t3_in 30 rfl, List.forall_mem_cons.mpr ⟨t3_in 31 rfl, List.forall_mem_cons.mpr ⟨t3_in 33 rfl, List.forall_mem_cons.mpr ⟨t3_in 34 rfl, fun _ h => absurd h List.not_mem_nil⟩⟩⟩⟩⟩⟩⟩⟩⟩⟩⟩⟩⟩⟩⟩⟩⟩⟩⟩⟩⟩⟩⟩⟩
set_option maxRecDepth 20000 in
theorem wsL_in_r4 : ∀ w ∈ wsL_law_r4, w ∈ lw_tbl := List.forall_mem_cons.mpr ⟨t3_in 38 rfl, List.forall_mem_cons.mpr ⟨t3_in 39 rfl, List.forall_mem_cons.mpr ⟨t3_in 40 rfl, List.forall_mem_cons.mpr ⟨t3_in 41 rfl, List.forall_mem_cons.mpr ⟨t3_in 42 rfl, List.forall_mem_cons.mpr ⟨t3_in 46 rfl, List.forall_mem_cons.mpr ⟨t3_in 47 rfl, List.forall_mem_cons.mpr ⟨t3_in 49 rfl, List.forall_mem_cons.mpr ⟨t3_in 50 rfl, List.forall_mem_cons.mpr ⟨t3_in 51 rfl, List.forall_mem_cons.mpr ⟨t3_in 52 rfl, List.forall_mem_cons.mpr ⟨t3_in 53 rfl, List.forall_mem_cons.mpr ⟨t3_in 54 rfl, List.forall_mem_cons.mpr ⟨t3_in 55 rfl, List.forall_mem_cons.mpr ⟨t1_in 166 rfl, List.forall_mem_cons.mpr ⟨t1_in 167 rfl, List.forall_mem_cons.mpr ⟨t1_in 168 rfl, List.forall_mem_cons.mpr ⟨t1_in 169 rfl, List.forall_mem_cons.mpr ⟨t1_in 148 rfl, List.forall_mem_cons.mpr ⟨t1_in 187 rfl, List.forall_mem_cons.mpr ⟨t1_in 188 rfl, List.forall_mem_cons.mpr ⟨t1_in 8 rfl, List.forall_mem_cons.mpr ⟨t1_in 65 rfl, List.forall_mem_cons.mpr ⟨t1_in 42 rfl, fun _ h => absurd h List.not_mem_nil⟩⟩⟩⟩⟩⟩⟩⟩⟩⟩⟩⟩⟩⟩⟩⟩⟩⟩⟩⟩⟩⟩⟩⟩
set_option maxRecDepth 20000 in
theorem wsL_in_r5 : ∀ w ∈ wsL_law_r5, w ∈ lw_tbl := List.forall_mem_cons.mpr ⟨t1_in 170 rfl, List.forall_mem_cons.mpr ⟨t1_in 171 rfl, List.forall_mem_cons.mpr ⟨t1_in 172 rfl, List.forall_mem_cons.mpr ⟨t1_in 173 rfl, List.forall_mem_cons.mpr ⟨t1_in 174 rfl, List.forall_mem_cons.mpr ⟨t1_in 175 rfl, List.forall_mem_cons.mpr ⟨t1_in 176 rfl, List.forall_mem_cons.mpr ⟨t1_in 177 rfl, List.forall_mem_cons.mpr ⟨t1_in 178 rfl, List.forall_mem_cons.mpr ⟨t1_in 127 rfl, List.forall_mem_cons.mpr ⟨t1_in 129 rfl, List.forall_mem_cons.mpr ⟨t1_in 179 rfl, List.forall_mem_cons.mpr ⟨t1_in 181 rfl, List.forall_mem_cons.mpr ⟨s_in 0 rfl, List.forall_mem_cons.mpr ⟨t1_in 182 rfl, List.forall_mem_cons.mpr ⟨t1_in 183 rfl, List.forall_mem_cons.mpr ⟨t1_in 184 rfl, List.forall_mem_cons.mpr ⟨t1_in 185 rfl, List.forall_mem_cons.mpr ⟨t1_in 186 rfl, List.forall_mem_cons.mpr ⟨t1_in 130 rfl, List.forall_mem_cons.mpr ⟨t1_in 189 rfl, List.forall_mem_cons.mpr ⟨t1_in 190 rfl, List.forall_mem_cons.mpr ⟨t1_in 191 rfl, List.forall_mem_cons.mpr ⟨t1_in 192 rfl, fun _ h => absurd h List.not_mem_nil⟩⟩⟩⟩⟩⟩⟩⟩⟩⟩⟩⟩⟩⟩⟩⟩⟩⟩⟩⟩⟩⟩⟩⟩
set_option maxRecDepth 20000 in
theorem wsL_in_r6 : ∀ w ∈ wsL_law_r6, w ∈ lw_tbl := List.forall_mem_cons.mpr ⟨t1_in 193 rfl, List.forall_mem_cons.mpr ⟨t1_in 194 rfl, List.forall_mem_cons.mpr ⟨t1_in 195 rfl, List.forall_mem_cons.mpr ⟨t1_in 211 rfl, List.forall_mem_cons.mpr ⟨t1_in 212 rfl, List.forall_mem_cons.mpr ⟨t1_in 213 rfl, List.forall_mem_cons.mpr ⟨t1_in 214 rfl, List.forall_mem_cons.mpr ⟨t1_in 197 rfl, List.forall_mem_cons.mpr ⟨t1_in 199 rfl, List.forall_mem_cons.mpr ⟨t1_in 215 rfl, List.forall_mem_cons.mpr ⟨t1_in 217 rfl, List.forall_mem_cons.mpr ⟨s_in 1 rfl, List.forall_mem_cons.mpr ⟨t1_in 218 rfl, List.forall_mem_cons.mpr ⟨t1_in 124 rfl, List.forall_mem_cons.mpr ⟨t1_in 220 rfl, List.forall_mem_cons.mpr ⟨t1_in 222 rfl, List.forall_mem_cons.mpr ⟨s_in 2 rfl, List.forall_mem_cons.mpr ⟨t1_in 223 rfl, List.forall_mem_cons.mpr ⟨t1_in 224 rfl, List.forall_mem_cons.mpr ⟨t1_in 226 rfl, List.forall_mem_cons.mpr ⟨s_in 3 rfl, List.forall_mem_cons.mpr ⟨t1_in 227 rfl, List.forall_mem_cons.mpr ⟨t1_in 228 rfl, List.forall_mem_cons.mpr ⟨t1_in 229 rfl, fun _ h => absurd h List.not_mem_nil⟩⟩⟩⟩⟩⟩⟩⟩⟩⟩⟩⟩⟩⟩⟩⟩⟩⟩⟩⟩⟩⟩⟩⟩
set_option maxRecDepth 20000 in
theorem wsL_in_r7 : ∀ w ∈ wsL_law_r7, w ∈ lw_tbl := List.forall_mem_cons.mpr ⟨t1_in 230 rfl, List.forall_mem_cons.mpr ⟨t1_in 231 rfl, List.forall_mem_cons.mpr ⟨t1_in 196 rfl, List.forall_mem_cons.mpr ⟨t1_in 37 rfl, List.forall_mem_cons.mpr ⟨t1_in 198 rfl, List.forall_mem_cons.mpr ⟨t1_in 40 rfl, List.forall_mem_cons.mpr ⟨t1_in 232 rfl, List.forall_mem_cons.mpr ⟨t1_in 233 rfl, List.forall_mem_cons.mpr ⟨t1_in 234 rfl, List.forall_mem_cons.mpr ⟨t1_in 235 rfl, List.forall_mem_cons.mpr ⟨t1_in 236 rfl, List.forall_mem_cons.mpr ⟨t1_in 237 rfl, List.forall_mem_cons.mpr ⟨t1_in 238 rfl, List.forall_mem_cons.mpr ⟨t1_in 239 rfl, List.forall_mem_cons.mpr ⟨t2_in 0 rfl, List.forall_mem_cons.mpr ⟨t2_in 1 rfl, List.forall_mem_cons.mpr ⟨t2_in 2 rfl, List.forall_mem_cons.mpr ⟨t2_in 3 rfl, List.forall_mem_cons.mpr ⟨t3_in 118 rfl, List.forall_mem_cons.mpr ⟨t3_in 119 rfl, List.forall_mem_cons.mpr ⟨t3_in 120 rfl, List.forall_mem_cons.mpr ⟨t3_in 121 rfl, List.forall_mem_cons.mpr ⟨t3_in 133 rfl, List.forall_mem_cons.mpr ⟨t3_in 35 rfl, fun _ h => absurd h List.not_mem_nil⟩⟩⟩⟩⟩⟩⟩⟩⟩⟩⟩⟩⟩⟩⟩⟩⟩⟩⟩⟩⟩⟩⟩⟩
set_option maxRecDepth 20000 in
theorem wsL_in_r8 : ∀ w ∈ wsL_law_r8, w ∈ lw_tbl := List.forall_mem_cons.mpr ⟨t3_in 36 rfl, List.forall_mem_cons.mpr ⟨t3_in 28 rfl, List.forall_mem_cons.mpr ⟨t3_in 37 rfl, List.forall_mem_cons.mpr ⟨t3_in 32 rfl, List.forall_mem_cons.mpr ⟨t3_in 48 rfl, List.forall_mem_cons.mpr ⟨t3_in 122 rfl, List.forall_mem_cons.mpr ⟨t3_in 123 rfl, List.forall_mem_cons.mpr ⟨t3_in 124 rfl, List.forall_mem_cons.mpr ⟨t3_in 125 rfl, List.forall_mem_cons.mpr ⟨t3_in 126 rfl, List.forall_mem_cons.mpr ⟨t3_in 127 rfl, List.forall_mem_cons.mpr ⟨t3_in 128 rfl, List.forall_mem_cons.mpr ⟨t3_in 129 rfl, List.forall_mem_cons.mpr ⟨t3_in 131 rfl, List.forall_mem_cons.mpr ⟨s_in 15 rfl, List.forall_mem_cons.mpr ⟨t3_in 132 rfl, List.forall_mem_cons.mpr ⟨t3_in 27 rfl, List.forall_mem_cons.mpr ⟨t3_in 134 rfl, List.forall_mem_cons.mpr ⟨t3_in 136 rfl, List.forall_mem_cons.mpr ⟨s_in 16 rfl, List.forall_mem_cons.mpr ⟨t3_in 137 rfl, List.forall_mem_cons.mpr ⟨t3_in 138 rfl, List.forall_mem_cons.mpr ⟨t3_in 140 rfl, List.forall_mem_cons.mpr ⟨s_in 17 rfl, fun _ h => absurd h List.not_mem_nil⟩⟩⟩⟩⟩⟩⟩⟩⟩⟩⟩⟩⟩⟩⟩⟩⟩⟩⟩⟩⟩⟩⟩⟩
set_option maxRecDepth 20000 in
theorem wsL_in_r9 : ∀ w ∈ wsL_law_r9, w ∈ lw_tbl := List.forall_mem_cons.mpr ⟨t3_in 141 rfl, List.forall_mem_cons.mpr ⟨t3_in 142 rfl, List.forall_mem_cons.mpr ⟨t3_in 143 rfl, List.forall_mem_cons.mpr ⟨t3_in 144 rfl, List.forall_mem_cons.mpr ⟨t3_in 145 rfl, List.forall_mem_cons.mpr ⟨t3_in 147 rfl, List.forall_mem_cons.mpr ⟨s_in 18 rfl, List.forall_mem_cons.mpr ⟨t3_in 148 rfl, List.forall_mem_cons.mpr ⟨t3_in 149 rfl, List.forall_mem_cons.mpr ⟨t3_in 151 rfl, List.forall_mem_cons.mpr ⟨s_in 19 rfl, List.forall_mem_cons.mpr ⟨t3_in 152 rfl, List.forall_mem_cons.mpr ⟨t3_in 153 rfl, List.forall_mem_cons.mpr ⟨t3_in 155 rfl, List.forall_mem_cons.mpr ⟨s_in 20 rfl, List.forall_mem_cons.mpr ⟨t3_in 156 rfl, List.forall_mem_cons.mpr ⟨t3_in 157 rfl, List.forall_mem_cons.mpr ⟨t3_in 159 rfl, List.forall_mem_cons.mpr ⟨s_in 21 rfl, List.forall_mem_cons.mpr ⟨t3_in 160 rfl, List.forall_mem_cons.mpr ⟨t3_in 161 rfl, List.forall_mem_cons.mpr ⟨t3_in 163 rfl, List.forall_mem_cons.mpr ⟨s_in 22 rfl, List.forall_mem_cons.mpr ⟨t3_in 164 rfl, fun _ h => absurd h List.not_mem_nil⟩⟩⟩⟩⟩⟩⟩⟩⟩⟩⟩⟩⟩⟩⟩⟩⟩⟩⟩⟩⟩⟩⟩⟩
set_option maxRecDepth 20000 in
theorem wsL_in_r10 : ∀ w ∈ wsL_law_r10, w ∈ lw_tbl := List.forall_mem_cons.mpr ⟨t2_in 4 rfl, List.forall_mem_cons.mpr ⟨t2_in 5 rfl, List.forall_mem_cons.mpr ⟨t2_in 6 rfl, List.forall_mem_cons.mpr ⟨t2_in 7 rfl, List.forall_mem_cons.mpr ⟨t1_in 31 rfl, List.forall_mem_cons.mpr ⟨t2_in 8 rfl, List.forall_mem_cons.mpr ⟨t2_in 9 rfl, List.forall_mem_cons.mpr ⟨t2_in 10 rfl, List.forall_mem_cons.mpr ⟨t2_in 11 rfl, List.forall_mem_cons.mpr ⟨t3_in 165 rfl, List.forall_mem_cons.mpr ⟨t3_in 166 rfl, List.forall_mem_cons.mpr ⟨t3_in 167 rfl, List.forall_mem_cons.mpr ⟨t3_in 168 rfl, List.forall_mem_cons.mpr ⟨t3_in 169 rfl, List.forall_mem_cons.mpr ⟨t3_in 171 rfl, List.forall_mem_cons.mpr ⟨s_in 23 rfl, List.forall_mem_cons.mpr ⟨t3_in 172 rfl, List.forall_mem_cons.mpr ⟨t3_in 173 rfl, List.forall_mem_cons.mpr ⟨t3_in 175 rfl, List.forall_mem_cons.mpr ⟨s_in 24 rfl, List.forall_mem_cons.mpr ⟨t3_in 176 rfl, List.forall_mem_cons.mpr ⟨t2_in 13 rfl, List.forall_mem_cons.mpr ⟨t2_in 14 rfl, List.forall_mem_cons.mpr ⟨t2_in 15 rfl, fun _ h => absurd h List.not_mem_nil⟩⟩⟩⟩⟩⟩⟩⟩⟩⟩⟩⟩⟩⟩⟩⟩⟩⟩⟩⟩⟩⟩⟩⟩
set_option maxRecDepth 20000 in
theorem wsL_in_r11 : ∀ w ∈ wsL_law_r11, w ∈ lw_tbl := List.forall_mem_cons.mpr ⟨t2_in 16 rfl, List.forall_mem_cons.mpr ⟨t1_in 33 rfl, List.forall_mem_cons.mpr ⟨t1_in 36 rfl, List.forall_mem_cons.mpr ⟨t2_in 17 rfl, List.forall_mem_cons.mpr ⟨t2_in 18 rfl, List.forall_mem_cons.mpr ⟨t2_in 19 rfl, List.forall_mem_cons.mpr ⟨t2_in 20 rfl, List.forall_mem_cons.mpr ⟨t2_in 21 rfl, List.forall_mem_cons.mpr ⟨t2_in 22 rfl, List.forall_mem_cons.mpr ⟨t2_in 23 rfl, List.forall_mem_cons.mpr ⟨t2_in 24 rfl, List.forall_mem_cons.mpr ⟨t2_in 25 rfl, List.forall_mem_cons.mpr ⟨t2_in 26 rfl, List.forall_mem_cons.mpr ⟨t2_in 27 rfl, List.forall_mem_cons.mpr ⟨t2_in 28 rfl, List.forall_mem_cons.mpr ⟨t2_in 29 rfl, List.forall_mem_cons.mpr ⟨t2_in 30 rfl, List.forall_mem_cons.mpr ⟨t2_in 31 rfl, List.forall_mem_cons.mpr ⟨t2_in 32 rfl, List.forall_mem_cons.mpr ⟨t2_in 33 rfl, List.forall_mem_cons.mpr ⟨t2_in 34 rfl, List.forall_mem_cons.mpr ⟨t2_in 35 rfl, List.forall_mem_cons.mpr ⟨t2_in 36 rfl, List.forall_mem_cons.mpr ⟨t2_in 37 rfl, fun _ h => absurd h List.not_mem_nil⟩⟩⟩⟩⟩⟩⟩⟩⟩⟩⟩⟩⟩⟩⟩⟩⟩⟩⟩⟩⟩⟩⟩⟩
set_option maxRecDepth 20000 in
theorem wsL_in_r12 : ∀ w ∈ wsL_law_r12, w ∈ lw_tbl := List.forall_mem_cons.mpr ⟨t2_in 38 rfl, List.forall_mem_cons.mpr ⟨t2_in 39 rfl, List.forall_mem_cons.mpr ⟨t2_in 40 rfl, List.forall_mem_cons.mpr ⟨t3_in 177 rfl, List.forall_mem_cons.mpr ⟨t3_in 178 rfl, List.forall_mem_cons.mpr ⟨t3_in 179 rfl, List.forall_mem_cons.mpr ⟨t3_in 180 rfl, List.forall_mem_cons.mpr ⟨t3_in 181 rfl, List.forall_mem_cons.mpr ⟨t3_in 183 rfl, List.forall_mem_cons.mpr ⟨s_in 25 rfl, List.forall_mem_cons.mpr ⟨t3_in 184 rfl, List.forall_mem_cons.mpr ⟨t3_in 185 rfl, List.forall_mem_cons.mpr ⟨t3_in 187 rfl, List.forall_mem_cons.mpr ⟨s_in 26 rfl, List.forall_mem_cons.mpr ⟨t3_in 188 rfl, List.forall_mem_cons.mpr ⟨t3_in 189 rfl, List.forall_mem_cons.mpr ⟨t3_in 191 rfl, List.forall_mem_cons.mpr ⟨s_in 27 rfl, List.forall_mem_cons.mpr ⟨t3_in 192 rfl, List.forall_mem_cons.mpr ⟨t3_in 193 rfl, List.forall_mem_cons.mpr ⟨t3_in 195 rfl, List.forall_mem_cons.mpr ⟨s_in 28 rfl, List.forall_mem_cons.mpr ⟨t3_in 196 rfl, List.forall_mem_cons.mpr ⟨t2_in 41 rfl, fun _ h => absurd h List.not_mem_nil⟩⟩⟩⟩⟩⟩⟩⟩⟩⟩⟩⟩⟩⟩⟩⟩⟩⟩⟩⟩⟩⟩⟩⟩
set_option maxRecDepth 20000 in
theorem wsL_in_r13 : ∀ w ∈ wsL_law_r13, w ∈ lw_tbl := List.forall_mem_cons.mpr ⟨t2_in 42 rfl, List.forall_mem_cons.mpr ⟨t2_in 43 rfl, List.forall_mem_cons.mpr ⟨t2_in 44 rfl, List.forall_mem_cons.mpr ⟨t2_in 45 rfl, List.forall_mem_cons.mpr ⟨t3_in 197 rfl, List.forall_mem_cons.mpr ⟨t3_in 198 rfl, List.forall_mem_cons.mpr ⟨t3_in 199 rfl, List.forall_mem_cons.mpr ⟨t3_in 200 rfl, List.forall_mem_cons.mpr ⟨t2_in 46 rfl, List.forall_mem_cons.mpr ⟨t2_in 47 rfl, List.forall_mem_cons.mpr ⟨t2_in 48 rfl, List.forall_mem_cons.mpr ⟨t2_in 49 rfl, List.forall_mem_cons.mpr ⟨t3_in 201 rfl, List.forall_mem_cons.mpr ⟨t3_in 202 rfl, List.forall_mem_cons.mpr ⟨t3_in 203 rfl, List.forall_mem_cons.mpr ⟨t3_in 204 rfl, List.forall_mem_cons.mpr ⟨t3_in 205 rfl, List.forall_mem_cons.mpr ⟨t2_in 50 rfl, List.forall_mem_cons.mpr ⟨t2_in 51 rfl, List.forall_mem_cons.mpr ⟨t2_in 52 rfl, List.forall_mem_cons.mpr ⟨t2_in 53 rfl, List.forall_mem_cons.mpr ⟨t3_in 206 rfl, List.forall_mem_cons.mpr ⟨t3_in 207 rfl, List.forall_mem_cons.mpr ⟨t3_in 208 rfl, fun _ h => absurd h List.not_mem_nil⟩⟩⟩⟩⟩⟩⟩⟩⟩⟩⟩⟩⟩⟩⟩⟩⟩⟩⟩⟩⟩⟩⟩⟩
set_option maxRecDepth 20000 in
theorem wsL_in_r14 : ∀ w ∈ wsL_law_r14, w ∈ lw_tbl := List.forall_mem_cons.mpr ⟨t3_in 209 rfl, List.forall_mem_cons.mpr ⟨t2_in 54 rfl, List.forall_mem_cons.mpr ⟨t2_in 55 rfl, List.forall_mem_cons.mpr ⟨t2_in 56 rfl, List.forall_mem_cons.mpr ⟨t2_in 57 rfl, List.forall_mem_cons.mpr ⟨t2_in 58 rfl, List.forall_mem_cons.mpr ⟨t2_in 59 rfl, List.forall_mem_cons.mpr ⟨t2_in 60 rfl, List.forall_mem_cons.mpr ⟨t2_in 61 rfl, List.forall_mem_cons.mpr ⟨t2_in 62 rfl, List.forall_mem_cons.mpr ⟨t2_in 63 rfl, List.forall_mem_cons.mpr ⟨t2_in 64 rfl, List.forall_mem_cons.mpr ⟨t2_in 65 rfl, List.forall_mem_cons.mpr ⟨t2_in 67 rfl, List.forall_mem_cons.mpr ⟨s_in 4 rfl, List.forall_mem_cons.mpr ⟨t2_in 68 rfl, List.forall_mem_cons.mpr ⟨t1_in 125 rfl, List.forall_mem_cons.mpr ⟨t2_in 69 rfl, List.forall_mem_cons.mpr ⟨t2_in 70 rfl, List.forall_mem_cons.mpr ⟨t2_in 71 rfl, List.forall_mem_cons.mpr ⟨t2_in 72 rfl, List.forall_mem_cons.mpr ⟨t1_in 102 rfl, List.forall_mem_cons.mpr ⟨t1_in 104 rfl, List.forall_mem_cons.mpr ⟨t1_in 106 rfl, fun _ h => absurd h List.not_mem_nil⟩⟩⟩⟩⟩⟩⟩⟩⟩⟩⟩⟩⟩⟩⟩⟩⟩⟩⟩⟩⟩⟩⟩⟩
set_option maxRecDepth 20000 in
theorem wsL_in_r15 : ∀ w ∈ wsL_law_r15, w ∈ lw_tbl := List.forall_mem_cons.mpr ⟨t1_in 41 rfl, List.forall_mem_cons.mpr ⟨t1_in 35 rfl, List.forall_mem_cons.mpr ⟨t1_in 123 rfl, List.forall_mem_cons.mpr ⟨t2_in 73 rfl, List.forall_mem_cons.mpr ⟨t2_in 75 rfl, List.forall_mem_cons.mpr ⟨s_in 5 rfl, List.forall_mem_cons.mpr ⟨t2_in 76 rfl, List.forall_mem_cons.mpr ⟨t2_in 77 rfl, List.forall_mem_cons.mpr ⟨t2_in 78 rfl, List.forall_mem_cons.mpr ⟨t2_in 79 rfl, List.forall_mem_cons.mpr ⟨t2_in 80 rfl, List.forall_mem_cons.mpr ⟨t2_in 82 rfl, List.forall_mem_cons.mpr ⟨s_in 6 rfl, List.forall_mem_cons.mpr ⟨t2_in 83 rfl, List.forall_mem_cons.mpr ⟨t1_in 107 rfl, List.forall_mem_cons.mpr ⟨t2_in 84 rfl, List.forall_mem_cons.mpr ⟨t1_in 103 rfl, List.forall_mem_cons.mpr ⟨t1_in 105 rfl, List.forall_mem_cons.mpr ⟨t1_in 101 rfl, List.forall_mem_cons.mpr ⟨t3_in 210 rfl, List.forall_mem_cons.mpr ⟨t3_in 211 rfl, List.forall_mem_cons.mpr ⟨t3_in 212 rfl, List.forall_mem_cons.mpr ⟨t3_in 213 rfl, List.forall_mem_cons.mpr ⟨t3_in 214 rfl, fun _ h => absurd h List.not_mem_nil⟩⟩⟩⟩⟩⟩⟩⟩⟩⟩⟩⟩⟩⟩⟩⟩⟩⟩⟩⟩⟩⟩⟩⟩
set_option maxRecDepth 20000 in
theorem wsL_in_r16 : ∀ w ∈ wsL_law_r16, w ∈ lw_tbl := List.forall_mem_cons.mpr ⟨t3_in 215 rfl, List.forall_mem_cons.mpr ⟨t3_in 216 rfl, List.forall_mem_cons.mpr ⟨t3_in 43 rfl, List.forall_mem_cons.mpr ⟨t3_in 221 rfl, List.forall_mem_cons.mpr ⟨t3_in 44 rfl, List.forall_mem_cons.mpr ⟨t3_in 45 rfl, List.forall_mem_cons.mpr ⟨t3_in 217 rfl, List.forall_mem_cons.mpr ⟨t3_in 219 rfl, List.forall_mem_cons.mpr ⟨s_in 29 rfl, List.forall_mem_cons.mpr ⟨t3_in 220 rfl, List.forall_mem_cons.mpr ⟨t2_in 85 rfl, List.forall_mem_cons.mpr ⟨t2_in 86 rfl, List.forall_mem_cons.mpr ⟨t2_in 87 rfl, List.forall_mem_cons.mpr ⟨t2_in 88 rfl, List.forall_mem_cons.mpr ⟨t2_in 89 rfl, List.forall_mem_cons.mpr ⟨t1_in 85 rfl, List.forall_mem_cons.mpr ⟨t1_in 87 rfl, List.forall_mem_cons.mpr ⟨t2_in 90 rfl, List.forall_mem_cons.mpr ⟨t2_in 91 rfl, List.forall_mem_cons.mpr ⟨t2_in 92 rfl, List.forall_mem_cons.mpr ⟨t2_in 93 rfl, List.forall_mem_cons.mpr ⟨t1_in 38 rfl, List.forall_mem_cons.mpr ⟨t2_in 94 rfl, List.forall_mem_cons.mpr ⟨t2_in 96 rfl, fun _ h => absurd h List.not_mem_nil⟩⟩⟩⟩⟩⟩⟩⟩⟩⟩⟩⟩⟩⟩⟩⟩⟩⟩⟩⟩⟩⟩⟩⟩
set_option maxRecDepth 20000 in
theorem wsL_in_r17 : ∀ w ∈ wsL_law_r17, w ∈ lw_tbl := List.forall_mem_cons.mpr ⟨s_in 7 rfl, List.forall_mem_cons.mpr ⟨t2_in 97 rfl, List.forall_mem_cons.mpr ⟨t2_in 111 rfl, List.forall_mem_cons.mpr ⟨t2_in 112 rfl, List.forall_mem_cons.mpr ⟨t1_in 9 rfl, List.forall_mem_cons.mpr ⟨t2_in 113 rfl, List.forall_mem_cons.mpr ⟨t2_in 98 rfl, List.forall_mem_cons.mpr ⟨t2_in 99 rfl, List.forall_mem_cons.mpr ⟨t2_in 100 rfl, List.forall_mem_cons.mpr ⟨t2_in 101 rfl, List.forall_mem_cons.mpr ⟨t2_in 103 rfl, List.forall_mem_cons.mpr ⟨t2_in 104 rfl, List.forall_mem_cons.mpr ⟨t2_in 105 rfl, List.forall_mem_cons.mpr ⟨t2_in 102 rfl, List.forall_mem_cons.mpr ⟨t2_in 106 rfl, List.forall_mem_cons.mpr ⟨t2_in 107 rfl, List.forall_mem_cons.mpr ⟨t2_in 108 rfl, List.forall_mem_cons.mpr ⟨t2_in 109 rfl, List.forall_mem_cons.mpr ⟨t2_in 110 rfl, List.forall_mem_cons.mpr ⟨t2_in 114 rfl, List.forall_mem_cons.mpr ⟨t2_in 115 rfl, List.forall_mem_cons.mpr ⟨t2_in 116 rfl, List.forall_mem_cons.mpr ⟨t2_in 117 rfl, List.forall_mem_cons.mpr ⟨t2_in 118 rfl, fun _ h => absurd h List.not_mem_nil⟩⟩⟩⟩⟩⟩⟩⟩⟩⟩⟩⟩⟩⟩⟩⟩⟩⟩⟩⟩⟩⟩⟩⟩
set_option maxRecDepth 20000 in
theorem wsL_in_r18 : ∀ w ∈ wsL_law_r18, w ∈ lw_tbl := List.forall_mem_cons.mpr ⟨t2_in 119 rfl, List.forall_mem_cons.mpr ⟨t3_in 222 rfl, List.forall_mem_cons.mpr ⟨t3_in 223 rfl, List.forall_mem_cons.mpr ⟨t3_in 224 rfl, List.forall_mem_cons.mpr ⟨t3_in 225 rfl, List.forall_mem_cons.mpr ⟨t3_in 226 rfl, List.forall_mem_cons.mpr ⟨t3_in 227 rfl, List.forall_mem_cons.mpr ⟨t3_in 228 rfl, List.forall_mem_cons.mpr ⟨t3_in 229 rfl, List.forall_mem_cons.mpr ⟨t3_in 230 rfl, List.forall_mem_cons.mpr ⟨t3_in 231 rfl, List.forall_mem_cons.mpr ⟨t3_in 233 rfl, List.forall_mem_cons.mpr ⟨s_in 30 rfl, List.forall_mem_cons.mpr ⟨t3_in 234 rfl, List.forall_mem_cons.mpr ⟨t3_in 235 rfl, List.forall_mem_cons.mpr ⟨t3_in 237 rfl, List.forall_mem_cons.mpr ⟨s_in 31 rfl, List.forall_mem_cons.mpr ⟨t3_in 238 rfl, List.forall_mem_cons.mpr ⟨t3_in 239 rfl, List.forall_mem_cons.mpr ⟨t4_in 1 rfl, List.forall_mem_cons.mpr ⟨s_in 32 rfl, List.forall_mem_cons.mpr ⟨t4_in 2 rfl, List.forall_mem_cons.mpr ⟨t4_in 3 rfl, List.forall_mem_cons.mpr ⟨t4_in 5 rfl, fun _ h => absurd h List.not_mem_nil⟩⟩⟩⟩⟩⟩⟩⟩⟩⟩⟩⟩⟩⟩⟩⟩⟩⟩⟩⟩⟩⟩⟩⟩
set_option maxRecDepth 20000 in
theorem wsL_in_r19 : ∀ w ∈ wsL_law_r19, w ∈ lw_tbl := List.forall_mem_cons.mpr ⟨s_in 33 rfl, List.forall_mem_cons.mpr ⟨t4_in 6 rfl, List.forall_mem_cons.mpr ⟨t4_in 7 rfl, List.forall_mem_cons.mpr ⟨t4_in 8 rfl, List.forall_mem_cons.mpr ⟨t4_in 9 rfl, List.forall_mem_cons.mpr ⟨t2_in 120 rfl, List.forall_mem_cons.mpr ⟨t2_in 121 rfl, List.forall_mem_cons.mpr ⟨t2_in 122 rfl, List.forall_mem_cons.mpr ⟨t2_in 123 rfl, List.forall_mem_cons.mpr ⟨t1_in 39 rfl, List.forall_mem_cons.mpr ⟨t2_in 124 rfl, List.forall_mem_cons.mpr ⟨t2_in 125 rfl, List.forall_mem_cons.mpr ⟨t4_in 10 rfl, List.forall_mem_cons.mpr ⟨t4_in 11 rfl, List.forall_mem_cons.mpr ⟨t4_in 12 rfl, List.forall_mem_cons.mpr ⟨t4_in 13 rfl, List.forall_mem_cons.mpr ⟨t2_in 126 rfl, List.forall_mem_cons.mpr ⟨t2_in 127 rfl, List.forall_mem_cons.mpr ⟨t2_in 128 rfl, List.forall_mem_cons.mpr ⟨t2_in 129 rfl, List.forall_mem_cons.mpr ⟨t2_in 130 rfl, List.forall_mem_cons.mpr ⟨t2_in 132 rfl, List.forall_mem_cons.mpr ⟨s_in 8 rfl, List.forall_mem_cons.mpr ⟨t2_in 133 rfl, fun _ h => absurd h List.not_mem_nil⟩⟩⟩⟩⟩⟩⟩⟩⟩⟩⟩⟩⟩⟩⟩⟩⟩⟩⟩⟩⟩⟩⟩⟩
set_option maxRecDepth 20000 in
theorem wsL_in_r20 : ∀ w ∈ wsL_law_r20, w ∈ lw_tbl := List.forall_mem_cons.mpr ⟨t2_in 134 rfl, List.forall_mem_cons.mpr ⟨t2_in 136 rfl, List.forall_mem_cons.mpr ⟨s_in 9 rfl, List.forall_mem_cons.mpr ⟨t2_in 137 rfl, List.forall_mem_cons.mpr ⟨t4_in 14 rfl, List.forall_mem_cons.mpr ⟨t4_in 15 rfl, List.forall_mem_cons.mpr ⟨t4_in 16 rfl, List.forall_mem_cons.mpr ⟨t4_in 17 rfl, List.forall_mem_cons.mpr ⟨t4_in 18 rfl, List.forall_mem_cons.mpr ⟨t4_in 19 rfl, List.forall_mem_cons.mpr ⟨t4_in 21 rfl, List.forall_mem_cons.mpr ⟨s_in 34 rfl, List.forall_mem_cons.mpr ⟨t4_in 22 rfl, List.forall_mem_cons.mpr ⟨t2_in 138 rfl, List.forall_mem_cons.mpr ⟨t2_in 139 rfl, List.forall_mem_cons.mpr ⟨t2_in 140 rfl, List.forall_mem_cons.mpr ⟨t2_in 141 rfl, List.forall_mem_cons.mpr ⟨t2_in 142 rfl, List.forall_mem_cons.mpr ⟨t2_in 143 rfl, List.forall_mem_cons.mpr ⟨t1_in 10 rfl, List.forall_mem_cons.mpr ⟨t2_in 144 rfl, List.forall_mem_cons.mpr ⟨t2_in 145 rfl, List.forall_mem_cons.mpr ⟨t2_in 146 rfl, List.forall_mem_cons.mpr ⟨t2_in 147 rfl, fun _ h => absurd h List.not_mem_nil⟩⟩⟩⟩⟩⟩⟩⟩⟩⟩⟩⟩⟩⟩⟩⟩⟩⟩⟩⟩⟩⟩⟩⟩
set_option maxRecDepth 20000 in
theorem wsL_in_r21 : ∀ w ∈ wsL_law_r21, w ∈ lw_tbl := List.forall_mem_cons.mpr ⟨t4_in 23 rfl, List.forall_mem_cons.mpr ⟨t4_in 24 rfl, List.forall_mem_cons.mpr ⟨t4_in 25 rfl, List.forall_mem_cons.mpr ⟨t4_in 26 rfl, List.forall_mem_cons.mpr ⟨t4_in 27 rfl, List.forall_mem_cons.mpr ⟨t4_in 28 rfl, List.forall_mem_cons.mpr ⟨t4_in 29 rfl, List.forall_mem_cons.mpr ⟨t2_in 148 rfl, List.forall_mem_cons.mpr ⟨t2_in 149 rfl, List.forall_mem_cons.mpr ⟨t2_in 150 rfl, List.forall_mem_cons.mpr ⟨t2_in 151 rfl, List.forall_mem_cons.mpr ⟨t2_in 152 rfl, List.forall_mem_cons.mpr ⟨t2_in 153 rfl, List.forall_mem_cons.mpr ⟨t2_in 154 rfl, List.forall_mem_cons.mpr ⟨t2_in 155 rfl, List.forall_mem_cons.mpr ⟨t1_in 64 rfl, List.forall_mem_cons.mpr ⟨t4_in 30 rfl, List.forall_mem_cons.mpr ⟨t4_in 31 rfl, List.forall_mem_cons.mpr ⟨t4_in 32 rfl, List.forall_mem_cons.mpr ⟨t4_in 33 rfl, List.forall_mem_cons.mpr ⟨t2_in 156 rfl, List.forall_mem_cons.mpr ⟨t2_in 157 rfl, List.forall_mem_cons.mpr ⟨t2_in 158 rfl, List.forall_mem_cons.mpr ⟨t2_in 159 rfl, fun _ h => absurd h List.not_mem_nil⟩⟩⟩⟩⟩⟩⟩⟩⟩⟩⟩⟩⟩⟩⟩⟩⟩⟩⟩⟩⟩⟩⟩⟩
set_option maxRecDepth 20000 in
theorem wsL_in_r22 : ∀ w ∈ wsL_law_r22, w ∈ lw_tbl := List.forall_mem_cons.mpr ⟨t4_in 34 rfl, List.forall_mem_cons.mpr ⟨t4_in 35 rfl, List.forall_mem_cons.mpr ⟨t4_in 36 rfl, List.forall_mem_cons.mpr ⟨t4_in 37 rfl, List.forall_mem_cons.mpr ⟨t2_in 160 rfl, List.forall_mem_cons.mpr ⟨t2_in 161 rfl, List.forall_mem_cons.mpr ⟨t2_in 162 rfl, List.forall_mem_cons.mpr ⟨t2_in 163 rfl, List.forall_mem_cons.mpr ⟨t2_in 164 rfl, List.forall_mem_cons.mpr ⟨t2_in 165 rfl, List.forall_mem_cons.mpr ⟨t2_in 166 rfl, List.forall_mem_cons.mpr ⟨t2_in 167 rfl, List.forall_mem_cons.mpr ⟨t2_in 168 rfl, List.forall_mem_cons.mpr ⟨t2_in 170 rfl, List.forall_mem_cons.mpr ⟨s_in 10 rfl, List.forall_mem_cons.mpr ⟨t2_in 171 rfl, List.forall_mem_cons.mpr ⟨t2_in 172 rfl, List.forall_mem_cons.mpr ⟨t4_in 38 rfl, List.forall_mem_cons.mpr ⟨t4_in 39 rfl, List.forall_mem_cons.mpr ⟨t4_in 40 rfl, List.forall_mem_cons.mpr ⟨t4_in 41 rfl, List.forall_mem_cons.mpr ⟨t4_in 42 rfl, List.forall_mem_cons.mpr ⟨t4_in 44 rfl, List.forall_mem_cons.mpr ⟨s_in 35 rfl, fun _ h => absurd h List.not_mem_nil⟩⟩⟩⟩⟩⟩⟩⟩⟩⟩⟩⟩⟩⟩⟩⟩⟩⟩⟩⟩⟩⟩⟩⟩
set_option maxRecDepth 20000 in
theorem wsL_in_r23 : ∀ w ∈ wsL_law_r23, w ∈ lw_tbl := List.forall_mem_cons.mpr ⟨t4_in 45 rfl, List.forall_mem_cons.mpr ⟨t2_in 173 rfl, List.forall_mem_cons.mpr ⟨t2_in 174 rfl, List.forall_mem_cons.mpr ⟨t2_in 175 rfl, List.forall_mem_cons.mpr ⟨t2_in 176 rfl, List.forall_mem_cons.mpr ⟨t4_in 46 rfl, List.forall_mem_cons.mpr ⟨t4_in 47 rfl, List.forall_mem_cons.mpr ⟨t4_in 48 rfl, List.forall_mem_cons.mpr ⟨t4_in 49 rfl, List.forall_mem_cons.mpr ⟨t2_in 177 rfl, List.forall_mem_cons.mpr ⟨t2_in 178 rfl, List.forall_mem_cons.mpr ⟨t2_in 179 rfl, List.forall_mem_cons.mpr ⟨t2_in 180 rfl, List.forall_mem_cons.mpr ⟨t4_in 50 rfl, List.forall_mem_cons.mpr ⟨t4_in 51 rfl, List.forall_mem_cons.mpr ⟨t4_in 52 rfl, List.forall_mem_cons.mpr ⟨t4_in 53 rfl, List.forall_mem_cons.mpr ⟨t2_in 181 rfl, List.forall_mem_cons.mpr ⟨t2_in 182 rfl, List.forall_mem_cons.mpr ⟨t2_in 183 rfl, List.forall_mem_cons.mpr ⟨t2_in 184 rfl, List.forall_mem_cons.mpr ⟨t2_in 185 rfl, List.forall_mem_cons.mpr ⟨t4_in 54 rfl, List.forall_mem_cons.mpr ⟨t4_in 55 rfl, fun _ h => absurd h List.not_mem_nil⟩⟩⟩⟩⟩⟩⟩⟩⟩⟩⟩⟩⟩⟩⟩⟩⟩⟩⟩⟩⟩⟩⟩⟩
set_option maxRecDepth 20000 in
theorem wsL_in_r24 : ∀ w ∈ wsL_law_r24, w ∈ lw_tbl := List.forall_mem_cons.mpr ⟨t4_in 56 rfl, List.forall_mem_cons.mpr ⟨t4_in 57 rfl, List.forall_mem_cons.mpr ⟨t4_in 58 rfl, List.forall_mem_cons.mpr ⟨t4_in 59 rfl, List.forall_mem_cons.mpr ⟨t4_in 60 rfl, List.forall_mem_cons.mpr ⟨t2_in 186 rfl, List.forall_mem_cons.mpr ⟨t2_in 187 rfl, List.forall_mem_cons.mpr ⟨t2_in 188 rfl, List.forall_mem_cons.mpr ⟨t2_in 189 rfl, List.forall_mem_cons.mpr ⟨t2_in 190 rfl, List.forall_mem_cons.mpr ⟨t2_in 191 rfl, List.forall_mem_cons.mpr ⟨t2_in 192 rfl, List.forall_mem_cons.mpr ⟨t2_in 193 rfl, List.forall_mem_cons.mpr ⟨t1_in 126 rfl, List.forall_mem_cons.mpr ⟨t1_in 128 rfl, List.forall_mem_cons.mpr ⟨t4_in 61 rfl, List.forall_mem_cons.mpr ⟨t4_in 62 rfl, List.forall_mem_cons.mpr ⟨t4_in 63 rfl, List.forall_mem_cons.mpr ⟨t4_in 64 rfl, List.forall_mem_cons.mpr ⟨t2_in 194 rfl, List.forall_mem_cons.mpr ⟨t2_in 195 rfl, List.forall_mem_cons.mpr ⟨t2_in 196 rfl, List.forall_mem_cons.mpr ⟨t2_in 197 rfl, List.forall_mem_cons.mpr ⟨t4_in 65 rfl, fun _ h => absurd h List.not_mem_nil⟩⟩⟩⟩⟩⟩⟩⟩⟩⟩⟩⟩⟩⟩⟩⟩⟩⟩⟩⟩⟩⟩⟩⟩
set_option maxRecDepth 20000 in
theorem wsL_in_r25 : ∀ w ∈ wsL_law_r25, w ∈ lw_tbl := List.forall_mem_cons.mpr ⟨t4_in 66 rfl, List.forall_mem_cons.mpr ⟨t4_in 67 rfl, List.forall_mem_cons.mpr ⟨t4_in 68 rfl, List.forall_mem_cons.mpr ⟨t2_in 198 rfl, List.forall_mem_cons.mpr ⟨t2_in 199 rfl, List.forall_mem_cons.mpr ⟨t2_in 200 rfl, List.forall_mem_cons.mpr ⟨t2_in 201 rfl, List.forall_mem_cons.mpr ⟨t1_in 131 rfl, List.forall_mem_cons.mpr ⟨t2_in 202 rfl, List.forall_mem_cons.mpr ⟨t2_in 203 rfl, List.forall_mem_cons.mpr ⟨t2_in 204 rfl, List.forall_mem_cons.mpr ⟨t2_in 205 rfl, List.forall_mem_cons.mpr ⟨t4_in 69 rfl, List.forall_mem_cons.mpr ⟨t4_in 70 rfl, List.forall_mem_cons.mpr ⟨t4_in 71 rfl, List.forall_mem_cons.mpr ⟨t4_in 72 rfl, List.forall_mem_cons.mpr ⟨t4_in 73 rfl, List.forall_mem_cons.mpr ⟨t4_in 75 rfl, List.forall_mem_cons.mpr ⟨s_in 36 rfl, List.forall_mem_cons.mpr ⟨t4_in 76 rfl, List.forall_mem_cons.mpr ⟨t2_in 206 rfl, List.forall_mem_cons.mpr ⟨t2_in 207 rfl, List.forall_mem_cons.mpr ⟨t2_in 208 rfl, List.forall_mem_cons.mpr ⟨t2_in 209 rfl, fun _ h => absurd h List.not_mem_nil⟩⟩⟩⟩⟩⟩⟩⟩⟩⟩⟩⟩⟩⟩⟩⟩⟩⟩⟩⟩⟩⟩⟩⟩
set_option maxRecDepth 20000 in
theorem wsL_in_r26 : ∀ w ∈ wsL_law_r26, w ∈ lw_tbl := List.forall_mem_cons.mpr ⟨t4_in 77 rfl, List.forall_mem_cons.mpr ⟨t4_in 78 rfl, List.forall_mem_cons.mpr ⟨t4_in 79 rfl, List.forall_mem_cons.mpr ⟨t4_in 80 rfl, List.forall_mem_cons.mpr ⟨t4_in 81 rfl, List.forall_mem_cons.mpr ⟨t4_in 83 rfl, List.forall_mem_cons.mpr ⟨s_in 37 rfl, List.forall_mem_cons.mpr ⟨t4_in 84 rfl, List.forall_mem_cons.mpr ⟨t2_in 210 rfl, List.forall_mem_cons.mpr ⟨t2_in 211 rfl, List.forall_mem_cons.mpr ⟨t2_in 212 rfl, List.forall_mem_cons.mpr ⟨t2_in 213 rfl, List.forall_mem_cons.mpr ⟨t2_in 214 rfl, List.forall_mem_cons.mpr ⟨t2_in 216 rfl, List.forall_mem_cons.mpr ⟨t2_in 215 rfl, List.forall_mem_cons.mpr ⟨t1_in 11 rfl, List.forall_mem_cons.mpr ⟨t4_in 85 rfl, List.forall_mem_cons.mpr ⟨t4_in 86 rfl, List.forall_mem_cons.mpr ⟨t4_in 87 rfl, List.forall_mem_cons.mpr ⟨t4_in 88 rfl, List.forall_mem_cons.mpr ⟨t2_in 217 rfl, List.forall_mem_cons.mpr ⟨t2_in 218 rfl, List.forall_mem_cons.mpr ⟨t2_in 219 rfl, List.forall_mem_cons.mpr ⟨t2_in 220 rfl, fun _ h => absurd h List.not_mem_nil⟩⟩⟩⟩⟩⟩⟩⟩⟩⟩⟩⟩⟩⟩⟩⟩⟩⟩⟩⟩⟩⟩⟩⟩
set_option maxRecDepth 20000 in
theorem wsL_in_r27 : ∀ w ∈ wsL_law_r27, w ∈ lw_tbl := List.forall_mem_cons.mpr ⟨t2_in 221 rfl, List.forall_mem_cons.mpr ⟨t2_in 223 rfl, List.forall_mem_cons.mpr ⟨s_in 11 rfl, List.forall_mem_cons.mpr ⟨t2_in 224 rfl, List.forall_mem_cons.mpr ⟨t2_in 225 rfl, List.forall_mem_cons.mpr ⟨t2_in 227 rfl, List.forall_mem_cons.mpr ⟨s_in 12 rfl, List.forall_mem_cons.mpr ⟨t2_in 228 rfl, List.forall_mem_cons.mpr ⟨t1_in 147 rfl, List.forall_mem_cons.mpr ⟨t2_in 229 rfl, List.forall_mem_cons.mpr ⟨t2_in 231 rfl, List.forall_mem_cons.mpr ⟨s_in 13 rfl, List.forall_mem_cons.mpr ⟨t2_in 232 rfl, List.forall_mem_cons.mpr ⟨t2_in 233 rfl, List.forall_mem_cons.mpr ⟨t2_in 235 rfl, List.forall_mem_cons.mpr ⟨s_in 14 rfl, List.forall_mem_cons.mpr ⟨t2_in 236 rfl, List.forall_mem_cons.mpr ⟨t4_in 89 rfl, List.forall_mem_cons.mpr ⟨t4_in 90 rfl, List.forall_mem_cons.mpr ⟨t4_in 91 rfl, List.forall_mem_cons.mpr ⟨t4_in 92 rfl, List.forall_mem_cons.mpr ⟨t4_in 93 rfl, List.forall_mem_cons.mpr ⟨t4_in 95 rfl, List.forall_mem_cons.mpr ⟨s_in 38 rfl, fun _ h => absurd h List.not_mem_nil⟩⟩⟩⟩⟩⟩⟩⟩⟩⟩⟩⟩⟩⟩⟩⟩⟩⟩⟩⟩⟩⟩⟩⟩
set_option maxRecDepth 20000 in
theorem wsL_in_r28 : ∀ w ∈ wsL_law_r28, w ∈ lw_tbl := List.forall_mem_cons.mpr ⟨t4_in 96 rfl, List.forall_mem_cons.mpr ⟨t3_in 56 rfl, List.forall_mem_cons.mpr ⟨t2_in 237 rfl, List.forall_mem_cons.mpr ⟨t2_in 238 rfl, List.forall_mem_cons.mpr ⟨t2_in 239 rfl, List.forall_mem_cons.mpr ⟨t3_in 0 rfl, List.forall_mem_cons.mpr ⟨t4_in 97 rfl, List.forall_mem_cons.mpr ⟨t4_in 98 rfl, List.forall_mem_cons.mpr ⟨t4_in 99 rfl, List.forall_mem_cons.mpr ⟨t4_in 100 rfl, List.forall_mem_cons.mpr ⟨t3_in 1 rfl, List.forall_mem_cons.mpr ⟨t3_in 2 rfl, List.forall_mem_cons.mpr ⟨t3_in 3 rfl, List.forall_mem_cons.mpr ⟨t3_in 4 rfl, List.forall_mem_cons.mpr ⟨t4_in 101 rfl, List.forall_mem_cons.mpr ⟨t4_in 102 rfl, List.forall_mem_cons.mpr ⟨t4_in 103 rfl, List.forall_mem_cons.mpr ⟨t4_in 104 rfl, List.forall_mem_cons.mpr ⟨t3_in 5 rfl, List.forall_mem_cons.mpr ⟨t3_in 6 rfl, List.forall_mem_cons.mpr ⟨t3_in 7 rfl, List.forall_mem_cons.mpr ⟨t3_in 8 rfl, List.forall_mem_cons.mpr ⟨t4_in 105 rfl, List.forall_mem_cons.mpr ⟨t4_in 106 rfl, fun _ h => absurd h List.not_mem_nil⟩⟩⟩⟩⟩⟩⟩⟩⟩⟩⟩⟩⟩⟩⟩⟩⟩⟩⟩⟩⟩⟩⟩⟩
set_option maxRecDepth 20000 in
theorem wsL_in_r29 : ∀ w ∈ wsL_law_r29, w ∈ lw_tbl := List.forall_mem_cons.mpr ⟨t4_in 107 rfl, List.forall_mem_cons.mpr ⟨t4_in 108 rfl, List.forall_mem_cons.mpr ⟨t3_in 9 rfl, List.forall_mem_cons.mpr ⟨t3_in 10 rfl, List.forall_mem_cons.mpr ⟨t3_in 11 rfl, List.forall_mem_cons.mpr ⟨t3_in 12 rfl, List.forall_mem_cons.mpr ⟨t4_in 109 rfl, List.forall_mem_cons.mpr ⟨t4_in 110 rfl, List.forall_mem_cons.mpr ⟨t4_in 111 rfl, List.forall_mem_cons.mpr ⟨t4_in 112 rfl, List.forall_mem_cons.mpr ⟨t3_in 13 rfl, List.forall_mem_cons.mpr ⟨t3_in 14 rfl, List.forall_mem_cons.mpr ⟨t3_in 15 rfl, List.forall_mem_cons.mpr ⟨t3_in 16 rfl, List.forall_mem_cons.mpr ⟨t3_in 17 rfl, List.forall_mem_cons.mpr ⟨t3_in 18 rfl, List.forall_mem_cons.mpr ⟨t3_in 19 rfl, List.forall_mem_cons.mpr ⟨t3_in 20 rfl, List.forall_mem_cons.mpr ⟨t4_in 113 rfl, List.forall_mem_cons.mpr ⟨t4_in 114 rfl, List.forall_mem_cons.mpr ⟨t4_in 115 rfl, List.forall_mem_cons.mpr ⟨t4_in 116 rfl, List.forall_mem_cons.mpr ⟨t4_in 117 rfl, List.forall_mem_cons.mpr ⟨t4_in 119 rfl, fun _ h => absurd h List.not_mem_nil⟩⟩⟩⟩⟩⟩⟩⟩⟩⟩⟩⟩⟩⟩⟩⟩⟩⟩⟩⟩⟩⟩⟩⟩
set_option maxRecDepth 20000 in
theorem wsL_in_r30 : ∀ w ∈ wsL_law_r30, w ∈ lw_tbl := List.forall_mem_cons.mpr ⟨s_in 39 rfl, List.forall_mem_cons.mpr ⟨t4_in 120 rfl, fun _ h => absurd h List.not_mem_nil⟩⟩
set_option maxRecDepth 20000 in
theorem inX6 : ∀ w ∈ wsX60, w ∈ lw_tbl := (show ∀ w ∈ [u_lay RX6 TX6 0, u_lay RX6 TX6 1, u_lay RX6 TX6 2, u_lay RX6 TX6 3, u_lay RX6 TX6 4, u_lay RX6 TX6 5, u_lay RX6 TX6 6, u_lay RX6 TX6 7], w ∈ lw_tbl from List.forall_mem_cons.mpr ⟨t1_in 149 rfl, List.forall_mem_cons.mpr ⟨t1_in 151 rfl, List.forall_mem_cons.mpr ⟨t1_in 153 rfl, List.forall_mem_cons.mpr ⟨t1_in 155 rfl, List.forall_mem_cons.mpr ⟨t1_in 157 rfl, List.forall_mem_cons.mpr ⟨t1_in 159 rfl, List.forall_mem_cons.mpr ⟨t1_in 161 rfl, List.forall_mem_cons.mpr ⟨t1_in 163 rfl, fun _ h => absurd h List.not_mem_nil⟩⟩⟩⟩⟩⟩⟩⟩)
set_option maxRecDepth 20000 in
theorem inX7 : ∀ w ∈ wsX70, w ∈ lw_tbl := (show ∀ w ∈ [u_lay RX7 TX7 0, u_lay RX7 TX7 1, u_lay RX7 TX7 2, u_lay RX7 TX7 3, u_lay RX7 TX7 4, u_lay RX7 TX7 5, u_lay RX7 TX7 6, u_lay RX7 TX7 7, u_lay RX7 TX7 8, u_lay RX7 TX7 9, u_lay RX7 TX7 10, u_lay RX7 TX7 11, u_lay RX7 TX7 12, u_lay RX7 TX7 13, u_lay RX7 TX7 14, u_lay RX7 TX7 15, u_lay RX7 TX7 16, u_lay RX7 TX7 17, u_lay RX7 TX7 18, u_lay RX7 TX7 19, u_lay RX7 TX7 20, u_lay RX7 TX7 21, u_lay RX7 TX7 22, u_lay RX7 TX7 23, u_lay RX7 TX7 24, u_lay RX7 TX7 25, u_lay RX7 TX7 26, u_lay RX7 TX7 27, u_lay RX7 TX7 28, u_lay RX7 TX7 29], w ∈ lw_tbl from List.forall_mem_cons.mpr ⟨t3_in 57 rfl, List.forall_mem_cons.mpr ⟨t3_in 59 rfl, List.forall_mem_cons.mpr ⟨t3_in 61 rfl, List.forall_mem_cons.mpr ⟨t3_in 63 rfl, List.forall_mem_cons.mpr ⟨t3_in 65 rfl, List.forall_mem_cons.mpr ⟨t3_in 67 rfl, List.forall_mem_cons.mpr ⟨t3_in 69 rfl, List.forall_mem_cons.mpr ⟨t3_in 71 rfl, List.forall_mem_cons.mpr ⟨t3_in 73 rfl, List.forall_mem_cons.mpr ⟨t3_in 75 rfl, List.forall_mem_cons.mpr ⟨t3_in 77 rfl, List.forall_mem_cons.mpr ⟨t3_in 79 rfl, List.forall_mem_cons.mpr ⟨t3_in 81 rfl, List.forall_mem_cons.mpr ⟨t3_in 83 rfl, List.forall_mem_cons.mpr ⟨t3_in 85 rfl, List.forall_mem_cons.mpr ⟨t3_in 87 rfl, List.forall_mem_cons.mpr ⟨t3_in 89 rfl, List.forall_mem_cons.mpr ⟨t3_in 91 rfl, List.forall_mem_cons.mpr ⟨t3_in 93 rfl, List.forall_mem_cons.mpr ⟨t3_in 95 rfl, List.forall_mem_cons.mpr ⟨t3_in 97 rfl, List.forall_mem_cons.mpr ⟨t3_in 99 rfl, List.forall_mem_cons.mpr ⟨t3_in 101 rfl, List.forall_mem_cons.mpr ⟨t3_in 103 rfl, List.forall_mem_cons.mpr ⟨t3_in 105 rfl, List.forall_mem_cons.mpr ⟨t3_in 107 rfl, List.forall_mem_cons.mpr ⟨t3_in 109 rfl, List.forall_mem_cons.mpr ⟨t3_in 111 rfl, List.forall_mem_cons.mpr ⟨t3_in 113 rfl, List.forall_mem_cons.mpr ⟨t3_in 115 rfl, fun _ h => absurd h List.not_mem_nil⟩⟩⟩⟩⟩⟩⟩⟩⟩⟩⟩⟩⟩⟩⟩⟩⟩⟩⟩⟩⟩⟩⟩⟩⟩⟩⟩⟩⟩⟩)
set_option maxRecDepth 20000 in
theorem inX2 : ∀ w ∈ wsX20, w ∈ lw_tbl := (show ∀ w ∈ [u_lay RX2 TX2 0, u_lay RX2 TX2 1, u_lay RX2 TX2 2, u_lay RX2 TX2 3, u_lay RX2 TX2 4], w ∈ lw_tbl from List.forall_mem_cons.mpr ⟨t1_in 43 rfl, List.forall_mem_cons.mpr ⟨t1_in 45 rfl, List.forall_mem_cons.mpr ⟨t1_in 47 rfl, List.forall_mem_cons.mpr ⟨t1_in 49 rfl, List.forall_mem_cons.mpr ⟨t1_in 51 rfl, fun _ h => absurd h List.not_mem_nil⟩⟩⟩⟩⟩)
set_option maxRecDepth 20000 in
theorem inX1 : ∀ w ∈ wsX10, w ∈ lw_tbl := (show ∀ w ∈ [u_lay RX1 TX1 0, u_lay RX1 TX1 1, u_lay RX1 TX1 2, u_lay RX1 TX1 3], w ∈ lw_tbl from List.forall_mem_cons.mpr ⟨t1_in 66 rfl, List.forall_mem_cons.mpr ⟨t1_in 68 rfl, List.forall_mem_cons.mpr ⟨t1_in 70 rfl, List.forall_mem_cons.mpr ⟨t1_in 72 rfl, fun _ h => absurd h List.not_mem_nil⟩⟩⟩⟩)
set_option maxRecDepth 20000 in
theorem inX0 : ∀ w ∈ wsX00, w ∈ lw_tbl := (show ∀ w ∈ [u_lay RX0 TX0 0, u_lay RX0 TX0 1], w ∈ lw_tbl from List.forall_mem_cons.mpr ⟨t1_in 88 rfl, List.forall_mem_cons.mpr ⟨t1_in 90 rfl, fun _ h => absurd h List.not_mem_nil⟩⟩)
set_option maxRecDepth 20000 in
theorem inX5 : ∀ w ∈ wsX50, w ∈ lw_tbl := (show ∀ w ∈ [u_lay RX5 TX5 0, u_lay RX5 TX5 1, u_lay RX5 TX5 2, u_lay RX5 TX5 3], w ∈ lw_tbl from List.forall_mem_cons.mpr ⟨t1_in 108 rfl, List.forall_mem_cons.mpr ⟨t1_in 110 rfl, List.forall_mem_cons.mpr ⟨t1_in 112 rfl, List.forall_mem_cons.mpr ⟨t1_in 114 rfl, fun _ h => absurd h List.not_mem_nil⟩⟩⟩⟩)
set_option maxRecDepth 20000 in
theorem inX3 : ∀ w ∈ wsX30, w ∈ lw_tbl := (show ∀ w ∈ [u_lay RX3 TX3 0, u_lay RX3 TX3 1, u_lay RX3 TX3 2, u_lay RX3 TX3 3], w ∈ lw_tbl from List.forall_mem_cons.mpr ⟨t1_in 132 rfl, List.forall_mem_cons.mpr ⟨t1_in 134 rfl, List.forall_mem_cons.mpr ⟨t1_in 136 rfl, List.forall_mem_cons.mpr ⟨t1_in 138 rfl, fun _ h => absurd h List.not_mem_nil⟩⟩⟩⟩)
set_option maxRecDepth 20000 in
theorem inX4 : ∀ w ∈ wsX40, w ∈ lw_tbl := (show ∀ w ∈ [u_lay RX4 TX4 0, u_lay RX4 TX4 1, u_lay RX4 TX4 2, u_lay RX4 TX4 3, u_lay RX4 TX4 4], w ∈ lw_tbl from List.forall_mem_cons.mpr ⟨t1_in 200 rfl, List.forall_mem_cons.mpr ⟨t1_in 202 rfl, List.forall_mem_cons.mpr ⟨t1_in 204 rfl, List.forall_mem_cons.mpr ⟨t1_in 206 rfl, List.forall_mem_cons.mpr ⟨t1_in 208 rfl, fun _ h => absurd h List.not_mem_nil⟩⟩⟩⟩⟩)
theorem wsL_law_in : ∀ w ∈ wsL_law, w ∈ lw_tbl := List.forall_mem_append.mpr ⟨List.forall_mem_append.mpr ⟨List.forall_mem_append.mpr ⟨List.forall_mem_append.mpr ⟨List.forall_mem_append.mpr ⟨List.forall_mem_append.mpr ⟨List.forall_mem_append.mpr ⟨List.forall_mem_append.mpr ⟨List.forall_mem_append.mpr ⟨List.forall_mem_append.mpr ⟨wsL_in_r1, List.forall_mem_append.mpr ⟨wsL_in_r2, List.forall_mem_append.mpr ⟨wsL_in_r3, List.forall_mem_append.mpr ⟨wsL_in_r4, List.forall_mem_append.mpr ⟨wsL_in_r5, List.forall_mem_append.mpr ⟨wsL_in_r6, List.forall_mem_append.mpr ⟨wsL_in_r7, List.forall_mem_append.mpr ⟨wsL_in_r8, List.forall_mem_append.mpr ⟨wsL_in_r9, List.forall_mem_append.mpr ⟨wsL_in_r10, List.forall_mem_append.mpr ⟨wsL_in_r11, List.forall_mem_append.mpr ⟨wsL_in_r12, List.forall_mem_append.mpr ⟨wsL_in_r13, List.forall_mem_append.mpr ⟨wsL_in_r14, List.forall_mem_append.mpr ⟨wsL_in_r15, List.forall_mem_append.mpr ⟨wsL_in_r16, List.forall_mem_append.mpr ⟨wsL_in_r17, List.forall_mem_append.mpr ⟨wsL_in_r18, List.forall_mem_append.mpr ⟨wsL_in_r19, List.forall_mem_append.mpr ⟨wsL_in_r20, List.forall_mem_append.mpr ⟨wsL_in_r21, List.forall_mem_append.mpr ⟨wsL_in_r22, List.forall_mem_append.mpr ⟨wsL_in_r23, List.forall_mem_append.mpr ⟨wsL_in_r24, List.forall_mem_append.mpr ⟨wsL_in_r25, List.forall_mem_append.mpr ⟨wsL_in_r26, List.forall_mem_append.mpr ⟨wsL_in_r27, List.forall_mem_append.mpr ⟨wsL_in_r28, List.forall_mem_append.mpr ⟨wsL_in_r29, wsL_in_r30⟩⟩⟩⟩⟩⟩⟩⟩⟩⟩⟩⟩⟩⟩⟩⟩⟩⟩⟩⟩⟩⟩⟩⟩⟩⟩⟩⟩⟩, inX6⟩, inX7⟩, inX2⟩, inX1⟩, inX0⟩, inX5⟩, inX3⟩, inX4⟩, fun _ h => absurd h List.not_mem_nil⟩
theorem inlX0 : ∀ w ∈ wsX00, w ∈ wsL_law := fun _ h => List.mem_append_left _ (List.mem_append_left _ (List.mem_append_left _ (List.mem_append_left _ (List.mem_append_right _ h))))
theorem inlX1 : ∀ w ∈ wsX10, w ∈ wsL_law := fun _ h => List.mem_append_left _ (List.mem_append_left _ (List.mem_append_left _ (List.mem_append_left _ (List.mem_append_left _ (List.mem_append_right _ h)))))
theorem inlX2 : ∀ w ∈ wsX20, w ∈ wsL_law := fun _ h => List.mem_append_left _ (List.mem_append_left _ (List.mem_append_left _ (List.mem_append_left _ (List.mem_append_left _ (List.mem_append_left _ (List.mem_append_right _ h))))))
theorem inlX3 : ∀ w ∈ wsX30, w ∈ wsL_law := fun _ h => List.mem_append_left _ (List.mem_append_left _ (List.mem_append_right _ h))
theorem inlX4 : ∀ w ∈ wsX40, w ∈ wsL_law := fun _ h => List.mem_append_left _ (List.mem_append_right _ h)
theorem inlX5 : ∀ w ∈ wsX50, w ∈ wsL_law := fun _ h => List.mem_append_left _ (List.mem_append_left _ (List.mem_append_left _ (List.mem_append_right _ h)))
theorem inlX6 : ∀ w ∈ wsX60, w ∈ wsL_law := fun _ h => List.mem_append_left _ (List.mem_append_left _ (List.mem_append_left _ (List.mem_append_left _ (List.mem_append_left _ (List.mem_append_left _ (List.mem_append_left _ (List.mem_append_left _ (List.mem_append_right _ h))))))))
theorem inlX7 : ∀ w ∈ wsX70, w ∈ wsL_law := fun _ h => List.mem_append_left _ (List.mem_append_left _ (List.mem_append_left _ (List.mem_append_left _ (List.mem_append_left _ (List.mem_append_left _ (List.mem_append_left _ (List.mem_append_right _ h)))))))
theorem inJ6 : ∀ w ∈ wsJ60, w ∈ lw_tbl := by decide +kernel
theorem inJ9 : ∀ w ∈ wsJ90, w ∈ lw_tbl := by decide +kernel
theorem inJ10 : ∀ w ∈ wsJ100, w ∈ lw_tbl := by decide +kernel
end
section
abbrev vwCl : List vw_C := [(RX0, TX0, 2), (RX1, TX1, 4), (RX2, TX2, 5), (RX3, TX3, 4), (RX4, TX4, 5), (RX5, TX5, 4), (RX6, TX6, 8), (RX7, TX7, 30)]
end
section
theorem dX0_init_0 : decode cX0_init 0 = .ok (.aload_n 0, 1) := by decide +kernel
theorem dX0_init_1 : decode cX0_init 1 = .ok (.invokespecial 3, 3) := by decide +kernel
theorem dX0_init_4 : decode cX0_init 4 = .ok (.aload_n 0, 1) := by decide +kernel
theorem dX0_init_5 : decode cX0_init 5 = .ok (.bipush 9, 2) := by decide +kernel
theorem dX0_init_7 : decode cX0_init 7 = .ok (.iconst 4, 1) := by decide +kernel
theorem dX0_init_8 : decode cX0_init 8 = .ok (.multianewarray 9 2, 4) := by decide +kernel
theorem dX0_init_12 : decode cX0_init 12 = .ok (.putfield 11, 3) := by decide +kernel
theorem dX0_init_15 : decode cX0_init 15 = .ok (.aload_n 0, 1) := by decide +kernel
theorem dX0_init_16 : decode cX0_init 16 = .ok (.bipush 9, 2) := by decide +kernel
theorem dX0_init_18 : decode cX0_init 18 = .ok (.newarray .long, 2) := by decide +kernel
theorem dX0_init_20 : decode cX0_init 20 = .ok (.putfield 16, 3) := by decide +kernel
theorem dX0_init_23 : decode cX0_init 23 = .ok (.return_, 1) := by decide +kernel
set_option maxRecDepth 20000 in
theorem ggX0_lookAhead_X0_sumOfBest : GoodIn wsX0_lookAhead wsX0_sumOfBest := goodIn_r _ [8, 3, 9, 10, 11, 12, 13, 14, 15, 7, 16, 17, 18, 19, 1, 2, 20, 21, 22, 23, 24, 25, 26, 27, 28, 29, 30, 31, 32, 33, 34, 35, 36, 37, 38, 39, 42, 43, 44, 45, 46, 40, 41] (by decide +kernel) (by decide +kernel)
set_option maxRecDepth 20000 in
theorem gX0_lookAhead_X0_sumOfBest : GoodIn wsX0_lookAhead (wsV RX0 26 RX0 yX0_sumOfBest wsX0_sumOfBest) := goodIn_app (goodIn_of _ (by decide +kernel)) ggX0_lookAhead_X0_sumOfBest
theorem dX0_lookAhead_0 : decode cX0_lookAhead 0 = .ok (.aload_n 0, 1) := by decide +kernel
theorem dX0_lookAhead_1 : decode cX0_lookAhead 1 = .ok (.getfield 16, 3) := by decide +kernel
theorem dX0_lookAhead_4 : decode cX0_lookAhead 4 = .ok (.iconst 0, 1) := by decide +kernel
theorem dX0_lookAhead_5 : decode cX0_lookAhead 5 = .ok (.lconst 1, 1) := by decide +kernel
theorem dX0_lookAhead_6 : decode cX0_lookAhead 6 = .ok (.lastore, 1) := by decide +kernel
theorem dX0_lookAhead_7 : decode cX0_lookAhead 7 = .ok (.iconst 0, 1) := by decide +kernel
theorem dX0_lookAhead_8 : decode cX0_lookAhead 8 = .ok (.istore 4, 2) := by decide +kernel
theorem dX0_lookAhead_10 : decode cX0_lookAhead 10 = .ok (.iload 4, 2) := by decide +kernel
theorem dX0_lookAhead_12 : decode cX0_lookAhead 12 = .ok (.iconst 3, 1) := by decide +kernel
theorem dX0_lookAhead_13 : decode cX0_lookAhead 13 = .ok (.if_icmp .gt 19, 3) := by decide +kernel
theorem dX0_lookAhead_16 : decode cX0_lookAhead 16 = .ok (.aload_n 0, 1) := by decide +kernel
theorem dX0_lookAhead_17 : decode cX0_lookAhead 17 = .ok (.getfield 11, 3) := by decide +kernel
theorem dX0_lookAhead_20 : decode cX0_lookAhead 20 = .ok (.iconst 0, 1) := by decide +kernel
theorem dX0_lookAhead_21 : decode cX0_lookAhead 21 = .ok (.aaload, 1) := by decide +kernel
theorem dX0_lookAhead_22 : decode cX0_lookAhead 22 = .ok (.iload 4, 2) := by decide +kernel
theorem dX0_lookAhead_24 : decode cX0_lookAhead 24 = .ok (.lconst 0, 1) := by decide +kernel
theorem dX0_lookAhead_25 : decode cX0_lookAhead 25 = .ok (.lastore, 1) := by decide +kernel
theorem dX0_lookAhead_26 : decode cX0_lookAhead 26 = .ok (.iinc 4 1, 3) := by decide +kernel
theorem dX0_lookAhead_29 : decode cX0_lookAhead 29 = .ok (.goto (-19), 3) := by decide +kernel
theorem dX0_lookAhead_32 : decode cX0_lookAhead 32 = .ok (.iconst 1, 1) := by decide +kernel
theorem dX0_lookAhead_33 : decode cX0_lookAhead 33 = .ok (.istore 4, 2) := by decide +kernel
theorem dX0_lookAhead_35 : decode cX0_lookAhead 35 = .ok (.iload 4, 2) := by decide +kernel
theorem dX0_lookAhead_37 : decode cX0_lookAhead 37 = .ok (.iload_n 3, 1) := by decide +kernel
theorem dX0_lookAhead_38 : decode cX0_lookAhead 38 = .ok (.if_icmp .gt 68, 3) := by decide +kernel
theorem dX0_lookAhead_41 : decode cX0_lookAhead 41 = .ok (.aload_n 0, 1) := by decide +kernel
theorem dX0_lookAhead_42 : decode cX0_lookAhead 42 = .ok (.getfield 16, 3) := by decide +kernel
theorem dX0_lookAhead_45 : decode cX0_lookAhead 45 = .ok (.iload 4, 2) := by decide +kernel
theorem dX0_lookAhead_47 : decode cX0_lookAhead 47 = .ok (.aload_n 0, 1) := by decide +kernel
theorem dX0_lookAhead_48 : decode cX0_lookAhead 48 = .ok (.getfield 16, 3) := by decide +kernel
theorem dX0_lookAhead_51 : decode cX0_lookAhead 51 = .ok (.iload 4, 2) := by decide +kernel
theorem dX0_lookAhead_53 : decode cX0_lookAhead 53 = .ok (.iconst 1, 1) := by decide +kernel
theorem dX0_lookAhead_54 : decode cX0_lookAhead 54 = .ok (.isub, 1) := by decide +kernel
theorem dX0_lookAhead_55 : decode cX0_lookAhead 55 = .ok (.laload, 1) := by decide +kernel
theorem dX0_lookAhead_56 : decode cX0_lookAhead 56 = .ok (.aload_n 1, 1) := by decide +kernel
theorem dX0_lookAhead_57 : decode cX0_lookAhead 57 = .ok (.getfield 20, 3) := by decide +kernel
theorem dX0_lookAhead_60 : decode cX0_lookAhead 60 = .ok (.i2l, 1) := by decide +kernel
theorem dX0_lookAhead_61 : decode cX0_lookAhead 61 = .ok (.lmul, 1) := by decide +kernel
theorem dX0_lookAhead_62 : decode cX0_lookAhead 62 = .ok (.lastore, 1) := by decide +kernel
theorem dX0_lookAhead_63 : decode cX0_lookAhead 63 = .ok (.iconst 0, 1) := by decide +kernel
theorem dX0_lookAhead_64 : decode cX0_lookAhead 64 = .ok (.istore 5, 2) := by decide +kernel
theorem dX0_lookAhead_66 : decode cX0_lookAhead 66 = .ok (.iload 5, 2) := by decide +kernel
theorem dX0_lookAhead_68 : decode cX0_lookAhead 68 = .ok (.iconst 3, 1) := by decide +kernel
theorem dX0_lookAhead_69 : decode cX0_lookAhead 69 = .ok (.if_icmp .gt 31, 3) := by decide +kernel
theorem dX0_lookAhead_72 : decode cX0_lookAhead 72 = .ok (.aload_n 0, 1) := by decide +kernel
theorem dX0_lookAhead_73 : decode cX0_lookAhead 73 = .ok (.getfield 11, 3) := by decide +kernel
theorem dX0_lookAhead_76 : decode cX0_lookAhead 76 = .ok (.iload 4, 2) := by decide +kernel
theorem dX0_lookAhead_78 : decode cX0_lookAhead 78 = .ok (.aaload, 1) := by decide +kernel
theorem dX0_lookAhead_79 : decode cX0_lookAhead 79 = .ok (.iload 5, 2) := by decide +kernel
theorem dX0_lookAhead_81 : decode cX0_lookAhead 81 = .ok (.aload_n 0, 1) := by decide +kernel
theorem dX0_lookAhead_82 : decode cX0_lookAhead 82 = .ok (.aload_n 1, 1) := by decide +kernel
theorem dX0_lookAhead_83 : decode cX0_lookAhead 83 = .ok (.iload_n 2, 1) := by decide +kernel
theorem dX0_lookAhead_84 : decode cX0_lookAhead 84 = .ok (.iload 4, 2) := by decide +kernel
theorem dX0_lookAhead_86 : decode cX0_lookAhead 86 = .ok (.iconst 1, 1) := by decide +kernel
theorem dX0_lookAhead_87 : decode cX0_lookAhead 87 = .ok (.isub, 1) := by decide +kernel
theorem dX0_lookAhead_88 : decode cX0_lookAhead 88 = .ok (.iload 5, 2) := by decide +kernel
theorem dX0_lookAhead_90 : decode cX0_lookAhead 90 = .ok (.invokevirtual 26, 3) := by decide +kernel
theorem dX0_lookAhead_93 : decode cX0_lookAhead 93 = .ok (.lastore, 1) := by decide +kernel
theorem dX0_lookAhead_94 : decode cX0_lookAhead 94 = .ok (.iinc 5 1, 3) := by decide +kernel
theorem dX0_lookAhead_97 : decode cX0_lookAhead 97 = .ok (.goto (-31), 3) := by decide +kernel
theorem dX0_lookAhead_100 : decode cX0_lookAhead 100 = .ok (.iinc 4 1, 3) := by decide +kernel
theorem dX0_lookAhead_103 : decode cX0_lookAhead 103 = .ok (.goto (-68), 3) := by decide +kernel
theorem dX0_lookAhead_106 : decode cX0_lookAhead 106 = .ok (.return_, 1) := by decide +kernel
set_option maxRecDepth 20000 in
theorem ggX0_sumOfBest_X0_byNone : GoodIn wsX0_sumOfBest wsX0_byNone := goodIn_r _ [10, 11, 12, 4, 13, 14, 15, 16, 17, 18, 19, 20, 21, 22, 23, 24, 25, 26, 27, 28, 29, 30, 41, 42, 36, 37, 38, 39, 40] (by decide +kernel) (by decide +kernel)
set_option maxRecDepth 20000 in
theorem gX0_sumOfBest_X0_byNone : GoodIn wsX0_sumOfBest (wsV RX0 30 RX0 yX0_byNone wsX0_byNone) := goodIn_app (goodIn_of _ (by decide +kernel)) ggX0_sumOfBest_X0_byNone
set_option maxRecDepth 20000 in
theorem ggX0_sumOfBest_X0_byPaper : GoodIn wsX0_sumOfBest wsX0_byPaper := goodIn_r _ [34, 14, 15, 35, 22, 23, 19, 24, 25, 41, 42, 36, 37, 38, 39, 40] (by decide +kernel) (by decide +kernel)
set_option maxRecDepth 20000 in
theorem gX0_sumOfBest_X0_byPaper : GoodIn wsX0_sumOfBest (wsV RX0 34 RX0 yX0_byPaper wsX0_byPaper) := goodIn_app (goodIn_of _ (by decide +kernel)) ggX0_sumOfBest_X0_byPaper
theorem dX0_sumOfBest_0 : decode cX0_sumOfBest 0 = .ok (.lconst 0, 1) := by decide +kernel
theorem dX0_sumOfBest_1 : decode cX0_sumOfBest 1 = .ok (.lstore 5, 2) := by decide +kernel
theorem dX0_sumOfBest_3 : decode cX0_sumOfBest 3 = .ok (.iconst 0, 1) := by decide +kernel
theorem dX0_sumOfBest_4 : decode cX0_sumOfBest 4 = .ok (.istore 7, 2) := by decide +kernel
theorem dX0_sumOfBest_6 : decode cX0_sumOfBest 6 = .ok (.iload 7, 2) := by decide +kernel
theorem dX0_sumOfBest_8 : decode cX0_sumOfBest 8 = .ok (.aload_n 1, 1) := by decide +kernel
theorem dX0_sumOfBest_9 : decode cX0_sumOfBest 9 = .ok (.getfield 20, 3) := by decide +kernel
theorem dX0_sumOfBest_12 : decode cX0_sumOfBest 12 = .ok (.if_icmp .ge 51, 3) := by decide +kernel
theorem dX0_sumOfBest_15 : decode cX0_sumOfBest 15 = .ok (.aload_n 0, 1) := by decide +kernel
theorem dX0_sumOfBest_16 : decode cX0_sumOfBest 16 = .ok (.aload_n 1, 1) := by decide +kernel
theorem dX0_sumOfBest_17 : decode cX0_sumOfBest 17 = .ok (.iload_n 2, 1) := by decide +kernel
theorem dX0_sumOfBest_18 : decode cX0_sumOfBest 18 = .ok (.iload 7, 2) := by decide +kernel
theorem dX0_sumOfBest_20 : decode cX0_sumOfBest 20 = .ok (.iload_n 3, 1) := by decide +kernel
theorem dX0_sumOfBest_21 : decode cX0_sumOfBest 21 = .ok (.iload 4, 2) := by decide +kernel
theorem dX0_sumOfBest_23 : decode cX0_sumOfBest 23 = .ok (.invokevirtual 30, 3) := by decide +kernel
theorem dX0_sumOfBest_26 : decode cX0_sumOfBest 26 = .ok (.lstore 8, 2) := by decide +kernel
theorem dX0_sumOfBest_28 : decode cX0_sumOfBest 28 = .ok (.iload 4, 2) := by decide +kernel
theorem dX0_sumOfBest_30 : decode cX0_sumOfBest 30 = .ok (.ifCond .le 20, 3) := by decide +kernel
theorem dX0_sumOfBest_33 : decode cX0_sumOfBest 33 = .ok (.lload 8, 2) := by decide +kernel
theorem dX0_sumOfBest_35 : decode cX0_sumOfBest 35 = .ok (.aload_n 0, 1) := by decide +kernel
theorem dX0_sumOfBest_36 : decode cX0_sumOfBest 36 = .ok (.aload_n 1, 1) := by decide +kernel
theorem dX0_sumOfBest_37 : decode cX0_sumOfBest 37 = .ok (.iload 7, 2) := by decide +kernel
theorem dX0_sumOfBest_39 : decode cX0_sumOfBest 39 = .ok (.iload_n 3, 1) := by decide +kernel
theorem dX0_sumOfBest_40 : decode cX0_sumOfBest 40 = .ok (.iload 4, 2) := by decide +kernel
theorem dX0_sumOfBest_42 : decode cX0_sumOfBest 42 = .ok (.invokevirtual 34, 3) := by decide +kernel
theorem dX0_sumOfBest_45 : decode cX0_sumOfBest 45 = .ok (.invokestatic 37, 3) := by decide +kernel
theorem dX0_sumOfBest_48 : decode cX0_sumOfBest 48 = .ok (.lstore 8, 2) := by decide +kernel
theorem dX0_sumOfBest_50 : decode cX0_sumOfBest 50 = .ok (.lload 5, 2) := by decide +kernel
theorem dX0_sumOfBest_52 : decode cX0_sumOfBest 52 = .ok (.lload 8, 2) := by decide +kernel
theorem dX0_sumOfBest_54 : decode cX0_sumOfBest 54 = .ok (.ladd, 1) := by decide +kernel
theorem dX0_sumOfBest_55 : decode cX0_sumOfBest 55 = .ok (.lstore 5, 2) := by decide +kernel
theorem dX0_sumOfBest_57 : decode cX0_sumOfBest 57 = .ok (.iinc 7 1, 3) := by decide +kernel
theorem dX0_sumOfBest_60 : decode cX0_sumOfBest 60 = .ok (.goto (-54), 3) := by decide +kernel
theorem dX0_sumOfBest_63 : decode cX0_sumOfBest 63 = .ok (.lload 5, 2) := by decide +kernel
theorem dX0_sumOfBest_65 : decode cX0_sumOfBest 65 = .ok (.lreturn, 1) := by decide +kernel
set_option maxRecDepth 20000 in
theorem ggX0_byPaper_X2_pardonedValue : GoodIn wsX0_byPaper wsX2_pardonedValue := goodIn_r _ [7, 8, 11, 12, 13, 14, 15] (by decide +kernel) (by decide +kernel)
set_option maxRecDepth 20000 in
theorem gX0_byPaper_X2_pardonedValue : GoodIn wsX0_byPaper (wsV RX0 43 RX2 yX2_pardonedValue wsX2_pardonedValue) := goodIn_app (goodIn_of _ (by decide +kernel)) ggX0_byPaper_X2_pardonedValue
theorem dX0_byPaper_0 : decode cX0_byPaper 0 = .ok (.aload_n 1, 1) := by decide +kernel
theorem dX0_byPaper_1 : decode cX0_byPaper 1 = .ok (.iload_n 2, 1) := by decide +kernel
theorem dX0_byPaper_2 : decode cX0_byPaper 2 = .ok (.invokevirtual 43, 3) := by decide +kernel
theorem dX0_byPaper_5 : decode cX0_byPaper 5 = .ok (.i2l, 1) := by decide +kernel
theorem dX0_byPaper_6 : decode cX0_byPaper 6 = .ok (.aload_n 0, 1) := by decide +kernel
theorem dX0_byPaper_7 : decode cX0_byPaper 7 = .ok (.getfield 16, 3) := by decide +kernel
theorem dX0_byPaper_10 : decode cX0_byPaper 10 = .ok (.iload_n 3, 1) := by decide +kernel
theorem dX0_byPaper_11 : decode cX0_byPaper 11 = .ok (.laload, 1) := by decide +kernel
theorem dX0_byPaper_12 : decode cX0_byPaper 12 = .ok (.lmul, 1) := by decide +kernel
theorem dX0_byPaper_13 : decode cX0_byPaper 13 = .ok (.aload_n 0, 1) := by decide +kernel
theorem dX0_byPaper_14 : decode cX0_byPaper 14 = .ok (.getfield 11, 3) := by decide +kernel
theorem dX0_byPaper_17 : decode cX0_byPaper 17 = .ok (.iload_n 3, 1) := by decide +kernel
theorem dX0_byPaper_18 : decode cX0_byPaper 18 = .ok (.aaload, 1) := by decide +kernel
theorem dX0_byPaper_19 : decode cX0_byPaper 19 = .ok (.iload 4, 2) := by decide +kernel
theorem dX0_byPaper_21 : decode cX0_byPaper 21 = .ok (.iconst 1, 1) := by decide +kernel
theorem dX0_byPaper_22 : decode cX0_byPaper 22 = .ok (.isub, 1) := by decide +kernel
theorem dX0_byPaper_23 : decode cX0_byPaper 23 = .ok (.laload, 1) := by decide +kernel
theorem dX0_byPaper_24 : decode cX0_byPaper 24 = .ok (.ladd, 1) := by decide +kernel
theorem dX0_byPaper_25 : decode cX0_byPaper 25 = .ok (.lreturn, 1) := by decide +kernel
set_option maxRecDepth 20000 in
theorem ggX0_byNone_X2_unpardonedValue : GoodIn wsX0_byNone wsX2_unpardonedValue := goodIn_r _ [11, 12, 13, 14, 10, 15, 16, 17, 18, 19, 20, 21, 24, 25, 26, 27, 28] (by decide +kernel) (by decide +kernel)
set_option maxRecDepth 20000 in
theorem gX0_byNone_X2_unpardonedValue : GoodIn wsX0_byNone (wsV RX0 47 RX2 yX2_unpardonedValue wsX2_unpardonedValue) := goodIn_app (goodIn_of _ (by decide +kernel)) ggX0_byNone_X2_unpardonedValue
theorem dX0_byNone_0 : decode cX0_byNone 0 = .ok (.iconst 0, 1) := by decide +kernel
theorem dX0_byNone_1 : decode cX0_byNone 1 = .ok (.aload_n 1, 1) := by decide +kernel
theorem dX0_byNone_2 : decode cX0_byNone 2 = .ok (.iload_n 2, 1) := by decide +kernel
theorem dX0_byNone_3 : decode cX0_byNone 3 = .ok (.iload_n 3, 1) := by decide +kernel
theorem dX0_byNone_4 : decode cX0_byNone 4 = .ok (.invokevirtual 47, 3) := by decide +kernel
theorem dX0_byNone_7 : decode cX0_byNone 7 = .ok (.invokestatic 51, 3) := by decide +kernel
theorem dX0_byNone_10 : decode cX0_byNone 10 = .ok (.i2l, 1) := by decide +kernel
theorem dX0_byNone_11 : decode cX0_byNone 11 = .ok (.aload_n 0, 1) := by decide +kernel
theorem dX0_byNone_12 : decode cX0_byNone 12 = .ok (.getfield 16, 3) := by decide +kernel
theorem dX0_byNone_15 : decode cX0_byNone 15 = .ok (.iload 4, 2) := by decide +kernel
theorem dX0_byNone_17 : decode cX0_byNone 17 = .ok (.laload, 1) := by decide +kernel
theorem dX0_byNone_18 : decode cX0_byNone 18 = .ok (.lmul, 1) := by decide +kernel
theorem dX0_byNone_19 : decode cX0_byNone 19 = .ok (.aload_n 0, 1) := by decide +kernel
theorem dX0_byNone_20 : decode cX0_byNone 20 = .ok (.getfield 11, 3) := by decide +kernel
theorem dX0_byNone_23 : decode cX0_byNone 23 = .ok (.iload 4, 2) := by decide +kernel
theorem dX0_byNone_25 : decode cX0_byNone 25 = .ok (.aaload, 1) := by decide +kernel
theorem dX0_byNone_26 : decode cX0_byNone 26 = .ok (.iload 5, 2) := by decide +kernel
theorem dX0_byNone_28 : decode cX0_byNone 28 = .ok (.laload, 1) := by decide +kernel
theorem dX0_byNone_29 : decode cX0_byNone 29 = .ok (.ladd, 1) := by decide +kernel
theorem dX0_byNone_30 : decode cX0_byNone 30 = .ok (.lreturn, 1) := by decide +kernel
theorem dX1_init_0 : decode cX1_init 0 = .ok (.aload_n 0, 1) := by decide +kernel
theorem dX1_init_1 : decode cX1_init 1 = .ok (.invokespecial 3, 3) := by decide +kernel
theorem dX1_init_4 : decode cX1_init 4 = .ok (.aload_n 0, 1) := by decide +kernel
theorem dX1_init_5 : decode cX1_init 5 = .ok (.bipush 8, 2) := by decide +kernel
theorem dX1_init_7 : decode cX1_init 7 = .ok (.newarray .int, 2) := by decide +kernel
theorem dX1_init_9 : decode cX1_init 9 = .ok (.putfield 9, 3) := by decide +kernel
theorem dX1_init_12 : decode cX1_init 12 = .ok (.aload_n 0, 1) := by decide +kernel
theorem dX1_init_13 : decode cX1_init 13 = .ok (.bipush 8, 2) := by decide +kernel
theorem dX1_init_15 : decode cX1_init 15 = .ok (.newarray .int, 2) := by decide +kernel
theorem dX1_init_17 : decode cX1_init 17 = .ok (.putfield 15, 3) := by decide +kernel
theorem dX1_init_20 : decode cX1_init 20 = .ok (.aload_n 0, 1) := by decide +kernel
theorem dX1_init_21 : decode cX1_init 21 = .ok (.bipush 8, 2) := by decide +kernel
theorem dX1_init_23 : decode cX1_init 23 = .ok (.newarray .boolean, 2) := by decide +kernel
theorem dX1_init_25 : decode cX1_init 25 = .ok (.putfield 18, 3) := by decide +kernel
theorem dX1_init_28 : decode cX1_init 28 = .ok (.return_, 1) := by decide +kernel
theorem dX1_note_0 : decode cX1_note 0 = .ok (.aload_n 0, 1) := by decide +kernel
theorem dX1_note_1 : decode cX1_note 1 = .ok (.getfield 9, 3) := by decide +kernel
theorem dX1_note_4 : decode cX1_note 4 = .ok (.aload_n 0, 1) := by decide +kernel
theorem dX1_note_5 : decode cX1_note 5 = .ok (.getfield 22, 3) := by decide +kernel
theorem dX1_note_8 : decode cX1_note 8 = .ok (.iload_n 1, 1) := by decide +kernel
theorem dX1_note_9 : decode cX1_note 9 = .ok (.iastore, 1) := by decide +kernel
theorem dX1_note_10 : decode cX1_note 10 = .ok (.aload_n 0, 1) := by decide +kernel
theorem dX1_note_11 : decode cX1_note 11 = .ok (.getfield 15, 3) := by decide +kernel
theorem dX1_note_14 : decode cX1_note 14 = .ok (.aload_n 0, 1) := by decide +kernel
theorem dX1_note_15 : decode cX1_note 15 = .ok (.getfield 22, 3) := by decide +kernel
theorem dX1_note_18 : decode cX1_note 18 = .ok (.iload_n 2, 1) := by decide +kernel
theorem dX1_note_19 : decode cX1_note 19 = .ok (.iastore, 1) := by decide +kernel
theorem dX1_note_20 : decode cX1_note 20 = .ok (.aload_n 0, 1) := by decide +kernel
theorem dX1_note_21 : decode cX1_note 21 = .ok (.getfield 18, 3) := by decide +kernel
theorem dX1_note_24 : decode cX1_note 24 = .ok (.aload_n 0, 1) := by decide +kernel
theorem dX1_note_25 : decode cX1_note 25 = .ok (.getfield 22, 3) := by decide +kernel
theorem dX1_note_28 : decode cX1_note 28 = .ok (.iload_n 3, 1) := by decide +kernel
theorem dX1_note_29 : decode cX1_note 29 = .ok (.bastore, 1) := by decide +kernel
theorem dX1_note_30 : decode cX1_note 30 = .ok (.aload_n 0, 1) := by decide +kernel
theorem dX1_note_31 : decode cX1_note 31 = .ok (.dup, 1) := by decide +kernel
theorem dX1_note_32 : decode cX1_note 32 = .ok (.getfield 22, 3) := by decide +kernel
theorem dX1_note_35 : decode cX1_note 35 = .ok (.iconst 1, 1) := by decide +kernel
theorem dX1_note_36 : decode cX1_note 36 = .ok (.iadd, 1) := by decide +kernel
theorem dX1_note_37 : decode cX1_note 37 = .ok (.putfield 22, 3) := by decide +kernel
theorem dX1_note_40 : decode cX1_note 40 = .ok (.aload_n 0, 1) := by decide +kernel
theorem dX1_note_41 : decode cX1_note 41 = .ok (.getfield 22, 3) := by decide +kernel
theorem dX1_note_44 : decode cX1_note 44 = .ok (.iconst 1, 1) := by decide +kernel
theorem dX1_note_45 : decode cX1_note 45 = .ok (.isub, 1) := by decide +kernel
theorem dX1_note_46 : decode cX1_note 46 = .ok (.ireturn, 1) := by decide +kernel
set_option maxRecDepth 20000 in
theorem ggX1_fitting_X1_allAreSo : GoodIn wsX1_fitting wsX1_allAreSo := goodIn_r _ [5, 6, 7, 8, 9, 10, 11, 12, 13, 14, 15, 16, 17, 18, 19, 20, 21, 22, 23, 24, 25, 26, 27, 28, 29, 30, 31, 32, 33, 34, 35, 36, 37] (by decide +kernel) (by decide +kernel)
set_option maxRecDepth 20000 in
theorem gX1_fitting_X1_allAreSo : GoodIn wsX1_fitting (wsV RX1 26 RX1 yX1_allAreSo wsX1_allAreSo) := goodIn_app (goodIn_of _ (by decide +kernel)) ggX1_fitting_X1_allAreSo
theorem dX1_fitting_0 : decode cX1_fitting 0 = .ok (.aload_n 2, 1) := by decide +kernel
theorem dX1_fitting_1 : decode cX1_fitting 1 = .ok (.iload_n 3, 1) := by decide +kernel
theorem dX1_fitting_2 : decode cX1_fitting 2 = .ok (.iaload, 1) := by decide +kernel
theorem dX1_fitting_3 : decode cX1_fitting 3 = .ok (.istore 5, 2) := by decide +kernel
theorem dX1_fitting_5 : decode cX1_fitting 5 = .ok (.iconst 0, 1) := by decide +kernel
theorem dX1_fitting_6 : decode cX1_fitting 6 = .ok (.istore 6, 2) := by decide +kernel
theorem dX1_fitting_8 : decode cX1_fitting 8 = .ok (.iconst 0, 1) := by decide +kernel
theorem dX1_fitting_9 : decode cX1_fitting 9 = .ok (.istore 7, 2) := by decide +kernel
theorem dX1_fitting_11 : decode cX1_fitting 11 = .ok (.iload 7, 2) := by decide +kernel
theorem dX1_fitting_13 : decode cX1_fitting 13 = .ok (.iload 4, 2) := by decide +kernel
theorem dX1_fitting_15 : decode cX1_fitting 15 = .ok (.if_icmp .ge 31, 3) := by decide +kernel
theorem dX1_fitting_18 : decode cX1_fitting 18 = .ok (.aload_n 2, 1) := by decide +kernel
theorem dX1_fitting_19 : decode cX1_fitting 19 = .ok (.iload_n 3, 1) := by decide +kernel
theorem dX1_fitting_20 : decode cX1_fitting 20 = .ok (.iload 7, 2) := by decide +kernel
theorem dX1_fitting_22 : decode cX1_fitting 22 = .ok (.iastore, 1) := by decide +kernel
theorem dX1_fitting_23 : decode cX1_fitting 23 = .ok (.aload_n 0, 1) := by decide +kernel
theorem dX1_fitting_24 : decode cX1_fitting 24 = .ok (.aload_n 1, 1) := by decide +kernel
theorem dX1_fitting_25 : decode cX1_fitting 25 = .ok (.invokevirtual 26, 3) := by decide +kernel
theorem dX1_fitting_28 : decode cX1_fitting 28 = .ok (.ifCond .eq 12, 3) := by decide +kernel
theorem dX1_fitting_31 : decode cX1_fitting 31 = .ok (.iload 6, 2) := by decide +kernel
theorem dX1_fitting_33 : decode cX1_fitting 33 = .ok (.iconst 1, 1) := by decide +kernel
theorem dX1_fitting_34 : decode cX1_fitting 34 = .ok (.iload 7, 2) := by decide +kernel
theorem dX1_fitting_36 : decode cX1_fitting 36 = .ok (.ishl, 1) := by decide +kernel
theorem dX1_fitting_37 : decode cX1_fitting 37 = .ok (.ior, 1) := by decide +kernel
theorem dX1_fitting_38 : decode cX1_fitting 38 = .ok (.istore 6, 2) := by decide +kernel
theorem dX1_fitting_40 : decode cX1_fitting 40 = .ok (.iinc 7 1, 3) := by decide +kernel
theorem dX1_fitting_43 : decode cX1_fitting 43 = .ok (.goto (-32), 3) := by decide +kernel
theorem dX1_fitting_46 : decode cX1_fitting 46 = .ok (.aload_n 2, 1) := by decide +kernel
theorem dX1_fitting_47 : decode cX1_fitting 47 = .ok (.iload_n 3, 1) := by decide +kernel
theorem dX1_fitting_48 : decode cX1_fitting 48 = .ok (.iload 5, 2) := by decide +kernel
theorem dX1_fitting_50 : decode cX1_fitting 50 = .ok (.iastore, 1) := by decide +kernel
theorem dX1_fitting_51 : decode cX1_fitting 51 = .ok (.iload 6, 2) := by decide +kernel
theorem dX1_fitting_53 : decode cX1_fitting 53 = .ok (.ireturn, 1) := by decide +kernel
set_option maxRecDepth 20000 in
theorem ggX1_allAreSo_X2_wouldDo : GoodIn wsX1_allAreSo wsX2_wouldDo := goodIn_r _ [9, 10, 11, 12, 8, 13, 14, 15, 16, 17, 18, 19, 20, 21, 22, 23, 28, 29, 30, 31, 32] (by decide +kernel) (by decide +kernel)
set_option maxRecDepth 20000 in
theorem gX1_allAreSo_X2_wouldDo : GoodIn wsX1_allAreSo (wsV RX1 30 RX2 yX2_wouldDo wsX2_wouldDo) := goodIn_app (goodIn_of _ (by decide +kernel)) ggX1_allAreSo_X2_wouldDo
theorem dX1_allAreSo_0 : decode cX1_allAreSo 0 = .ok (.iconst 0, 1) := by decide +kernel
theorem dX1_allAreSo_1 : decode cX1_allAreSo 1 = .ok (.istore_n 2, 1) := by decide +kernel
theorem dX1_allAreSo_2 : decode cX1_allAreSo 2 = .ok (.iload_n 2, 1) := by decide +kernel
theorem dX1_allAreSo_3 : decode cX1_allAreSo 3 = .ok (.aload_n 0, 1) := by decide +kernel
theorem dX1_allAreSo_4 : decode cX1_allAreSo 4 = .ok (.getfield 22, 3) := by decide +kernel
theorem dX1_allAreSo_7 : decode cX1_allAreSo 7 = .ok (.if_icmp .ge 36, 3) := by decide +kernel
theorem dX1_allAreSo_10 : decode cX1_allAreSo 10 = .ok (.aload_n 1, 1) := by decide +kernel
theorem dX1_allAreSo_11 : decode cX1_allAreSo 11 = .ok (.aload_n 0, 1) := by decide +kernel
theorem dX1_allAreSo_12 : decode cX1_allAreSo 12 = .ok (.getfield 9, 3) := by decide +kernel
theorem dX1_allAreSo_15 : decode cX1_allAreSo 15 = .ok (.iload_n 2, 1) := by decide +kernel
theorem dX1_allAreSo_16 : decode cX1_allAreSo 16 = .ok (.iaload, 1) := by decide +kernel
theorem dX1_allAreSo_17 : decode cX1_allAreSo 17 = .ok (.aload_n 0, 1) := by decide +kernel
theorem dX1_allAreSo_18 : decode cX1_allAreSo 18 = .ok (.getfield 15, 3) := by decide +kernel
theorem dX1_allAreSo_21 : decode cX1_allAreSo 21 = .ok (.iload_n 2, 1) := by decide +kernel
theorem dX1_allAreSo_22 : decode cX1_allAreSo 22 = .ok (.iaload, 1) := by decide +kernel
theorem dX1_allAreSo_23 : decode cX1_allAreSo 23 = .ok (.invokevirtual 30, 3) := by decide +kernel
theorem dX1_allAreSo_26 : decode cX1_allAreSo 26 = .ok (.aload_n 0, 1) := by decide +kernel
theorem dX1_allAreSo_27 : decode cX1_allAreSo 27 = .ok (.getfield 18, 3) := by decide +kernel
theorem dX1_allAreSo_30 : decode cX1_allAreSo 30 = .ok (.iload_n 2, 1) := by decide +kernel
theorem dX1_allAreSo_31 : decode cX1_allAreSo 31 = .ok (.baload, 1) := by decide +kernel
theorem dX1_allAreSo_32 : decode cX1_allAreSo 32 = .ok (.if_icmp .eq 5, 3) := by decide +kernel
theorem dX1_allAreSo_35 : decode cX1_allAreSo 35 = .ok (.iconst 0, 1) := by decide +kernel
theorem dX1_allAreSo_36 : decode cX1_allAreSo 36 = .ok (.ireturn, 1) := by decide +kernel
theorem dX1_allAreSo_37 : decode cX1_allAreSo 37 = .ok (.iinc 2 1, 3) := by decide +kernel
theorem dX1_allAreSo_40 : decode cX1_allAreSo 40 = .ok (.goto (-38), 3) := by decide +kernel
theorem dX1_allAreSo_43 : decode cX1_allAreSo 43 = .ok (.iconst 1, 1) := by decide +kernel
theorem dX1_allAreSo_44 : decode cX1_allAreSo 44 = .ok (.ireturn, 1) := by decide +kernel
theorem dX2_init_0 : decode cX2_init 0 = .ok (.aload_n 0, 1) := by decide +kernel
theorem dX2_init_1 : decode cX2_init 1 = .ok (.invokespecial 3, 3) := by decide +kernel
theorem dX2_init_4 : decode cX2_init 4 = .ok (.aload_n 0, 1) := by decide +kernel
theorem dX2_init_5 : decode cX2_init 5 = .ok (.iconst 5, 1) := by decide +kernel
theorem dX2_init_6 : decode cX2_init 6 = .ok (.iconst 3, 1) := by decide +kernel
theorem dX2_init_7 : decode cX2_init 7 = .ok (.multianewarray 9 2, 4) := by decide +kernel
theorem dX2_init_11 : decode cX2_init 11 = .ok (.putfield 11, 3) := by decide +kernel
theorem dX2_init_14 : decode cX2_init 14 = .ok (.aload_n 0, 1) := by decide +kernel
theorem dX2_init_15 : decode cX2_init 15 = .ok (.iconst 4, 1) := by decide +kernel
theorem dX2_init_16 : decode cX2_init 16 = .ok (.newarray .int, 2) := by decide +kernel
theorem dX2_init_18 : decode cX2_init 18 = .ok (.putfield 16, 3) := by decide +kernel
theorem dX2_init_21 : decode cX2_init 21 = .ok (.aload_n 0, 1) := by decide +kernel
theorem dX2_init_22 : decode cX2_init 22 = .ok (.iconst 4, 1) := by decide +kernel
theorem dX2_init_23 : decode cX2_init 23 = .ok (.newarray .int, 2) := by decide +kernel
theorem dX2_init_25 : decode cX2_init 25 = .ok (.putfield 20, 3) := by decide +kernel
theorem dX2_init_28 : decode cX2_init 28 = .ok (.return_, 1) := by decide +kernel
set_option maxRecDepth 20000 in
theorem ggX2_found_X4_digitOfDeed : GoodIn wsX2_found wsX4_digitOfDeed := goodIn_r _ [12, 13, 14, 15, 11, 16, 17, 18, 19, 20, 21, 22, 23, 37, 38, 39, 40, 41, 47, 48, 49, 50] (by decide +kernel) (by decide +kernel)
set_option maxRecDepth 20000 in
theorem gX2_found_X4_digitOfDeed : GoodIn wsX2_found (wsV RX2 37 RX4 yX4_digitOfDeed wsX4_digitOfDeed) := goodIn_app (goodIn_of _ (by decide +kernel)) ggX2_found_X4_digitOfDeed
set_option maxRecDepth 20000 in
theorem ggX2_found_X4_kindOfSubject : GoodIn wsX2_found wsX4_kindOfSubject := goodIn_r _ [27, 28, 29, 30, 31, 11, 32, 13, 14, 15, 16, 17, 18, 19, 20, 21, 22, 23, 37, 38, 39, 40, 41, 47, 48, 49, 50] (by decide +kernel) (by decide +kernel)
set_option maxRecDepth 20000 in
theorem gX2_found_X4_kindOfSubject : GoodIn wsX2_found (wsV RX2 41 RX4 yX4_kindOfSubject wsX4_kindOfSubject) := goodIn_app (goodIn_of _ (by decide +kernel)) ggX2_found_X4_kindOfSubject
set_option maxRecDepth 20000 in
theorem ggX2_found_X4_papersOfSubject : GoodIn wsX2_found wsX4_papersOfSubject := goodIn_r _ [36, 28, 13, 14, 15, 11, 16, 17, 18, 19, 20, 21, 22, 23, 37, 38, 39, 40, 41, 47, 48, 49, 50] (by decide +kernel) (by decide +kernel)
set_option maxRecDepth 20000 in
theorem gX2_found_X4_papersOfSubject : GoodIn wsX2_found (wsV RX2 45 RX4 yX4_papersOfSubject wsX4_papersOfSubject) := goodIn_app (goodIn_of _ (by decide +kernel)) ggX2_found_X4_papersOfSubject
theorem dX2_found_0 : decode cX2_found 0 = .ok (.aload_n 0, 1) := by decide +kernel
theorem dX2_found_1 : decode cX2_found 1 = .ok (.aload_n 1, 1) := by decide +kernel
theorem dX2_found_2 : decode cX2_found 2 = .ok (.getfield 23, 3) := by decide +kernel
theorem dX2_found_5 : decode cX2_found 5 = .ok (.putfield 28, 3) := by decide +kernel
theorem dX2_found_8 : decode cX2_found 8 = .ok (.aload_n 0, 1) := by decide +kernel
theorem dX2_found_9 : decode cX2_found 9 = .ok (.aload_n 1, 1) := by decide +kernel
theorem dX2_found_10 : decode cX2_found 10 = .ok (.getfield 31, 3) := by decide +kernel
theorem dX2_found_13 : decode cX2_found 13 = .ok (.putfield 34, 3) := by decide +kernel
theorem dX2_found_16 : decode cX2_found 16 = .ok (.iconst 0, 1) := by decide +kernel
theorem dX2_found_17 : decode cX2_found 17 = .ok (.istore_n 2, 1) := by decide +kernel
theorem dX2_found_18 : decode cX2_found 18 = .ok (.iload_n 2, 1) := by decide +kernel
theorem dX2_found_19 : decode cX2_found 19 = .ok (.aload_n 0, 1) := by decide +kernel
theorem dX2_found_20 : decode cX2_found 20 = .ok (.getfield 28, 3) := by decide +kernel
theorem dX2_found_23 : decode cX2_found 23 = .ok (.if_icmp .ge 36, 3) := by decide +kernel
theorem dX2_found_26 : decode cX2_found 26 = .ok (.iconst 0, 1) := by decide +kernel
theorem dX2_found_27 : decode cX2_found 27 = .ok (.istore_n 3, 1) := by decide +kernel
theorem dX2_found_28 : decode cX2_found 28 = .ok (.iload_n 3, 1) := by decide +kernel
theorem dX2_found_29 : decode cX2_found 29 = .ok (.iconst 3, 1) := by decide +kernel
theorem dX2_found_30 : decode cX2_found 30 = .ok (.if_icmp .ge 23, 3) := by decide +kernel
theorem dX2_found_33 : decode cX2_found 33 = .ok (.aload_n 0, 1) := by decide +kernel
theorem dX2_found_34 : decode cX2_found 34 = .ok (.getfield 11, 3) := by decide +kernel
theorem dX2_found_37 : decode cX2_found 37 = .ok (.iload_n 2, 1) := by decide +kernel
theorem dX2_found_38 : decode cX2_found 38 = .ok (.aaload, 1) := by decide +kernel
theorem dX2_found_39 : decode cX2_found 39 = .ok (.iload_n 3, 1) := by decide +kernel
theorem dX2_found_40 : decode cX2_found 40 = .ok (.aload_n 1, 1) := by decide +kernel
theorem dX2_found_41 : decode cX2_found 41 = .ok (.iload_n 2, 1) := by decide +kernel
theorem dX2_found_42 : decode cX2_found 42 = .ok (.iload_n 3, 1) := by decide +kernel
theorem dX2_found_43 : decode cX2_found 43 = .ok (.invokevirtual 37, 3) := by decide +kernel
theorem dX2_found_46 : decode cX2_found 46 = .ok (.iastore, 1) := by decide +kernel
theorem dX2_found_47 : decode cX2_found 47 = .ok (.iinc 3 1, 3) := by decide +kernel
theorem dX2_found_50 : decode cX2_found 50 = .ok (.goto (-22), 3) := by decide +kernel
theorem dX2_found_53 : decode cX2_found 53 = .ok (.iinc 2 1, 3) := by decide +kernel
theorem dX2_found_56 : decode cX2_found 56 = .ok (.goto (-38), 3) := by decide +kernel
theorem dX2_found_59 : decode cX2_found 59 = .ok (.iconst 0, 1) := by decide +kernel
theorem dX2_found_60 : decode cX2_found 60 = .ok (.istore_n 2, 1) := by decide +kernel
theorem dX2_found_61 : decode cX2_found 61 = .ok (.iload_n 2, 1) := by decide +kernel
theorem dX2_found_62 : decode cX2_found 62 = .ok (.aload_n 0, 1) := by decide +kernel
theorem dX2_found_63 : decode cX2_found 63 = .ok (.getfield 34, 3) := by decide +kernel
theorem dX2_found_66 : decode cX2_found 66 = .ok (.if_icmp .ge 31, 3) := by decide +kernel
theorem dX2_found_69 : decode cX2_found 69 = .ok (.aload_n 0, 1) := by decide +kernel
theorem dX2_found_70 : decode cX2_found 70 = .ok (.getfield 16, 3) := by decide +kernel
theorem dX2_found_73 : decode cX2_found 73 = .ok (.iload_n 2, 1) := by decide +kernel
theorem dX2_found_74 : decode cX2_found 74 = .ok (.aload_n 1, 1) := by decide +kernel
theorem dX2_found_75 : decode cX2_found 75 = .ok (.iload_n 2, 1) := by decide +kernel
theorem dX2_found_76 : decode cX2_found 76 = .ok (.invokevirtual 41, 3) := by decide +kernel
theorem dX2_found_79 : decode cX2_found 79 = .ok (.iastore, 1) := by decide +kernel
theorem dX2_found_80 : decode cX2_found 80 = .ok (.aload_n 0, 1) := by decide +kernel
theorem dX2_found_81 : decode cX2_found 81 = .ok (.getfield 20, 3) := by decide +kernel
theorem dX2_found_84 : decode cX2_found 84 = .ok (.iload_n 2, 1) := by decide +kernel
theorem dX2_found_85 : decode cX2_found 85 = .ok (.aload_n 1, 1) := by decide +kernel
theorem dX2_found_86 : decode cX2_found 86 = .ok (.iload_n 2, 1) := by decide +kernel
theorem dX2_found_87 : decode cX2_found 87 = .ok (.invokevirtual 45, 3) := by decide +kernel
theorem dX2_found_90 : decode cX2_found 90 = .ok (.iastore, 1) := by decide +kernel
theorem dX2_found_91 : decode cX2_found 91 = .ok (.iinc 2 1, 3) := by decide +kernel
theorem dX2_found_94 : decode cX2_found 94 = .ok (.goto (-33), 3) := by decide +kernel
theorem dX2_found_97 : decode cX2_found 97 = .ok (.return_, 1) := by decide +kernel
theorem dX2_isThere_0 : decode cX2_isThere 0 = .ok (.aload_n 0, 1) := by decide +kernel
theorem dX2_isThere_1 : decode cX2_isThere 1 = .ok (.getfield 34, 3) := by decide +kernel
theorem dX2_isThere_4 : decode cX2_isThere 4 = .ok (.ifCond .le 7, 3) := by decide +kernel
theorem dX2_isThere_7 : decode cX2_isThere 7 = .ok (.iconst 1, 1) := by decide +kernel
theorem dX2_isThere_8 : decode cX2_isThere 8 = .ok (.goto 4, 3) := by decide +kernel
theorem dX2_isThere_11 : decode cX2_isThere 11 = .ok (.iconst 0, 1) := by decide +kernel
theorem dX2_isThere_12 : decode cX2_isThere 12 = .ok (.ireturn, 1) := by decide +kernel
set_option maxRecDepth 20000 in
theorem ggX2_hasDeed_X6_isBelow : GoodIn wsX2_hasDeed wsX6_isBelow := goodIn_r _ [4] (by decide +kernel) (by decide +kernel)
set_option maxRecDepth 20000 in
theorem gX2_hasDeed_X6_isBelow_n48 : GoodIn wsX2_hasDeed (wsX6_isBelow) := ggX2_hasDeed_X6_isBelow
theorem dX2_hasDeed_0 : decode cX2_hasDeed 0 = .ok (.iload_n 1, 1) := by decide +kernel
theorem dX2_hasDeed_1 : decode cX2_hasDeed 1 = .ok (.aload_n 0, 1) := by decide +kernel
theorem dX2_hasDeed_2 : decode cX2_hasDeed 2 = .ok (.getfield 28, 3) := by decide +kernel
theorem dX2_hasDeed_5 : decode cX2_hasDeed 5 = .ok (.invokestatic 48, 3) := by decide +kernel
theorem dX2_hasDeed_8 : decode cX2_hasDeed 8 = .ok (.ireturn, 1) := by decide +kernel
set_option maxRecDepth 20000 in
theorem ggX2_hasSubject_X6_isBelow : GoodIn wsX2_hasSubject wsX6_isBelow := goodIn_r _ [4] (by decide +kernel) (by decide +kernel)
set_option maxRecDepth 20000 in
theorem gX2_hasSubject_X6_isBelow_n48 : GoodIn wsX2_hasSubject (wsX6_isBelow) := ggX2_hasSubject_X6_isBelow
theorem dX2_hasSubject_0 : decode cX2_hasSubject 0 = .ok (.iload_n 1, 1) := by decide +kernel
theorem dX2_hasSubject_1 : decode cX2_hasSubject 1 = .ok (.aload_n 0, 1) := by decide +kernel
theorem dX2_hasSubject_2 : decode cX2_hasSubject 2 = .ok (.getfield 34, 3) := by decide +kernel
theorem dX2_hasSubject_5 : decode cX2_hasSubject 5 = .ok (.invokestatic 48, 3) := by decide +kernel
theorem dX2_hasSubject_8 : decode cX2_hasSubject 8 = .ok (.ireturn, 1) := by decide +kernel
theorem dX2_fearOf_0 : decode cX2_fearOf 0 = .ok (.aload_n 0, 1) := by decide +kernel
theorem dX2_fearOf_1 : decode cX2_fearOf 1 = .ok (.getfield 11, 3) := by decide +kernel
theorem dX2_fearOf_4 : decode cX2_fearOf 4 = .ok (.iload_n 2, 1) := by decide +kernel
theorem dX2_fearOf_5 : decode cX2_fearOf 5 = .ok (.aaload, 1) := by decide +kernel
theorem dX2_fearOf_6 : decode cX2_fearOf 6 = .ok (.iconst 1, 1) := by decide +kernel
theorem dX2_fearOf_7 : decode cX2_fearOf 7 = .ok (.iaload, 1) := by decide +kernel
theorem dX2_fearOf_8 : decode cX2_fearOf 8 = .ok (.aload_n 0, 1) := by decide +kernel
theorem dX2_fearOf_9 : decode cX2_fearOf 9 = .ok (.getfield 11, 3) := by decide +kernel
theorem dX2_fearOf_12 : decode cX2_fearOf 12 = .ok (.iload_n 2, 1) := by decide +kernel
theorem dX2_fearOf_13 : decode cX2_fearOf 13 = .ok (.aaload, 1) := by decide +kernel
theorem dX2_fearOf_14 : decode cX2_fearOf 14 = .ok (.iconst 2, 1) := by decide +kernel
theorem dX2_fearOf_15 : decode cX2_fearOf 15 = .ok (.iaload, 1) := by decide +kernel
theorem dX2_fearOf_16 : decode cX2_fearOf 16 = .ok (.imul, 1) := by decide +kernel
theorem dX2_fearOf_17 : decode cX2_fearOf 17 = .ok (.istore_n 3, 1) := by decide +kernel
theorem dX2_fearOf_18 : decode cX2_fearOf 18 = .ok (.aload_n 0, 1) := by decide +kernel
theorem dX2_fearOf_19 : decode cX2_fearOf 19 = .ok (.getfield 16, 3) := by decide +kernel
theorem dX2_fearOf_22 : decode cX2_fearOf 22 = .ok (.iload_n 1, 1) := by decide +kernel
theorem dX2_fearOf_23 : decode cX2_fearOf 23 = .ok (.iaload, 1) := by decide +kernel
theorem dX2_fearOf_24 : decode cX2_fearOf 24 = .ok (.lookupswitch 40 #[(1, 35), (2, 28)], 28) := by decide +kernel
theorem dX2_fearOf_52 : decode cX2_fearOf 52 = .ok (.iconst 2, 1) := by decide +kernel
theorem dX2_fearOf_53 : decode cX2_fearOf 53 = .ok (.iload_n 3, 1) := by decide +kernel
theorem dX2_fearOf_54 : decode cX2_fearOf 54 = .ok (.bipush 10, 2) := by decide +kernel
theorem dX2_fearOf_56 : decode cX2_fearOf 56 = .ok (.iadd, 1) := by decide +kernel
theorem dX2_fearOf_57 : decode cX2_fearOf 57 = .ok (.imul, 1) := by decide +kernel
theorem dX2_fearOf_58 : decode cX2_fearOf 58 = .ok (.ireturn, 1) := by decide +kernel
theorem dX2_fearOf_59 : decode cX2_fearOf 59 = .ok (.iload_n 3, 1) := by decide +kernel
theorem dX2_fearOf_60 : decode cX2_fearOf 60 = .ok (.bipush 10, 2) := by decide +kernel
theorem dX2_fearOf_62 : decode cX2_fearOf 62 = .ok (.iadd, 1) := by decide +kernel
theorem dX2_fearOf_63 : decode cX2_fearOf 63 = .ok (.ireturn, 1) := by decide +kernel
theorem dX2_fearOf_64 : decode cX2_fearOf 64 = .ok (.iload_n 3, 1) := by decide +kernel
theorem dX2_fearOf_65 : decode cX2_fearOf 65 = .ok (.ireturn, 1) := by decide +kernel
theorem dX2_pardonedValue_0 : decode cX2_pardonedValue 0 = .ok (.bipush 10, 2) := by decide +kernel
theorem dX2_pardonedValue_2 : decode cX2_pardonedValue 2 = .ok (.aload_n 0, 1) := by decide +kernel
theorem dX2_pardonedValue_3 : decode cX2_pardonedValue 3 = .ok (.getfield 11, 3) := by decide +kernel
theorem dX2_pardonedValue_6 : decode cX2_pardonedValue 6 = .ok (.iload_n 1, 1) := by decide +kernel
theorem dX2_pardonedValue_7 : decode cX2_pardonedValue 7 = .ok (.aaload, 1) := by decide +kernel
theorem dX2_pardonedValue_8 : decode cX2_pardonedValue 8 = .ok (.iconst 0, 1) := by decide +kernel
theorem dX2_pardonedValue_9 : decode cX2_pardonedValue 9 = .ok (.iaload, 1) := by decide +kernel
theorem dX2_pardonedValue_10 : decode cX2_pardonedValue 10 = .ok (.imul, 1) := by decide +kernel
theorem dX2_pardonedValue_11 : decode cX2_pardonedValue 11 = .ok (.ireturn, 1) := by decide +kernel
set_option maxRecDepth 20000 in
theorem ggX2_unpardonedValue_X2_pardonedValue : GoodIn wsX2_unpardonedValue wsX2_pardonedValue := goodIn_r _ [5, 6, 12, 13, 14, 15, 16] (by decide +kernel) (by decide +kernel)
set_option maxRecDepth 20000 in
theorem gX2_unpardonedValue_X2_pardonedValue : GoodIn wsX2_unpardonedValue (wsV RX2 52 RX2 yX2_pardonedValue wsX2_pardonedValue) := goodIn_app (goodIn_of _ (by decide +kernel)) ggX2_unpardonedValue_X2_pardonedValue
set_option maxRecDepth 20000 in
theorem ggX2_unpardonedValue_X2_fearOf : GoodIn wsX2_unpardonedValue wsX2_fearOf := goodIn_r _ [10, 6, 11, 12, 13, 14, 15, 16] (by decide +kernel) (by decide +kernel)
set_option maxRecDepth 20000 in
theorem gX2_unpardonedValue_X2_fearOf : GoodIn wsX2_unpardonedValue (wsV RX2 55 RX2 yX2_fearOf wsX2_fearOf) := goodIn_app (goodIn_of _ (by decide +kernel)) ggX2_unpardonedValue_X2_fearOf
theorem dX2_unpardonedValue_0 : decode cX2_unpardonedValue 0 = .ok (.aload_n 0, 1) := by decide +kernel
theorem dX2_unpardonedValue_1 : decode cX2_unpardonedValue 1 = .ok (.iload_n 2, 1) := by decide +kernel
theorem dX2_unpardonedValue_2 : decode cX2_unpardonedValue 2 = .ok (.invokevirtual 52, 3) := by decide +kernel
theorem dX2_unpardonedValue_5 : decode cX2_unpardonedValue 5 = .ok (.aload_n 0, 1) := by decide +kernel
theorem dX2_unpardonedValue_6 : decode cX2_unpardonedValue 6 = .ok (.iload_n 1, 1) := by decide +kernel
theorem dX2_unpardonedValue_7 : decode cX2_unpardonedValue 7 = .ok (.iload_n 2, 1) := by decide +kernel
theorem dX2_unpardonedValue_8 : decode cX2_unpardonedValue 8 = .ok (.invokevirtual 55, 3) := by decide +kernel
theorem dX2_unpardonedValue_11 : decode cX2_unpardonedValue 11 = .ok (.isub, 1) := by decide +kernel
theorem dX2_unpardonedValue_12 : decode cX2_unpardonedValue 12 = .ok (.ireturn, 1) := by decide +kernel
set_option maxRecDepth 20000 in
theorem ggX2_wouldDo_X2_unpardonedValue : GoodIn wsX2_wouldDo wsX2_unpardonedValue := goodIn_r _ [5, 6, 7, 8, 4, 9, 10, 11, 12, 13, 14, 15, 16, 17, 18, 19, 20] (by decide +kernel) (by decide +kernel)
set_option maxRecDepth 20000 in
theorem gX2_wouldDo_X2_unpardonedValue : GoodIn wsX2_wouldDo (wsV RX2 58 RX2 yX2_unpardonedValue wsX2_unpardonedValue) := goodIn_app (goodIn_of _ (by decide +kernel)) ggX2_wouldDo_X2_unpardonedValue
theorem dX2_wouldDo_0 : decode cX2_wouldDo 0 = .ok (.aload_n 0, 1) := by decide +kernel
theorem dX2_wouldDo_1 : decode cX2_wouldDo 1 = .ok (.iload_n 1, 1) := by decide +kernel
theorem dX2_wouldDo_2 : decode cX2_wouldDo 2 = .ok (.iload_n 2, 1) := by decide +kernel
theorem dX2_wouldDo_3 : decode cX2_wouldDo 3 = .ok (.invokevirtual 58, 3) := by decide +kernel
theorem dX2_wouldDo_6 : decode cX2_wouldDo 6 = .ok (.ifCond .le 7, 3) := by decide +kernel
theorem dX2_wouldDo_9 : decode cX2_wouldDo 9 = .ok (.iconst 1, 1) := by decide +kernel
theorem dX2_wouldDo_10 : decode cX2_wouldDo 10 = .ok (.goto 4, 3) := by decide +kernel
theorem dX2_wouldDo_13 : decode cX2_wouldDo 13 = .ok (.iconst 0, 1) := by decide +kernel
theorem dX2_wouldDo_14 : decode cX2_wouldDo 14 = .ok (.ireturn, 1) := by decide +kernel
set_option maxRecDepth 20000 in
theorem ggX2_doneBy_X2_wouldDo : GoodIn wsX2_doneBy wsX2_wouldDo := goodIn_r _ [6, 7, 8, 9, 5, 10, 11, 12, 13, 14, 15, 16, 17, 18, 19, 20, 21, 22, 23, 24, 25] (by decide +kernel) (by decide +kernel)
set_option maxRecDepth 20000 in
theorem gX2_doneBy_X2_wouldDo : GoodIn wsX2_doneBy (wsV RX2 61 RX2 yX2_wouldDo wsX2_wouldDo) := goodIn_app (goodIn_of _ (by decide +kernel)) ggX2_doneBy_X2_wouldDo
theorem dX2_doneBy_0 : decode cX2_doneBy 0 = .ok (.iconst 0, 1) := by decide +kernel
theorem dX2_doneBy_1 : decode cX2_doneBy 1 = .ok (.istore_n 2, 1) := by decide +kernel
theorem dX2_doneBy_2 : decode cX2_doneBy 2 = .ok (.iconst 0, 1) := by decide +kernel
theorem dX2_doneBy_3 : decode cX2_doneBy 3 = .ok (.istore_n 3, 1) := by decide +kernel
theorem dX2_doneBy_4 : decode cX2_doneBy 4 = .ok (.iload_n 3, 1) := by decide +kernel
theorem dX2_doneBy_5 : decode cX2_doneBy 5 = .ok (.aload_n 0, 1) := by decide +kernel
theorem dX2_doneBy_6 : decode cX2_doneBy 6 = .ok (.getfield 28, 3) := by decide +kernel
theorem dX2_doneBy_9 : decode cX2_doneBy 9 = .ok (.if_icmp .ge 24, 3) := by decide +kernel
theorem dX2_doneBy_12 : decode cX2_doneBy 12 = .ok (.aload_n 0, 1) := by decide +kernel
theorem dX2_doneBy_13 : decode cX2_doneBy 13 = .ok (.iload_n 1, 1) := by decide +kernel
theorem dX2_doneBy_14 : decode cX2_doneBy 14 = .ok (.iload_n 3, 1) := by decide +kernel
theorem dX2_doneBy_15 : decode cX2_doneBy 15 = .ok (.invokevirtual 61, 3) := by decide +kernel
theorem dX2_doneBy_18 : decode cX2_doneBy 18 = .ok (.ifCond .eq 9, 3) := by decide +kernel
theorem dX2_doneBy_21 : decode cX2_doneBy 21 = .ok (.iload_n 2, 1) := by decide +kernel
theorem dX2_doneBy_22 : decode cX2_doneBy 22 = .ok (.iconst 1, 1) := by decide +kernel
theorem dX2_doneBy_23 : decode cX2_doneBy 23 = .ok (.iload_n 3, 1) := by decide +kernel
theorem dX2_doneBy_24 : decode cX2_doneBy 24 = .ok (.ishl, 1) := by decide +kernel
theorem dX2_doneBy_25 : decode cX2_doneBy 25 = .ok (.ior, 1) := by decide +kernel
theorem dX2_doneBy_26 : decode cX2_doneBy 26 = .ok (.istore_n 2, 1) := by decide +kernel
theorem dX2_doneBy_27 : decode cX2_doneBy 27 = .ok (.iinc 3 1, 3) := by decide +kernel
theorem dX2_doneBy_30 : decode cX2_doneBy 30 = .ok (.goto (-26), 3) := by decide +kernel
theorem dX2_doneBy_33 : decode cX2_doneBy 33 = .ok (.iload_n 2, 1) := by decide +kernel
theorem dX2_doneBy_34 : decode cX2_doneBy 34 = .ok (.ireturn, 1) := by decide +kernel
theorem dX2_allPapers_0 : decode cX2_allPapers 0 = .ok (.iconst 0, 1) := by decide +kernel
theorem dX2_allPapers_1 : decode cX2_allPapers 1 = .ok (.istore_n 1, 1) := by decide +kernel
theorem dX2_allPapers_2 : decode cX2_allPapers 2 = .ok (.iconst 0, 1) := by decide +kernel
theorem dX2_allPapers_3 : decode cX2_allPapers 3 = .ok (.istore_n 2, 1) := by decide +kernel
theorem dX2_allPapers_4 : decode cX2_allPapers 4 = .ok (.iload_n 2, 1) := by decide +kernel
theorem dX2_allPapers_5 : decode cX2_allPapers 5 = .ok (.aload_n 0, 1) := by decide +kernel
theorem dX2_allPapers_6 : decode cX2_allPapers 6 = .ok (.getfield 34, 3) := by decide +kernel
theorem dX2_allPapers_9 : decode cX2_allPapers 9 = .ok (.if_icmp .ge 18, 3) := by decide +kernel
theorem dX2_allPapers_12 : decode cX2_allPapers 12 = .ok (.iload_n 1, 1) := by decide +kernel
theorem dX2_allPapers_13 : decode cX2_allPapers 13 = .ok (.aload_n 0, 1) := by decide +kernel
theorem dX2_allPapers_14 : decode cX2_allPapers 14 = .ok (.getfield 20, 3) := by decide +kernel
theorem dX2_allPapers_17 : decode cX2_allPapers 17 = .ok (.iload_n 2, 1) := by decide +kernel
theorem dX2_allPapers_18 : decode cX2_allPapers 18 = .ok (.iaload, 1) := by decide +kernel
theorem dX2_allPapers_19 : decode cX2_allPapers 19 = .ok (.iadd, 1) := by decide +kernel
theorem dX2_allPapers_20 : decode cX2_allPapers 20 = .ok (.istore_n 1, 1) := by decide +kernel
theorem dX2_allPapers_21 : decode cX2_allPapers 21 = .ok (.iinc 2 1, 3) := by decide +kernel
theorem dX2_allPapers_24 : decode cX2_allPapers 24 = .ok (.goto (-20), 3) := by decide +kernel
theorem dX2_allPapers_27 : decode cX2_allPapers 27 = .ok (.iload_n 1, 1) := by decide +kernel
theorem dX2_allPapers_28 : decode cX2_allPapers 28 = .ok (.ireturn, 1) := by decide +kernel
theorem dX3_init_0 : decode cX3_init 0 = .ok (.aload_n 0, 1) := by decide +kernel
theorem dX3_init_1 : decode cX3_init 1 = .ok (.invokespecial 3, 3) := by decide +kernel
theorem dX3_init_4 : decode cX3_init 4 = .ok (.aload_n 0, 1) := by decide +kernel
theorem dX3_init_5 : decode cX3_init 5 = .ok (.bipush 60, 2) := by decide +kernel
theorem dX3_init_7 : decode cX3_init 7 = .ok (.newarray .int, 2) := by decide +kernel
theorem dX3_init_9 : decode cX3_init 9 = .ok (.putfield 9, 3) := by decide +kernel
theorem dX3_init_12 : decode cX3_init 12 = .ok (.return_, 1) := by decide +kernel
theorem dX3_renew_0 : decode cX3_renew 0 = .ok (.aload_n 0, 1) := by decide +kernel
theorem dX3_renew_1 : decode cX3_renew 1 = .ok (.iconst 1, 1) := by decide +kernel
theorem dX3_renew_2 : decode cX3_renew 2 = .ok (.putfield 15, 3) := by decide +kernel
theorem dX3_renew_5 : decode cX3_renew 5 = .ok (.aload_n 0, 1) := by decide +kernel
theorem dX3_renew_6 : decode cX3_renew 6 = .ok (.iload_n 1, 1) := by decide +kernel
theorem dX3_renew_7 : decode cX3_renew 7 = .ok (.putfield 19, 3) := by decide +kernel
theorem dX3_renew_10 : decode cX3_renew 10 = .ok (.aload_n 0, 1) := by decide +kernel
theorem dX3_renew_11 : decode cX3_renew 11 = .ok (.iload_n 2, 1) := by decide +kernel
theorem dX3_renew_12 : decode cX3_renew 12 = .ok (.putfield 23, 3) := by decide +kernel
theorem dX3_renew_15 : decode cX3_renew 15 = .ok (.iconst 0, 1) := by decide +kernel
theorem dX3_renew_16 : decode cX3_renew 16 = .ok (.istore_n 3, 1) := by decide +kernel
theorem dX3_renew_17 : decode cX3_renew 17 = .ok (.iload_n 3, 1) := by decide +kernel
theorem dX3_renew_18 : decode cX3_renew 18 = .ok (.bipush 60, 2) := by decide +kernel
theorem dX3_renew_20 : decode cX3_renew 20 = .ok (.if_icmp .ge 16, 3) := by decide +kernel
theorem dX3_renew_23 : decode cX3_renew 23 = .ok (.aload_n 0, 1) := by decide +kernel
theorem dX3_renew_24 : decode cX3_renew 24 = .ok (.getfield 9, 3) := by decide +kernel
theorem dX3_renew_27 : decode cX3_renew 27 = .ok (.iload_n 3, 1) := by decide +kernel
theorem dX3_renew_28 : decode cX3_renew 28 = .ok (.iconst 0, 1) := by decide +kernel
theorem dX3_renew_29 : decode cX3_renew 29 = .ok (.iastore, 1) := by decide +kernel
theorem dX3_renew_30 : decode cX3_renew 30 = .ok (.iinc 3 1, 3) := by decide +kernel
theorem dX3_renew_33 : decode cX3_renew 33 = .ok (.goto (-16), 3) := by decide +kernel
theorem dX3_renew_36 : decode cX3_renew 36 = .ok (.return_, 1) := by decide +kernel
theorem dX3_cut_0 : decode cX3_cut 0 = .ok (.aload_n 0, 1) := by decide +kernel
theorem dX3_cut_1 : decode cX3_cut 1 = .ok (.getfield 19, 3) := by decide +kernel
theorem dX3_cut_4 : decode cX3_cut 4 = .ok (.lookupswitch 34 #[(0, 28), (1, 31)], 28) := by decide +kernel
theorem dX3_cut_32 : decode cX3_cut 32 = .ok (.iload_n 1, 1) := by decide +kernel
theorem dX3_cut_33 : decode cX3_cut 33 = .ok (.i2b, 1) := by decide +kernel
theorem dX3_cut_34 : decode cX3_cut 34 = .ok (.ireturn, 1) := by decide +kernel
theorem dX3_cut_35 : decode cX3_cut 35 = .ok (.iload_n 1, 1) := by decide +kernel
theorem dX3_cut_36 : decode cX3_cut 36 = .ok (.i2s, 1) := by decide +kernel
theorem dX3_cut_37 : decode cX3_cut 37 = .ok (.ireturn, 1) := by decide +kernel
theorem dX3_cut_38 : decode cX3_cut 38 = .ok (.iload_n 1, 1) := by decide +kernel
theorem dX3_cut_39 : decode cX3_cut 39 = .ok (.ireturn, 1) := by decide +kernel
theorem dX3_spans_0 : decode cX3_spans 0 = .ok (.iload_n 1, 1) := by decide +kernel
theorem dX3_spans_1 : decode cX3_spans 1 = .ok (.ifCond .lt 29, 3) := by decide +kernel
theorem dX3_spans_4 : decode cX3_spans 4 = .ok (.iload_n 1, 1) := by decide +kernel
theorem dX3_spans_5 : decode cX3_spans 5 = .ok (.aload_n 0, 1) := by decide +kernel
theorem dX3_spans_6 : decode cX3_spans 6 = .ok (.getfield 23, 3) := by decide +kernel
theorem dX3_spans_9 : decode cX3_spans 9 = .ok (.if_icmp .gt 21, 3) := by decide +kernel
theorem dX3_spans_12 : decode cX3_spans 12 = .ok (.iload_n 2, 1) := by decide +kernel
theorem dX3_spans_13 : decode cX3_spans 13 = .ok (.ifCond .lt 17, 3) := by decide +kernel
theorem dX3_spans_16 : decode cX3_spans 16 = .ok (.iload_n 2, 1) := by decide +kernel
theorem dX3_spans_17 : decode cX3_spans 17 = .ok (.aload_n 0, 1) := by decide +kernel
theorem dX3_spans_18 : decode cX3_spans 18 = .ok (.getfield 23, 3) := by decide +kernel
theorem dX3_spans_21 : decode cX3_spans 21 = .ok (.iload_n 1, 1) := by decide +kernel
theorem dX3_spans_22 : decode cX3_spans 22 = .ok (.isub, 1) := by decide +kernel
theorem dX3_spans_23 : decode cX3_spans 23 = .ok (.if_icmp .gt 7, 3) := by decide +kernel
theorem dX3_spans_26 : decode cX3_spans 26 = .ok (.iconst 1, 1) := by decide +kernel
theorem dX3_spans_27 : decode cX3_spans 27 = .ok (.goto 4, 3) := by decide +kernel
theorem dX3_spans_30 : decode cX3_spans 30 = .ok (.iconst 0, 1) := by decide +kernel
theorem dX3_spans_31 : decode cX3_spans 31 = .ok (.ireturn, 1) := by decide +kernel
theorem dX4_init_0 : decode cX4_init 0 = .ok (.aload_n 0, 1) := by decide +kernel
theorem dX4_init_1 : decode cX4_init 1 = .ok (.invokespecial 3, 3) := by decide +kernel
theorem dX4_init_4 : decode cX4_init 4 = .ok (.aload_n 0, 1) := by decide +kernel
theorem dX4_init_5 : decode cX4_init 5 = .ok (.aload_n 1, 1) := by decide +kernel
theorem dX4_init_6 : decode cX4_init 6 = .ok (.putfield 9, 3) := by decide +kernel
theorem dX4_init_9 : decode cX4_init 9 = .ok (.aload_n 0, 1) := by decide +kernel
theorem dX4_init_10 : decode cX4_init 10 = .ok (.iload_n 2, 1) := by decide +kernel
theorem dX4_init_11 : decode cX4_init 11 = .ok (.putfield 15, 3) := by decide +kernel
theorem dX4_init_14 : decode cX4_init 14 = .ok (.aload_n 0, 1) := by decide +kernel
theorem dX4_init_15 : decode cX4_init 15 = .ok (.iload_n 3, 1) := by decide +kernel
theorem dX4_init_16 : decode cX4_init 16 = .ok (.putfield 19, 3) := by decide +kernel
theorem dX4_init_19 : decode cX4_init 19 = .ok (.return_, 1) := by decide +kernel
set_option maxRecDepth 20000 in
theorem ggX4_firstFault_X4_code : GoodIn wsX4_firstFault wsX4_code := goodIn_r _ [8, 3, 9, 10, 11, 12, 13, 14, 23, 24, 25, 26, 27, 28, 29, 30, 31] (by decide +kernel) (by decide +kernel)
set_option maxRecDepth 20000 in
theorem gX4_firstFault_X4_code : GoodIn wsX4_firstFault (wsV RX4 22 RX4 yX4_code wsX4_code) := goodIn_app (goodIn_of _ (by decide +kernel)) ggX4_firstFault_X4_code
set_option maxRecDepth 20000 in
theorem ggX4_firstFault_X4_isDigit : GoodIn wsX4_firstFault wsX4_isDigit := goodIn_r _ [18, 4, 5, 6, 7, 8, 3, 9, 10, 11, 12, 13, 14, 23, 24, 25, 26, 27, 28, 29, 30, 31] (by decide +kernel) (by decide +kernel)
set_option maxRecDepth 20000 in
theorem gX4_firstFault_X4_isDigit : GoodIn wsX4_firstFault (wsV RX4 29 RX4 yX4_isDigit wsX4_isDigit) := goodIn_app (goodIn_of _ (by decide +kernel)) ggX4_firstFault_X4_isDigit
set_option maxRecDepth 20000 in
theorem ggX4_firstFault_X4_kindAt : GoodIn wsX4_firstFault wsX4_kindAt := goodIn_r _ [22, 4, 5, 6, 7, 8, 3, 9, 10, 11, 12, 13, 14, 23, 24, 25, 26, 27, 28, 29, 30, 31] (by decide +kernel) (by decide +kernel)
set_option maxRecDepth 20000 in
theorem gX4_firstFault_X4_kindAt : GoodIn wsX4_firstFault (wsV RX4 36 RX4 yX4_kindAt wsX4_kindAt) := goodIn_app (goodIn_of _ (by decide +kernel)) ggX4_firstFault_X4_kindAt
theorem dX4_firstFault_0 : decode cX4_firstFault 0 = .ok (.aload_n 0, 1) := by decide +kernel
theorem dX4_firstFault_1 : decode cX4_firstFault 1 = .ok (.iconst 0, 1) := by decide +kernel
theorem dX4_firstFault_2 : decode cX4_firstFault 2 = .ok (.invokevirtual 22, 3) := by decide +kernel
theorem dX4_firstFault_5 : decode cX4_firstFault 5 = .ok (.bipush 112, 2) := by decide +kernel
theorem dX4_firstFault_7 : decode cX4_firstFault 7 = .ok (.if_icmp .eq 5, 3) := by decide +kernel
theorem dX4_firstFault_10 : decode cX4_firstFault 10 = .ok (.iconst 0, 1) := by decide +kernel
theorem dX4_firstFault_11 : decode cX4_firstFault 11 = .ok (.ireturn, 1) := by decide +kernel
theorem dX4_firstFault_12 : decode cX4_firstFault 12 = .ok (.iconst 1, 1) := by decide +kernel
theorem dX4_firstFault_13 : decode cX4_firstFault 13 = .ok (.istore_n 1, 1) := by decide +kernel
theorem dX4_firstFault_14 : decode cX4_firstFault 14 = .ok (.aload_n 0, 1) := by decide +kernel
theorem dX4_firstFault_15 : decode cX4_firstFault 15 = .ok (.iconst 0, 1) := by decide +kernel
theorem dX4_firstFault_16 : decode cX4_firstFault 16 = .ok (.putfield 26, 3) := by decide +kernel
theorem dX4_firstFault_19 : decode cX4_firstFault 19 = .ok (.aload_n 0, 1) := by decide +kernel
theorem dX4_firstFault_20 : decode cX4_firstFault 20 = .ok (.getfield 26, 3) := by decide +kernel
theorem dX4_firstFault_23 : decode cX4_firstFault 23 = .ok (.iconst 5, 1) := by decide +kernel
theorem dX4_firstFault_24 : decode cX4_firstFault 24 = .ok (.if_icmp .ge 58, 3) := by decide +kernel
theorem dX4_firstFault_27 : decode cX4_firstFault 27 = .ok (.aload_n 0, 1) := by decide +kernel
theorem dX4_firstFault_28 : decode cX4_firstFault 28 = .ok (.iload_n 1, 1) := by decide +kernel
theorem dX4_firstFault_29 : decode cX4_firstFault 29 = .ok (.invokevirtual 22, 3) := by decide +kernel
theorem dX4_firstFault_32 : decode cX4_firstFault 32 = .ok (.bipush 47, 2) := by decide +kernel
theorem dX4_firstFault_34 : decode cX4_firstFault 34 = .ok (.if_icmp .ne 48, 3) := by decide +kernel
theorem dX4_firstFault_37 : decode cX4_firstFault 37 = .ok (.iconst 1, 1) := by decide +kernel
theorem dX4_firstFault_38 : decode cX4_firstFault 38 = .ok (.istore_n 2, 1) := by decide +kernel
theorem dX4_firstFault_39 : decode cX4_firstFault 39 = .ok (.iload_n 2, 1) := by decide +kernel
theorem dX4_firstFault_40 : decode cX4_firstFault 40 = .ok (.iconst 3, 1) := by decide +kernel
theorem dX4_firstFault_41 : decode cX4_firstFault 41 = .ok (.if_icmp .gt 25, 3) := by decide +kernel
theorem dX4_firstFault_44 : decode cX4_firstFault 44 = .ok (.aload_n 0, 1) := by decide +kernel
theorem dX4_firstFault_45 : decode cX4_firstFault 45 = .ok (.iload_n 1, 1) := by decide +kernel
theorem dX4_firstFault_46 : decode cX4_firstFault 46 = .ok (.iload_n 2, 1) := by decide +kernel
theorem dX4_firstFault_47 : decode cX4_firstFault 47 = .ok (.iadd, 1) := by decide +kernel
theorem dX4_firstFault_48 : decode cX4_firstFault 48 = .ok (.bipush 57, 2) := by decide +kernel
theorem dX4_firstFault_50 : decode cX4_firstFault 50 = .ok (.invokevirtual 29, 3) := by decide +kernel
theorem dX4_firstFault_53 : decode cX4_firstFault 53 = .ok (.ifCond .ne 7, 3) := by decide +kernel
theorem dX4_firstFault_56 : decode cX4_firstFault 56 = .ok (.iload_n 1, 1) := by decide +kernel
theorem dX4_firstFault_57 : decode cX4_firstFault 57 = .ok (.iload_n 2, 1) := by decide +kernel
theorem dX4_firstFault_58 : decode cX4_firstFault 58 = .ok (.iadd, 1) := by decide +kernel
theorem dX4_firstFault_59 : decode cX4_firstFault 59 = .ok (.ireturn, 1) := by decide +kernel
theorem dX4_firstFault_60 : decode cX4_firstFault 60 = .ok (.iinc 2 1, 3) := by decide +kernel
theorem dX4_firstFault_63 : decode cX4_firstFault 63 = .ok (.goto (-24), 3) := by decide +kernel
theorem dX4_firstFault_66 : decode cX4_firstFault 66 = .ok (.iinc 1 4, 3) := by decide +kernel
theorem dX4_firstFault_69 : decode cX4_firstFault 69 = .ok (.aload_n 0, 1) := by decide +kernel
theorem dX4_firstFault_70 : decode cX4_firstFault 70 = .ok (.dup, 1) := by decide +kernel
theorem dX4_firstFault_71 : decode cX4_firstFault 71 = .ok (.getfield 26, 3) := by decide +kernel
theorem dX4_firstFault_74 : decode cX4_firstFault 74 = .ok (.iconst 1, 1) := by decide +kernel
theorem dX4_firstFault_75 : decode cX4_firstFault 75 = .ok (.iadd, 1) := by decide +kernel
theorem dX4_firstFault_76 : decode cX4_firstFault 76 = .ok (.putfield 26, 3) := by decide +kernel
theorem dX4_firstFault_79 : decode cX4_firstFault 79 = .ok (.goto (-60), 3) := by decide +kernel
theorem dX4_firstFault_82 : decode cX4_firstFault 82 = .ok (.aload_n 0, 1) := by decide +kernel
theorem dX4_firstFault_83 : decode cX4_firstFault 83 = .ok (.getfield 26, 3) := by decide +kernel
theorem dX4_firstFault_86 : decode cX4_firstFault 86 = .ok (.ifCond .ne 5, 3) := by decide +kernel
theorem dX4_firstFault_89 : decode cX4_firstFault 89 = .ok (.iload_n 1, 1) := by decide +kernel
theorem dX4_firstFault_90 : decode cX4_firstFault 90 = .ok (.ireturn, 1) := by decide +kernel
theorem dX4_firstFault_91 : decode cX4_firstFault 91 = .ok (.aload_n 0, 1) := by decide +kernel
theorem dX4_firstFault_92 : decode cX4_firstFault 92 = .ok (.iconst 0, 1) := by decide +kernel
theorem dX4_firstFault_93 : decode cX4_firstFault 93 = .ok (.putfield 33, 3) := by decide +kernel
theorem dX4_firstFault_96 : decode cX4_firstFault 96 = .ok (.aload_n 0, 1) := by decide +kernel
theorem dX4_firstFault_97 : decode cX4_firstFault 97 = .ok (.getfield 33, 3) := by decide +kernel
theorem dX4_firstFault_100 : decode cX4_firstFault 100 = .ok (.iconst 4, 1) := by decide +kernel
theorem dX4_firstFault_101 : decode cX4_firstFault 101 = .ok (.if_icmp .ge 61, 3) := by decide +kernel
theorem dX4_firstFault_104 : decode cX4_firstFault 104 = .ok (.aload_n 0, 1) := by decide +kernel
theorem dX4_firstFault_105 : decode cX4_firstFault 105 = .ok (.iload_n 1, 1) := by decide +kernel
theorem dX4_firstFault_106 : decode cX4_firstFault 106 = .ok (.invokevirtual 22, 3) := by decide +kernel
theorem dX4_firstFault_109 : decode cX4_firstFault 109 = .ok (.bipush 59, 2) := by decide +kernel
theorem dX4_firstFault_111 : decode cX4_firstFault 111 = .ok (.if_icmp .ne 51, 3) := by decide +kernel
theorem dX4_firstFault_114 : decode cX4_firstFault 114 = .ok (.aload_n 0, 1) := by decide +kernel
theorem dX4_firstFault_115 : decode cX4_firstFault 115 = .ok (.iload_n 1, 1) := by decide +kernel
theorem dX4_firstFault_116 : decode cX4_firstFault 116 = .ok (.iconst 1, 1) := by decide +kernel
theorem dX4_firstFault_117 : decode cX4_firstFault 117 = .ok (.iadd, 1) := by decide +kernel
theorem dX4_firstFault_118 : decode cX4_firstFault 118 = .ok (.invokevirtual 36, 3) := by decide +kernel
theorem dX4_firstFault_121 : decode cX4_firstFault 121 = .ok (.bipush (-9), 2) := by decide +kernel
theorem dX4_firstFault_123 : decode cX4_firstFault 123 = .ok (.if_icmp .ne 7, 3) := by decide +kernel
theorem dX4_firstFault_126 : decode cX4_firstFault 126 = .ok (.iload_n 1, 1) := by decide +kernel
theorem dX4_firstFault_127 : decode cX4_firstFault 127 = .ok (.iconst 1, 1) := by decide +kernel
theorem dX4_firstFault_128 : decode cX4_firstFault 128 = .ok (.iadd, 1) := by decide +kernel
theorem dX4_firstFault_129 : decode cX4_firstFault 129 = .ok (.ireturn, 1) := by decide +kernel
theorem dX4_firstFault_130 : decode cX4_firstFault 130 = .ok (.aload_n 0, 1) := by decide +kernel
theorem dX4_firstFault_131 : decode cX4_firstFault 131 = .ok (.iload_n 1, 1) := by decide +kernel
theorem dX4_firstFault_132 : decode cX4_firstFault 132 = .ok (.iconst 2, 1) := by decide +kernel
theorem dX4_firstFault_133 : decode cX4_firstFault 133 = .ok (.iadd, 1) := by decide +kernel
theorem dX4_firstFault_134 : decode cX4_firstFault 134 = .ok (.bipush 51, 2) := by decide +kernel
theorem dX4_firstFault_136 : decode cX4_firstFault 136 = .ok (.invokevirtual 29, 3) := by decide +kernel
theorem dX4_firstFault_139 : decode cX4_firstFault 139 = .ok (.ifCond .ne 7, 3) := by decide +kernel
theorem dX4_firstFault_142 : decode cX4_firstFault 142 = .ok (.iload_n 1, 1) := by decide +kernel
theorem dX4_firstFault_143 : decode cX4_firstFault 143 = .ok (.iconst 2, 1) := by decide +kernel
theorem dX4_firstFault_144 : decode cX4_firstFault 144 = .ok (.iadd, 1) := by decide +kernel
theorem dX4_firstFault_145 : decode cX4_firstFault 145 = .ok (.ireturn, 1) := by decide +kernel
theorem dX4_firstFault_146 : decode cX4_firstFault 146 = .ok (.iinc 1 3, 3) := by decide +kernel
theorem dX4_firstFault_149 : decode cX4_firstFault 149 = .ok (.aload_n 0, 1) := by decide +kernel
theorem dX4_firstFault_150 : decode cX4_firstFault 150 = .ok (.dup, 1) := by decide +kernel
theorem dX4_firstFault_151 : decode cX4_firstFault 151 = .ok (.getfield 33, 3) := by decide +kernel
theorem dX4_firstFault_154 : decode cX4_firstFault 154 = .ok (.iconst 1, 1) := by decide +kernel
theorem dX4_firstFault_155 : decode cX4_firstFault 155 = .ok (.iadd, 1) := by decide +kernel
theorem dX4_firstFault_156 : decode cX4_firstFault 156 = .ok (.putfield 33, 3) := by decide +kernel
theorem dX4_firstFault_159 : decode cX4_firstFault 159 = .ok (.goto (-63), 3) := by decide +kernel
theorem dX4_firstFault_162 : decode cX4_firstFault 162 = .ok (.aload_n 0, 1) := by decide +kernel
theorem dX4_firstFault_163 : decode cX4_firstFault 163 = .ok (.getfield 33, 3) := by decide +kernel
theorem dX4_firstFault_166 : decode cX4_firstFault 166 = .ok (.ifCond .le 15, 3) := by decide +kernel
theorem dX4_firstFault_169 : decode cX4_firstFault 169 = .ok (.iload_n 1, 1) := by decide +kernel
theorem dX4_firstFault_170 : decode cX4_firstFault 170 = .ok (.aload_n 0, 1) := by decide +kernel
theorem dX4_firstFault_171 : decode cX4_firstFault 171 = .ok (.getfield 19, 3) := by decide +kernel
theorem dX4_firstFault_174 : decode cX4_firstFault 174 = .ok (.if_icmp .ne 7, 3) := by decide +kernel
theorem dX4_firstFault_177 : decode cX4_firstFault 177 = .ok (.iconst (-1), 1) := by decide +kernel
theorem dX4_firstFault_178 : decode cX4_firstFault 178 = .ok (.goto 4, 3) := by decide +kernel
theorem dX4_firstFault_181 : decode cX4_firstFault 181 = .ok (.iload_n 1, 1) := by decide +kernel
theorem dX4_firstFault_182 : decode cX4_firstFault 182 = .ok (.ireturn, 1) := by decide +kernel
set_option maxRecDepth 20000 in
theorem ggX4_digitOfDeed_X4_code : GoodIn wsX4_digitOfDeed wsX4_code := goodIn_r _ [5, 6, 7, 8, 9, 10, 11, 12, 13, 14, 15, 16, 17, 18, 19, 20, 21] (by decide +kernel) (by decide +kernel)
set_option maxRecDepth 20000 in
theorem gX4_digitOfDeed_X4_code : GoodIn wsX4_digitOfDeed (wsV RX4 22 RX4 yX4_code wsX4_code) := goodIn_app (goodIn_of _ (by decide +kernel)) ggX4_digitOfDeed_X4_code
theorem dX4_digitOfDeed_0 : decode cX4_digitOfDeed 0 = .ok (.aload_n 0, 1) := by decide +kernel
theorem dX4_digitOfDeed_1 : decode cX4_digitOfDeed 1 = .ok (.iconst 4, 1) := by decide +kernel
theorem dX4_digitOfDeed_2 : decode cX4_digitOfDeed 2 = .ok (.iload_n 1, 1) := by decide +kernel
theorem dX4_digitOfDeed_3 : decode cX4_digitOfDeed 3 = .ok (.imul, 1) := by decide +kernel
theorem dX4_digitOfDeed_4 : decode cX4_digitOfDeed 4 = .ok (.iconst 2, 1) := by decide +kernel
theorem dX4_digitOfDeed_5 : decode cX4_digitOfDeed 5 = .ok (.iadd, 1) := by decide +kernel
theorem dX4_digitOfDeed_6 : decode cX4_digitOfDeed 6 = .ok (.iload_n 2, 1) := by decide +kernel
theorem dX4_digitOfDeed_7 : decode cX4_digitOfDeed 7 = .ok (.iadd, 1) := by decide +kernel
theorem dX4_digitOfDeed_8 : decode cX4_digitOfDeed 8 = .ok (.invokevirtual 22, 3) := by decide +kernel
theorem dX4_digitOfDeed_11 : decode cX4_digitOfDeed 11 = .ok (.bipush 48, 2) := by decide +kernel
theorem dX4_digitOfDeed_13 : decode cX4_digitOfDeed 13 = .ok (.isub, 1) := by decide +kernel
theorem dX4_digitOfDeed_14 : decode cX4_digitOfDeed 14 = .ok (.ireturn, 1) := by decide +kernel
set_option maxRecDepth 20000 in
theorem ggX4_kindOfSubject_X4_kindAt : GoodIn wsX4_kindOfSubject wsX4_kindAt := goodIn_r _ [6, 7, 8, 9, 5, 10, 11, 12, 13, 14, 15, 16, 17, 18, 19, 20, 21, 22, 23, 24, 25, 26] (by decide +kernel) (by decide +kernel)
set_option maxRecDepth 20000 in
theorem gX4_kindOfSubject_X4_kindAt : GoodIn wsX4_kindOfSubject (wsV RX4 36 RX4 yX4_kindAt wsX4_kindAt) := goodIn_app (goodIn_of _ (by decide +kernel)) ggX4_kindOfSubject_X4_kindAt
theorem dX4_kindOfSubject_0 : decode cX4_kindOfSubject 0 = .ok (.aload_n 0, 1) := by decide +kernel
theorem dX4_kindOfSubject_1 : decode cX4_kindOfSubject 1 = .ok (.iconst 4, 1) := by decide +kernel
theorem dX4_kindOfSubject_2 : decode cX4_kindOfSubject 2 = .ok (.aload_n 0, 1) := by decide +kernel
theorem dX4_kindOfSubject_3 : decode cX4_kindOfSubject 3 = .ok (.getfield 26, 3) := by decide +kernel
theorem dX4_kindOfSubject_6 : decode cX4_kindOfSubject 6 = .ok (.imul, 1) := by decide +kernel
theorem dX4_kindOfSubject_7 : decode cX4_kindOfSubject 7 = .ok (.iconst 3, 1) := by decide +kernel
theorem dX4_kindOfSubject_8 : decode cX4_kindOfSubject 8 = .ok (.iload_n 1, 1) := by decide +kernel
theorem dX4_kindOfSubject_9 : decode cX4_kindOfSubject 9 = .ok (.imul, 1) := by decide +kernel
theorem dX4_kindOfSubject_10 : decode cX4_kindOfSubject 10 = .ok (.iadd, 1) := by decide +kernel
theorem dX4_kindOfSubject_11 : decode cX4_kindOfSubject 11 = .ok (.iconst 2, 1) := by decide +kernel
theorem dX4_kindOfSubject_12 : decode cX4_kindOfSubject 12 = .ok (.iadd, 1) := by decide +kernel
theorem dX4_kindOfSubject_13 : decode cX4_kindOfSubject 13 = .ok (.invokevirtual 36, 3) := by decide +kernel
theorem dX4_kindOfSubject_16 : decode cX4_kindOfSubject 16 = .ok (.ireturn, 1) := by decide +kernel
set_option maxRecDepth 20000 in
theorem ggX4_papersOfSubject_X4_code : GoodIn wsX4_papersOfSubject wsX4_code := goodIn_r _ [6, 7, 8, 9, 10, 11, 12, 13, 14, 15, 16, 17, 18, 19, 20, 21, 22] (by decide +kernel) (by decide +kernel)
set_option maxRecDepth 20000 in
theorem gX4_papersOfSubject_X4_code : GoodIn wsX4_papersOfSubject (wsV RX4 22 RX4 yX4_code wsX4_code) := goodIn_app (goodIn_of _ (by decide +kernel)) ggX4_papersOfSubject_X4_code
theorem dX4_papersOfSubject_0 : decode cX4_papersOfSubject 0 = .ok (.aload_n 0, 1) := by decide +kernel
theorem dX4_papersOfSubject_1 : decode cX4_papersOfSubject 1 = .ok (.iconst 4, 1) := by decide +kernel
theorem dX4_papersOfSubject_2 : decode cX4_papersOfSubject 2 = .ok (.aload_n 0, 1) := by decide +kernel
theorem dX4_papersOfSubject_3 : decode cX4_papersOfSubject 3 = .ok (.getfield 26, 3) := by decide +kernel
theorem dX4_papersOfSubject_6 : decode cX4_papersOfSubject 6 = .ok (.imul, 1) := by decide +kernel
theorem dX4_papersOfSubject_7 : decode cX4_papersOfSubject 7 = .ok (.iconst 3, 1) := by decide +kernel
theorem dX4_papersOfSubject_8 : decode cX4_papersOfSubject 8 = .ok (.iload_n 1, 1) := by decide +kernel
theorem dX4_papersOfSubject_9 : decode cX4_papersOfSubject 9 = .ok (.imul, 1) := by decide +kernel
theorem dX4_papersOfSubject_10 : decode cX4_papersOfSubject 10 = .ok (.iadd, 1) := by decide +kernel
theorem dX4_papersOfSubject_11 : decode cX4_papersOfSubject 11 = .ok (.iconst 3, 1) := by decide +kernel
theorem dX4_papersOfSubject_12 : decode cX4_papersOfSubject 12 = .ok (.iadd, 1) := by decide +kernel
theorem dX4_papersOfSubject_13 : decode cX4_papersOfSubject 13 = .ok (.invokevirtual 22, 3) := by decide +kernel
theorem dX4_papersOfSubject_16 : decode cX4_papersOfSubject 16 = .ok (.bipush 48, 2) := by decide +kernel
theorem dX4_papersOfSubject_18 : decode cX4_papersOfSubject 18 = .ok (.isub, 1) := by decide +kernel
theorem dX4_papersOfSubject_19 : decode cX4_papersOfSubject 19 = .ok (.ireturn, 1) := by decide +kernel
set_option maxRecDepth 20000 in
theorem ggX4_code_X6_isBelow : GoodIn wsX4_code wsX6_isBelow := goodIn_r _ [7] (by decide +kernel) (by decide +kernel)
set_option maxRecDepth 20000 in
theorem gX4_code_X6_isBelow_n39 : GoodIn wsX4_code (wsX6_isBelow) := ggX4_code_X6_isBelow
theorem dX4_code_0 : decode cX4_code 0 = .ok (.iload_n 1, 1) := by decide +kernel
theorem dX4_code_1 : decode cX4_code 1 = .ok (.aload_n 0, 1) := by decide +kernel
theorem dX4_code_2 : decode cX4_code 2 = .ok (.getfield 19, 3) := by decide +kernel
theorem dX4_code_5 : decode cX4_code 5 = .ok (.invokestatic 39, 3) := by decide +kernel
theorem dX4_code_8 : decode cX4_code 8 = .ok (.ifCond .eq 20, 3) := by decide +kernel
theorem dX4_code_11 : decode cX4_code 11 = .ok (.aload_n 0, 1) := by decide +kernel
theorem dX4_code_12 : decode cX4_code 12 = .ok (.getfield 9, 3) := by decide +kernel
theorem dX4_code_15 : decode cX4_code 15 = .ok (.getfield 42, 3) := by decide +kernel
theorem dX4_code_18 : decode cX4_code 18 = .ok (.aload_n 0, 1) := by decide +kernel
theorem dX4_code_19 : decode cX4_code 19 = .ok (.getfield 15, 3) := by decide +kernel
theorem dX4_code_22 : decode cX4_code 22 = .ok (.iload_n 1, 1) := by decide +kernel
theorem dX4_code_23 : decode cX4_code 23 = .ok (.iadd, 1) := by decide +kernel
theorem dX4_code_24 : decode cX4_code 24 = .ok (.iaload, 1) := by decide +kernel
theorem dX4_code_25 : decode cX4_code 25 = .ok (.goto 5, 3) := by decide +kernel
theorem dX4_code_28 : decode cX4_code 28 = .ok (.bipush (-9), 2) := by decide +kernel
theorem dX4_code_30 : decode cX4_code 30 = .ok (.ireturn, 1) := by decide +kernel
set_option maxRecDepth 20000 in
theorem ggX4_isDigit_X4_code : GoodIn wsX4_isDigit wsX4_code := goodIn_r _ [5, 6, 7, 8, 9, 10, 11, 12, 13, 14, 15, 16, 17, 18, 19, 20, 21] (by decide +kernel) (by decide +kernel)
set_option maxRecDepth 20000 in
theorem gX4_isDigit_X4_code : GoodIn wsX4_isDigit (wsV RX4 22 RX4 yX4_code wsX4_code) := goodIn_app (goodIn_of _ (by decide +kernel)) ggX4_isDigit_X4_code
theorem dX4_isDigit_0 : decode cX4_isDigit 0 = .ok (.aload_n 0, 1) := by decide +kernel
theorem dX4_isDigit_1 : decode cX4_isDigit 1 = .ok (.iload_n 1, 1) := by decide +kernel
theorem dX4_isDigit_2 : decode cX4_isDigit 2 = .ok (.invokevirtual 22, 3) := by decide +kernel
theorem dX4_isDigit_5 : decode cX4_isDigit 5 = .ok (.istore_n 3, 1) := by decide +kernel
theorem dX4_isDigit_6 : decode cX4_isDigit 6 = .ok (.iload_n 3, 1) := by decide +kernel
theorem dX4_isDigit_7 : decode cX4_isDigit 7 = .ok (.bipush 48, 2) := by decide +kernel
theorem dX4_isDigit_9 : decode cX4_isDigit 9 = .ok (.if_icmp .lt 12, 3) := by decide +kernel
theorem dX4_isDigit_12 : decode cX4_isDigit 12 = .ok (.iload_n 3, 1) := by decide +kernel
theorem dX4_isDigit_13 : decode cX4_isDigit 13 = .ok (.iload_n 2, 1) := by decide +kernel
theorem dX4_isDigit_14 : decode cX4_isDigit 14 = .ok (.if_icmp .gt 7, 3) := by decide +kernel
theorem dX4_isDigit_17 : decode cX4_isDigit 17 = .ok (.iconst 1, 1) := by decide +kernel
theorem dX4_isDigit_18 : decode cX4_isDigit 18 = .ok (.goto 4, 3) := by decide +kernel
theorem dX4_isDigit_21 : decode cX4_isDigit 21 = .ok (.iconst 0, 1) := by decide +kernel
theorem dX4_isDigit_22 : decode cX4_isDigit 22 = .ok (.ireturn, 1) := by decide +kernel
set_option maxRecDepth 20000 in
theorem ggX4_kindAt_X4_code : GoodIn wsX4_kindAt wsX4_code := goodIn_r _ [5, 6, 7, 8, 9, 10, 11, 12, 13, 14, 15, 16, 17, 18, 19, 20, 21] (by decide +kernel) (by decide +kernel)
set_option maxRecDepth 20000 in
theorem gX4_kindAt_X4_code : GoodIn wsX4_kindAt (wsV RX4 22 RX4 yX4_code wsX4_code) := goodIn_app (goodIn_of _ (by decide +kernel)) ggX4_kindAt_X4_code
theorem dX4_kindAt_0 : decode cX4_kindAt 0 = .ok (.aload_n 0, 1) := by decide +kernel
theorem dX4_kindAt_1 : decode cX4_kindAt 1 = .ok (.iload_n 1, 1) := by decide +kernel
theorem dX4_kindAt_2 : decode cX4_kindAt 2 = .ok (.invokevirtual 22, 3) := by decide +kernel
theorem dX4_kindAt_5 : decode cX4_kindAt 5 = .ok (.lookupswitch 41 #[(104, 39), (109, 37), (115, 35)], 35) := by decide +kernel
theorem dX4_kindAt_40 : decode cX4_kindAt 40 = .ok (.iconst 0, 1) := by decide +kernel
theorem dX4_kindAt_41 : decode cX4_kindAt 41 = .ok (.ireturn, 1) := by decide +kernel
theorem dX4_kindAt_42 : decode cX4_kindAt 42 = .ok (.iconst 1, 1) := by decide +kernel
theorem dX4_kindAt_43 : decode cX4_kindAt 43 = .ok (.ireturn, 1) := by decide +kernel
theorem dX4_kindAt_44 : decode cX4_kindAt 44 = .ok (.iconst 2, 1) := by decide +kernel
theorem dX4_kindAt_45 : decode cX4_kindAt 45 = .ok (.ireturn, 1) := by decide +kernel
theorem dX4_kindAt_46 : decode cX4_kindAt 46 = .ok (.bipush (-9), 2) := by decide +kernel
theorem dX4_kindAt_48 : decode cX4_kindAt 48 = .ok (.ireturn, 1) := by decide +kernel
theorem dX5_init_0 : decode cX5_init 0 = .ok (.aload_n 0, 1) := by decide +kernel
theorem dX5_init_1 : decode cX5_init 1 = .ok (.invokespecial 3, 3) := by decide +kernel
theorem dX5_init_4 : decode cX5_init 4 = .ok (.aload_n 0, 1) := by decide +kernel
theorem dX5_init_5 : decode cX5_init 5 = .ok (.iconst 4, 1) := by decide +kernel
theorem dX5_init_6 : decode cX5_init 6 = .ok (.newarray .int, 2) := by decide +kernel
theorem dX5_init_8 : decode cX5_init 8 = .ok (.putfield 9, 3) := by decide +kernel
theorem dX5_init_11 : decode cX5_init 11 = .ok (.return_, 1) := by decide +kernel
set_option maxRecDepth 20000 in
theorem ggX5_live_X5_goesOn : GoodIn wsX5_live wsX5_goesOn := goodIn_r _ [12, 5, 2, 1, 13, 14, 15, 16, 17, 18, 19, 20, 21, 22, 23, 24, 25, 26, 27, 28, 29, 30, 31, 32, 33, 34, 35, 36, 37, 38, 39, 40, 41, 42] (by decide +kernel) (by decide +kernel)
set_option maxRecDepth 20000 in
theorem gX5_live_X5_goesOn : GoodIn wsX5_live (wsV RX5 38 RX5 yX5_goesOn wsX5_goesOn) := goodIn_app (goodIn_of _ (by decide +kernel)) ggX5_live_X5_goesOn
theorem dX5_live_0 : decode cX5_live 0 = .ok (.aload_n 0, 1) := by decide +kernel
theorem dX5_live_1 : decode cX5_live 1 = .ok (.iconst 0, 1) := by decide +kernel
theorem dX5_live_2 : decode cX5_live 2 = .ok (.putfield 15, 3) := by decide +kernel
theorem dX5_live_5 : decode cX5_live 5 = .ok (.aload_n 0, 1) := by decide +kernel
theorem dX5_live_6 : decode cX5_live 6 = .ok (.iconst 0, 1) := by decide +kernel
theorem dX5_live_7 : decode cX5_live 7 = .ok (.putfield 19, 3) := by decide +kernel
theorem dX5_live_10 : decode cX5_live 10 = .ok (.aload_n 0, 1) := by decide +kernel
theorem dX5_live_11 : decode cX5_live 11 = .ok (.bipush (-9), 2) := by decide +kernel
theorem dX5_live_13 : decode cX5_live 13 = .ok (.putfield 22, 3) := by decide +kernel
theorem dX5_live_16 : decode cX5_live 16 = .ok (.iconst 0, 1) := by decide +kernel
theorem dX5_live_17 : decode cX5_live 17 = .ok (.istore 5, 2) := by decide +kernel
theorem dX5_live_19 : decode cX5_live 19 = .ok (.iload 5, 2) := by decide +kernel
theorem dX5_live_21 : decode cX5_live 21 = .ok (.aload_n 1, 1) := by decide +kernel
theorem dX5_live_22 : decode cX5_live 22 = .ok (.getfield 25, 3) := by decide +kernel
theorem dX5_live_25 : decode cX5_live 25 = .ok (.if_icmp .ge 23, 3) := by decide +kernel
theorem dX5_live_28 : decode cX5_live 28 = .ok (.aload_n 0, 1) := by decide +kernel
theorem dX5_live_29 : decode cX5_live 29 = .ok (.getfield 9, 3) := by decide +kernel
theorem dX5_live_32 : decode cX5_live 32 = .ok (.iload 5, 2) := by decide +kernel
theorem dX5_live_34 : decode cX5_live 34 = .ok (.aload_n 1, 1) := by decide +kernel
theorem dX5_live_35 : decode cX5_live 35 = .ok (.getfield 30, 3) := by decide +kernel
theorem dX5_live_38 : decode cX5_live 38 = .ok (.iload 5, 2) := by decide +kernel
theorem dX5_live_40 : decode cX5_live 40 = .ok (.iaload, 1) := by decide +kernel
theorem dX5_live_41 : decode cX5_live 41 = .ok (.iastore, 1) := by decide +kernel
theorem dX5_live_42 : decode cX5_live 42 = .ok (.iinc 5 1, 3) := by decide +kernel
theorem dX5_live_45 : decode cX5_live 45 = .ok (.goto (-26), 3) := by decide +kernel
theorem dX5_live_48 : decode cX5_live 48 = .ok (.iconst 0, 1) := by decide +kernel
theorem dX5_live_49 : decode cX5_live 49 = .ok (.istore 5, 2) := by decide +kernel
theorem dX5_live_51 : decode cX5_live 51 = .ok (.iload 5, 2) := by decide +kernel
theorem dX5_live_53 : decode cX5_live 53 = .ok (.iload 4, 2) := by decide +kernel
theorem dX5_live_55 : decode cX5_live 55 = .ok (.if_icmp .ge 65, 3) := by decide +kernel
theorem dX5_live_58 : decode cX5_live 58 = .ok (.aload_n 0, 1) := by decide +kernel
theorem dX5_live_59 : decode cX5_live 59 = .ok (.getfield 22, 3) := by decide +kernel
theorem dX5_live_62 : decode cX5_live 62 = .ok (.bipush (-9), 2) := by decide +kernel
theorem dX5_live_64 : decode cX5_live 64 = .ok (.if_icmp .ne 56, 3) := by decide +kernel
theorem dX5_live_67 : decode cX5_live 67 = .ok (.iload_n 3, 1) := by decide +kernel
theorem dX5_live_68 : decode cX5_live 68 = .ok (.iconst 3, 1) := by decide +kernel
theorem dX5_live_69 : decode cX5_live 69 = .ok (.iload 5, 2) := by decide +kernel
theorem dX5_live_71 : decode cX5_live 71 = .ok (.imul, 1) := by decide +kernel
theorem dX5_live_72 : decode cX5_live 72 = .ok (.iadd, 1) := by decide +kernel
theorem dX5_live_73 : decode cX5_live 73 = .ok (.istore 6, 2) := by decide +kernel
theorem dX5_live_75 : decode cX5_live 75 = .ok (.aload_n 0, 1) := by decide +kernel
theorem dX5_live_76 : decode cX5_live 76 = .ok (.aload_n 1, 1) := by decide +kernel
theorem dX5_live_77 : decode cX5_live 77 = .ok (.aload_n 2, 1) := by decide +kernel
theorem dX5_live_78 : decode cX5_live 78 = .ok (.getfield 33, 3) := by decide +kernel
theorem dX5_live_81 : decode cX5_live 81 = .ok (.iload 6, 2) := by decide +kernel
theorem dX5_live_83 : decode cX5_live 83 = .ok (.iaload, 1) := by decide +kernel
theorem dX5_live_84 : decode cX5_live 84 = .ok (.aload_n 2, 1) := by decide +kernel
theorem dX5_live_85 : decode cX5_live 85 = .ok (.getfield 33, 3) := by decide +kernel
theorem dX5_live_88 : decode cX5_live 88 = .ok (.iload 6, 2) := by decide +kernel
theorem dX5_live_90 : decode cX5_live 90 = .ok (.iconst 1, 1) := by decide +kernel
theorem dX5_live_91 : decode cX5_live 91 = .ok (.iadd, 1) := by decide +kernel
theorem dX5_live_92 : decode cX5_live 92 = .ok (.iaload, 1) := by decide +kernel
theorem dX5_live_93 : decode cX5_live 93 = .ok (.aload_n 2, 1) := by decide +kernel
theorem dX5_live_94 : decode cX5_live 94 = .ok (.getfield 33, 3) := by decide +kernel
theorem dX5_live_97 : decode cX5_live 97 = .ok (.iload 6, 2) := by decide +kernel
theorem dX5_live_99 : decode cX5_live 99 = .ok (.iconst 2, 1) := by decide +kernel
theorem dX5_live_100 : decode cX5_live 100 = .ok (.iadd, 1) := by decide +kernel
theorem dX5_live_101 : decode cX5_live 101 = .ok (.iaload, 1) := by decide +kernel
theorem dX5_live_102 : decode cX5_live 102 = .ok (.invokevirtual 38, 3) := by decide +kernel
theorem dX5_live_105 : decode cX5_live 105 = .ok (.ifCond .ne 9, 3) := by decide +kernel
theorem dX5_live_108 : decode cX5_live 108 = .ok (.aload_n 0, 1) := by decide +kernel
theorem dX5_live_109 : decode cX5_live 109 = .ok (.iload 5, 2) := by decide +kernel
theorem dX5_live_111 : decode cX5_live 111 = .ok (.putfield 22, 3) := by decide +kernel
theorem dX5_live_114 : decode cX5_live 114 = .ok (.iinc 5 1, 3) := by decide +kernel
theorem dX5_live_117 : decode cX5_live 117 = .ok (.goto (-66), 3) := by decide +kernel
theorem dX5_live_120 : decode cX5_live 120 = .ok (.return_, 1) := by decide +kernel
set_option maxRecDepth 20000 in
theorem ggX5_goesOn_X2_pardonedValue : GoodIn wsX5_goesOn wsX2_pardonedValue := goodIn_r _ [8, 9, 29, 30, 31, 32, 33] (by decide +kernel) (by decide +kernel)
set_option maxRecDepth 20000 in
theorem gX5_goesOn_X2_pardonedValue : GoodIn wsX5_goesOn (wsV RX5 42 RX2 yX2_pardonedValue wsX2_pardonedValue) := goodIn_app (goodIn_of _ (by decide +kernel)) ggX5_goesOn_X2_pardonedValue
set_option maxRecDepth 20000 in
theorem ggX5_goesOn_X2_unpardonedValue : GoodIn wsX5_goesOn wsX2_unpardonedValue := goodIn_r _ [13, 14, 5, 6, 7, 8, 9, 15, 16, 17, 18, 19, 29, 30, 31, 32, 33] (by decide +kernel) (by decide +kernel)
set_option maxRecDepth 20000 in
theorem gX5_goesOn_X2_unpardonedValue : GoodIn wsX5_goesOn (wsV RX5 46 RX2 yX2_unpardonedValue wsX2_unpardonedValue) := goodIn_app (goodIn_of _ (by decide +kernel)) ggX5_goesOn_X2_unpardonedValue
set_option maxRecDepth 20000 in
theorem ggX5_goesOn_X2_wouldDo : GoodIn wsX5_goesOn wsX2_wouldDo := goodIn_r _ [23, 24, 11, 12, 7, 13, 14, 5, 6, 8, 9, 15, 16, 17, 18, 19, 29, 30, 31, 32, 33] (by decide +kernel) (by decide +kernel)
set_option maxRecDepth 20000 in
theorem gX5_goesOn_X2_wouldDo : GoodIn wsX5_goesOn (wsV RX5 50 RX2 yX2_wouldDo wsX2_wouldDo) := goodIn_app (goodIn_of _ (by decide +kernel)) ggX5_goesOn_X2_wouldDo
theorem dX5_goesOn_0 : decode cX5_goesOn 0 = .ok (.iload 4, 2) := by decide +kernel
theorem dX5_goesOn_2 : decode cX5_goesOn 2 = .ok (.iconst 2, 1) := by decide +kernel
theorem dX5_goesOn_3 : decode cX5_goesOn 3 = .ok (.if_icmp .ne 52, 3) := by decide +kernel
theorem dX5_goesOn_6 : decode cX5_goesOn 6 = .ok (.aload_n 0, 1) := by decide +kernel
theorem dX5_goesOn_7 : decode cX5_goesOn 7 = .ok (.getfield 9, 3) := by decide +kernel
theorem dX5_goesOn_10 : decode cX5_goesOn 10 = .ok (.iload_n 2, 1) := by decide +kernel
theorem dX5_goesOn_11 : decode cX5_goesOn 11 = .ok (.dup2, 1) := by decide +kernel
theorem dX5_goesOn_12 : decode cX5_goesOn 12 = .ok (.iaload, 1) := by decide +kernel
theorem dX5_goesOn_13 : decode cX5_goesOn 13 = .ok (.iconst 1, 1) := by decide +kernel
theorem dX5_goesOn_14 : decode cX5_goesOn 14 = .ok (.isub, 1) := by decide +kernel
theorem dX5_goesOn_15 : decode cX5_goesOn 15 = .ok (.iastore, 1) := by decide +kernel
theorem dX5_goesOn_16 : decode cX5_goesOn 16 = .ok (.aload_n 0, 1) := by decide +kernel
theorem dX5_goesOn_17 : decode cX5_goesOn 17 = .ok (.dup, 1) := by decide +kernel
theorem dX5_goesOn_18 : decode cX5_goesOn 18 = .ok (.getfield 19, 3) := by decide +kernel
theorem dX5_goesOn_21 : decode cX5_goesOn 21 = .ok (.iconst 1, 1) := by decide +kernel
theorem dX5_goesOn_22 : decode cX5_goesOn 22 = .ok (.iadd, 1) := by decide +kernel
theorem dX5_goesOn_23 : decode cX5_goesOn 23 = .ok (.putfield 19, 3) := by decide +kernel
theorem dX5_goesOn_26 : decode cX5_goesOn 26 = .ok (.aload_n 0, 1) := by decide +kernel
theorem dX5_goesOn_27 : decode cX5_goesOn 27 = .ok (.dup, 1) := by decide +kernel
theorem dX5_goesOn_28 : decode cX5_goesOn 28 = .ok (.getfield 15, 3) := by decide +kernel
theorem dX5_goesOn_31 : decode cX5_goesOn 31 = .ok (.aload_n 1, 1) := by decide +kernel
theorem dX5_goesOn_32 : decode cX5_goesOn 32 = .ok (.iload_n 3, 1) := by decide +kernel
theorem dX5_goesOn_33 : decode cX5_goesOn 33 = .ok (.invokevirtual 42, 3) := by decide +kernel
theorem dX5_goesOn_36 : decode cX5_goesOn 36 = .ok (.iadd, 1) := by decide +kernel
theorem dX5_goesOn_37 : decode cX5_goesOn 37 = .ok (.putfield 15, 3) := by decide +kernel
theorem dX5_goesOn_40 : decode cX5_goesOn 40 = .ok (.aload_n 0, 1) := by decide +kernel
theorem dX5_goesOn_41 : decode cX5_goesOn 41 = .ok (.getfield 9, 3) := by decide +kernel
theorem dX5_goesOn_44 : decode cX5_goesOn 44 = .ok (.iload_n 2, 1) := by decide +kernel
theorem dX5_goesOn_45 : decode cX5_goesOn 45 = .ok (.iaload, 1) := by decide +kernel
theorem dX5_goesOn_46 : decode cX5_goesOn 46 = .ok (.ifCond .lt 7, 3) := by decide +kernel
theorem dX5_goesOn_49 : decode cX5_goesOn 49 = .ok (.iconst 1, 1) := by decide +kernel
theorem dX5_goesOn_50 : decode cX5_goesOn 50 = .ok (.goto 4, 3) := by decide +kernel
theorem dX5_goesOn_53 : decode cX5_goesOn 53 = .ok (.iconst 0, 1) := by decide +kernel
theorem dX5_goesOn_54 : decode cX5_goesOn 54 = .ok (.ireturn, 1) := by decide +kernel
theorem dX5_goesOn_55 : decode cX5_goesOn 55 = .ok (.iload 4, 2) := by decide +kernel
theorem dX5_goesOn_57 : decode cX5_goesOn 57 = .ok (.iconst 1, 1) := by decide +kernel
theorem dX5_goesOn_58 : decode cX5_goesOn 58 = .ok (.if_icmp .ne 25, 3) := by decide +kernel
theorem dX5_goesOn_61 : decode cX5_goesOn 61 = .ok (.aload_n 0, 1) := by decide +kernel
theorem dX5_goesOn_62 : decode cX5_goesOn 62 = .ok (.dup, 1) := by decide +kernel
theorem dX5_goesOn_63 : decode cX5_goesOn 63 = .ok (.getfield 15, 3) := by decide +kernel
theorem dX5_goesOn_66 : decode cX5_goesOn 66 = .ok (.aload_n 1, 1) := by decide +kernel
theorem dX5_goesOn_67 : decode cX5_goesOn 67 = .ok (.iload_n 2, 1) := by decide +kernel
theorem dX5_goesOn_68 : decode cX5_goesOn 68 = .ok (.iload_n 3, 1) := by decide +kernel
theorem dX5_goesOn_69 : decode cX5_goesOn 69 = .ok (.invokevirtual 46, 3) := by decide +kernel
theorem dX5_goesOn_72 : decode cX5_goesOn 72 = .ok (.iadd, 1) := by decide +kernel
theorem dX5_goesOn_73 : decode cX5_goesOn 73 = .ok (.putfield 15, 3) := by decide +kernel
theorem dX5_goesOn_76 : decode cX5_goesOn 76 = .ok (.aload_n 1, 1) := by decide +kernel
theorem dX5_goesOn_77 : decode cX5_goesOn 77 = .ok (.iload_n 2, 1) := by decide +kernel
theorem dX5_goesOn_78 : decode cX5_goesOn 78 = .ok (.iload_n 3, 1) := by decide +kernel
theorem dX5_goesOn_79 : decode cX5_goesOn 79 = .ok (.invokevirtual 50, 3) := by decide +kernel
theorem dX5_goesOn_82 : decode cX5_goesOn 82 = .ok (.ireturn, 1) := by decide +kernel
theorem dX5_goesOn_83 : decode cX5_goesOn 83 = .ok (.iconst 1, 1) := by decide +kernel
theorem dX5_goesOn_84 : decode cX5_goesOn 84 = .ok (.ireturn, 1) := by decide +kernel
theorem dJ6_bitCount_0f7a4_0 : decode cJ6_bitCount_0f7a4 0 = .ok (.iload_n 0, 1) := by decide +kernel
theorem dJ6_bitCount_0f7a4_1 : decode cJ6_bitCount_0f7a4 1 = .ok (.iload_n 0, 1) := by decide +kernel
theorem dJ6_bitCount_0f7a4_2 : decode cJ6_bitCount_0f7a4 2 = .ok (.iconst 1, 1) := by decide +kernel
theorem dJ6_bitCount_0f7a4_3 : decode cJ6_bitCount_0f7a4 3 = .ok (.iushr, 1) := by decide +kernel
theorem dJ6_bitCount_0f7a4_4 : decode cJ6_bitCount_0f7a4 4 = .ok (.ldc_w 265, 3) := by decide +kernel
theorem dJ6_bitCount_0f7a4_7 : decode cJ6_bitCount_0f7a4 7 = .ok (.iand, 1) := by decide +kernel
theorem dJ6_bitCount_0f7a4_8 : decode cJ6_bitCount_0f7a4 8 = .ok (.isub, 1) := by decide +kernel
theorem dJ6_bitCount_0f7a4_9 : decode cJ6_bitCount_0f7a4 9 = .ok (.istore_n 0, 1) := by decide +kernel
theorem dJ6_bitCount_0f7a4_10 : decode cJ6_bitCount_0f7a4 10 = .ok (.iload_n 0, 1) := by decide +kernel
theorem dJ6_bitCount_0f7a4_11 : decode cJ6_bitCount_0f7a4 11 = .ok (.ldc_w 266, 3) := by decide +kernel
theorem dJ6_bitCount_0f7a4_14 : decode cJ6_bitCount_0f7a4 14 = .ok (.iand, 1) := by decide +kernel
theorem dJ6_bitCount_0f7a4_15 : decode cJ6_bitCount_0f7a4 15 = .ok (.iload_n 0, 1) := by decide +kernel
theorem dJ6_bitCount_0f7a4_16 : decode cJ6_bitCount_0f7a4 16 = .ok (.iconst 2, 1) := by decide +kernel
theorem dJ6_bitCount_0f7a4_17 : decode cJ6_bitCount_0f7a4 17 = .ok (.iushr, 1) := by decide +kernel
theorem dJ6_bitCount_0f7a4_18 : decode cJ6_bitCount_0f7a4 18 = .ok (.ldc_w 266, 3) := by decide +kernel
theorem dJ6_bitCount_0f7a4_21 : decode cJ6_bitCount_0f7a4 21 = .ok (.iand, 1) := by decide +kernel
theorem dJ6_bitCount_0f7a4_22 : decode cJ6_bitCount_0f7a4 22 = .ok (.iadd, 1) := by decide +kernel
theorem dJ6_bitCount_0f7a4_23 : decode cJ6_bitCount_0f7a4 23 = .ok (.istore_n 0, 1) := by decide +kernel
theorem dJ6_bitCount_0f7a4_24 : decode cJ6_bitCount_0f7a4 24 = .ok (.iload_n 0, 1) := by decide +kernel
theorem dJ6_bitCount_0f7a4_25 : decode cJ6_bitCount_0f7a4 25 = .ok (.iload_n 0, 1) := by decide +kernel
theorem dJ6_bitCount_0f7a4_26 : decode cJ6_bitCount_0f7a4 26 = .ok (.iconst 4, 1) := by decide +kernel
theorem dJ6_bitCount_0f7a4_27 : decode cJ6_bitCount_0f7a4 27 = .ok (.iushr, 1) := by decide +kernel
theorem dJ6_bitCount_0f7a4_28 : decode cJ6_bitCount_0f7a4 28 = .ok (.iadd, 1) := by decide +kernel
theorem dJ6_bitCount_0f7a4_29 : decode cJ6_bitCount_0f7a4 29 = .ok (.ldc_w 267, 3) := by decide +kernel
theorem dJ6_bitCount_0f7a4_32 : decode cJ6_bitCount_0f7a4 32 = .ok (.iand, 1) := by decide +kernel
theorem dJ6_bitCount_0f7a4_33 : decode cJ6_bitCount_0f7a4 33 = .ok (.istore_n 0, 1) := by decide +kernel
theorem dJ6_bitCount_0f7a4_34 : decode cJ6_bitCount_0f7a4 34 = .ok (.iload_n 0, 1) := by decide +kernel
theorem dJ6_bitCount_0f7a4_35 : decode cJ6_bitCount_0f7a4 35 = .ok (.iload_n 0, 1) := by decide +kernel
theorem dJ6_bitCount_0f7a4_36 : decode cJ6_bitCount_0f7a4 36 = .ok (.bipush 8, 2) := by decide +kernel
theorem dJ6_bitCount_0f7a4_38 : decode cJ6_bitCount_0f7a4 38 = .ok (.iushr, 1) := by decide +kernel
theorem dJ6_bitCount_0f7a4_39 : decode cJ6_bitCount_0f7a4 39 = .ok (.iadd, 1) := by decide +kernel
theorem dJ6_bitCount_0f7a4_40 : decode cJ6_bitCount_0f7a4 40 = .ok (.istore_n 0, 1) := by decide +kernel
theorem dJ6_bitCount_0f7a4_41 : decode cJ6_bitCount_0f7a4 41 = .ok (.iload_n 0, 1) := by decide +kernel
theorem dJ6_bitCount_0f7a4_42 : decode cJ6_bitCount_0f7a4 42 = .ok (.iload_n 0, 1) := by decide +kernel
theorem dJ6_bitCount_0f7a4_43 : decode cJ6_bitCount_0f7a4 43 = .ok (.bipush 16, 2) := by decide +kernel
theorem dJ6_bitCount_0f7a4_45 : decode cJ6_bitCount_0f7a4 45 = .ok (.iushr, 1) := by decide +kernel
theorem dJ6_bitCount_0f7a4_46 : decode cJ6_bitCount_0f7a4 46 = .ok (.iadd, 1) := by decide +kernel
theorem dJ6_bitCount_0f7a4_47 : decode cJ6_bitCount_0f7a4 47 = .ok (.istore_n 0, 1) := by decide +kernel
theorem dJ6_bitCount_0f7a4_48 : decode cJ6_bitCount_0f7a4 48 = .ok (.iload_n 0, 1) := by decide +kernel
theorem dJ6_bitCount_0f7a4_49 : decode cJ6_bitCount_0f7a4 49 = .ok (.bipush 63, 2) := by decide +kernel
theorem dJ6_bitCount_0f7a4_51 : decode cJ6_bitCount_0f7a4 51 = .ok (.iand, 1) := by decide +kernel
theorem dJ6_bitCount_0f7a4_52 : decode cJ6_bitCount_0f7a4 52 = .ok (.ireturn, 1) := by decide +kernel
theorem dJ9_max_7cf53_0 : decode cJ9_max_7cf53 0 = .ok (.iload_n 0, 1) := by decide +kernel
theorem dJ9_max_7cf53_1 : decode cJ9_max_7cf53 1 = .ok (.iload_n 1, 1) := by decide +kernel
theorem dJ9_max_7cf53_2 : decode cJ9_max_7cf53 2 = .ok (.if_icmp .lt 7, 3) := by decide +kernel
theorem dJ9_max_7cf53_5 : decode cJ9_max_7cf53 5 = .ok (.iload_n 0, 1) := by decide +kernel
theorem dJ9_max_7cf53_6 : decode cJ9_max_7cf53 6 = .ok (.goto 4, 3) := by decide +kernel
theorem dJ9_max_7cf53_9 : decode cJ9_max_7cf53 9 = .ok (.iload_n 1, 1) := by decide +kernel
theorem dJ9_max_7cf53_10 : decode cJ9_max_7cf53 10 = .ok (.ireturn, 1) := by decide +kernel
theorem dJ9_max_f86c9_0 : decode cJ9_max_f86c9 0 = .ok (.lload_n 0, 1) := by decide +kernel
theorem dJ9_max_f86c9_1 : decode cJ9_max_f86c9 1 = .ok (.lload_n 2, 1) := by decide +kernel
theorem dJ9_max_f86c9_2 : decode cJ9_max_f86c9 2 = .ok (.lcmp, 1) := by decide +kernel
theorem dJ9_max_f86c9_3 : decode cJ9_max_f86c9 3 = .ok (.ifCond .lt 7, 3) := by decide +kernel
theorem dJ9_max_f86c9_6 : decode cJ9_max_f86c9 6 = .ok (.lload_n 0, 1) := by decide +kernel
theorem dJ9_max_f86c9_7 : decode cJ9_max_f86c9 7 = .ok (.goto 4, 3) := by decide +kernel
theorem dJ9_max_f86c9_10 : decode cJ9_max_f86c9 10 = .ok (.lload_n 2, 1) := by decide +kernel
theorem dJ9_max_f86c9_11 : decode cJ9_max_f86c9 11 = .ok (.lreturn, 1) := by decide +kernel
end
section
set_option maxRecDepth 20000 in
theorem ggX6_init_X2_init : GoodIn wsX6_init wsX2_init := goodIn_r _ [27, 28, 2, 3, 29, 30, 31, 32, 33, 63, 64, 65, 66, 67] (by decide +kernel) (by decide +kernel)
set_option maxRecDepth 20000 in
theorem gX6_init_X2_init_n19 : GoodIn wsX6_init (wsX2_init) := ggX6_init_X2_init
set_option maxRecDepth 20000 in
theorem ggX6_init_X1_init : GoodIn wsX6_init wsX1_init := goodIn_r _ [35, 36, 2, 3, 30, 37, 38, 39, 40, 68, 69, 70, 71] (by decide +kernel) (by decide +kernel)
set_option maxRecDepth 20000 in
theorem gX6_init_X1_init_n26 : GoodIn wsX6_init (wsX1_init) := ggX6_init_X1_init
set_option maxRecDepth 20000 in
theorem ggX6_init_X0_init : GoodIn wsX6_init wsX0_init := goodIn_r _ [42, 43, 2, 3, 44, 22, 45, 46, 72, 73] (by decide +kernel) (by decide +kernel)
set_option maxRecDepth 20000 in
theorem gX6_init_X0_init_n33 : GoodIn wsX6_init (wsX0_init) := ggX6_init_X0_init
set_option maxRecDepth 20000 in
theorem ggX6_init_X5_init : GoodIn wsX6_init wsX5_init := goodIn_r _ [48, 49, 2, 3, 30, 50, 74, 75, 76, 77] (by decide +kernel) (by decide +kernel)
set_option maxRecDepth 20000 in
theorem gX6_init_X5_init_n40 : GoodIn wsX6_init (wsX5_init) := ggX6_init_X5_init
set_option maxRecDepth 20000 in
theorem ggX6_init_X3_init : GoodIn wsX6_init wsX3_init := goodIn_r _ [52, 53, 2, 3, 30, 54, 78, 79, 80, 81] (by decide +kernel) (by decide +kernel)
set_option maxRecDepth 20000 in
theorem gX6_init_X3_init_n49 : GoodIn wsX6_init (wsX3_init) := ggX6_init_X3_init
theorem dX6_init_0 : decode cX6_init 0 = .ok (.aload_n 0, 1) := by decide +kernel
theorem dX6_init_1 : decode cX6_init 1 = .ok (.invokespecial 3, 3) := by decide +kernel
theorem dX6_init_4 : decode cX6_init 4 = .ok (.aload_n 0, 1) := by decide +kernel
theorem dX6_init_5 : decode cX6_init 5 = .ok (.iconst 4, 1) := by decide +kernel
theorem dX6_init_6 : decode cX6_init 6 = .ok (.anewarray 11, 3) := by decide +kernel
theorem dX6_init_9 : decode cX6_init 9 = .ok (.putfield 13, 3) := by decide +kernel
theorem dX6_init_12 : decode cX6_init 12 = .ok (.aload_n 0, 1) := by decide +kernel
theorem dX6_init_13 : decode cX6_init 13 = .ok (.new 17, 3) := by decide +kernel
theorem dX6_init_16 : decode cX6_init 16 = .ok (.dup, 1) := by decide +kernel
theorem dX6_init_17 : decode cX6_init 17 = .ok (.invokespecial 19, 3) := by decide +kernel
theorem dX6_init_20 : decode cX6_init 20 = .ok (.putfield 20, 3) := by decide +kernel
theorem dX6_init_23 : decode cX6_init 23 = .ok (.aload_n 0, 1) := by decide +kernel
theorem dX6_init_24 : decode cX6_init 24 = .ok (.new 24, 3) := by decide +kernel
theorem dX6_init_27 : decode cX6_init 27 = .ok (.dup, 1) := by decide +kernel
theorem dX6_init_28 : decode cX6_init 28 = .ok (.invokespecial 26, 3) := by decide +kernel
theorem dX6_init_31 : decode cX6_init 31 = .ok (.putfield 27, 3) := by decide +kernel
theorem dX6_init_34 : decode cX6_init 34 = .ok (.aload_n 0, 1) := by decide +kernel
theorem dX6_init_35 : decode cX6_init 35 = .ok (.new 31, 3) := by decide +kernel
theorem dX6_init_38 : decode cX6_init 38 = .ok (.dup, 1) := by decide +kernel
theorem dX6_init_39 : decode cX6_init 39 = .ok (.invokespecial 33, 3) := by decide +kernel
theorem dX6_init_42 : decode cX6_init 42 = .ok (.putfield 34, 3) := by decide +kernel
theorem dX6_init_45 : decode cX6_init 45 = .ok (.aload_n 0, 1) := by decide +kernel
theorem dX6_init_46 : decode cX6_init 46 = .ok (.new 38, 3) := by decide +kernel
theorem dX6_init_49 : decode cX6_init 49 = .ok (.dup, 1) := by decide +kernel
theorem dX6_init_50 : decode cX6_init 50 = .ok (.invokespecial 40, 3) := by decide +kernel
theorem dX6_init_53 : decode cX6_init 53 = .ok (.putfield 41, 3) := by decide +kernel
theorem dX6_init_56 : decode cX6_init 56 = .ok (.aload_n 0, 1) := by decide +kernel
theorem dX6_init_57 : decode cX6_init 57 = .ok (.iconst 4, 1) := by decide +kernel
theorem dX6_init_58 : decode cX6_init 58 = .ok (.newarray .long, 2) := by decide +kernel
theorem dX6_init_60 : decode cX6_init 60 = .ok (.putfield 45, 3) := by decide +kernel
theorem dX6_init_63 : decode cX6_init 63 = .ok (.iconst 0, 1) := by decide +kernel
theorem dX6_init_64 : decode cX6_init 64 = .ok (.istore_n 1, 1) := by decide +kernel
theorem dX6_init_65 : decode cX6_init 65 = .ok (.iload_n 1, 1) := by decide +kernel
theorem dX6_init_66 : decode cX6_init 66 = .ok (.iconst 4, 1) := by decide +kernel
theorem dX6_init_67 : decode cX6_init 67 = .ok (.if_icmp .ge 22, 3) := by decide +kernel
theorem dX6_init_70 : decode cX6_init 70 = .ok (.aload_n 0, 1) := by decide +kernel
theorem dX6_init_71 : decode cX6_init 71 = .ok (.getfield 13, 3) := by decide +kernel
theorem dX6_init_74 : decode cX6_init 74 = .ok (.iload_n 1, 1) := by decide +kernel
theorem dX6_init_75 : decode cX6_init 75 = .ok (.new 11, 3) := by decide +kernel
theorem dX6_init_78 : decode cX6_init 78 = .ok (.dup, 1) := by decide +kernel
theorem dX6_init_79 : decode cX6_init 79 = .ok (.invokespecial 49, 3) := by decide +kernel
theorem dX6_init_82 : decode cX6_init 82 = .ok (.aastore, 1) := by decide +kernel
theorem dX6_init_83 : decode cX6_init 83 = .ok (.iinc 1 1, 3) := by decide +kernel
theorem dX6_init_86 : decode cX6_init 86 = .ok (.goto (-21), 3) := by decide +kernel
theorem dX6_init_89 : decode cX6_init 89 = .ok (.return_, 1) := by decide +kernel
set_option maxRecDepth 20000 in
theorem ggX6_kingdom_X6_isSheet : GoodIn wsX6_kingdom wsX6_isSheet := goodIn_r _ [13, 14, 15, 12, 16] (by decide +kernel) (by decide +kernel)
set_option maxRecDepth 20000 in
theorem gX6_kingdom_X6_isSheet : GoodIn wsX6_kingdom (va_wsS RX6 54 yX6_isSheet wsX6_isSheet) := goodIn_app (goodIn_of _ (by decide +kernel)) ggX6_kingdom_X6_isSheet
set_option maxRecDepth 20000 in
theorem ggX6_kingdom_X6_isBelow : GoodIn wsX6_kingdom wsX6_isBelow := goodIn_r _ [16] (by decide +kernel) (by decide +kernel)
set_option maxRecDepth 20000 in
theorem gX6_kingdom_X6_isBelow : GoodIn wsX6_kingdom (va_wsS RX6 58 yX6_isBelow wsX6_isBelow) := goodIn_app (goodIn_of _ (by decide +kernel)) ggX6_kingdom_X6_isBelow
set_option maxRecDepth 20000 in
theorem ggX6_kingdom_X6_faultAs : GoodIn wsX6_kingdom wsX6_faultAs := goodIn_r _ [19, 20, 21, 106, 107, 108, 109] (by decide +kernel) (by decide +kernel)
set_option maxRecDepth 20000 in
theorem gX6_kingdom_X6_faultAs : GoodIn wsX6_kingdom (va_wsS RX6 62 yX6_faultAs wsX6_faultAs) := goodIn_app (goodIn_of _ (by decide +kernel)) ggX6_kingdom_X6_faultAs
set_option maxRecDepth 20000 in
theorem ggX6_kingdom_X6_failed : GoodIn wsX6_kingdom wsX6_failed := goodIn_r _ [25, 1, 84, 85, 86, 87, 88, 89, 90, 91] (by decide +kernel) (by decide +kernel)
set_option maxRecDepth 20000 in
theorem gX6_kingdom_X6_failed : GoodIn wsX6_kingdom (wsV RX6 66 RX6 yX6_failed wsX6_failed) := goodIn_app (goodIn_of _ (by decide +kernel)) ggX6_kingdom_X6_failed
set_option maxRecDepth 20000 in
theorem ggX6_kingdom_X3_spans : GoodIn wsX6_kingdom wsX3_spans := goodIn_r _ [30, 31, 106, 107, 108, 109] (by decide +kernel) (by decide +kernel)
set_option maxRecDepth 20000 in
theorem gX6_kingdom_X3_spans : GoodIn wsX6_kingdom (wsV RX6 70 RX3 yX3_spans wsX3_spans) := goodIn_app (goodIn_of _ (by decide +kernel)) ggX6_kingdom_X3_spans
set_option maxRecDepth 20000 in
theorem ggX6_kingdom_X4_init : GoodIn wsX6_kingdom wsX4_init := goodIn_r _ [34, 35, 36, 37, 38, 39, 40, 92, 93, 94, 95, 96] (by decide +kernel) (by decide +kernel)
set_option maxRecDepth 20000 in
theorem gX6_kingdom_X4_init : GoodIn wsX6_kingdom (wsX4_init) := ggX6_kingdom_X4_init
set_option maxRecDepth 20000 in
theorem ggX6_kingdom_X4_firstFault : GoodIn wsX6_kingdom wsX4_firstFault := goodIn_r _ [44, 45, 46, 40, 47, 48, 49, 5, 50, 38, 51, 39, 15, 12, 16, 52, 53, 54, 55, 56, 57, 58, 59, 92, 93, 94, 95, 96, 106, 107, 108, 109] (by decide +kernel) (by decide +kernel)
set_option maxRecDepth 20000 in
theorem gX6_kingdom_X4_firstFault : GoodIn wsX6_kingdom (wsV RX6 78 RX4 yX4_firstFault wsX4_firstFault) := goodIn_app (goodIn_of _ (by decide +kernel)) ggX6_kingdom_X4_firstFault
set_option maxRecDepth 20000 in
theorem ggX6_kingdom_X2_found : GoodIn wsX6_kingdom wsX2_found := goodIn_r _ [64, 65, 66, 67, 68, 69, 70, 71, 72, 73, 74, 5, 75, 47, 48, 49, 50, 40, 38, 51, 39, 15, 12, 16, 76, 77, 78, 79, 45, 56, 57, 58, 59, 80, 81, 82, 83, 92, 93, 94, 95, 96, 101, 102, 103, 104, 105, 106, 107, 108, 109] (by decide +kernel) (by decide +kernel)
set_option maxRecDepth 20000 in
theorem gX6_kingdom_X2_found : GoodIn wsX6_kingdom (wsV RX6 82 RX2 yX2_found wsX2_found) := goodIn_app (goodIn_of _ (by decide +kernel)) ggX6_kingdom_X2_found
theorem dX6_kingdom_0 : decode cX6_kingdom 0 = .ok (.aload_n 0, 1) := by decide +kernel
theorem dX6_kingdom_1 : decode cX6_kingdom 1 = .ok (.iconst 0, 1) := by decide +kernel
theorem dX6_kingdom_2 : decode cX6_kingdom 2 = .ok (.putfield 50, 3) := by decide +kernel
theorem dX6_kingdom_5 : decode cX6_kingdom 5 = .ok (.iload_n 1, 1) := by decide +kernel
theorem dX6_kingdom_6 : decode cX6_kingdom 6 = .ok (.invokestatic 54, 3) := by decide +kernel
theorem dX6_kingdom_9 : decode cX6_kingdom 9 = .ok (.ifCond .ne 5, 3) := by decide +kernel
theorem dX6_kingdom_12 : decode cX6_kingdom 12 = .ok (.iconst (-1), 1) := by decide +kernel
theorem dX6_kingdom_13 : decode cX6_kingdom 13 = .ok (.ireturn, 1) := by decide +kernel
theorem dX6_kingdom_14 : decode cX6_kingdom 14 = .ok (.iload_n 2, 1) := by decide +kernel
theorem dX6_kingdom_15 : decode cX6_kingdom 15 = .ok (.iconst 3, 1) := by decide +kernel
theorem dX6_kingdom_16 : decode cX6_kingdom 16 = .ok (.invokestatic 58, 3) := by decide +kernel
theorem dX6_kingdom_19 : decode cX6_kingdom 19 = .ok (.ifCond .ne 6, 3) := by decide +kernel
theorem dX6_kingdom_22 : decode cX6_kingdom 22 = .ok (.bipush (-2), 2) := by decide +kernel
theorem dX6_kingdom_24 : decode cX6_kingdom 24 = .ok (.ireturn, 1) := by decide +kernel
theorem dX6_kingdom_25 : decode cX6_kingdom 25 = .ok (.aload_n 0, 1) := by decide +kernel
theorem dX6_kingdom_26 : decode cX6_kingdom 26 = .ok (.getfield 13, 3) := by decide +kernel
theorem dX6_kingdom_29 : decode cX6_kingdom 29 = .ok (.iload_n 1, 1) := by decide +kernel
theorem dX6_kingdom_30 : decode cX6_kingdom 30 = .ok (.aaload, 1) := by decide +kernel
theorem dX6_kingdom_31 : decode cX6_kingdom 31 = .ok (.astore 5, 2) := by decide +kernel
theorem dX6_kingdom_33 : decode cX6_kingdom 33 = .ok (.aload 5, 2) := by decide +kernel
theorem dX6_kingdom_35 : decode cX6_kingdom 35 = .ok (.iload_n 2, 1) := by decide +kernel
theorem dX6_kingdom_36 : decode cX6_kingdom 36 = .ok (.invokestatic 62, 3) := by decide +kernel
theorem dX6_kingdom_39 : decode cX6_kingdom 39 = .ok (.istore 6, 2) := by decide +kernel
theorem dX6_kingdom_41 : decode cX6_kingdom 41 = .ok (.iload 6, 2) := by decide +kernel
theorem dX6_kingdom_43 : decode cX6_kingdom 43 = .ok (.ifCond .eq 10, 3) := by decide +kernel
theorem dX6_kingdom_46 : decode cX6_kingdom 46 = .ok (.aload_n 0, 1) := by decide +kernel
theorem dX6_kingdom_47 : decode cX6_kingdom 47 = .ok (.iload 6, 2) := by decide +kernel
theorem dX6_kingdom_49 : decode cX6_kingdom 49 = .ok (.invokevirtual 66, 3) := by decide +kernel
theorem dX6_kingdom_52 : decode cX6_kingdom 52 = .ok (.ireturn, 1) := by decide +kernel
theorem dX6_kingdom_53 : decode cX6_kingdom 53 = .ok (.iload 4, 2) := by decide +kernel
theorem dX6_kingdom_55 : decode cX6_kingdom 55 = .ok (.ifCond .ge 9, 3) := by decide +kernel
theorem dX6_kingdom_58 : decode cX6_kingdom 58 = .ok (.aload_n 0, 1) := by decide +kernel
theorem dX6_kingdom_59 : decode cX6_kingdom 59 = .ok (.iconst 4, 1) := by decide +kernel
theorem dX6_kingdom_60 : decode cX6_kingdom 60 = .ok (.invokevirtual 66, 3) := by decide +kernel
theorem dX6_kingdom_63 : decode cX6_kingdom 63 = .ok (.ireturn, 1) := by decide +kernel
theorem dX6_kingdom_64 : decode cX6_kingdom 64 = .ok (.aload 5, 2) := by decide +kernel
theorem dX6_kingdom_66 : decode cX6_kingdom 66 = .ok (.iload_n 3, 1) := by decide +kernel
theorem dX6_kingdom_67 : decode cX6_kingdom 67 = .ok (.iload 4, 2) := by decide +kernel
theorem dX6_kingdom_69 : decode cX6_kingdom 69 = .ok (.invokevirtual 70, 3) := by decide +kernel
theorem dX6_kingdom_72 : decode cX6_kingdom 72 = .ok (.ifCond .ne 9, 3) := by decide +kernel
theorem dX6_kingdom_75 : decode cX6_kingdom 75 = .ok (.aload_n 0, 1) := by decide +kernel
theorem dX6_kingdom_76 : decode cX6_kingdom 76 = .ok (.iconst 3, 1) := by decide +kernel
theorem dX6_kingdom_77 : decode cX6_kingdom 77 = .ok (.invokevirtual 66, 3) := by decide +kernel
theorem dX6_kingdom_80 : decode cX6_kingdom 80 = .ok (.ireturn, 1) := by decide +kernel
theorem dX6_kingdom_81 : decode cX6_kingdom 81 = .ok (.new 73, 3) := by decide +kernel
theorem dX6_kingdom_84 : decode cX6_kingdom 84 = .ok (.dup, 1) := by decide +kernel
theorem dX6_kingdom_85 : decode cX6_kingdom 85 = .ok (.aload 5, 2) := by decide +kernel
theorem dX6_kingdom_87 : decode cX6_kingdom 87 = .ok (.iload_n 3, 1) := by decide +kernel
theorem dX6_kingdom_88 : decode cX6_kingdom 88 = .ok (.iload 4, 2) := by decide +kernel
theorem dX6_kingdom_90 : decode cX6_kingdom 90 = .ok (.invokespecial 75, 3) := by decide +kernel
theorem dX6_kingdom_93 : decode cX6_kingdom 93 = .ok (.astore 7, 2) := by decide +kernel
theorem dX6_kingdom_95 : decode cX6_kingdom 95 = .ok (.aload 7, 2) := by decide +kernel
theorem dX6_kingdom_97 : decode cX6_kingdom 97 = .ok (.invokevirtual 78, 3) := by decide +kernel
theorem dX6_kingdom_100 : decode cX6_kingdom 100 = .ok (.istore 8, 2) := by decide +kernel
theorem dX6_kingdom_102 : decode cX6_kingdom 102 = .ok (.iload 8, 2) := by decide +kernel
theorem dX6_kingdom_104 : decode cX6_kingdom 104 = .ok (.iconst (-1), 1) := by decide +kernel
theorem dX6_kingdom_105 : decode cX6_kingdom 105 = .ok (.if_icmp .eq 9, 3) := by decide +kernel
theorem dX6_kingdom_108 : decode cX6_kingdom 108 = .ok (.bipush (-100), 2) := by decide +kernel
theorem dX6_kingdom_110 : decode cX6_kingdom 110 = .ok (.iload 8, 2) := by decide +kernel
theorem dX6_kingdom_112 : decode cX6_kingdom 112 = .ok (.isub, 1) := by decide +kernel
theorem dX6_kingdom_113 : decode cX6_kingdom 113 = .ok (.ireturn, 1) := by decide +kernel
theorem dX6_kingdom_114 : decode cX6_kingdom 114 = .ok (.aload_n 0, 1) := by decide +kernel
theorem dX6_kingdom_115 : decode cX6_kingdom 115 = .ok (.getfield 20, 3) := by decide +kernel
theorem dX6_kingdom_118 : decode cX6_kingdom 118 = .ok (.aload 7, 2) := by decide +kernel
theorem dX6_kingdom_120 : decode cX6_kingdom 120 = .ok (.invokevirtual 82, 3) := by decide +kernel
theorem dX6_kingdom_123 : decode cX6_kingdom 123 = .ok (.aload_n 0, 1) := by decide +kernel
theorem dX6_kingdom_124 : decode cX6_kingdom 124 = .ok (.getfield 27, 3) := by decide +kernel
theorem dX6_kingdom_127 : decode cX6_kingdom 127 = .ok (.iconst 0, 1) := by decide +kernel
theorem dX6_kingdom_128 : decode cX6_kingdom 128 = .ok (.putfield 86, 3) := by decide +kernel
theorem dX6_kingdom_131 : decode cX6_kingdom 131 = .ok (.aload_n 0, 1) := by decide +kernel
theorem dX6_kingdom_132 : decode cX6_kingdom 132 = .ok (.getfield 20, 3) := by decide +kernel
theorem dX6_kingdom_135 : decode cX6_kingdom 135 = .ok (.getfield 89, 3) := by decide +kernel
theorem dX6_kingdom_138 : decode cX6_kingdom 138 = .ok (.ireturn, 1) := by decide +kernel
set_option maxRecDepth 20000 in
theorem ggX6_ofDeed_X2_hasDeed : GoodIn wsX6_ofDeed wsX2_hasDeed := goodIn_r _ [7, 8, 9, 10, 11, 21, 22, 23, 24, 25] (by decide +kernel) (by decide +kernel)
set_option maxRecDepth 20000 in
theorem gX6_ofDeed_X2_hasDeed : GoodIn wsX6_ofDeed (wsV RX6 92 RX2 yX2_hasDeed wsX2_hasDeed) := goodIn_app (goodIn_of _ (by decide +kernel)) ggX6_ofDeed_X2_hasDeed
set_option maxRecDepth 20000 in
theorem ggX6_ofDeed_X6_isBelow : GoodIn wsX6_ofDeed wsX6_isBelow := goodIn_r _ [11] (by decide +kernel) (by decide +kernel)
set_option maxRecDepth 20000 in
theorem gX6_ofDeed_X6_isBelow : GoodIn wsX6_ofDeed (va_wsS RX6 58 yX6_isBelow wsX6_isBelow) := goodIn_app (goodIn_of _ (by decide +kernel)) ggX6_ofDeed_X6_isBelow
theorem dX6_ofDeed_0 : decode cX6_ofDeed 0 = .ok (.aload_n 0, 1) := by decide +kernel
theorem dX6_ofDeed_1 : decode cX6_ofDeed 1 = .ok (.getfield 20, 3) := by decide +kernel
theorem dX6_ofDeed_4 : decode cX6_ofDeed 4 = .ok (.iload_n 1, 1) := by decide +kernel
theorem dX6_ofDeed_5 : decode cX6_ofDeed 5 = .ok (.invokevirtual 92, 3) := by decide +kernel
theorem dX6_ofDeed_8 : decode cX6_ofDeed 8 = .ok (.ifCond .ne 5, 3) := by decide +kernel
theorem dX6_ofDeed_11 : decode cX6_ofDeed 11 = .ok (.iconst (-1), 1) := by decide +kernel
theorem dX6_ofDeed_12 : decode cX6_ofDeed 12 = .ok (.ireturn, 1) := by decide +kernel
theorem dX6_ofDeed_13 : decode cX6_ofDeed 13 = .ok (.iload_n 2, 1) := by decide +kernel
theorem dX6_ofDeed_14 : decode cX6_ofDeed 14 = .ok (.iconst 3, 1) := by decide +kernel
theorem dX6_ofDeed_15 : decode cX6_ofDeed 15 = .ok (.invokestatic 58, 3) := by decide +kernel
theorem dX6_ofDeed_18 : decode cX6_ofDeed 18 = .ok (.ifCond .ne 6, 3) := by decide +kernel
theorem dX6_ofDeed_21 : decode cX6_ofDeed 21 = .ok (.bipush (-2), 2) := by decide +kernel
theorem dX6_ofDeed_23 : decode cX6_ofDeed 23 = .ok (.ireturn, 1) := by decide +kernel
theorem dX6_ofDeed_24 : decode cX6_ofDeed 24 = .ok (.aload_n 0, 1) := by decide +kernel
theorem dX6_ofDeed_25 : decode cX6_ofDeed 25 = .ok (.getfield 20, 3) := by decide +kernel
theorem dX6_ofDeed_28 : decode cX6_ofDeed 28 = .ok (.getfield 95, 3) := by decide +kernel
theorem dX6_ofDeed_31 : decode cX6_ofDeed 31 = .ok (.iload_n 1, 1) := by decide +kernel
theorem dX6_ofDeed_32 : decode cX6_ofDeed 32 = .ok (.aaload, 1) := by decide +kernel
theorem dX6_ofDeed_33 : decode cX6_ofDeed 33 = .ok (.iload_n 2, 1) := by decide +kernel
theorem dX6_ofDeed_34 : decode cX6_ofDeed 34 = .ok (.iaload, 1) := by decide +kernel
theorem dX6_ofDeed_35 : decode cX6_ofDeed 35 = .ok (.ireturn, 1) := by decide +kernel
set_option maxRecDepth 20000 in
theorem ggX6_ofSubject_X2_hasSubject : GoodIn wsX6_ofSubject wsX2_hasSubject := goodIn_r _ [8, 9, 10, 11, 12, 44, 45, 46, 47, 48] (by decide +kernel) (by decide +kernel)
set_option maxRecDepth 20000 in
theorem gX6_ofSubject_X2_hasSubject : GoodIn wsX6_ofSubject (wsV RX6 99 RX2 yX2_hasSubject wsX2_hasSubject) := goodIn_app (goodIn_of _ (by decide +kernel)) ggX6_ofSubject_X2_hasSubject
set_option maxRecDepth 20000 in
theorem ggX6_ofSubject_X2_doneBy : GoodIn wsX6_ofSubject wsX2_doneBy := goodIn_r _ [16, 17, 18, 19, 20, 7, 21, 22, 23, 24, 25, 26, 27, 28, 29, 30, 31, 32, 33, 34, 35, 44, 45, 46, 47, 48] (by decide +kernel) (by decide +kernel)
set_option maxRecDepth 20000 in
theorem gX6_ofSubject_X2_doneBy : GoodIn wsX6_ofSubject (wsV RX6 109 RX2 yX2_doneBy wsX2_doneBy) := goodIn_app (goodIn_of _ (by decide +kernel)) ggX6_ofSubject_X2_doneBy
theorem dX6_ofSubject_0 : decode cX6_ofSubject 0 = .ok (.aload_n 0, 1) := by decide +kernel
theorem dX6_ofSubject_1 : decode cX6_ofSubject 1 = .ok (.getfield 20, 3) := by decide +kernel
theorem dX6_ofSubject_4 : decode cX6_ofSubject 4 = .ok (.iload_n 1, 1) := by decide +kernel
theorem dX6_ofSubject_5 : decode cX6_ofSubject 5 = .ok (.invokevirtual 99, 3) := by decide +kernel
theorem dX6_ofSubject_8 : decode cX6_ofSubject 8 = .ok (.ifCond .ne 5, 3) := by decide +kernel
theorem dX6_ofSubject_11 : decode cX6_ofSubject 11 = .ok (.iconst (-1), 1) := by decide +kernel
theorem dX6_ofSubject_12 : decode cX6_ofSubject 12 = .ok (.ireturn, 1) := by decide +kernel
theorem dX6_ofSubject_13 : decode cX6_ofSubject 13 = .ok (.iload_n 2, 1) := by decide +kernel
theorem dX6_ofSubject_14 : decode cX6_ofSubject 14 = .ok (.tableswitch 55 0 2 #[26, 36, 46], 26) := by decide +kernel
theorem dX6_ofSubject_40 : decode cX6_ofSubject 40 = .ok (.aload_n 0, 1) := by decide +kernel
theorem dX6_ofSubject_41 : decode cX6_ofSubject 41 = .ok (.getfield 20, 3) := by decide +kernel
theorem dX6_ofSubject_44 : decode cX6_ofSubject 44 = .ok (.getfield 102, 3) := by decide +kernel
theorem dX6_ofSubject_47 : decode cX6_ofSubject 47 = .ok (.iload_n 1, 1) := by decide +kernel
theorem dX6_ofSubject_48 : decode cX6_ofSubject 48 = .ok (.iaload, 1) := by decide +kernel
theorem dX6_ofSubject_49 : decode cX6_ofSubject 49 = .ok (.ireturn, 1) := by decide +kernel
theorem dX6_ofSubject_50 : decode cX6_ofSubject 50 = .ok (.aload_n 0, 1) := by decide +kernel
theorem dX6_ofSubject_51 : decode cX6_ofSubject 51 = .ok (.getfield 20, 3) := by decide +kernel
theorem dX6_ofSubject_54 : decode cX6_ofSubject 54 = .ok (.getfield 106, 3) := by decide +kernel
theorem dX6_ofSubject_57 : decode cX6_ofSubject 57 = .ok (.iload_n 1, 1) := by decide +kernel
theorem dX6_ofSubject_58 : decode cX6_ofSubject 58 = .ok (.iaload, 1) := by decide +kernel
theorem dX6_ofSubject_59 : decode cX6_ofSubject 59 = .ok (.ireturn, 1) := by decide +kernel
theorem dX6_ofSubject_60 : decode cX6_ofSubject 60 = .ok (.aload_n 0, 1) := by decide +kernel
theorem dX6_ofSubject_61 : decode cX6_ofSubject 61 = .ok (.getfield 20, 3) := by decide +kernel
theorem dX6_ofSubject_64 : decode cX6_ofSubject 64 = .ok (.iload_n 1, 1) := by decide +kernel
theorem dX6_ofSubject_65 : decode cX6_ofSubject 65 = .ok (.invokevirtual 109, 3) := by decide +kernel
theorem dX6_ofSubject_68 : decode cX6_ofSubject 68 = .ok (.ireturn, 1) := by decide +kernel
theorem dX6_ofSubject_69 : decode cX6_ofSubject 69 = .ok (.bipush (-2), 2) := by decide +kernel
theorem dX6_ofSubject_71 : decode cX6_ofSubject 71 = .ok (.ireturn, 1) := by decide +kernel
set_option maxRecDepth 20000 in
theorem ggX6_fear_X2_hasSubject : GoodIn wsX6_fear wsX2_hasSubject := goodIn_r _ [6, 7, 8, 9, 10, 30, 31, 32, 33, 34] (by decide +kernel) (by decide +kernel)
set_option maxRecDepth 20000 in
theorem gX6_fear_X2_hasSubject : GoodIn wsX6_fear (wsV RX6 99 RX2 yX2_hasSubject wsX2_hasSubject) := goodIn_app (goodIn_of _ (by decide +kernel)) ggX6_fear_X2_hasSubject
set_option maxRecDepth 20000 in
theorem ggX6_fear_X2_hasDeed : GoodIn wsX6_fear wsX2_hasDeed := goodIn_r _ [14, 15, 8, 9, 10, 30, 31, 32, 33, 34] (by decide +kernel) (by decide +kernel)
set_option maxRecDepth 20000 in
theorem gX6_fear_X2_hasDeed : GoodIn wsX6_fear (wsV RX6 92 RX2 yX2_hasDeed wsX2_hasDeed) := goodIn_app (goodIn_of _ (by decide +kernel)) ggX6_fear_X2_hasDeed
set_option maxRecDepth 20000 in
theorem ggX6_fear_X2_fearOf : GoodIn wsX6_fear wsX2_fearOf := goodIn_r _ [19, 20, 21, 30, 31, 32, 33, 34] (by decide +kernel) (by decide +kernel)
set_option maxRecDepth 20000 in
theorem gX6_fear_X2_fearOf : GoodIn wsX6_fear (wsV RX6 112 RX2 yX2_fearOf wsX2_fearOf) := goodIn_app (goodIn_of _ (by decide +kernel)) ggX6_fear_X2_fearOf
theorem dX6_fear_0 : decode cX6_fear 0 = .ok (.aload_n 0, 1) := by decide +kernel
theorem dX6_fear_1 : decode cX6_fear 1 = .ok (.getfield 20, 3) := by decide +kernel
theorem dX6_fear_4 : decode cX6_fear 4 = .ok (.iload_n 1, 1) := by decide +kernel
theorem dX6_fear_5 : decode cX6_fear 5 = .ok (.invokevirtual 99, 3) := by decide +kernel
theorem dX6_fear_8 : decode cX6_fear 8 = .ok (.ifCond .eq 14, 3) := by decide +kernel
theorem dX6_fear_11 : decode cX6_fear 11 = .ok (.aload_n 0, 1) := by decide +kernel
theorem dX6_fear_12 : decode cX6_fear 12 = .ok (.getfield 20, 3) := by decide +kernel
theorem dX6_fear_15 : decode cX6_fear 15 = .ok (.iload_n 2, 1) := by decide +kernel
theorem dX6_fear_16 : decode cX6_fear 16 = .ok (.invokevirtual 92, 3) := by decide +kernel
theorem dX6_fear_19 : decode cX6_fear 19 = .ok (.ifCond .ne 5, 3) := by decide +kernel
theorem dX6_fear_22 : decode cX6_fear 22 = .ok (.iconst (-1), 1) := by decide +kernel
theorem dX6_fear_23 : decode cX6_fear 23 = .ok (.ireturn, 1) := by decide +kernel
theorem dX6_fear_24 : decode cX6_fear 24 = .ok (.aload_n 0, 1) := by decide +kernel
theorem dX6_fear_25 : decode cX6_fear 25 = .ok (.getfield 20, 3) := by decide +kernel
theorem dX6_fear_28 : decode cX6_fear 28 = .ok (.iload_n 1, 1) := by decide +kernel
theorem dX6_fear_29 : decode cX6_fear 29 = .ok (.iload_n 2, 1) := by decide +kernel
theorem dX6_fear_30 : decode cX6_fear 30 = .ok (.invokevirtual 112, 3) := by decide +kernel
theorem dX6_fear_33 : decode cX6_fear 33 = .ok (.ireturn, 1) := by decide +kernel
set_option maxRecDepth 20000 in
theorem ggX6_alter_X2_hasDeed : GoodIn wsX6_alter wsX2_hasDeed := goodIn_r _ [7, 8, 9, 10, 11, 21, 22, 23, 24, 25] (by decide +kernel) (by decide +kernel)
set_option maxRecDepth 20000 in
theorem gX6_alter_X2_hasDeed : GoodIn wsX6_alter (wsV RX6 92 RX2 yX2_hasDeed wsX2_hasDeed) := goodIn_app (goodIn_of _ (by decide +kernel)) ggX6_alter_X2_hasDeed
set_option maxRecDepth 20000 in
theorem ggX6_alter_X6_isBelow : GoodIn wsX6_alter wsX6_isBelow := goodIn_r _ [11] (by decide +kernel) (by decide +kernel)
set_option maxRecDepth 20000 in
theorem gX6_alter_X6_isBelow : GoodIn wsX6_alter (va_wsS RX6 58 yX6_isBelow wsX6_isBelow) := goodIn_app (goodIn_of _ (by decide +kernel)) ggX6_alter_X6_isBelow
theorem dX6_alter_0 : decode cX6_alter 0 = .ok (.aload_n 0, 1) := by decide +kernel
theorem dX6_alter_1 : decode cX6_alter 1 = .ok (.getfield 20, 3) := by decide +kernel
theorem dX6_alter_4 : decode cX6_alter 4 = .ok (.iload_n 1, 1) := by decide +kernel
theorem dX6_alter_5 : decode cX6_alter 5 = .ok (.invokevirtual 92, 3) := by decide +kernel
theorem dX6_alter_8 : decode cX6_alter 8 = .ok (.ifCond .ne 5, 3) := by decide +kernel
theorem dX6_alter_11 : decode cX6_alter 11 = .ok (.iconst (-1), 1) := by decide +kernel
theorem dX6_alter_12 : decode cX6_alter 12 = .ok (.ireturn, 1) := by decide +kernel
theorem dX6_alter_13 : decode cX6_alter 13 = .ok (.iload_n 2, 1) := by decide +kernel
theorem dX6_alter_14 : decode cX6_alter 14 = .ok (.iconst 3, 1) := by decide +kernel
theorem dX6_alter_15 : decode cX6_alter 15 = .ok (.invokestatic 58, 3) := by decide +kernel
theorem dX6_alter_18 : decode cX6_alter 18 = .ok (.ifCond .eq 12, 3) := by decide +kernel
theorem dX6_alter_21 : decode cX6_alter 21 = .ok (.iload_n 3, 1) := by decide +kernel
theorem dX6_alter_22 : decode cX6_alter 22 = .ok (.bipush 10, 2) := by decide +kernel
theorem dX6_alter_24 : decode cX6_alter 24 = .ok (.invokestatic 58, 3) := by decide +kernel
theorem dX6_alter_27 : decode cX6_alter 27 = .ok (.ifCond .ne 6, 3) := by decide +kernel
theorem dX6_alter_30 : decode cX6_alter 30 = .ok (.bipush (-2), 2) := by decide +kernel
theorem dX6_alter_32 : decode cX6_alter 32 = .ok (.ireturn, 1) := by decide +kernel
theorem dX6_alter_33 : decode cX6_alter 33 = .ok (.aload_n 0, 1) := by decide +kernel
theorem dX6_alter_34 : decode cX6_alter 34 = .ok (.getfield 20, 3) := by decide +kernel
theorem dX6_alter_37 : decode cX6_alter 37 = .ok (.getfield 95, 3) := by decide +kernel
theorem dX6_alter_40 : decode cX6_alter 40 = .ok (.iload_n 1, 1) := by decide +kernel
theorem dX6_alter_41 : decode cX6_alter 41 = .ok (.aaload, 1) := by decide +kernel
theorem dX6_alter_42 : decode cX6_alter 42 = .ok (.iload_n 2, 1) := by decide +kernel
theorem dX6_alter_43 : decode cX6_alter 43 = .ok (.iaload, 1) := by decide +kernel
theorem dX6_alter_44 : decode cX6_alter 44 = .ok (.istore 4, 2) := by decide +kernel
theorem dX6_alter_46 : decode cX6_alter 46 = .ok (.aload_n 0, 1) := by decide +kernel
theorem dX6_alter_47 : decode cX6_alter 47 = .ok (.getfield 20, 3) := by decide +kernel
theorem dX6_alter_50 : decode cX6_alter 50 = .ok (.getfield 95, 3) := by decide +kernel
theorem dX6_alter_53 : decode cX6_alter 53 = .ok (.iload_n 1, 1) := by decide +kernel
theorem dX6_alter_54 : decode cX6_alter 54 = .ok (.aaload, 1) := by decide +kernel
theorem dX6_alter_55 : decode cX6_alter 55 = .ok (.iload_n 2, 1) := by decide +kernel
theorem dX6_alter_56 : decode cX6_alter 56 = .ok (.iload_n 3, 1) := by decide +kernel
theorem dX6_alter_57 : decode cX6_alter 57 = .ok (.iastore, 1) := by decide +kernel
theorem dX6_alter_58 : decode cX6_alter 58 = .ok (.iload 4, 2) := by decide +kernel
theorem dX6_alter_60 : decode cX6_alter 60 = .ok (.ireturn, 1) := by decide +kernel
set_option maxRecDepth 20000 in
theorem ggX6_grant_X2_hasSubject : GoodIn wsX6_grant wsX2_hasSubject := goodIn_r _ [7, 8, 9, 10, 11, 21, 22, 23, 24, 25] (by decide +kernel) (by decide +kernel)
set_option maxRecDepth 20000 in
theorem gX6_grant_X2_hasSubject : GoodIn wsX6_grant (wsV RX6 99 RX2 yX2_hasSubject wsX2_hasSubject) := goodIn_app (goodIn_of _ (by decide +kernel)) ggX6_grant_X2_hasSubject
set_option maxRecDepth 20000 in
theorem ggX6_grant_X6_isBelow : GoodIn wsX6_grant wsX6_isBelow := goodIn_r _ [11] (by decide +kernel) (by decide +kernel)
set_option maxRecDepth 20000 in
theorem gX6_grant_X6_isBelow : GoodIn wsX6_grant (va_wsS RX6 58 yX6_isBelow wsX6_isBelow) := goodIn_app (goodIn_of _ (by decide +kernel)) ggX6_grant_X6_isBelow
theorem dX6_grant_0 : decode cX6_grant 0 = .ok (.aload_n 0, 1) := by decide +kernel
theorem dX6_grant_1 : decode cX6_grant 1 = .ok (.getfield 20, 3) := by decide +kernel
theorem dX6_grant_4 : decode cX6_grant 4 = .ok (.iload_n 1, 1) := by decide +kernel
theorem dX6_grant_5 : decode cX6_grant 5 = .ok (.invokevirtual 99, 3) := by decide +kernel
theorem dX6_grant_8 : decode cX6_grant 8 = .ok (.ifCond .ne 5, 3) := by decide +kernel
theorem dX6_grant_11 : decode cX6_grant 11 = .ok (.iconst (-1), 1) := by decide +kernel
theorem dX6_grant_12 : decode cX6_grant 12 = .ok (.ireturn, 1) := by decide +kernel
theorem dX6_grant_13 : decode cX6_grant 13 = .ok (.iload_n 2, 1) := by decide +kernel
theorem dX6_grant_14 : decode cX6_grant 14 = .ok (.iconst 4, 1) := by decide +kernel
theorem dX6_grant_15 : decode cX6_grant 15 = .ok (.invokestatic 58, 3) := by decide +kernel
theorem dX6_grant_18 : decode cX6_grant 18 = .ok (.ifCond .ne 6, 3) := by decide +kernel
theorem dX6_grant_21 : decode cX6_grant 21 = .ok (.bipush (-2), 2) := by decide +kernel
theorem dX6_grant_23 : decode cX6_grant 23 = .ok (.ireturn, 1) := by decide +kernel
theorem dX6_grant_24 : decode cX6_grant 24 = .ok (.aload_n 0, 1) := by decide +kernel
theorem dX6_grant_25 : decode cX6_grant 25 = .ok (.getfield 20, 3) := by decide +kernel
theorem dX6_grant_28 : decode cX6_grant 28 = .ok (.getfield 106, 3) := by decide +kernel
theorem dX6_grant_31 : decode cX6_grant 31 = .ok (.iload_n 1, 1) := by decide +kernel
theorem dX6_grant_32 : decode cX6_grant 32 = .ok (.iaload, 1) := by decide +kernel
theorem dX6_grant_33 : decode cX6_grant 33 = .ok (.istore_n 3, 1) := by decide +kernel
theorem dX6_grant_34 : decode cX6_grant 34 = .ok (.aload_n 0, 1) := by decide +kernel
theorem dX6_grant_35 : decode cX6_grant 35 = .ok (.getfield 20, 3) := by decide +kernel
theorem dX6_grant_38 : decode cX6_grant 38 = .ok (.getfield 106, 3) := by decide +kernel
theorem dX6_grant_41 : decode cX6_grant 41 = .ok (.iload_n 1, 1) := by decide +kernel
theorem dX6_grant_42 : decode cX6_grant 42 = .ok (.iload_n 2, 1) := by decide +kernel
theorem dX6_grant_43 : decode cX6_grant 43 = .ok (.iastore, 1) := by decide +kernel
theorem dX6_grant_44 : decode cX6_grant 44 = .ok (.iload_n 3, 1) := by decide +kernel
theorem dX6_grant_45 : decode cX6_grant 45 = .ok (.ireturn, 1) := by decide +kernel
set_option maxRecDepth 20000 in
theorem ggX6_year_X6_isSheet : GoodIn wsX6_year wsX6_isSheet := goodIn_r _ [8, 9, 10, 7, 11] (by decide +kernel) (by decide +kernel)
set_option maxRecDepth 20000 in
theorem gX6_year_X6_isSheet : GoodIn wsX6_year (va_wsS RX6 54 yX6_isSheet wsX6_isSheet) := goodIn_app (goodIn_of _ (by decide +kernel)) ggX6_year_X6_isSheet
set_option maxRecDepth 20000 in
theorem ggX6_year_X6_isBelow : GoodIn wsX6_year wsX6_isBelow := goodIn_r _ [11] (by decide +kernel) (by decide +kernel)
set_option maxRecDepth 20000 in
theorem gX6_year_X6_isBelow : GoodIn wsX6_year (va_wsS RX6 58 yX6_isBelow wsX6_isBelow) := goodIn_app (goodIn_of _ (by decide +kernel)) ggX6_year_X6_isBelow
set_option maxRecDepth 20000 in
theorem ggX6_year_X6_isAskedOfYears : GoodIn wsX6_year wsX6_isAskedOfYears := goodIn_r _ [14, 9, 10, 7, 11] (by decide +kernel) (by decide +kernel)
set_option maxRecDepth 20000 in
theorem gX6_year_X6_isAskedOfYears : GoodIn wsX6_year (va_wsS RX6 116 yX6_isAskedOfYears wsX6_isAskedOfYears) := goodIn_app (goodIn_of _ (by decide +kernel)) ggX6_year_X6_isAskedOfYears
set_option maxRecDepth 20000 in
theorem ggX6_year_X2_isThere : GoodIn wsX6_year wsX2_isThere := goodIn_r _ [19, 20, 103, 104, 105, 106, 107] (by decide +kernel) (by decide +kernel)
set_option maxRecDepth 20000 in
theorem gX6_year_X2_isThere : GoodIn wsX6_year (wsV RX6 119 RX2 yX2_isThere wsX2_isThere) := goodIn_app (goodIn_of _ (by decide +kernel)) ggX6_year_X2_isThere
set_option maxRecDepth 20000 in
theorem ggX6_year_X6_faultAs : GoodIn wsX6_year wsX6_faultAs := goodIn_r _ [23, 24, 25, 108, 109, 110, 111] (by decide +kernel) (by decide +kernel)
set_option maxRecDepth 20000 in
theorem gX6_year_X6_faultAs : GoodIn wsX6_year (va_wsS RX6 62 yX6_faultAs wsX6_faultAs) := goodIn_app (goodIn_of _ (by decide +kernel)) ggX6_year_X6_faultAs
set_option maxRecDepth 20000 in
theorem ggX6_year_X6_failed : GoodIn wsX6_year wsX6_failed := goodIn_r _ [29, 1, 95, 96, 97, 98, 99, 100, 101, 102] (by decide +kernel) (by decide +kernel)
set_option maxRecDepth 20000 in
theorem gX6_year_X6_failed : GoodIn wsX6_year (wsV RX6 66 RX6 yX6_failed wsX6_failed) := goodIn_app (goodIn_of _ (by decide +kernel)) ggX6_year_X6_failed
set_option maxRecDepth 20000 in
theorem ggX6_year_X3_spans : GoodIn wsX6_year wsX3_spans := goodIn_r _ [34, 35, 108, 109, 110, 111] (by decide +kernel) (by decide +kernel)
set_option maxRecDepth 20000 in
theorem gX6_year_X3_spans : GoodIn wsX6_year (wsV RX6 70 RX3 yX3_spans wsX3_spans) := goodIn_app (goodIn_of _ (by decide +kernel)) ggX6_year_X3_spans
set_option maxRecDepth 20000 in
theorem ggX6_year_X6_areTriples : GoodIn wsX6_year wsX6_areTriples := goodIn_r _ [39, 2, 40, 41, 42, 43, 18, 44, 20, 10, 7, 11, 45, 46, 47, 48, 49, 9, 95, 96, 97, 98, 99, 100, 101, 102, 108, 109, 110, 111, 103, 104, 105, 106, 107] (by decide +kernel) (by decide +kernel)
set_option maxRecDepth 20000 in
theorem gX6_year_X6_areTriples : GoodIn wsX6_year (wsV RX6 123 RX6 yX6_areTriples wsX6_areTriples) := goodIn_app (goodIn_of _ (by decide +kernel)) ggX6_year_X6_areTriples
set_option maxRecDepth 20000 in
theorem ggX6_year_X5_live : GoodIn wsX6_year wsX5_live := goodIn_r _ [54, 55, 56, 57, 58, 59, 60, 61, 62, 63, 64, 53, 65, 66, 67, 68, 18, 69, 70, 71, 72, 73, 74, 75, 76, 77, 78, 79, 80, 81, 82, 83, 84, 85, 112, 113, 114, 115, 103, 104, 105, 106, 107, 108, 109, 110, 111] (by decide +kernel) (by decide +kernel)
set_option maxRecDepth 20000 in
theorem gX6_year_X5_live : GoodIn wsX6_year (wsV RX6 127 RX5 yX5_live wsX5_live) := goodIn_app (goodIn_of _ (by decide +kernel)) ggX6_year_X5_live
set_option maxRecDepth 20000 in
theorem ggX6_year_X6_ofYear : GoodIn wsX6_year wsX6_ofYear := goodIn_r _ [89, 4, 90, 91, 92, 93, 2, 94, 41, 42, 43, 18, 44, 20, 10, 7, 11, 95, 96, 97, 98, 99, 100, 101, 102, 112, 113, 114, 115, 103, 104, 105, 106, 107] (by decide +kernel) (by decide +kernel)
set_option maxRecDepth 20000 in
theorem gX6_year_X6_ofYear : GoodIn wsX6_year (wsV RX6 131 RX6 yX6_ofYear wsX6_ofYear) := goodIn_app (goodIn_of _ (by decide +kernel)) ggX6_year_X6_ofYear
theorem dX6_year_0 : decode cX6_year 0 = .ok (.aload_n 0, 1) := by decide +kernel
theorem dX6_year_1 : decode cX6_year 1 = .ok (.iconst 0, 1) := by decide +kernel
theorem dX6_year_2 : decode cX6_year 2 = .ok (.putfield 50, 3) := by decide +kernel
theorem dX6_year_5 : decode cX6_year 5 = .ok (.iload_n 1, 1) := by decide +kernel
theorem dX6_year_6 : decode cX6_year 6 = .ok (.invokestatic 54, 3) := by decide +kernel
theorem dX6_year_9 : decode cX6_year 9 = .ok (.ifCond .ne 5, 3) := by decide +kernel
theorem dX6_year_12 : decode cX6_year 12 = .ok (.iconst (-1), 1) := by decide +kernel
theorem dX6_year_13 : decode cX6_year 13 = .ok (.ireturn, 1) := by decide +kernel
theorem dX6_year_14 : decode cX6_year 14 = .ok (.iload_n 2, 1) := by decide +kernel
theorem dX6_year_15 : decode cX6_year 15 = .ok (.iconst 3, 1) := by decide +kernel
theorem dX6_year_16 : decode cX6_year 16 = .ok (.invokestatic 58, 3) := by decide +kernel
theorem dX6_year_19 : decode cX6_year 19 = .ok (.ifCond .eq 21, 3) := by decide +kernel
theorem dX6_year_22 : decode cX6_year 22 = .ok (.iload 4, 2) := by decide +kernel
theorem dX6_year_24 : decode cX6_year 24 = .ok (.bipush 21, 2) := by decide +kernel
theorem dX6_year_26 : decode cX6_year 26 = .ok (.invokestatic 58, 3) := by decide +kernel
theorem dX6_year_29 : decode cX6_year 29 = .ok (.ifCond .eq 11, 3) := by decide +kernel
theorem dX6_year_32 : decode cX6_year 32 = .ok (.iload 5, 2) := by decide +kernel
theorem dX6_year_34 : decode cX6_year 34 = .ok (.invokestatic 116, 3) := by decide +kernel
theorem dX6_year_37 : decode cX6_year 37 = .ok (.ifCond .ne 6, 3) := by decide +kernel
theorem dX6_year_40 : decode cX6_year 40 = .ok (.bipush (-2), 2) := by decide +kernel
theorem dX6_year_42 : decode cX6_year 42 = .ok (.ireturn, 1) := by decide +kernel
theorem dX6_year_43 : decode cX6_year 43 = .ok (.aload_n 0, 1) := by decide +kernel
theorem dX6_year_44 : decode cX6_year 44 = .ok (.getfield 20, 3) := by decide +kernel
theorem dX6_year_47 : decode cX6_year 47 = .ok (.invokevirtual 119, 3) := by decide +kernel
theorem dX6_year_50 : decode cX6_year 50 = .ok (.ifCond .ne 6, 3) := by decide +kernel
theorem dX6_year_53 : decode cX6_year 53 = .ok (.bipush (-3), 2) := by decide +kernel
theorem dX6_year_55 : decode cX6_year 55 = .ok (.ireturn, 1) := by decide +kernel
theorem dX6_year_56 : decode cX6_year 56 = .ok (.aload_n 0, 1) := by decide +kernel
theorem dX6_year_57 : decode cX6_year 57 = .ok (.getfield 13, 3) := by decide +kernel
theorem dX6_year_60 : decode cX6_year 60 = .ok (.iload_n 1, 1) := by decide +kernel
theorem dX6_year_61 : decode cX6_year 61 = .ok (.aaload, 1) := by decide +kernel
theorem dX6_year_62 : decode cX6_year 62 = .ok (.astore 6, 2) := by decide +kernel
theorem dX6_year_64 : decode cX6_year 64 = .ok (.aload 6, 2) := by decide +kernel
theorem dX6_year_66 : decode cX6_year 66 = .ok (.iload_n 2, 1) := by decide +kernel
theorem dX6_year_67 : decode cX6_year 67 = .ok (.invokestatic 62, 3) := by decide +kernel
theorem dX6_year_70 : decode cX6_year 70 = .ok (.istore 7, 2) := by decide +kernel
theorem dX6_year_72 : decode cX6_year 72 = .ok (.iload 7, 2) := by decide +kernel
theorem dX6_year_74 : decode cX6_year 74 = .ok (.ifCond .eq 10, 3) := by decide +kernel
theorem dX6_year_77 : decode cX6_year 77 = .ok (.aload_n 0, 1) := by decide +kernel
theorem dX6_year_78 : decode cX6_year 78 = .ok (.iload 7, 2) := by decide +kernel
theorem dX6_year_80 : decode cX6_year 80 = .ok (.invokevirtual 66, 3) := by decide +kernel
theorem dX6_year_83 : decode cX6_year 83 = .ok (.ireturn, 1) := by decide +kernel
theorem dX6_year_84 : decode cX6_year 84 = .ok (.aload 6, 2) := by decide +kernel
theorem dX6_year_86 : decode cX6_year 86 = .ok (.iload_n 3, 1) := by decide +kernel
theorem dX6_year_87 : decode cX6_year 87 = .ok (.iconst 3, 1) := by decide +kernel
theorem dX6_year_88 : decode cX6_year 88 = .ok (.iload 4, 2) := by decide +kernel
theorem dX6_year_90 : decode cX6_year 90 = .ok (.imul, 1) := by decide +kernel
theorem dX6_year_91 : decode cX6_year 91 = .ok (.invokevirtual 70, 3) := by decide +kernel
theorem dX6_year_94 : decode cX6_year 94 = .ok (.ifCond .ne 9, 3) := by decide +kernel
theorem dX6_year_97 : decode cX6_year 97 = .ok (.aload_n 0, 1) := by decide +kernel
theorem dX6_year_98 : decode cX6_year 98 = .ok (.iconst 3, 1) := by decide +kernel
theorem dX6_year_99 : decode cX6_year 99 = .ok (.invokevirtual 66, 3) := by decide +kernel
theorem dX6_year_102 : decode cX6_year 102 = .ok (.ireturn, 1) := by decide +kernel
theorem dX6_year_103 : decode cX6_year 103 = .ok (.aload_n 0, 1) := by decide +kernel
theorem dX6_year_104 : decode cX6_year 104 = .ok (.aload 6, 2) := by decide +kernel
theorem dX6_year_106 : decode cX6_year 106 = .ok (.iload_n 3, 1) := by decide +kernel
theorem dX6_year_107 : decode cX6_year 107 = .ok (.iload 4, 2) := by decide +kernel
theorem dX6_year_109 : decode cX6_year 109 = .ok (.invokevirtual 123, 3) := by decide +kernel
theorem dX6_year_112 : decode cX6_year 112 = .ok (.ifCond .ne 5, 3) := by decide +kernel
theorem dX6_year_115 : decode cX6_year 115 = .ok (.iconst (-1), 1) := by decide +kernel
theorem dX6_year_116 : decode cX6_year 116 = .ok (.ireturn, 1) := by decide +kernel
theorem dX6_year_117 : decode cX6_year 117 = .ok (.aload_n 0, 1) := by decide +kernel
theorem dX6_year_118 : decode cX6_year 118 = .ok (.getfield 41, 3) := by decide +kernel
theorem dX6_year_121 : decode cX6_year 121 = .ok (.aload_n 0, 1) := by decide +kernel
theorem dX6_year_122 : decode cX6_year 122 = .ok (.getfield 20, 3) := by decide +kernel
theorem dX6_year_125 : decode cX6_year 125 = .ok (.aload 6, 2) := by decide +kernel
theorem dX6_year_127 : decode cX6_year 127 = .ok (.iload_n 3, 1) := by decide +kernel
theorem dX6_year_128 : decode cX6_year 128 = .ok (.iload 4, 2) := by decide +kernel
theorem dX6_year_130 : decode cX6_year 130 = .ok (.invokevirtual 127, 3) := by decide +kernel
theorem dX6_year_133 : decode cX6_year 133 = .ok (.aload_n 0, 1) := by decide +kernel
theorem dX6_year_134 : decode cX6_year 134 = .ok (.iload 5, 2) := by decide +kernel
theorem dX6_year_136 : decode cX6_year 136 = .ok (.invokevirtual 131, 3) := by decide +kernel
theorem dX6_year_139 : decode cX6_year 139 = .ok (.ireturn, 1) := by decide +kernel
set_option maxRecDepth 20000 in
theorem ggX6_isAskedOfYears_X6_isBelow : GoodIn wsX6_isAskedOfYears wsX6_isBelow := goodIn_r _ [4] (by decide +kernel) (by decide +kernel)
set_option maxRecDepth 20000 in
theorem gX6_isAskedOfYears_X6_isBelow : GoodIn wsX6_isAskedOfYears (va_wsS RX6 58 yX6_isBelow wsX6_isBelow) := goodIn_app (goodIn_of _ (by decide +kernel)) ggX6_isAskedOfYears_X6_isBelow
theorem dX6_isAskedOfYears_0 : decode cX6_isAskedOfYears 0 = .ok (.iload_n 0, 1) := by decide +kernel
theorem dX6_isAskedOfYears_1 : decode cX6_isAskedOfYears 1 = .ok (.iconst 3, 1) := by decide +kernel
theorem dX6_isAskedOfYears_2 : decode cX6_isAskedOfYears 2 = .ok (.invokestatic 58, 3) := by decide +kernel
theorem dX6_isAskedOfYears_5 : decode cX6_isAskedOfYears 5 = .ok (.ifCond .ne 15, 3) := by decide +kernel
theorem dX6_isAskedOfYears_8 : decode cX6_isAskedOfYears 8 = .ok (.iload_n 0, 1) := by decide +kernel
theorem dX6_isAskedOfYears_9 : decode cX6_isAskedOfYears 9 = .ok (.bipush 10, 2) := by decide +kernel
theorem dX6_isAskedOfYears_11 : decode cX6_isAskedOfYears 11 = .ok (.if_icmp .lt 13, 3) := by decide +kernel
theorem dX6_isAskedOfYears_14 : decode cX6_isAskedOfYears 14 = .ok (.iload_n 0, 1) := by decide +kernel
theorem dX6_isAskedOfYears_15 : decode cX6_isAskedOfYears 15 = .ok (.bipush 14, 2) := by decide +kernel
theorem dX6_isAskedOfYears_17 : decode cX6_isAskedOfYears 17 = .ok (.if_icmp .ge 7, 3) := by decide +kernel
theorem dX6_isAskedOfYears_20 : decode cX6_isAskedOfYears 20 = .ok (.iconst 1, 1) := by decide +kernel
theorem dX6_isAskedOfYears_21 : decode cX6_isAskedOfYears 21 = .ok (.goto 4, 3) := by decide +kernel
theorem dX6_isAskedOfYears_24 : decode cX6_isAskedOfYears 24 = .ok (.iconst 0, 1) := by decide +kernel
theorem dX6_isAskedOfYears_25 : decode cX6_isAskedOfYears 25 = .ok (.ireturn, 1) := by decide +kernel
set_option maxRecDepth 20000 in
theorem ggX6_areTriples_X2_hasSubject : GoodIn wsX6_areTriples wsX2_hasSubject := goodIn_r _ [7, 8, 9, 10, 11, 30, 31, 32, 33, 34] (by decide +kernel) (by decide +kernel)
set_option maxRecDepth 20000 in
theorem gX6_areTriples_X2_hasSubject : GoodIn wsX6_areTriples (wsV RX6 99 RX2 yX2_hasSubject wsX2_hasSubject) := goodIn_app (goodIn_of _ (by decide +kernel)) ggX6_areTriples_X2_hasSubject
set_option maxRecDepth 20000 in
theorem ggX6_areTriples_X2_hasDeed : GoodIn wsX6_areTriples wsX2_hasDeed := goodIn_r _ [15, 16, 9, 10, 11, 30, 31, 32, 33, 34] (by decide +kernel) (by decide +kernel)
set_option maxRecDepth 20000 in
theorem gX6_areTriples_X2_hasDeed : GoodIn wsX6_areTriples (wsV RX6 92 RX2 yX2_hasDeed wsX2_hasDeed) := goodIn_app (goodIn_of _ (by decide +kernel)) ggX6_areTriples_X2_hasDeed
set_option maxRecDepth 20000 in
theorem ggX6_areTriples_X6_isBelow : GoodIn wsX6_areTriples wsX6_isBelow := goodIn_r _ [11] (by decide +kernel) (by decide +kernel)
set_option maxRecDepth 20000 in
theorem gX6_areTriples_X6_isBelow : GoodIn wsX6_areTriples (va_wsS RX6 58 yX6_isBelow wsX6_isBelow) := goodIn_app (goodIn_of _ (by decide +kernel)) ggX6_areTriples_X6_isBelow
theorem dX6_areTriples_0 : decode cX6_areTriples 0 = .ok (.iconst 0, 1) := by decide +kernel
theorem dX6_areTriples_1 : decode cX6_areTriples 1 = .ok (.istore 4, 2) := by decide +kernel
theorem dX6_areTriples_3 : decode cX6_areTriples 3 = .ok (.iload 4, 2) := by decide +kernel
theorem dX6_areTriples_5 : decode cX6_areTriples 5 = .ok (.iload_n 3, 1) := by decide +kernel
theorem dX6_areTriples_6 : decode cX6_areTriples 6 = .ok (.if_icmp .ge 71, 3) := by decide +kernel
theorem dX6_areTriples_9 : decode cX6_areTriples 9 = .ok (.iload_n 2, 1) := by decide +kernel
theorem dX6_areTriples_10 : decode cX6_areTriples 10 = .ok (.iconst 3, 1) := by decide +kernel
theorem dX6_areTriples_11 : decode cX6_areTriples 11 = .ok (.iload 4, 2) := by decide +kernel
theorem dX6_areTriples_13 : decode cX6_areTriples 13 = .ok (.imul, 1) := by decide +kernel
theorem dX6_areTriples_14 : decode cX6_areTriples 14 = .ok (.iadd, 1) := by decide +kernel
theorem dX6_areTriples_15 : decode cX6_areTriples 15 = .ok (.istore 5, 2) := by decide +kernel
theorem dX6_areTriples_17 : decode cX6_areTriples 17 = .ok (.aload_n 0, 1) := by decide +kernel
theorem dX6_areTriples_18 : decode cX6_areTriples 18 = .ok (.getfield 20, 3) := by decide +kernel
theorem dX6_areTriples_21 : decode cX6_areTriples 21 = .ok (.aload_n 1, 1) := by decide +kernel
theorem dX6_areTriples_22 : decode cX6_areTriples 22 = .ok (.getfield 134, 3) := by decide +kernel
theorem dX6_areTriples_25 : decode cX6_areTriples 25 = .ok (.iload 5, 2) := by decide +kernel
theorem dX6_areTriples_27 : decode cX6_areTriples 27 = .ok (.iaload, 1) := by decide +kernel
theorem dX6_areTriples_28 : decode cX6_areTriples 28 = .ok (.invokevirtual 99, 3) := by decide +kernel
theorem dX6_areTriples_31 : decode cX6_areTriples 31 = .ok (.ifCond .eq 38, 3) := by decide +kernel
theorem dX6_areTriples_34 : decode cX6_areTriples 34 = .ok (.aload_n 0, 1) := by decide +kernel
theorem dX6_areTriples_35 : decode cX6_areTriples 35 = .ok (.getfield 20, 3) := by decide +kernel
theorem dX6_areTriples_38 : decode cX6_areTriples 38 = .ok (.aload_n 1, 1) := by decide +kernel
theorem dX6_areTriples_39 : decode cX6_areTriples 39 = .ok (.getfield 134, 3) := by decide +kernel
theorem dX6_areTriples_42 : decode cX6_areTriples 42 = .ok (.iload 5, 2) := by decide +kernel
theorem dX6_areTriples_44 : decode cX6_areTriples 44 = .ok (.iconst 1, 1) := by decide +kernel
theorem dX6_areTriples_45 : decode cX6_areTriples 45 = .ok (.iadd, 1) := by decide +kernel
theorem dX6_areTriples_46 : decode cX6_areTriples 46 = .ok (.iaload, 1) := by decide +kernel
theorem dX6_areTriples_47 : decode cX6_areTriples 47 = .ok (.invokevirtual 92, 3) := by decide +kernel
theorem dX6_areTriples_50 : decode cX6_areTriples 50 = .ok (.ifCond .eq 19, 3) := by decide +kernel
theorem dX6_areTriples_53 : decode cX6_areTriples 53 = .ok (.aload_n 1, 1) := by decide +kernel
theorem dX6_areTriples_54 : decode cX6_areTriples 54 = .ok (.getfield 134, 3) := by decide +kernel
theorem dX6_areTriples_57 : decode cX6_areTriples 57 = .ok (.iload 5, 2) := by decide +kernel
theorem dX6_areTriples_59 : decode cX6_areTriples 59 = .ok (.iconst 2, 1) := by decide +kernel
theorem dX6_areTriples_60 : decode cX6_areTriples 60 = .ok (.iadd, 1) := by decide +kernel
theorem dX6_areTriples_61 : decode cX6_areTriples 61 = .ok (.iaload, 1) := by decide +kernel
theorem dX6_areTriples_62 : decode cX6_areTriples 62 = .ok (.iconst 3, 1) := by decide +kernel
theorem dX6_areTriples_63 : decode cX6_areTriples 63 = .ok (.invokestatic 58, 3) := by decide +kernel
theorem dX6_areTriples_66 : decode cX6_areTriples 66 = .ok (.ifCond .ne 5, 3) := by decide +kernel
theorem dX6_areTriples_69 : decode cX6_areTriples 69 = .ok (.iconst 0, 1) := by decide +kernel
theorem dX6_areTriples_70 : decode cX6_areTriples 70 = .ok (.ireturn, 1) := by decide +kernel
theorem dX6_areTriples_71 : decode cX6_areTriples 71 = .ok (.iinc 4 1, 3) := by decide +kernel
theorem dX6_areTriples_74 : decode cX6_areTriples 74 = .ok (.goto (-71), 3) := by decide +kernel
theorem dX6_areTriples_77 : decode cX6_areTriples 77 = .ok (.iconst 1, 1) := by decide +kernel
theorem dX6_areTriples_78 : decode cX6_areTriples 78 = .ok (.ireturn, 1) := by decide +kernel
set_option maxRecDepth 20000 in
theorem ggX6_ofYear_X2_hasSubject : GoodIn wsX6_ofYear wsX2_hasSubject := goodIn_r _ [12, 13, 14, 15, 16, 29, 30, 31, 32, 33] (by decide +kernel) (by decide +kernel)
set_option maxRecDepth 20000 in
theorem gX6_ofYear_X2_hasSubject : GoodIn wsX6_ofYear (wsV RX6 99 RX2 yX2_hasSubject wsX2_hasSubject) := goodIn_app (goodIn_of _ (by decide +kernel)) ggX6_ofYear_X2_hasSubject
theorem dX6_ofYear_0 : decode cX6_ofYear 0 = .ok (.iload_n 1, 1) := by decide +kernel
theorem dX6_ofYear_1 : decode cX6_ofYear 1 = .ok (.iconst 1, 1) := by decide +kernel
theorem dX6_ofYear_2 : decode cX6_ofYear 2 = .ok (.if_icmp .ne 11, 3) := by decide +kernel
theorem dX6_ofYear_5 : decode cX6_ofYear 5 = .ok (.aload_n 0, 1) := by decide +kernel
theorem dX6_ofYear_6 : decode cX6_ofYear 6 = .ok (.getfield 41, 3) := by decide +kernel
theorem dX6_ofYear_9 : decode cX6_ofYear 9 = .ok (.getfield 137, 3) := by decide +kernel
theorem dX6_ofYear_12 : decode cX6_ofYear 12 = .ok (.ireturn, 1) := by decide +kernel
theorem dX6_ofYear_13 : decode cX6_ofYear 13 = .ok (.aload_n 0, 1) := by decide +kernel
theorem dX6_ofYear_14 : decode cX6_ofYear 14 = .ok (.getfield 41, 3) := by decide +kernel
theorem dX6_ofYear_17 : decode cX6_ofYear 17 = .ok (.getfield 137, 3) := by decide +kernel
theorem dX6_ofYear_20 : decode cX6_ofYear 20 = .ok (.bipush (-9), 2) := by decide +kernel
theorem dX6_ofYear_22 : decode cX6_ofYear 22 = .ok (.if_icmp .eq 14, 3) := by decide +kernel
theorem dX6_ofYear_25 : decode cX6_ofYear 25 = .ok (.ldc 140, 2) := by decide +kernel
theorem dX6_ofYear_27 : decode cX6_ofYear 27 = .ok (.aload_n 0, 1) := by decide +kernel
theorem dX6_ofYear_28 : decode cX6_ofYear 28 = .ok (.getfield 41, 3) := by decide +kernel
theorem dX6_ofYear_31 : decode cX6_ofYear 31 = .ok (.getfield 137, 3) := by decide +kernel
theorem dX6_ofYear_34 : decode cX6_ofYear 34 = .ok (.isub, 1) := by decide +kernel
theorem dX6_ofYear_35 : decode cX6_ofYear 35 = .ok (.ireturn, 1) := by decide +kernel
theorem dX6_ofYear_36 : decode cX6_ofYear 36 = .ok (.iload_n 1, 1) := by decide +kernel
theorem dX6_ofYear_37 : decode cX6_ofYear 37 = .ok (.ifCond .ne 11, 3) := by decide +kernel
theorem dX6_ofYear_40 : decode cX6_ofYear 40 = .ok (.aload_n 0, 1) := by decide +kernel
theorem dX6_ofYear_41 : decode cX6_ofYear 41 = .ok (.getfield 41, 3) := by decide +kernel
theorem dX6_ofYear_44 : decode cX6_ofYear 44 = .ok (.getfield 141, 3) := by decide +kernel
theorem dX6_ofYear_47 : decode cX6_ofYear 47 = .ok (.ireturn, 1) := by decide +kernel
theorem dX6_ofYear_48 : decode cX6_ofYear 48 = .ok (.iload_n 1, 1) := by decide +kernel
theorem dX6_ofYear_49 : decode cX6_ofYear 49 = .ok (.iconst 2, 1) := by decide +kernel
theorem dX6_ofYear_50 : decode cX6_ofYear 50 = .ok (.if_icmp .ne 11, 3) := by decide +kernel
theorem dX6_ofYear_53 : decode cX6_ofYear 53 = .ok (.aload_n 0, 1) := by decide +kernel
theorem dX6_ofYear_54 : decode cX6_ofYear 54 = .ok (.getfield 41, 3) := by decide +kernel
theorem dX6_ofYear_57 : decode cX6_ofYear 57 = .ok (.getfield 144, 3) := by decide +kernel
theorem dX6_ofYear_60 : decode cX6_ofYear 60 = .ok (.ireturn, 1) := by decide +kernel
theorem dX6_ofYear_61 : decode cX6_ofYear 61 = .ok (.iload_n 1, 1) := by decide +kernel
theorem dX6_ofYear_62 : decode cX6_ofYear 62 = .ok (.bipush 10, 2) := by decide +kernel
theorem dX6_ofYear_64 : decode cX6_ofYear 64 = .ok (.isub, 1) := by decide +kernel
theorem dX6_ofYear_65 : decode cX6_ofYear 65 = .ok (.istore_n 2, 1) := by decide +kernel
theorem dX6_ofYear_66 : decode cX6_ofYear 66 = .ok (.aload_n 0, 1) := by decide +kernel
theorem dX6_ofYear_67 : decode cX6_ofYear 67 = .ok (.getfield 20, 3) := by decide +kernel
theorem dX6_ofYear_70 : decode cX6_ofYear 70 = .ok (.iload_n 2, 1) := by decide +kernel
theorem dX6_ofYear_71 : decode cX6_ofYear 71 = .ok (.invokevirtual 99, 3) := by decide +kernel
theorem dX6_ofYear_74 : decode cX6_ofYear 74 = .ok (.ifCond .eq 15, 3) := by decide +kernel
theorem dX6_ofYear_77 : decode cX6_ofYear 77 = .ok (.aload_n 0, 1) := by decide +kernel
theorem dX6_ofYear_78 : decode cX6_ofYear 78 = .ok (.getfield 41, 3) := by decide +kernel
theorem dX6_ofYear_81 : decode cX6_ofYear 81 = .ok (.getfield 147, 3) := by decide +kernel
theorem dX6_ofYear_84 : decode cX6_ofYear 84 = .ok (.iload_n 2, 1) := by decide +kernel
theorem dX6_ofYear_85 : decode cX6_ofYear 85 = .ok (.iaload, 1) := by decide +kernel
theorem dX6_ofYear_86 : decode cX6_ofYear 86 = .ok (.goto 5, 3) := by decide +kernel
theorem dX6_ofYear_89 : decode cX6_ofYear 89 = .ok (.bipush (-9), 2) := by decide +kernel
theorem dX6_ofYear_91 : decode cX6_ofYear 91 = .ok (.ireturn, 1) := by decide +kernel
set_option maxRecDepth 20000 in
theorem ggX6_hope_X2_hasSubject : GoodIn wsX6_hope wsX2_hasSubject := goodIn_r _ [10, 11, 12, 13, 14, 74, 75, 76, 77, 78] (by decide +kernel) (by decide +kernel)
set_option maxRecDepth 20000 in
theorem gX6_hope_X2_hasSubject : GoodIn wsX6_hope (wsV RX6 99 RX2 yX2_hasSubject wsX2_hasSubject) := goodIn_app (goodIn_of _ (by decide +kernel)) ggX6_hope_X2_hasSubject
set_option maxRecDepth 20000 in
theorem ggX6_hope_X6_isBelow : GoodIn wsX6_hope wsX6_isBelow := goodIn_r _ [14] (by decide +kernel) (by decide +kernel)
set_option maxRecDepth 20000 in
theorem gX6_hope_X6_isBelow : GoodIn wsX6_hope (va_wsS RX6 58 yX6_isBelow wsX6_isBelow) := goodIn_app (goodIn_of _ (by decide +kernel)) ggX6_hope_X6_isBelow
set_option maxRecDepth 20000 in
theorem ggX6_hope_X0_lookAhead : GoodIn wsX6_hope wsX0_lookAhead := goodIn_r _ [20, 21, 22, 23, 24, 25, 26, 19, 27, 28, 29, 30, 31, 32, 33, 34, 35, 36, 37, 38, 39, 40, 41, 9, 42, 43, 44, 45, 46, 47, 48, 49, 50, 51, 52, 53, 54, 55, 56, 57, 72, 73, 74, 75, 76, 77, 78] (by decide +kernel) (by decide +kernel)
set_option maxRecDepth 20000 in
theorem gX6_hope_X0_lookAhead : GoodIn wsX6_hope (wsV RX6 152 RX0 yX0_lookAhead wsX0_lookAhead) := goodIn_app (goodIn_of _ (by decide +kernel)) ggX6_hope_X0_lookAhead
set_option maxRecDepth 20000 in
theorem ggX6_hope_X6_inLeastTerms : GoodIn wsX6_hope wsX6_inLeastTerms := goodIn_r _ [60, 61, 62, 13, 63] (by decide +kernel) (by decide +kernel)
set_option maxRecDepth 20000 in
theorem gX6_hope_X6_inLeastTerms : GoodIn wsX6_hope (va_wsS RX6 163 yX6_inLeastTerms wsX6_inLeastTerms) := goodIn_app (goodIn_of _ (by decide +kernel)) ggX6_hope_X6_inLeastTerms
theorem dX6_hope_0 : decode cX6_hope 0 = .ok (.aload_n 0, 1) := by decide +kernel
theorem dX6_hope_1 : decode cX6_hope 1 = .ok (.getfield 20, 3) := by decide +kernel
theorem dX6_hope_4 : decode cX6_hope 4 = .ok (.iload_n 1, 1) := by decide +kernel
theorem dX6_hope_5 : decode cX6_hope 5 = .ok (.invokevirtual 99, 3) := by decide +kernel
theorem dX6_hope_8 : decode cX6_hope 8 = .ok (.ifCond .ne 7, 3) := by decide +kernel
theorem dX6_hope_11 : decode cX6_hope 11 = .ok (.ldc2_w 150, 3) := by decide +kernel
theorem dX6_hope_14 : decode cX6_hope 14 = .ok (.lreturn, 1) := by decide +kernel
theorem dX6_hope_15 : decode cX6_hope 15 = .ok (.iload_n 2, 1) := by decide +kernel
theorem dX6_hope_16 : decode cX6_hope 16 = .ok (.bipush 9, 2) := by decide +kernel
theorem dX6_hope_18 : decode cX6_hope 18 = .ok (.invokestatic 58, 3) := by decide +kernel
theorem dX6_hope_21 : decode cX6_hope 21 = .ok (.ifCond .eq 20, 3) := by decide +kernel
theorem dX6_hope_24 : decode cX6_hope 24 = .ok (.iload_n 3, 1) := by decide +kernel
theorem dX6_hope_25 : decode cX6_hope 25 = .ok (.iconst 4, 1) := by decide +kernel
theorem dX6_hope_26 : decode cX6_hope 26 = .ok (.invokestatic 58, 3) := by decide +kernel
theorem dX6_hope_29 : decode cX6_hope 29 = .ok (.ifCond .eq 12, 3) := by decide +kernel
theorem dX6_hope_32 : decode cX6_hope 32 = .ok (.iload 4, 2) := by decide +kernel
theorem dX6_hope_34 : decode cX6_hope 34 = .ok (.iconst 2, 1) := by decide +kernel
theorem dX6_hope_35 : decode cX6_hope 35 = .ok (.invokestatic 58, 3) := by decide +kernel
theorem dX6_hope_38 : decode cX6_hope 38 = .ok (.ifCond .ne 7, 3) := by decide +kernel
theorem dX6_hope_41 : decode cX6_hope 41 = .ok (.ldc2_w 150, 3) := by decide +kernel
theorem dX6_hope_44 : decode cX6_hope 44 = .ok (.lreturn, 1) := by decide +kernel
theorem dX6_hope_45 : decode cX6_hope 45 = .ok (.aload_n 0, 1) := by decide +kernel
theorem dX6_hope_46 : decode cX6_hope 46 = .ok (.getfield 34, 3) := by decide +kernel
theorem dX6_hope_49 : decode cX6_hope 49 = .ok (.aload_n 0, 1) := by decide +kernel
theorem dX6_hope_50 : decode cX6_hope 50 = .ok (.getfield 20, 3) := by decide +kernel
theorem dX6_hope_53 : decode cX6_hope 53 = .ok (.iload_n 1, 1) := by decide +kernel
theorem dX6_hope_54 : decode cX6_hope 54 = .ok (.iload_n 2, 1) := by decide +kernel
theorem dX6_hope_55 : decode cX6_hope 55 = .ok (.invokevirtual 152, 3) := by decide +kernel
theorem dX6_hope_58 : decode cX6_hope 58 = .ok (.aload_n 0, 1) := by decide +kernel
theorem dX6_hope_59 : decode cX6_hope 59 = .ok (.getfield 34, 3) := by decide +kernel
theorem dX6_hope_62 : decode cX6_hope 62 = .ok (.getfield 156, 3) := by decide +kernel
theorem dX6_hope_65 : decode cX6_hope 65 = .ok (.iload_n 2, 1) := by decide +kernel
theorem dX6_hope_66 : decode cX6_hope 66 = .ok (.aaload, 1) := by decide +kernel
theorem dX6_hope_67 : decode cX6_hope 67 = .ok (.iload_n 3, 1) := by decide +kernel
theorem dX6_hope_68 : decode cX6_hope 68 = .ok (.laload, 1) := by decide +kernel
theorem dX6_hope_69 : decode cX6_hope 69 = .ok (.aload_n 0, 1) := by decide +kernel
theorem dX6_hope_70 : decode cX6_hope 70 = .ok (.getfield 34, 3) := by decide +kernel
theorem dX6_hope_73 : decode cX6_hope 73 = .ok (.getfield 160, 3) := by decide +kernel
theorem dX6_hope_76 : decode cX6_hope 76 = .ok (.iload_n 2, 1) := by decide +kernel
theorem dX6_hope_77 : decode cX6_hope 77 = .ok (.laload, 1) := by decide +kernel
theorem dX6_hope_78 : decode cX6_hope 78 = .ok (.iload 4, 2) := by decide +kernel
theorem dX6_hope_80 : decode cX6_hope 80 = .ok (.invokestatic 163, 3) := by decide +kernel
theorem dX6_hope_83 : decode cX6_hope 83 = .ok (.lreturn, 1) := by decide +kernel
set_option maxRecDepth 20000 in
theorem ggX6_uses_X2_hasSubject : GoodIn wsX6_uses wsX2_hasSubject := goodIn_r _ [8, 9, 10, 11, 12, 65, 66, 67, 68, 69] (by decide +kernel) (by decide +kernel)
set_option maxRecDepth 20000 in
theorem gX6_uses_X2_hasSubject : GoodIn wsX6_uses (wsV RX6 99 RX2 yX2_hasSubject wsX2_hasSubject) := goodIn_app (goodIn_of _ (by decide +kernel)) ggX6_uses_X2_hasSubject
set_option maxRecDepth 20000 in
theorem ggX6_uses_X0_lookAhead : GoodIn wsX6_uses wsX0_lookAhead := goodIn_r _ [17, 18, 19, 20, 21, 22, 23, 16, 24, 25, 26, 27, 28, 29, 30, 31, 32, 33, 34, 35, 36, 37, 38, 7, 39, 40, 41, 42, 43, 44, 45, 46, 47, 48, 49, 50, 51, 52, 53, 54, 70, 71, 65, 66, 67, 68, 69] (by decide +kernel) (by decide +kernel)
set_option maxRecDepth 20000 in
theorem gX6_uses_X0_lookAhead : GoodIn wsX6_uses (wsV RX6 152 RX0 yX0_lookAhead wsX0_lookAhead) := goodIn_app (goodIn_of _ (by decide +kernel)) ggX6_uses_X0_lookAhead
set_option maxRecDepth 20000 in
theorem ggX6_uses_X0_byPaper : GoodIn wsX6_uses wsX0_byPaper := goodIn_r _ [53, 18, 19, 54, 41, 42, 7, 43, 44, 70, 71, 65, 66, 67, 68, 69] (by decide +kernel) (by decide +kernel)
set_option maxRecDepth 20000 in
theorem gX6_uses_X0_byPaper : GoodIn wsX6_uses (wsV RX6 170 RX0 yX0_byPaper wsX0_byPaper) := goodIn_app (goodIn_of _ (by decide +kernel)) ggX6_uses_X0_byPaper
set_option maxRecDepth 20000 in
theorem ggX6_uses_X0_byNone : GoodIn wsX6_uses wsX0_byNone := goodIn_r _ [32, 33, 34, 27, 35, 18, 19, 36, 37, 38, 7, 39, 40, 41, 42, 43, 44, 45, 46, 47, 48, 49, 70, 71, 65, 66, 67, 68, 69] (by decide +kernel) (by decide +kernel)
set_option maxRecDepth 20000 in
theorem gX6_uses_X0_byNone : GoodIn wsX6_uses (wsV RX6 174 RX0 yX0_byNone wsX0_byNone) := goodIn_app (goodIn_of _ (by decide +kernel)) ggX6_uses_X0_byNone
theorem dX6_uses_0 : decode cX6_uses 0 = .ok (.aload_n 0, 1) := by decide +kernel
theorem dX6_uses_1 : decode cX6_uses 1 = .ok (.getfield 20, 3) := by decide +kernel
theorem dX6_uses_4 : decode cX6_uses 4 = .ok (.iload_n 1, 1) := by decide +kernel
theorem dX6_uses_5 : decode cX6_uses 5 = .ok (.invokevirtual 99, 3) := by decide +kernel
theorem dX6_uses_8 : decode cX6_uses 8 = .ok (.ifCond .ne 5, 3) := by decide +kernel
theorem dX6_uses_11 : decode cX6_uses 11 = .ok (.iconst (-1), 1) := by decide +kernel
theorem dX6_uses_12 : decode cX6_uses 12 = .ok (.ireturn, 1) := by decide +kernel
theorem dX6_uses_13 : decode cX6_uses 13 = .ok (.iload_n 2, 1) := by decide +kernel
theorem dX6_uses_14 : decode cX6_uses 14 = .ok (.iconst 1, 1) := by decide +kernel
theorem dX6_uses_15 : decode cX6_uses 15 = .ok (.if_icmp .lt 19, 3) := by decide +kernel
theorem dX6_uses_18 : decode cX6_uses 18 = .ok (.iload_n 2, 1) := by decide +kernel
theorem dX6_uses_19 : decode cX6_uses 19 = .ok (.bipush 8, 2) := by decide +kernel
theorem dX6_uses_21 : decode cX6_uses 21 = .ok (.if_icmp .gt 13, 3) := by decide +kernel
theorem dX6_uses_24 : decode cX6_uses 24 = .ok (.iload_n 3, 1) := by decide +kernel
theorem dX6_uses_25 : decode cX6_uses 25 = .ok (.iconst 1, 1) := by decide +kernel
theorem dX6_uses_26 : decode cX6_uses 26 = .ok (.if_icmp .lt 8, 3) := by decide +kernel
theorem dX6_uses_29 : decode cX6_uses 29 = .ok (.iload_n 3, 1) := by decide +kernel
theorem dX6_uses_30 : decode cX6_uses 30 = .ok (.iconst 3, 1) := by decide +kernel
theorem dX6_uses_31 : decode cX6_uses 31 = .ok (.if_icmp .le 6, 3) := by decide +kernel
theorem dX6_uses_34 : decode cX6_uses 34 = .ok (.bipush (-2), 2) := by decide +kernel
theorem dX6_uses_36 : decode cX6_uses 36 = .ok (.ireturn, 1) := by decide +kernel
theorem dX6_uses_37 : decode cX6_uses 37 = .ok (.aload_n 0, 1) := by decide +kernel
theorem dX6_uses_38 : decode cX6_uses 38 = .ok (.getfield 34, 3) := by decide +kernel
theorem dX6_uses_41 : decode cX6_uses 41 = .ok (.aload_n 0, 1) := by decide +kernel
theorem dX6_uses_42 : decode cX6_uses 42 = .ok (.getfield 20, 3) := by decide +kernel
theorem dX6_uses_45 : decode cX6_uses 45 = .ok (.iload_n 1, 1) := by decide +kernel
theorem dX6_uses_46 : decode cX6_uses 46 = .ok (.iload_n 2, 1) := by decide +kernel
theorem dX6_uses_47 : decode cX6_uses 47 = .ok (.iconst 1, 1) := by decide +kernel
theorem dX6_uses_48 : decode cX6_uses 48 = .ok (.isub, 1) := by decide +kernel
theorem dX6_uses_49 : decode cX6_uses 49 = .ok (.invokevirtual 152, 3) := by decide +kernel
theorem dX6_uses_52 : decode cX6_uses 52 = .ok (.iconst 0, 1) := by decide +kernel
theorem dX6_uses_53 : decode cX6_uses 53 = .ok (.istore 4, 2) := by decide +kernel
theorem dX6_uses_55 : decode cX6_uses 55 = .ok (.iconst 0, 1) := by decide +kernel
theorem dX6_uses_56 : decode cX6_uses 56 = .ok (.istore 5, 2) := by decide +kernel
theorem dX6_uses_58 : decode cX6_uses 58 = .ok (.iload 5, 2) := by decide +kernel
theorem dX6_uses_60 : decode cX6_uses 60 = .ok (.aload_n 0, 1) := by decide +kernel
theorem dX6_uses_61 : decode cX6_uses 61 = .ok (.getfield 20, 3) := by decide +kernel
theorem dX6_uses_64 : decode cX6_uses 64 = .ok (.getfield 167, 3) := by decide +kernel
theorem dX6_uses_67 : decode cX6_uses 67 = .ok (.if_icmp .ge 57, 3) := by decide +kernel
theorem dX6_uses_70 : decode cX6_uses 70 = .ok (.aload_n 0, 1) := by decide +kernel
theorem dX6_uses_71 : decode cX6_uses 71 = .ok (.getfield 34, 3) := by decide +kernel
theorem dX6_uses_74 : decode cX6_uses 74 = .ok (.aload_n 0, 1) := by decide +kernel
theorem dX6_uses_75 : decode cX6_uses 75 = .ok (.getfield 20, 3) := by decide +kernel
theorem dX6_uses_78 : decode cX6_uses 78 = .ok (.iload 5, 2) := by decide +kernel
theorem dX6_uses_80 : decode cX6_uses 80 = .ok (.iload_n 2, 1) := by decide +kernel
theorem dX6_uses_81 : decode cX6_uses 81 = .ok (.iconst 1, 1) := by decide +kernel
theorem dX6_uses_82 : decode cX6_uses 82 = .ok (.isub, 1) := by decide +kernel
theorem dX6_uses_83 : decode cX6_uses 83 = .ok (.iload_n 3, 1) := by decide +kernel
theorem dX6_uses_84 : decode cX6_uses 84 = .ok (.invokevirtual 170, 3) := by decide +kernel
theorem dX6_uses_87 : decode cX6_uses 87 = .ok (.aload_n 0, 1) := by decide +kernel
theorem dX6_uses_88 : decode cX6_uses 88 = .ok (.getfield 34, 3) := by decide +kernel
theorem dX6_uses_91 : decode cX6_uses 91 = .ok (.aload_n 0, 1) := by decide +kernel
theorem dX6_uses_92 : decode cX6_uses 92 = .ok (.getfield 20, 3) := by decide +kernel
theorem dX6_uses_95 : decode cX6_uses 95 = .ok (.iload_n 1, 1) := by decide +kernel
theorem dX6_uses_96 : decode cX6_uses 96 = .ok (.iload 5, 2) := by decide +kernel
theorem dX6_uses_98 : decode cX6_uses 98 = .ok (.iload_n 2, 1) := by decide +kernel
theorem dX6_uses_99 : decode cX6_uses 99 = .ok (.iconst 1, 1) := by decide +kernel
theorem dX6_uses_100 : decode cX6_uses 100 = .ok (.isub, 1) := by decide +kernel
theorem dX6_uses_101 : decode cX6_uses 101 = .ok (.iload_n 3, 1) := by decide +kernel
theorem dX6_uses_102 : decode cX6_uses 102 = .ok (.invokevirtual 174, 3) := by decide +kernel
theorem dX6_uses_105 : decode cX6_uses 105 = .ok (.lcmp, 1) := by decide +kernel
theorem dX6_uses_106 : decode cX6_uses 106 = .ok (.ifCond .le 12, 3) := by decide +kernel
theorem dX6_uses_109 : decode cX6_uses 109 = .ok (.iload 4, 2) := by decide +kernel
theorem dX6_uses_111 : decode cX6_uses 111 = .ok (.iconst 1, 1) := by decide +kernel
theorem dX6_uses_112 : decode cX6_uses 112 = .ok (.iload 5, 2) := by decide +kernel
theorem dX6_uses_114 : decode cX6_uses 114 = .ok (.ishl, 1) := by decide +kernel
theorem dX6_uses_115 : decode cX6_uses 115 = .ok (.ior, 1) := by decide +kernel
theorem dX6_uses_116 : decode cX6_uses 116 = .ok (.istore 4, 2) := by decide +kernel
theorem dX6_uses_118 : decode cX6_uses 118 = .ok (.iinc 5 1, 3) := by decide +kernel
theorem dX6_uses_121 : decode cX6_uses 121 = .ok (.goto (-63), 3) := by decide +kernel
theorem dX6_uses_124 : decode cX6_uses 124 = .ok (.iload 4, 2) := by decide +kernel
theorem dX6_uses_126 : decode cX6_uses 126 = .ok (.ireturn, 1) := by decide +kernel
set_option maxRecDepth 20000 in
theorem ggX6_buyers_X6_isBelow : GoodIn wsX6_buyers wsX6_isBelow := goodIn_r _ [5] (by decide +kernel) (by decide +kernel)
set_option maxRecDepth 20000 in
theorem gX6_buyers_X6_isBelow : GoodIn wsX6_buyers (va_wsS RX6 58 yX6_isBelow wsX6_isBelow) := goodIn_app (goodIn_of _ (by decide +kernel)) ggX6_buyers_X6_isBelow
set_option maxRecDepth 20000 in
theorem ggX6_buyers_X2_isThere : GoodIn wsX6_buyers wsX2_isThere := goodIn_r _ [10, 11, 75, 76, 77, 78, 79] (by decide +kernel) (by decide +kernel)
set_option maxRecDepth 20000 in
theorem gX6_buyers_X2_isThere : GoodIn wsX6_buyers (wsV RX6 119 RX2 yX2_isThere wsX2_isThere) := goodIn_app (goodIn_of _ (by decide +kernel)) ggX6_buyers_X2_isThere
set_option maxRecDepth 20000 in
theorem ggX6_buyers_X6_weighPapers : GoodIn wsX6_buyers wsX6_weighPapers := goodIn_r _ [15, 1, 16, 17, 18, 19, 20, 21, 22, 23, 24, 25, 26, 27, 28, 29, 30, 31, 32, 33, 34, 35, 36, 37, 38, 39, 40, 41, 42, 43, 44, 45, 9, 46, 47, 48, 49, 50, 51, 52, 53, 54, 55, 56, 57, 58, 59, 60, 61, 67, 68, 69, 70, 71, 72, 73, 74, 75, 76, 77, 78, 79, 80, 81] (by decide +kernel) (by decide +kernel)
set_option maxRecDepth 20000 in
theorem gX6_buyers_X6_weighPapers : GoodIn wsX6_buyers (wsV RX6 178 RX6 yX6_weighPapers wsX6_weighPapers) := goodIn_app (goodIn_of _ (by decide +kernel)) ggX6_buyers_X6_weighPapers
set_option maxRecDepth 20000 in
theorem ggX6_buyers_X6_buyersAt : GoodIn wsX6_buyers wsX6_buyersAt := goodIn_r _ [65, 1, 16, 18, 17, 66, 67, 68, 69, 70, 71, 72, 73, 74, 75, 76, 77, 78, 79, 80, 81] (by decide +kernel) (by decide +kernel)
set_option maxRecDepth 20000 in
theorem gX6_buyers_X6_buyersAt : GoodIn wsX6_buyers (wsV RX6 182 RX6 yX6_buyersAt wsX6_buyersAt) := goodIn_app (goodIn_of _ (by decide +kernel)) ggX6_buyers_X6_buyersAt
theorem dX6_buyers_0 : decode cX6_buyers 0 = .ok (.iload_n 1, 1) := by decide +kernel
theorem dX6_buyers_1 : decode cX6_buyers 1 = .ok (.bipush 100, 2) := by decide +kernel
theorem dX6_buyers_3 : decode cX6_buyers 3 = .ok (.invokestatic 58, 3) := by decide +kernel
theorem dX6_buyers_6 : decode cX6_buyers 6 = .ok (.ifCond .eq 12, 3) := by decide +kernel
theorem dX6_buyers_9 : decode cX6_buyers 9 = .ok (.iload_n 2, 1) := by decide +kernel
theorem dX6_buyers_10 : decode cX6_buyers 10 = .ok (.bipush 9, 2) := by decide +kernel
theorem dX6_buyers_12 : decode cX6_buyers 12 = .ok (.invokestatic 58, 3) := by decide +kernel
theorem dX6_buyers_15 : decode cX6_buyers 15 = .ok (.ifCond .ne 6, 3) := by decide +kernel
theorem dX6_buyers_18 : decode cX6_buyers 18 = .ok (.bipush (-2), 2) := by decide +kernel
theorem dX6_buyers_20 : decode cX6_buyers 20 = .ok (.ireturn, 1) := by decide +kernel
theorem dX6_buyers_21 : decode cX6_buyers 21 = .ok (.aload_n 0, 1) := by decide +kernel
theorem dX6_buyers_22 : decode cX6_buyers 22 = .ok (.getfield 20, 3) := by decide +kernel
theorem dX6_buyers_25 : decode cX6_buyers 25 = .ok (.invokevirtual 119, 3) := by decide +kernel
theorem dX6_buyers_28 : decode cX6_buyers 28 = .ok (.ifCond .ne 6, 3) := by decide +kernel
theorem dX6_buyers_31 : decode cX6_buyers 31 = .ok (.bipush (-3), 2) := by decide +kernel
theorem dX6_buyers_33 : decode cX6_buyers 33 = .ok (.ireturn, 1) := by decide +kernel
theorem dX6_buyers_34 : decode cX6_buyers 34 = .ok (.aload_n 0, 1) := by decide +kernel
theorem dX6_buyers_35 : decode cX6_buyers 35 = .ok (.iload_n 2, 1) := by decide +kernel
theorem dX6_buyers_36 : decode cX6_buyers 36 = .ok (.invokevirtual 178, 3) := by decide +kernel
theorem dX6_buyers_39 : decode cX6_buyers 39 = .ok (.aload_n 0, 1) := by decide +kernel
theorem dX6_buyers_40 : decode cX6_buyers 40 = .ok (.iload_n 1, 1) := by decide +kernel
theorem dX6_buyers_41 : decode cX6_buyers 41 = .ok (.iload_n 2, 1) := by decide +kernel
theorem dX6_buyers_42 : decode cX6_buyers 42 = .ok (.invokevirtual 182, 3) := by decide +kernel
theorem dX6_buyers_45 : decode cX6_buyers 45 = .ok (.ireturn, 1) := by decide +kernel
set_option maxRecDepth 20000 in
theorem ggX6_best_X6_isBelow : GoodIn wsX6_best wsX6_isBelow := goodIn_r _ [5] (by decide +kernel) (by decide +kernel)
set_option maxRecDepth 20000 in
theorem gX6_best_X6_isBelow : GoodIn wsX6_best (va_wsS RX6 58 yX6_isBelow wsX6_isBelow) := goodIn_app (goodIn_of _ (by decide +kernel)) ggX6_best_X6_isBelow
set_option maxRecDepth 20000 in
theorem ggX6_best_X2_isThere : GoodIn wsX6_best wsX2_isThere := goodIn_r _ [10, 11, 82, 83, 84, 85, 86] (by decide +kernel) (by decide +kernel)
set_option maxRecDepth 20000 in
theorem gX6_best_X2_isThere : GoodIn wsX6_best (wsV RX6 119 RX2 yX2_isThere wsX2_isThere) := goodIn_app (goodIn_of _ (by decide +kernel)) ggX6_best_X2_isThere
set_option maxRecDepth 20000 in
theorem ggX6_best_X6_weighPapers : GoodIn wsX6_best wsX6_weighPapers := goodIn_r _ [15, 1, 16, 17, 18, 19, 20, 21, 22, 23, 24, 25, 26, 27, 28, 29, 30, 31, 32, 33, 34, 35, 36, 37, 38, 39, 40, 41, 42, 43, 44, 45, 9, 46, 47, 48, 49, 50, 51, 52, 53, 54, 55, 56, 57, 58, 59, 60, 61, 74, 75, 76, 77, 78, 79, 80, 81, 82, 83, 84, 85, 86, 87, 88] (by decide +kernel) (by decide +kernel)
set_option maxRecDepth 20000 in
theorem gX6_best_X6_weighPapers : GoodIn wsX6_best (wsV RX6 178 RX6 yX6_weighPapers wsX6_weighPapers) := goodIn_app (goodIn_of _ (by decide +kernel)) ggX6_best_X6_weighPapers
set_option maxRecDepth 20000 in
theorem ggX6_best_X6_buyersAt : GoodIn wsX6_best wsX6_buyersAt := goodIn_r _ [65, 1, 16, 18, 17, 66, 74, 75, 76, 77, 78, 79, 80, 81, 82, 83, 84, 85, 86, 87, 88] (by decide +kernel) (by decide +kernel)
set_option maxRecDepth 20000 in
theorem gX6_best_X6_buyersAt : GoodIn wsX6_best (wsV RX6 182 RX6 yX6_buyersAt wsX6_buyersAt) := goodIn_app (goodIn_of _ (by decide +kernel)) ggX6_best_X6_buyersAt
set_option maxRecDepth 20000 in
theorem ggX6_best_J6_bitCount_0f7a4 : GoodIn wsX6_best wsJ6_bitCount_0f7a4 := goodIn_r _ [70, 71, 72, 73] (by decide +kernel) (by decide +kernel)
set_option maxRecDepth 20000 in
theorem gX6_best_J6_bitCount_0f7a4 : GoodIn wsX6_best (va_wsS RX6 185 yJ6_bitCount_0f7a4 wsJ6_bitCount_0f7a4) := goodIn_app (goodIn_of _ (by decide +kernel)) ggX6_best_J6_bitCount_0f7a4
theorem dX6_best_0 : decode cX6_best 0 = .ok (.iload_n 1, 1) := by decide +kernel
theorem dX6_best_1 : decode cX6_best 1 = .ok (.bipush 9, 2) := by decide +kernel
theorem dX6_best_3 : decode cX6_best 3 = .ok (.invokestatic 58, 3) := by decide +kernel
theorem dX6_best_6 : decode cX6_best 6 = .ok (.ifCond .ne 6, 3) := by decide +kernel
theorem dX6_best_9 : decode cX6_best 9 = .ok (.bipush (-2), 2) := by decide +kernel
theorem dX6_best_11 : decode cX6_best 11 = .ok (.ireturn, 1) := by decide +kernel
theorem dX6_best_12 : decode cX6_best 12 = .ok (.aload_n 0, 1) := by decide +kernel
theorem dX6_best_13 : decode cX6_best 13 = .ok (.getfield 20, 3) := by decide +kernel
theorem dX6_best_16 : decode cX6_best 16 = .ok (.invokevirtual 119, 3) := by decide +kernel
theorem dX6_best_19 : decode cX6_best 19 = .ok (.ifCond .ne 6, 3) := by decide +kernel
theorem dX6_best_22 : decode cX6_best 22 = .ok (.bipush (-3), 2) := by decide +kernel
theorem dX6_best_24 : decode cX6_best 24 = .ok (.ireturn, 1) := by decide +kernel
theorem dX6_best_25 : decode cX6_best 25 = .ok (.aload_n 0, 1) := by decide +kernel
theorem dX6_best_26 : decode cX6_best 26 = .ok (.iload_n 1, 1) := by decide +kernel
theorem dX6_best_27 : decode cX6_best 27 = .ok (.invokevirtual 178, 3) := by decide +kernel
theorem dX6_best_30 : decode cX6_best 30 = .ok (.bipush (-9), 2) := by decide +kernel
theorem dX6_best_32 : decode cX6_best 32 = .ok (.istore_n 2, 1) := by decide +kernel
theorem dX6_best_33 : decode cX6_best 33 = .ok (.iconst 0, 1) := by decide +kernel
theorem dX6_best_34 : decode cX6_best 34 = .ok (.istore_n 3, 1) := by decide +kernel
theorem dX6_best_35 : decode cX6_best 35 = .ok (.iconst 1, 1) := by decide +kernel
theorem dX6_best_36 : decode cX6_best 36 = .ok (.istore 4, 2) := by decide +kernel
theorem dX6_best_38 : decode cX6_best 38 = .ok (.iload 4, 2) := by decide +kernel
theorem dX6_best_40 : decode cX6_best 40 = .ok (.bipush 99, 2) := by decide +kernel
theorem dX6_best_42 : decode cX6_best 42 = .ok (.if_icmp .gt 36, 3) := by decide +kernel
theorem dX6_best_45 : decode cX6_best 45 = .ok (.iload 4, 2) := by decide +kernel
theorem dX6_best_47 : decode cX6_best 47 = .ok (.aload_n 0, 1) := by decide +kernel
theorem dX6_best_48 : decode cX6_best 48 = .ok (.iload 4, 2) := by decide +kernel
theorem dX6_best_50 : decode cX6_best 50 = .ok (.iload_n 1, 1) := by decide +kernel
theorem dX6_best_51 : decode cX6_best 51 = .ok (.invokevirtual 182, 3) := by decide +kernel
theorem dX6_best_54 : decode cX6_best 54 = .ok (.invokestatic 185, 3) := by decide +kernel
theorem dX6_best_57 : decode cX6_best 57 = .ok (.imul, 1) := by decide +kernel
theorem dX6_best_58 : decode cX6_best 58 = .ok (.istore 5, 2) := by decide +kernel
theorem dX6_best_60 : decode cX6_best 60 = .ok (.iload 5, 2) := by decide +kernel
theorem dX6_best_62 : decode cX6_best 62 = .ok (.iload_n 3, 1) := by decide +kernel
theorem dX6_best_63 : decode cX6_best 63 = .ok (.if_icmp .le 9, 3) := by decide +kernel
theorem dX6_best_66 : decode cX6_best 66 = .ok (.iload 5, 2) := by decide +kernel
theorem dX6_best_68 : decode cX6_best 68 = .ok (.istore_n 3, 1) := by decide +kernel
theorem dX6_best_69 : decode cX6_best 69 = .ok (.iload 4, 2) := by decide +kernel
theorem dX6_best_71 : decode cX6_best 71 = .ok (.istore_n 2, 1) := by decide +kernel
theorem dX6_best_72 : decode cX6_best 72 = .ok (.iinc 4 1, 3) := by decide +kernel
theorem dX6_best_75 : decode cX6_best 75 = .ok (.goto (-37), 3) := by decide +kernel
theorem dX6_best_78 : decode cX6_best 78 = .ok (.iload_n 2, 1) := by decide +kernel
theorem dX6_best_79 : decode cX6_best 79 = .ok (.ireturn, 1) := by decide +kernel
set_option maxRecDepth 20000 in
theorem ggX6_weighPapers_X0_lookAhead : GoodIn wsX6_weighPapers wsX0_lookAhead := goodIn_r _ [10, 11, 12, 13, 14, 15, 16, 9, 17, 18, 19, 20, 21, 22, 23, 24, 25, 26, 27, 28, 29, 30, 31, 32, 33, 34, 35, 36, 37, 38, 39, 40, 41, 42, 43, 44, 45, 46, 47, 48, 62, 63, 57, 58, 59, 60, 61] (by decide +kernel) (by decide +kernel)
set_option maxRecDepth 20000 in
theorem gX6_weighPapers_X0_lookAhead : GoodIn wsX6_weighPapers (wsV RX6 152 RX0 yX0_lookAhead wsX0_lookAhead) := goodIn_app (goodIn_of _ (by decide +kernel)) ggX6_weighPapers_X0_lookAhead
theorem dX6_weighPapers_0 : decode cX6_weighPapers 0 = .ok (.iconst 0, 1) := by decide +kernel
theorem dX6_weighPapers_1 : decode cX6_weighPapers 1 = .ok (.istore_n 2, 1) := by decide +kernel
theorem dX6_weighPapers_2 : decode cX6_weighPapers 2 = .ok (.iload_n 2, 1) := by decide +kernel
theorem dX6_weighPapers_3 : decode cX6_weighPapers 3 = .ok (.aload_n 0, 1) := by decide +kernel
theorem dX6_weighPapers_4 : decode cX6_weighPapers 4 = .ok (.getfield 20, 3) := by decide +kernel
theorem dX6_weighPapers_7 : decode cX6_weighPapers 7 = .ok (.getfield 89, 3) := by decide +kernel
theorem dX6_weighPapers_10 : decode cX6_weighPapers 10 = .ok (.if_icmp .ge 51, 3) := by decide +kernel
theorem dX6_weighPapers_13 : decode cX6_weighPapers 13 = .ok (.aload_n 0, 1) := by decide +kernel
theorem dX6_weighPapers_14 : decode cX6_weighPapers 14 = .ok (.getfield 34, 3) := by decide +kernel
theorem dX6_weighPapers_17 : decode cX6_weighPapers 17 = .ok (.aload_n 0, 1) := by decide +kernel
theorem dX6_weighPapers_18 : decode cX6_weighPapers 18 = .ok (.getfield 20, 3) := by decide +kernel
theorem dX6_weighPapers_21 : decode cX6_weighPapers 21 = .ok (.iload_n 2, 1) := by decide +kernel
theorem dX6_weighPapers_22 : decode cX6_weighPapers 22 = .ok (.iload_n 1, 1) := by decide +kernel
theorem dX6_weighPapers_23 : decode cX6_weighPapers 23 = .ok (.invokevirtual 152, 3) := by decide +kernel
theorem dX6_weighPapers_26 : decode cX6_weighPapers 26 = .ok (.aload_n 0, 1) := by decide +kernel
theorem dX6_weighPapers_27 : decode cX6_weighPapers 27 = .ok (.getfield 45, 3) := by decide +kernel
theorem dX6_weighPapers_30 : decode cX6_weighPapers 30 = .ok (.iload_n 2, 1) := by decide +kernel
theorem dX6_weighPapers_31 : decode cX6_weighPapers 31 = .ok (.aload_n 0, 1) := by decide +kernel
theorem dX6_weighPapers_32 : decode cX6_weighPapers 32 = .ok (.getfield 34, 3) := by decide +kernel
theorem dX6_weighPapers_35 : decode cX6_weighPapers 35 = .ok (.getfield 156, 3) := by decide +kernel
end
section
theorem dX6_weighPapers_38 : decode cX6_weighPapers 38 = .ok (.iload_n 1, 1) := by decide +kernel
theorem dX6_weighPapers_39 : decode cX6_weighPapers 39 = .ok (.aaload, 1) := by decide +kernel
theorem dX6_weighPapers_40 : decode cX6_weighPapers 40 = .ok (.iconst 1, 1) := by decide +kernel
theorem dX6_weighPapers_41 : decode cX6_weighPapers 41 = .ok (.laload, 1) := by decide +kernel
theorem dX6_weighPapers_42 : decode cX6_weighPapers 42 = .ok (.aload_n 0, 1) := by decide +kernel
theorem dX6_weighPapers_43 : decode cX6_weighPapers 43 = .ok (.getfield 34, 3) := by decide +kernel
theorem dX6_weighPapers_46 : decode cX6_weighPapers 46 = .ok (.getfield 156, 3) := by decide +kernel
theorem dX6_weighPapers_49 : decode cX6_weighPapers 49 = .ok (.iload_n 1, 1) := by decide +kernel
theorem dX6_weighPapers_50 : decode cX6_weighPapers 50 = .ok (.aaload, 1) := by decide +kernel
theorem dX6_weighPapers_51 : decode cX6_weighPapers 51 = .ok (.iconst 0, 1) := by decide +kernel
theorem dX6_weighPapers_52 : decode cX6_weighPapers 52 = .ok (.laload, 1) := by decide +kernel
theorem dX6_weighPapers_53 : decode cX6_weighPapers 53 = .ok (.lsub, 1) := by decide +kernel
theorem dX6_weighPapers_54 : decode cX6_weighPapers 54 = .ok (.lastore, 1) := by decide +kernel
theorem dX6_weighPapers_55 : decode cX6_weighPapers 55 = .ok (.iinc 2 1, 3) := by decide +kernel
theorem dX6_weighPapers_58 : decode cX6_weighPapers 58 = .ok (.goto (-56), 3) := by decide +kernel
theorem dX6_weighPapers_61 : decode cX6_weighPapers 61 = .ok (.return_, 1) := by decide +kernel
theorem dX6_buyersAt_0 : decode cX6_buyersAt 0 = .ok (.iconst 0, 1) := by decide +kernel
theorem dX6_buyersAt_1 : decode cX6_buyersAt 1 = .ok (.istore_n 3, 1) := by decide +kernel
theorem dX6_buyersAt_2 : decode cX6_buyersAt 2 = .ok (.iconst 0, 1) := by decide +kernel
theorem dX6_buyersAt_3 : decode cX6_buyersAt 3 = .ok (.istore 4, 2) := by decide +kernel
theorem dX6_buyersAt_5 : decode cX6_buyersAt 5 = .ok (.iload 4, 2) := by decide +kernel
theorem dX6_buyersAt_7 : decode cX6_buyersAt 7 = .ok (.aload_n 0, 1) := by decide +kernel
theorem dX6_buyersAt_8 : decode cX6_buyersAt 8 = .ok (.getfield 20, 3) := by decide +kernel
theorem dX6_buyersAt_11 : decode cX6_buyersAt 11 = .ok (.getfield 89, 3) := by decide +kernel
theorem dX6_buyersAt_14 : decode cX6_buyersAt 14 = .ok (.if_icmp .ge 39, 3) := by decide +kernel
theorem dX6_buyersAt_17 : decode cX6_buyersAt 17 = .ok (.aload_n 0, 1) := by decide +kernel
theorem dX6_buyersAt_18 : decode cX6_buyersAt 18 = .ok (.getfield 45, 3) := by decide +kernel
theorem dX6_buyersAt_21 : decode cX6_buyersAt 21 = .ok (.iload 4, 2) := by decide +kernel
theorem dX6_buyersAt_23 : decode cX6_buyersAt 23 = .ok (.laload, 1) := by decide +kernel
theorem dX6_buyersAt_24 : decode cX6_buyersAt 24 = .ok (.iload_n 1, 1) := by decide +kernel
theorem dX6_buyersAt_25 : decode cX6_buyersAt 25 = .ok (.i2l, 1) := by decide +kernel
theorem dX6_buyersAt_26 : decode cX6_buyersAt 26 = .ok (.aload_n 0, 1) := by decide +kernel
theorem dX6_buyersAt_27 : decode cX6_buyersAt 27 = .ok (.getfield 34, 3) := by decide +kernel
theorem dX6_buyersAt_30 : decode cX6_buyersAt 30 = .ok (.getfield 160, 3) := by decide +kernel
theorem dX6_buyersAt_33 : decode cX6_buyersAt 33 = .ok (.iload_n 2, 1) := by decide +kernel
theorem dX6_buyersAt_34 : decode cX6_buyersAt 34 = .ok (.laload, 1) := by decide +kernel
theorem dX6_buyersAt_35 : decode cX6_buyersAt 35 = .ok (.lmul, 1) := by decide +kernel
theorem dX6_buyersAt_36 : decode cX6_buyersAt 36 = .ok (.lcmp, 1) := by decide +kernel
theorem dX6_buyersAt_37 : decode cX6_buyersAt 37 = .ok (.ifCond .lt 10, 3) := by decide +kernel
theorem dX6_buyersAt_40 : decode cX6_buyersAt 40 = .ok (.iload_n 3, 1) := by decide +kernel
theorem dX6_buyersAt_41 : decode cX6_buyersAt 41 = .ok (.iconst 1, 1) := by decide +kernel
theorem dX6_buyersAt_42 : decode cX6_buyersAt 42 = .ok (.iload 4, 2) := by decide +kernel
theorem dX6_buyersAt_44 : decode cX6_buyersAt 44 = .ok (.ishl, 1) := by decide +kernel
theorem dX6_buyersAt_45 : decode cX6_buyersAt 45 = .ok (.ior, 1) := by decide +kernel
theorem dX6_buyersAt_46 : decode cX6_buyersAt 46 = .ok (.istore_n 3, 1) := by decide +kernel
theorem dX6_buyersAt_47 : decode cX6_buyersAt 47 = .ok (.iinc 4 1, 3) := by decide +kernel
theorem dX6_buyersAt_50 : decode cX6_buyersAt 50 = .ok (.goto (-45), 3) := by decide +kernel
theorem dX6_buyersAt_53 : decode cX6_buyersAt 53 = .ok (.iload_n 3, 1) := by decide +kernel
theorem dX6_buyersAt_54 : decode cX6_buyersAt 54 = .ok (.ireturn, 1) := by decide +kernel
set_option maxRecDepth 20000 in
theorem ggX6_reading_X2_hasSubject : GoodIn wsX6_reading wsX2_hasSubject := goodIn_r _ [8, 9, 10, 11, 12, 39, 40, 41, 42, 43] (by decide +kernel) (by decide +kernel)
set_option maxRecDepth 20000 in
theorem gX6_reading_X2_hasSubject : GoodIn wsX6_reading (wsV RX6 99 RX2 yX2_hasSubject wsX2_hasSubject) := goodIn_app (goodIn_of _ (by decide +kernel)) ggX6_reading_X2_hasSubject
set_option maxRecDepth 20000 in
theorem ggX6_reading_X2_hasDeed : GoodIn wsX6_reading wsX2_hasDeed := goodIn_r _ [16, 17, 10, 11, 12, 39, 40, 41, 42, 43] (by decide +kernel) (by decide +kernel)
set_option maxRecDepth 20000 in
theorem gX6_reading_X2_hasDeed : GoodIn wsX6_reading (wsV RX6 92 RX2 yX2_hasDeed wsX2_hasDeed) := goodIn_app (goodIn_of _ (by decide +kernel)) ggX6_reading_X2_hasDeed
set_option maxRecDepth 20000 in
theorem ggX6_reading_X1_note : GoodIn wsX6_reading wsX1_note := goodIn_r _ [22, 23, 24, 25, 26, 35, 36, 37, 38] (by decide +kernel) (by decide +kernel)
set_option maxRecDepth 20000 in
theorem gX6_reading_X1_note : GoodIn wsX6_reading (wsV RX6 190 RX1 yX1_note wsX1_note) := goodIn_app (goodIn_of _ (by decide +kernel)) ggX6_reading_X1_note
theorem dX6_reading_0 : decode cX6_reading 0 = .ok (.aload_n 0, 1) := by decide +kernel
theorem dX6_reading_1 : decode cX6_reading 1 = .ok (.getfield 20, 3) := by decide +kernel
theorem dX6_reading_4 : decode cX6_reading 4 = .ok (.iload_n 1, 1) := by decide +kernel
theorem dX6_reading_5 : decode cX6_reading 5 = .ok (.invokevirtual 99, 3) := by decide +kernel
theorem dX6_reading_8 : decode cX6_reading 8 = .ok (.ifCond .eq 14, 3) := by decide +kernel
theorem dX6_reading_11 : decode cX6_reading 11 = .ok (.aload_n 0, 1) := by decide +kernel
theorem dX6_reading_12 : decode cX6_reading 12 = .ok (.getfield 20, 3) := by decide +kernel
theorem dX6_reading_15 : decode cX6_reading 15 = .ok (.iload_n 2, 1) := by decide +kernel
theorem dX6_reading_16 : decode cX6_reading 16 = .ok (.invokevirtual 92, 3) := by decide +kernel
theorem dX6_reading_19 : decode cX6_reading 19 = .ok (.ifCond .ne 5, 3) := by decide +kernel
theorem dX6_reading_22 : decode cX6_reading 22 = .ok (.iconst (-1), 1) := by decide +kernel
theorem dX6_reading_23 : decode cX6_reading 23 = .ok (.ireturn, 1) := by decide +kernel
theorem dX6_reading_24 : decode cX6_reading 24 = .ok (.aload_n 0, 1) := by decide +kernel
theorem dX6_reading_25 : decode cX6_reading 25 = .ok (.getfield 27, 3) := by decide +kernel
theorem dX6_reading_28 : decode cX6_reading 28 = .ok (.getfield 86, 3) := by decide +kernel
theorem dX6_reading_31 : decode cX6_reading 31 = .ok (.bipush 8, 2) := by decide +kernel
theorem dX6_reading_33 : decode cX6_reading 33 = .ok (.if_icmp .lt 6, 3) := by decide +kernel
theorem dX6_reading_36 : decode cX6_reading 36 = .ok (.bipush (-4), 2) := by decide +kernel
theorem dX6_reading_38 : decode cX6_reading 38 = .ok (.ireturn, 1) := by decide +kernel
theorem dX6_reading_39 : decode cX6_reading 39 = .ok (.aload_n 0, 1) := by decide +kernel
theorem dX6_reading_40 : decode cX6_reading 40 = .ok (.getfield 27, 3) := by decide +kernel
theorem dX6_reading_43 : decode cX6_reading 43 = .ok (.iload_n 1, 1) := by decide +kernel
theorem dX6_reading_44 : decode cX6_reading 44 = .ok (.iload_n 2, 1) := by decide +kernel
theorem dX6_reading_45 : decode cX6_reading 45 = .ok (.iload_n 3, 1) := by decide +kernel
theorem dX6_reading_46 : decode cX6_reading 46 = .ok (.invokevirtual 190, 3) := by decide +kernel
theorem dX6_reading_49 : decode cX6_reading 49 = .ok (.ireturn, 1) := by decide +kernel
theorem dX6_back_0 : decode cX6_back 0 = .ok (.iload_n 1, 1) := by decide +kernel
theorem dX6_back_1 : decode cX6_back 1 = .ok (.ifCond .lt 14, 3) := by decide +kernel
theorem dX6_back_4 : decode cX6_back 4 = .ok (.iload_n 1, 1) := by decide +kernel
theorem dX6_back_5 : decode cX6_back 5 = .ok (.aload_n 0, 1) := by decide +kernel
theorem dX6_back_6 : decode cX6_back 6 = .ok (.getfield 27, 3) := by decide +kernel
theorem dX6_back_9 : decode cX6_back 9 = .ok (.getfield 86, 3) := by decide +kernel
theorem dX6_back_12 : decode cX6_back 12 = .ok (.if_icmp .le 6, 3) := by decide +kernel
theorem dX6_back_15 : decode cX6_back 15 = .ok (.bipush (-2), 2) := by decide +kernel
theorem dX6_back_17 : decode cX6_back 17 = .ok (.ireturn, 1) := by decide +kernel
theorem dX6_back_18 : decode cX6_back 18 = .ok (.aload_n 0, 1) := by decide +kernel
theorem dX6_back_19 : decode cX6_back 19 = .ok (.getfield 27, 3) := by decide +kernel
theorem dX6_back_22 : decode cX6_back 22 = .ok (.dup, 1) := by decide +kernel
theorem dX6_back_23 : decode cX6_back 23 = .ok (.getfield 86, 3) := by decide +kernel
theorem dX6_back_26 : decode cX6_back 26 = .ok (.iload_n 1, 1) := by decide +kernel
theorem dX6_back_27 : decode cX6_back 27 = .ok (.isub, 1) := by decide +kernel
theorem dX6_back_28 : decode cX6_back 28 = .ok (.putfield 86, 3) := by decide +kernel
theorem dX6_back_31 : decode cX6_back 31 = .ok (.aload_n 0, 1) := by decide +kernel
theorem dX6_back_32 : decode cX6_back 32 = .ok (.getfield 27, 3) := by decide +kernel
theorem dX6_back_35 : decode cX6_back 35 = .ok (.getfield 86, 3) := by decide +kernel
theorem dX6_back_38 : decode cX6_back 38 = .ok (.ireturn, 1) := by decide +kernel
set_option maxRecDepth 20000 in
theorem ggX6_risks_X2_hasDeed : GoodIn wsX6_risks wsX2_hasDeed := goodIn_r _ [8, 9, 10, 11, 12, 52, 53, 54, 55, 56] (by decide +kernel) (by decide +kernel)
set_option maxRecDepth 20000 in
theorem gX6_risks_X2_hasDeed : GoodIn wsX6_risks (wsV RX6 92 RX2 yX2_hasDeed wsX2_hasDeed) := goodIn_app (goodIn_of _ (by decide +kernel)) ggX6_risks_X2_hasDeed
set_option maxRecDepth 20000 in
theorem ggX6_risks_X1_fitting : GoodIn wsX6_risks wsX1_fitting := goodIn_r _ [17, 18, 19, 20, 16, 21, 22, 23, 24, 25, 26, 27, 28, 7, 29, 30, 31, 32, 33, 34, 35, 36, 37, 38, 39, 40, 41, 42, 43, 57, 58, 59, 60, 52, 53, 54, 55, 56] (by decide +kernel) (by decide +kernel)
set_option maxRecDepth 20000 in
theorem gX6_risks_X1_fitting : GoodIn wsX6_risks (wsV RX6 194 RX1 yX1_fitting wsX1_fitting) := goodIn_app (goodIn_of _ (by decide +kernel)) ggX6_risks_X1_fitting
theorem dX6_risks_0 : decode cX6_risks 0 = .ok (.aload_n 0, 1) := by decide +kernel
theorem dX6_risks_1 : decode cX6_risks 1 = .ok (.getfield 20, 3) := by decide +kernel
theorem dX6_risks_4 : decode cX6_risks 4 = .ok (.iload_n 1, 1) := by decide +kernel
theorem dX6_risks_5 : decode cX6_risks 5 = .ok (.invokevirtual 92, 3) := by decide +kernel
theorem dX6_risks_8 : decode cX6_risks 8 = .ok (.ifCond .ne 5, 3) := by decide +kernel
theorem dX6_risks_11 : decode cX6_risks 11 = .ok (.iconst (-1), 1) := by decide +kernel
theorem dX6_risks_12 : decode cX6_risks 12 = .ok (.ireturn, 1) := by decide +kernel
theorem dX6_risks_13 : decode cX6_risks 13 = .ok (.aload_n 0, 1) := by decide +kernel
theorem dX6_risks_14 : decode cX6_risks 14 = .ok (.getfield 27, 3) := by decide +kernel
theorem dX6_risks_17 : decode cX6_risks 17 = .ok (.aload_n 0, 1) := by decide +kernel
theorem dX6_risks_18 : decode cX6_risks 18 = .ok (.getfield 20, 3) := by decide +kernel
theorem dX6_risks_21 : decode cX6_risks 21 = .ok (.aload_n 0, 1) := by decide +kernel
theorem dX6_risks_22 : decode cX6_risks 22 = .ok (.getfield 20, 3) := by decide +kernel
theorem dX6_risks_25 : decode cX6_risks 25 = .ok (.getfield 95, 3) := by decide +kernel
theorem dX6_risks_28 : decode cX6_risks 28 = .ok (.iload_n 1, 1) := by decide +kernel
theorem dX6_risks_29 : decode cX6_risks 29 = .ok (.aaload, 1) := by decide +kernel
theorem dX6_risks_30 : decode cX6_risks 30 = .ok (.iconst 1, 1) := by decide +kernel
theorem dX6_risks_31 : decode cX6_risks 31 = .ok (.bipush 10, 2) := by decide +kernel
theorem dX6_risks_33 : decode cX6_risks 33 = .ok (.invokevirtual 194, 3) := by decide +kernel
theorem dX6_risks_36 : decode cX6_risks 36 = .ok (.ireturn, 1) := by decide +kernel
set_option maxRecDepth 20000 in
theorem ggX6_hurts_X2_hasDeed : GoodIn wsX6_hurts wsX2_hasDeed := goodIn_r _ [8, 9, 10, 11, 12, 52, 53, 54, 55, 56] (by decide +kernel) (by decide +kernel)
set_option maxRecDepth 20000 in
theorem gX6_hurts_X2_hasDeed : GoodIn wsX6_hurts (wsV RX6 92 RX2 yX2_hasDeed wsX2_hasDeed) := goodIn_app (goodIn_of _ (by decide +kernel)) ggX6_hurts_X2_hasDeed
set_option maxRecDepth 20000 in
theorem ggX6_hurts_X1_fitting : GoodIn wsX6_hurts wsX1_fitting := goodIn_r _ [17, 18, 19, 20, 16, 21, 22, 23, 24, 25, 26, 27, 28, 7, 29, 30, 31, 32, 33, 34, 35, 36, 37, 38, 39, 40, 41, 42, 43, 57, 58, 59, 60, 52, 53, 54, 55, 56] (by decide +kernel) (by decide +kernel)
set_option maxRecDepth 20000 in
theorem gX6_hurts_X1_fitting : GoodIn wsX6_hurts (wsV RX6 194 RX1 yX1_fitting wsX1_fitting) := goodIn_app (goodIn_of _ (by decide +kernel)) ggX6_hurts_X1_fitting
theorem dX6_hurts_0 : decode cX6_hurts 0 = .ok (.aload_n 0, 1) := by decide +kernel
theorem dX6_hurts_1 : decode cX6_hurts 1 = .ok (.getfield 20, 3) := by decide +kernel
theorem dX6_hurts_4 : decode cX6_hurts 4 = .ok (.iload_n 1, 1) := by decide +kernel
theorem dX6_hurts_5 : decode cX6_hurts 5 = .ok (.invokevirtual 92, 3) := by decide +kernel
theorem dX6_hurts_8 : decode cX6_hurts 8 = .ok (.ifCond .ne 5, 3) := by decide +kernel
theorem dX6_hurts_11 : decode cX6_hurts 11 = .ok (.iconst (-1), 1) := by decide +kernel
theorem dX6_hurts_12 : decode cX6_hurts 12 = .ok (.ireturn, 1) := by decide +kernel
theorem dX6_hurts_13 : decode cX6_hurts 13 = .ok (.aload_n 0, 1) := by decide +kernel
theorem dX6_hurts_14 : decode cX6_hurts 14 = .ok (.getfield 27, 3) := by decide +kernel
theorem dX6_hurts_17 : decode cX6_hurts 17 = .ok (.aload_n 0, 1) := by decide +kernel
theorem dX6_hurts_18 : decode cX6_hurts 18 = .ok (.getfield 20, 3) := by decide +kernel
theorem dX6_hurts_21 : decode cX6_hurts 21 = .ok (.aload_n 0, 1) := by decide +kernel
theorem dX6_hurts_22 : decode cX6_hurts 22 = .ok (.getfield 20, 3) := by decide +kernel
theorem dX6_hurts_25 : decode cX6_hurts 25 = .ok (.getfield 95, 3) := by decide +kernel
theorem dX6_hurts_28 : decode cX6_hurts 28 = .ok (.iload_n 1, 1) := by decide +kernel
theorem dX6_hurts_29 : decode cX6_hurts 29 = .ok (.aaload, 1) := by decide +kernel
theorem dX6_hurts_30 : decode cX6_hurts 30 = .ok (.iconst 2, 1) := by decide +kernel
theorem dX6_hurts_31 : decode cX6_hurts 31 = .ok (.bipush 10, 2) := by decide +kernel
theorem dX6_hurts_33 : decode cX6_hurts 33 = .ok (.invokevirtual 194, 3) := by decide +kernel
theorem dX6_hurts_36 : decode cX6_hurts 36 = .ok (.ireturn, 1) := by decide +kernel
set_option maxRecDepth 20000 in
theorem ggX6_kinds_X2_hasSubject : GoodIn wsX6_kinds wsX2_hasSubject := goodIn_r _ [8, 9, 10, 11, 12, 52, 53, 54, 55, 56] (by decide +kernel) (by decide +kernel)
set_option maxRecDepth 20000 in
theorem gX6_kinds_X2_hasSubject : GoodIn wsX6_kinds (wsV RX6 99 RX2 yX2_hasSubject wsX2_hasSubject) := goodIn_app (goodIn_of _ (by decide +kernel)) ggX6_kinds_X2_hasSubject
set_option maxRecDepth 20000 in
theorem ggX6_kinds_X1_fitting : GoodIn wsX6_kinds wsX1_fitting := goodIn_r _ [17, 18, 19, 20, 16, 21, 22, 23, 24, 25, 26, 27, 28, 7, 29, 30, 31, 32, 33, 34, 35, 36, 37, 38, 39, 40, 41, 42, 43, 57, 58, 59, 60, 52, 53, 54, 55, 56] (by decide +kernel) (by decide +kernel)
set_option maxRecDepth 20000 in
theorem gX6_kinds_X1_fitting : GoodIn wsX6_kinds (wsV RX6 194 RX1 yX1_fitting wsX1_fitting) := goodIn_app (goodIn_of _ (by decide +kernel)) ggX6_kinds_X1_fitting
theorem dX6_kinds_0 : decode cX6_kinds 0 = .ok (.aload_n 0, 1) := by decide +kernel
theorem dX6_kinds_1 : decode cX6_kinds 1 = .ok (.getfield 20, 3) := by decide +kernel
theorem dX6_kinds_4 : decode cX6_kinds 4 = .ok (.iload_n 1, 1) := by decide +kernel
theorem dX6_kinds_5 : decode cX6_kinds 5 = .ok (.invokevirtual 99, 3) := by decide +kernel
theorem dX6_kinds_8 : decode cX6_kinds 8 = .ok (.ifCond .ne 5, 3) := by decide +kernel
theorem dX6_kinds_11 : decode cX6_kinds 11 = .ok (.iconst (-1), 1) := by decide +kernel
theorem dX6_kinds_12 : decode cX6_kinds 12 = .ok (.ireturn, 1) := by decide +kernel
theorem dX6_kinds_13 : decode cX6_kinds 13 = .ok (.aload_n 0, 1) := by decide +kernel
theorem dX6_kinds_14 : decode cX6_kinds 14 = .ok (.getfield 27, 3) := by decide +kernel
theorem dX6_kinds_17 : decode cX6_kinds 17 = .ok (.aload_n 0, 1) := by decide +kernel
theorem dX6_kinds_18 : decode cX6_kinds 18 = .ok (.getfield 20, 3) := by decide +kernel
theorem dX6_kinds_21 : decode cX6_kinds 21 = .ok (.aload_n 0, 1) := by decide +kernel
theorem dX6_kinds_22 : decode cX6_kinds 22 = .ok (.getfield 20, 3) := by decide +kernel
theorem dX6_kinds_25 : decode cX6_kinds 25 = .ok (.getfield 102, 3) := by decide +kernel
theorem dX6_kinds_28 : decode cX6_kinds 28 = .ok (.iload_n 1, 1) := by decide +kernel
theorem dX6_kinds_29 : decode cX6_kinds 29 = .ok (.iconst 3, 1) := by decide +kernel
theorem dX6_kinds_30 : decode cX6_kinds 30 = .ok (.invokevirtual 194, 3) := by decide +kernel
theorem dX6_kinds_33 : decode cX6_kinds 33 = .ok (.ireturn, 1) := by decide +kernel
set_option maxRecDepth 20000 in
theorem ggX6_odds_X2_isThere : GoodIn wsX6_odds wsX2_isThere := goodIn_r _ [10, 11, 30, 31, 32, 33, 34] (by decide +kernel) (by decide +kernel)
set_option maxRecDepth 20000 in
theorem gX6_odds_X2_isThere : GoodIn wsX6_odds (wsV RX6 119 RX2 yX2_isThere wsX2_isThere) := goodIn_app (goodIn_of _ (by decide +kernel)) ggX6_odds_X2_isThere
set_option maxRecDepth 20000 in
theorem ggX6_odds_X6_isBelow : GoodIn wsX6_odds wsX6_isBelow := goodIn_r _ [15] (by decide +kernel) (by decide +kernel)
set_option maxRecDepth 20000 in
theorem gX6_odds_X6_isBelow : GoodIn wsX6_odds (va_wsS RX6 58 yX6_isBelow wsX6_isBelow) := goodIn_app (goodIn_of _ (by decide +kernel)) ggX6_odds_X6_isBelow
set_option maxRecDepth 20000 in
theorem ggX6_odds_X6_inLeastTerms : GoodIn wsX6_odds wsX6_inLeastTerms := goodIn_r _ [18, 19, 20, 14, 21] (by decide +kernel) (by decide +kernel)
set_option maxRecDepth 20000 in
theorem gX6_odds_X6_inLeastTerms : GoodIn wsX6_odds (va_wsS RX6 163 yX6_inLeastTerms wsX6_inLeastTerms) := goodIn_app (goodIn_of _ (by decide +kernel)) ggX6_odds_X6_inLeastTerms
theorem dX6_odds_0 : decode cX6_odds 0 = .ok (.aload_n 0, 1) := by decide +kernel
theorem dX6_odds_1 : decode cX6_odds 1 = .ok (.getfield 20, 3) := by decide +kernel
theorem dX6_odds_4 : decode cX6_odds 4 = .ok (.invokevirtual 119, 3) := by decide +kernel
theorem dX6_odds_7 : decode cX6_odds 7 = .ok (.ifCond .ne 7, 3) := by decide +kernel
theorem dX6_odds_10 : decode cX6_odds 10 = .ok (.ldc2_w 150, 3) := by decide +kernel
theorem dX6_odds_13 : decode cX6_odds 13 = .ok (.lreturn, 1) := by decide +kernel
theorem dX6_odds_14 : decode cX6_odds 14 = .ok (.iload_n 1, 1) := by decide +kernel
theorem dX6_odds_15 : decode cX6_odds 15 = .ok (.iconst 1, 1) := by decide +kernel
theorem dX6_odds_16 : decode cX6_odds 16 = .ok (.aload_n 0, 1) := by decide +kernel
theorem dX6_odds_17 : decode cX6_odds 17 = .ok (.getfield 20, 3) := by decide +kernel
theorem dX6_odds_20 : decode cX6_odds 20 = .ok (.getfield 167, 3) := by decide +kernel
theorem dX6_odds_23 : decode cX6_odds 23 = .ok (.ishl, 1) := by decide +kernel
theorem dX6_odds_24 : decode cX6_odds 24 = .ok (.invokestatic 58, 3) := by decide +kernel
theorem dX6_odds_27 : decode cX6_odds 27 = .ok (.ifCond .eq 19, 3) := by decide +kernel
theorem dX6_odds_30 : decode cX6_odds 30 = .ok (.iload_n 2, 1) := by decide +kernel
theorem dX6_odds_31 : decode cX6_odds 31 = .ok (.iconst 4, 1) := by decide +kernel
theorem dX6_odds_32 : decode cX6_odds 32 = .ok (.invokestatic 58, 3) := by decide +kernel
theorem dX6_odds_35 : decode cX6_odds 35 = .ok (.ifCond .eq 11, 3) := by decide +kernel
theorem dX6_odds_38 : decode cX6_odds 38 = .ok (.iload_n 3, 1) := by decide +kernel
theorem dX6_odds_39 : decode cX6_odds 39 = .ok (.iconst 2, 1) := by decide +kernel
theorem dX6_odds_40 : decode cX6_odds 40 = .ok (.invokestatic 58, 3) := by decide +kernel
theorem dX6_odds_43 : decode cX6_odds 43 = .ok (.ifCond .ne 7, 3) := by decide +kernel
theorem dX6_odds_46 : decode cX6_odds 46 = .ok (.ldc2_w 150, 3) := by decide +kernel
theorem dX6_odds_49 : decode cX6_odds 49 = .ok (.lreturn, 1) := by decide +kernel
theorem dX6_odds_50 : decode cX6_odds 50 = .ok (.lconst 1, 1) := by decide +kernel
theorem dX6_odds_51 : decode cX6_odds 51 = .ok (.lstore 4, 2) := by decide +kernel
theorem dX6_odds_53 : decode cX6_odds 53 = .ok (.lconst 1, 1) := by decide +kernel
theorem dX6_odds_54 : decode cX6_odds 54 = .ok (.lstore 6, 2) := by decide +kernel
theorem dX6_odds_56 : decode cX6_odds 56 = .ok (.iconst 0, 1) := by decide +kernel
theorem dX6_odds_57 : decode cX6_odds 57 = .ok (.istore 8, 2) := by decide +kernel
theorem dX6_odds_59 : decode cX6_odds 59 = .ok (.iload 8, 2) := by decide +kernel
theorem dX6_odds_61 : decode cX6_odds 61 = .ok (.aload_n 0, 1) := by decide +kernel
theorem dX6_odds_62 : decode cX6_odds 62 = .ok (.getfield 20, 3) := by decide +kernel
theorem dX6_odds_65 : decode cX6_odds 65 = .ok (.getfield 167, 3) := by decide +kernel
theorem dX6_odds_68 : decode cX6_odds 68 = .ok (.if_icmp .ge 71, 3) := by decide +kernel
theorem dX6_odds_71 : decode cX6_odds 71 = .ok (.iload_n 1, 1) := by decide +kernel
theorem dX6_odds_72 : decode cX6_odds 72 = .ok (.iload 8, 2) := by decide +kernel
theorem dX6_odds_74 : decode cX6_odds 74 = .ok (.ishr, 1) := by decide +kernel
theorem dX6_odds_75 : decode cX6_odds 75 = .ok (.iconst 1, 1) := by decide +kernel
theorem dX6_odds_76 : decode cX6_odds 76 = .ok (.iand, 1) := by decide +kernel
theorem dX6_odds_77 : decode cX6_odds 77 = .ok (.iconst 1, 1) := by decide +kernel
theorem dX6_odds_78 : decode cX6_odds 78 = .ok (.if_icmp .ne 7, 3) := by decide +kernel
theorem dX6_odds_81 : decode cX6_odds 81 = .ok (.iload_n 2, 1) := by decide +kernel
theorem dX6_odds_82 : decode cX6_odds 82 = .ok (.goto 4, 3) := by decide +kernel
theorem dX6_odds_85 : decode cX6_odds 85 = .ok (.iconst 0, 1) := by decide +kernel
theorem dX6_odds_86 : decode cX6_odds 86 = .ok (.istore 9, 2) := by decide +kernel
theorem dX6_odds_88 : decode cX6_odds 88 = .ok (.iconst 0, 1) := by decide +kernel
theorem dX6_odds_89 : decode cX6_odds 89 = .ok (.istore 10, 2) := by decide +kernel
theorem dX6_odds_91 : decode cX6_odds 91 = .ok (.iload 10, 2) := by decide +kernel
theorem dX6_odds_93 : decode cX6_odds 93 = .ok (.iload 9, 2) := by decide +kernel
theorem dX6_odds_95 : decode cX6_odds 95 = .ok (.if_icmp .ge 38, 3) := by decide +kernel
theorem dX6_odds_98 : decode cX6_odds 98 = .ok (.lload 4, 2) := by decide +kernel
theorem dX6_odds_100 : decode cX6_odds 100 = .ok (.bipush 10, 2) := by decide +kernel
theorem dX6_odds_102 : decode cX6_odds 102 = .ok (.aload_n 0, 1) := by decide +kernel
theorem dX6_odds_103 : decode cX6_odds 103 = .ok (.getfield 20, 3) := by decide +kernel
theorem dX6_odds_106 : decode cX6_odds 106 = .ok (.getfield 95, 3) := by decide +kernel
theorem dX6_odds_109 : decode cX6_odds 109 = .ok (.iload 8, 2) := by decide +kernel
theorem dX6_odds_111 : decode cX6_odds 111 = .ok (.aaload, 1) := by decide +kernel
theorem dX6_odds_112 : decode cX6_odds 112 = .ok (.iconst 1, 1) := by decide +kernel
theorem dX6_odds_113 : decode cX6_odds 113 = .ok (.iaload, 1) := by decide +kernel
theorem dX6_odds_114 : decode cX6_odds 114 = .ok (.isub, 1) := by decide +kernel
theorem dX6_odds_115 : decode cX6_odds 115 = .ok (.i2l, 1) := by decide +kernel
theorem dX6_odds_116 : decode cX6_odds 116 = .ok (.lmul, 1) := by decide +kernel
theorem dX6_odds_117 : decode cX6_odds 117 = .ok (.lstore 4, 2) := by decide +kernel
theorem dX6_odds_119 : decode cX6_odds 119 = .ok (.lload 6, 2) := by decide +kernel
theorem dX6_odds_121 : decode cX6_odds 121 = .ok (.ldc2_w 198, 3) := by decide +kernel
theorem dX6_odds_124 : decode cX6_odds 124 = .ok (.lmul, 1) := by decide +kernel
theorem dX6_odds_125 : decode cX6_odds 125 = .ok (.lstore 6, 2) := by decide +kernel
theorem dX6_odds_127 : decode cX6_odds 127 = .ok (.iinc 10 1, 3) := by decide +kernel
theorem dX6_odds_130 : decode cX6_odds 130 = .ok (.goto (-39), 3) := by decide +kernel
theorem dX6_odds_133 : decode cX6_odds 133 = .ok (.iinc 8 1, 3) := by decide +kernel
theorem dX6_odds_136 : decode cX6_odds 136 = .ok (.goto (-77), 3) := by decide +kernel
theorem dX6_odds_139 : decode cX6_odds 139 = .ok (.lload 4, 2) := by decide +kernel
theorem dX6_odds_141 : decode cX6_odds 141 = .ok (.lload 6, 2) := by decide +kernel
theorem dX6_odds_143 : decode cX6_odds 143 = .ok (.iload_n 3, 1) := by decide +kernel
theorem dX6_odds_144 : decode cX6_odds 144 = .ok (.invokestatic 163, 3) := by decide +kernel
theorem dX6_odds_147 : decode cX6_odds 147 = .ok (.lreturn, 1) := by decide +kernel
set_option maxRecDepth 20000 in
theorem ggX6_sheet_X6_isSheet : GoodIn wsX6_sheet wsX6_isSheet := goodIn_r _ [6, 7, 8, 5, 9] (by decide +kernel) (by decide +kernel)
set_option maxRecDepth 20000 in
theorem gX6_sheet_X6_isSheet : GoodIn wsX6_sheet (va_wsS RX6 54 yX6_isSheet wsX6_isSheet) := goodIn_app (goodIn_of _ (by decide +kernel)) ggX6_sheet_X6_isSheet
set_option maxRecDepth 20000 in
theorem ggX6_sheet_X6_isBelow : GoodIn wsX6_sheet wsX6_isBelow := goodIn_r _ [9] (by decide +kernel) (by decide +kernel)
set_option maxRecDepth 20000 in
theorem gX6_sheet_X6_isBelow : GoodIn wsX6_sheet (va_wsS RX6 58 yX6_isBelow wsX6_isBelow) := goodIn_app (goodIn_of _ (by decide +kernel)) ggX6_sheet_X6_isBelow
set_option maxRecDepth 20000 in
theorem ggX6_sheet_X6_failed : GoodIn wsX6_sheet wsX6_failed := goodIn_r _ [13, 1, 23, 24, 25, 26, 27, 28, 29, 30] (by decide +kernel) (by decide +kernel)
set_option maxRecDepth 20000 in
theorem gX6_sheet_X6_failed : GoodIn wsX6_sheet (wsV RX6 66 RX6 yX6_failed wsX6_failed) := goodIn_app (goodIn_of _ (by decide +kernel)) ggX6_sheet_X6_failed
set_option maxRecDepth 20000 in
theorem ggX6_sheet_X3_renew : GoodIn wsX6_sheet wsX3_renew := goodIn_r _ [18, 19, 20, 21, 22, 31, 32, 33, 34] (by decide +kernel) (by decide +kernel)
set_option maxRecDepth 20000 in
theorem gX6_sheet_X3_renew : GoodIn wsX6_sheet (wsV RX6 200 RX3 yX3_renew wsX3_renew) := goodIn_app (goodIn_of _ (by decide +kernel)) ggX6_sheet_X3_renew
theorem dX6_sheet_0 : decode cX6_sheet 0 = .ok (.aload_n 0, 1) := by decide +kernel
theorem dX6_sheet_1 : decode cX6_sheet 1 = .ok (.iconst 0, 1) := by decide +kernel
theorem dX6_sheet_2 : decode cX6_sheet 2 = .ok (.putfield 50, 3) := by decide +kernel
theorem dX6_sheet_5 : decode cX6_sheet 5 = .ok (.iload_n 1, 1) := by decide +kernel
theorem dX6_sheet_6 : decode cX6_sheet 6 = .ok (.invokestatic 54, 3) := by decide +kernel
theorem dX6_sheet_9 : decode cX6_sheet 9 = .ok (.ifCond .ne 5, 3) := by decide +kernel
theorem dX6_sheet_12 : decode cX6_sheet 12 = .ok (.iconst (-1), 1) := by decide +kernel
theorem dX6_sheet_13 : decode cX6_sheet 13 = .ok (.ireturn, 1) := by decide +kernel
theorem dX6_sheet_14 : decode cX6_sheet 14 = .ok (.iload_n 2, 1) := by decide +kernel
theorem dX6_sheet_15 : decode cX6_sheet 15 = .ok (.iconst 3, 1) := by decide +kernel
theorem dX6_sheet_16 : decode cX6_sheet 16 = .ok (.invokestatic 58, 3) := by decide +kernel
theorem dX6_sheet_19 : decode cX6_sheet 19 = .ok (.ifCond .eq 9, 3) := by decide +kernel
theorem dX6_sheet_22 : decode cX6_sheet 22 = .ok (.iload_n 3, 1) := by decide +kernel
theorem dX6_sheet_23 : decode cX6_sheet 23 = .ok (.bipush 60, 2) := by decide +kernel
theorem dX6_sheet_25 : decode cX6_sheet 25 = .ok (.if_icmp .le 6, 3) := by decide +kernel
theorem dX6_sheet_28 : decode cX6_sheet 28 = .ok (.bipush (-2), 2) := by decide +kernel
theorem dX6_sheet_30 : decode cX6_sheet 30 = .ok (.ireturn, 1) := by decide +kernel
theorem dX6_sheet_31 : decode cX6_sheet 31 = .ok (.iload_n 3, 1) := by decide +kernel
theorem dX6_sheet_32 : decode cX6_sheet 32 = .ok (.ifCond .ge 9, 3) := by decide +kernel
theorem dX6_sheet_35 : decode cX6_sheet 35 = .ok (.aload_n 0, 1) := by decide +kernel
theorem dX6_sheet_36 : decode cX6_sheet 36 = .ok (.iconst 4, 1) := by decide +kernel
theorem dX6_sheet_37 : decode cX6_sheet 37 = .ok (.invokevirtual 66, 3) := by decide +kernel
theorem dX6_sheet_40 : decode cX6_sheet 40 = .ok (.ireturn, 1) := by decide +kernel
theorem dX6_sheet_41 : decode cX6_sheet 41 = .ok (.aload_n 0, 1) := by decide +kernel
theorem dX6_sheet_42 : decode cX6_sheet 42 = .ok (.getfield 13, 3) := by decide +kernel
theorem dX6_sheet_45 : decode cX6_sheet 45 = .ok (.iload_n 1, 1) := by decide +kernel
theorem dX6_sheet_46 : decode cX6_sheet 46 = .ok (.aaload, 1) := by decide +kernel
theorem dX6_sheet_47 : decode cX6_sheet 47 = .ok (.iload_n 2, 1) := by decide +kernel
theorem dX6_sheet_48 : decode cX6_sheet 48 = .ok (.iload_n 3, 1) := by decide +kernel
theorem dX6_sheet_49 : decode cX6_sheet 49 = .ok (.invokevirtual 200, 3) := by decide +kernel
theorem dX6_sheet_52 : decode cX6_sheet 52 = .ok (.iconst 1, 1) := by decide +kernel
theorem dX6_sheet_53 : decode cX6_sheet 53 = .ok (.ireturn, 1) := by decide +kernel
set_option maxRecDepth 20000 in
theorem ggX6_lose_X6_isSheet : GoodIn wsX6_lose wsX6_isSheet := goodIn_r _ [6, 7, 8, 5, 9] (by decide +kernel) (by decide +kernel)
set_option maxRecDepth 20000 in
theorem gX6_lose_X6_isSheet : GoodIn wsX6_lose (va_wsS RX6 54 yX6_isSheet wsX6_isSheet) := goodIn_app (goodIn_of _ (by decide +kernel)) ggX6_lose_X6_isSheet
theorem dX6_lose_0 : decode cX6_lose 0 = .ok (.iload_n 1, 1) := by decide +kernel
theorem dX6_lose_1 : decode cX6_lose 1 = .ok (.invokestatic 54, 3) := by decide +kernel
theorem dX6_lose_4 : decode cX6_lose 4 = .ok (.ifCond .ne 5, 3) := by decide +kernel
theorem dX6_lose_7 : decode cX6_lose 7 = .ok (.iconst (-1), 1) := by decide +kernel
theorem dX6_lose_8 : decode cX6_lose 8 = .ok (.ireturn, 1) := by decide +kernel
theorem dX6_lose_9 : decode cX6_lose 9 = .ok (.aload_n 0, 1) := by decide +kernel
theorem dX6_lose_10 : decode cX6_lose 10 = .ok (.getfield 13, 3) := by decide +kernel
theorem dX6_lose_13 : decode cX6_lose 13 = .ok (.iload_n 1, 1) := by decide +kernel
theorem dX6_lose_14 : decode cX6_lose 14 = .ok (.aaload, 1) := by decide +kernel
theorem dX6_lose_15 : decode cX6_lose 15 = .ok (.getfield 204, 3) := by decide +kernel
theorem dX6_lose_18 : decode cX6_lose 18 = .ok (.ifCond .eq 7, 3) := by decide +kernel
theorem dX6_lose_21 : decode cX6_lose 21 = .ok (.iconst 1, 1) := by decide +kernel
theorem dX6_lose_22 : decode cX6_lose 22 = .ok (.goto 4, 3) := by decide +kernel
theorem dX6_lose_25 : decode cX6_lose 25 = .ok (.iconst 0, 1) := by decide +kernel
theorem dX6_lose_26 : decode cX6_lose 26 = .ok (.istore_n 2, 1) := by decide +kernel
theorem dX6_lose_27 : decode cX6_lose 27 = .ok (.aload_n 0, 1) := by decide +kernel
theorem dX6_lose_28 : decode cX6_lose 28 = .ok (.getfield 13, 3) := by decide +kernel
theorem dX6_lose_31 : decode cX6_lose 31 = .ok (.iload_n 1, 1) := by decide +kernel
theorem dX6_lose_32 : decode cX6_lose 32 = .ok (.aaload, 1) := by decide +kernel
theorem dX6_lose_33 : decode cX6_lose 33 = .ok (.iconst 0, 1) := by decide +kernel
theorem dX6_lose_34 : decode cX6_lose 34 = .ok (.putfield 204, 3) := by decide +kernel
theorem dX6_lose_37 : decode cX6_lose 37 = .ok (.iload_n 2, 1) := by decide +kernel
theorem dX6_lose_38 : decode cX6_lose 38 = .ok (.ireturn, 1) := by decide +kernel
set_option maxRecDepth 20000 in
theorem ggX6_put_X6_isSheet : GoodIn wsX6_put wsX6_isSheet := goodIn_r _ [9, 10, 11, 8, 12] (by decide +kernel) (by decide +kernel)
set_option maxRecDepth 20000 in
theorem gX6_put_X6_isSheet : GoodIn wsX6_put (va_wsS RX6 54 yX6_isSheet wsX6_isSheet) := goodIn_app (goodIn_of _ (by decide +kernel)) ggX6_put_X6_isSheet
set_option maxRecDepth 20000 in
theorem ggX6_put_X6_failed : GoodIn wsX6_put wsX6_failed := goodIn_r _ [16, 1, 23, 24, 25, 26, 27, 28, 29, 30] (by decide +kernel) (by decide +kernel)
set_option maxRecDepth 20000 in
theorem gX6_put_X6_failed : GoodIn wsX6_put (wsV RX6 66 RX6 yX6_failed wsX6_failed) := goodIn_app (goodIn_of _ (by decide +kernel)) ggX6_put_X6_failed
set_option maxRecDepth 20000 in
theorem ggX6_put_X6_isBelow : GoodIn wsX6_put wsX6_isBelow := goodIn_r _ [12] (by decide +kernel) (by decide +kernel)
set_option maxRecDepth 20000 in
theorem gX6_put_X6_isBelow : GoodIn wsX6_put (va_wsS RX6 58 yX6_isBelow wsX6_isBelow) := goodIn_app (goodIn_of _ (by decide +kernel)) ggX6_put_X6_isBelow
set_option maxRecDepth 20000 in
theorem ggX6_put_X3_cut : GoodIn wsX6_put wsX3_cut := goodIn_r _ [21, 22, 31, 32, 33, 34] (by decide +kernel) (by decide +kernel)
set_option maxRecDepth 20000 in
theorem gX6_put_X3_cut : GoodIn wsX6_put (wsV RX6 210 RX3 yX3_cut wsX3_cut) := goodIn_app (goodIn_of _ (by decide +kernel)) ggX6_put_X3_cut
theorem dX6_put_0 : decode cX6_put 0 = .ok (.aload_n 0, 1) := by decide +kernel
theorem dX6_put_1 : decode cX6_put 1 = .ok (.iconst 0, 1) := by decide +kernel
theorem dX6_put_2 : decode cX6_put 2 = .ok (.putfield 50, 3) := by decide +kernel
theorem dX6_put_5 : decode cX6_put 5 = .ok (.iload_n 1, 1) := by decide +kernel
theorem dX6_put_6 : decode cX6_put 6 = .ok (.invokestatic 54, 3) := by decide +kernel
theorem dX6_put_9 : decode cX6_put 9 = .ok (.ifCond .ne 5, 3) := by decide +kernel
theorem dX6_put_12 : decode cX6_put 12 = .ok (.iconst (-1), 1) := by decide +kernel
theorem dX6_put_13 : decode cX6_put 13 = .ok (.ireturn, 1) := by decide +kernel
theorem dX6_put_14 : decode cX6_put 14 = .ok (.aload_n 0, 1) := by decide +kernel
theorem dX6_put_15 : decode cX6_put 15 = .ok (.getfield 13, 3) := by decide +kernel
theorem dX6_put_18 : decode cX6_put 18 = .ok (.iload_n 1, 1) := by decide +kernel
theorem dX6_put_19 : decode cX6_put 19 = .ok (.aaload, 1) := by decide +kernel
theorem dX6_put_20 : decode cX6_put 20 = .ok (.astore 4, 2) := by decide +kernel
theorem dX6_put_22 : decode cX6_put 22 = .ok (.aload 4, 2) := by decide +kernel
theorem dX6_put_24 : decode cX6_put 24 = .ok (.getfield 204, 3) := by decide +kernel
theorem dX6_put_27 : decode cX6_put 27 = .ok (.ifCond .ne 9, 3) := by decide +kernel
theorem dX6_put_30 : decode cX6_put 30 = .ok (.aload_n 0, 1) := by decide +kernel
theorem dX6_put_31 : decode cX6_put 31 = .ok (.iconst 1, 1) := by decide +kernel
theorem dX6_put_32 : decode cX6_put 32 = .ok (.invokevirtual 66, 3) := by decide +kernel
theorem dX6_put_35 : decode cX6_put 35 = .ok (.ireturn, 1) := by decide +kernel
theorem dX6_put_36 : decode cX6_put 36 = .ok (.iload_n 2, 1) := by decide +kernel
theorem dX6_put_37 : decode cX6_put 37 = .ok (.aload 4, 2) := by decide +kernel
theorem dX6_put_39 : decode cX6_put 39 = .ok (.getfield 207, 3) := by decide +kernel
theorem dX6_put_42 : decode cX6_put 42 = .ok (.invokestatic 58, 3) := by decide +kernel
theorem dX6_put_45 : decode cX6_put 45 = .ok (.ifCond .ne 9, 3) := by decide +kernel
theorem dX6_put_48 : decode cX6_put 48 = .ok (.aload_n 0, 1) := by decide +kernel
theorem dX6_put_49 : decode cX6_put 49 = .ok (.iconst 3, 1) := by decide +kernel
theorem dX6_put_50 : decode cX6_put 50 = .ok (.invokevirtual 66, 3) := by decide +kernel
theorem dX6_put_53 : decode cX6_put 53 = .ok (.ireturn, 1) := by decide +kernel
theorem dX6_put_54 : decode cX6_put 54 = .ok (.aload 4, 2) := by decide +kernel
theorem dX6_put_56 : decode cX6_put 56 = .ok (.getfield 134, 3) := by decide +kernel
theorem dX6_put_59 : decode cX6_put 59 = .ok (.iload_n 2, 1) := by decide +kernel
theorem dX6_put_60 : decode cX6_put 60 = .ok (.aload 4, 2) := by decide +kernel
theorem dX6_put_62 : decode cX6_put 62 = .ok (.iload_n 3, 1) := by decide +kernel
theorem dX6_put_63 : decode cX6_put 63 = .ok (.invokevirtual 210, 3) := by decide +kernel
theorem dX6_put_66 : decode cX6_put 66 = .ok (.iastore, 1) := by decide +kernel
theorem dX6_put_67 : decode cX6_put 67 = .ok (.iconst 1, 1) := by decide +kernel
theorem dX6_put_68 : decode cX6_put 68 = .ok (.ireturn, 1) := by decide +kernel
set_option maxRecDepth 20000 in
theorem ggX6_cell_X6_isSheet : GoodIn wsX6_cell wsX6_isSheet := goodIn_r _ [9, 10, 11, 8, 12] (by decide +kernel) (by decide +kernel)
set_option maxRecDepth 20000 in
theorem gX6_cell_X6_isSheet : GoodIn wsX6_cell (va_wsS RX6 54 yX6_isSheet wsX6_isSheet) := goodIn_app (goodIn_of _ (by decide +kernel)) ggX6_cell_X6_isSheet
set_option maxRecDepth 20000 in
theorem ggX6_cell_X6_isBelow : GoodIn wsX6_cell wsX6_isBelow := goodIn_r _ [12] (by decide +kernel) (by decide +kernel)
set_option maxRecDepth 20000 in
theorem gX6_cell_X6_isBelow : GoodIn wsX6_cell (va_wsS RX6 58 yX6_isBelow wsX6_isBelow) := goodIn_app (goodIn_of _ (by decide +kernel)) ggX6_cell_X6_isBelow
set_option maxRecDepth 20000 in
theorem ggX6_cell_X6_faultAs : GoodIn wsX6_cell wsX6_faultAs := goodIn_r _ [15, 16, 17, 26, 27, 28, 29] (by decide +kernel) (by decide +kernel)
set_option maxRecDepth 20000 in
theorem gX6_cell_X6_faultAs : GoodIn wsX6_cell (va_wsS RX6 62 yX6_faultAs wsX6_faultAs) := goodIn_app (goodIn_of _ (by decide +kernel)) ggX6_cell_X6_faultAs
theorem dX6_cell_0 : decode cX6_cell 0 = .ok (.aload_n 0, 1) := by decide +kernel
theorem dX6_cell_1 : decode cX6_cell 1 = .ok (.iconst 0, 1) := by decide +kernel
theorem dX6_cell_2 : decode cX6_cell 2 = .ok (.putfield 50, 3) := by decide +kernel
theorem dX6_cell_5 : decode cX6_cell 5 = .ok (.iload_n 1, 1) := by decide +kernel
theorem dX6_cell_6 : decode cX6_cell 6 = .ok (.invokestatic 54, 3) := by decide +kernel
theorem dX6_cell_9 : decode cX6_cell 9 = .ok (.ifCond .eq 11, 3) := by decide +kernel
theorem dX6_cell_12 : decode cX6_cell 12 = .ok (.iload_n 3, 1) := by decide +kernel
theorem dX6_cell_13 : decode cX6_cell 13 = .ok (.iconst 3, 1) := by decide +kernel
theorem dX6_cell_14 : decode cX6_cell 14 = .ok (.invokestatic 58, 3) := by decide +kernel
theorem dX6_cell_17 : decode cX6_cell 17 = .ok (.ifCond .ne 7, 3) := by decide +kernel
theorem dX6_cell_20 : decode cX6_cell 20 = .ok (.ldc2_w 150, 3) := by decide +kernel
theorem dX6_cell_23 : decode cX6_cell 23 = .ok (.lreturn, 1) := by decide +kernel
theorem dX6_cell_24 : decode cX6_cell 24 = .ok (.aload_n 0, 1) := by decide +kernel
theorem dX6_cell_25 : decode cX6_cell 25 = .ok (.getfield 13, 3) := by decide +kernel
theorem dX6_cell_28 : decode cX6_cell 28 = .ok (.iload_n 1, 1) := by decide +kernel
theorem dX6_cell_29 : decode cX6_cell 29 = .ok (.aaload, 1) := by decide +kernel
theorem dX6_cell_30 : decode cX6_cell 30 = .ok (.astore 4, 2) := by decide +kernel
theorem dX6_cell_32 : decode cX6_cell 32 = .ok (.aload_n 0, 1) := by decide +kernel
theorem dX6_cell_33 : decode cX6_cell 33 = .ok (.aload 4, 2) := by decide +kernel
theorem dX6_cell_35 : decode cX6_cell 35 = .ok (.iload_n 3, 1) := by decide +kernel
theorem dX6_cell_36 : decode cX6_cell 36 = .ok (.invokestatic 62, 3) := by decide +kernel
theorem dX6_cell_39 : decode cX6_cell 39 = .ok (.putfield 50, 3) := by decide +kernel
theorem dX6_cell_42 : decode cX6_cell 42 = .ok (.aload_n 0, 1) := by decide +kernel
theorem dX6_cell_43 : decode cX6_cell 43 = .ok (.getfield 50, 3) := by decide +kernel
theorem dX6_cell_46 : decode cX6_cell 46 = .ok (.ifCond .eq 7, 3) := by decide +kernel
theorem dX6_cell_49 : decode cX6_cell 49 = .ok (.ldc2_w 150, 3) := by decide +kernel
theorem dX6_cell_52 : decode cX6_cell 52 = .ok (.lreturn, 1) := by decide +kernel
theorem dX6_cell_53 : decode cX6_cell 53 = .ok (.iload_n 2, 1) := by decide +kernel
theorem dX6_cell_54 : decode cX6_cell 54 = .ok (.aload 4, 2) := by decide +kernel
theorem dX6_cell_56 : decode cX6_cell 56 = .ok (.getfield 207, 3) := by decide +kernel
theorem dX6_cell_59 : decode cX6_cell 59 = .ok (.invokestatic 58, 3) := by decide +kernel
theorem dX6_cell_62 : decode cX6_cell 62 = .ok (.ifCond .ne 12, 3) := by decide +kernel
theorem dX6_cell_65 : decode cX6_cell 65 = .ok (.aload_n 0, 1) := by decide +kernel
theorem dX6_cell_66 : decode cX6_cell 66 = .ok (.iconst 3, 1) := by decide +kernel
theorem dX6_cell_67 : decode cX6_cell 67 = .ok (.putfield 50, 3) := by decide +kernel
theorem dX6_cell_70 : decode cX6_cell 70 = .ok (.ldc2_w 150, 3) := by decide +kernel
theorem dX6_cell_73 : decode cX6_cell 73 = .ok (.lreturn, 1) := by decide +kernel
theorem dX6_cell_74 : decode cX6_cell 74 = .ok (.aload 4, 2) := by decide +kernel
theorem dX6_cell_76 : decode cX6_cell 76 = .ok (.getfield 134, 3) := by decide +kernel
theorem dX6_cell_79 : decode cX6_cell 79 = .ok (.iload_n 2, 1) := by decide +kernel
theorem dX6_cell_80 : decode cX6_cell 80 = .ok (.iaload, 1) := by decide +kernel
theorem dX6_cell_81 : decode cX6_cell 81 = .ok (.i2l, 1) := by decide +kernel
theorem dX6_cell_82 : decode cX6_cell 82 = .ok (.lreturn, 1) := by decide +kernel
set_option maxRecDepth 20000 in
theorem ggX6_copy_X6_isSheet : GoodIn wsX6_copy wsX6_isSheet := goodIn_r _ [13, 14, 15, 12, 16] (by decide +kernel) (by decide +kernel)
set_option maxRecDepth 20000 in
theorem gX6_copy_X6_isSheet : GoodIn wsX6_copy (va_wsS RX6 54 yX6_isSheet wsX6_isSheet) := goodIn_app (goodIn_of _ (by decide +kernel)) ggX6_copy_X6_isSheet
set_option maxRecDepth 20000 in
theorem ggX6_copy_X6_failed : GoodIn wsX6_copy wsX6_failed := goodIn_r _ [20, 1, 27, 28, 29, 30, 31, 32, 33, 34] (by decide +kernel) (by decide +kernel)
set_option maxRecDepth 20000 in
theorem gX6_copy_X6_failed : GoodIn wsX6_copy (wsV RX6 66 RX6 yX6_failed wsX6_failed) := goodIn_app (goodIn_of _ (by decide +kernel)) ggX6_copy_X6_failed
set_option maxRecDepth 20000 in
theorem ggX6_copy_X3_spans : GoodIn wsX6_copy wsX3_spans := goodIn_r _ [25, 26, 35, 36, 37, 38] (by decide +kernel) (by decide +kernel)
set_option maxRecDepth 20000 in
theorem gX6_copy_X3_spans : GoodIn wsX6_copy (wsV RX6 70 RX3 yX3_spans wsX3_spans) := goodIn_app (goodIn_of _ (by decide +kernel)) ggX6_copy_X3_spans
theorem dX6_copy_0 : decode cX6_copy 0 = .ok (.aload_n 0, 1) := by decide +kernel
theorem dX6_copy_1 : decode cX6_copy 1 = .ok (.iconst 0, 1) := by decide +kernel
theorem dX6_copy_2 : decode cX6_copy 2 = .ok (.putfield 50, 3) := by decide +kernel
theorem dX6_copy_5 : decode cX6_copy 5 = .ok (.iload_n 1, 1) := by decide +kernel
theorem dX6_copy_6 : decode cX6_copy 6 = .ok (.invokestatic 54, 3) := by decide +kernel
theorem dX6_copy_9 : decode cX6_copy 9 = .ok (.ifCond .eq 10, 3) := by decide +kernel
theorem dX6_copy_12 : decode cX6_copy 12 = .ok (.iload_n 3, 1) := by decide +kernel
theorem dX6_copy_13 : decode cX6_copy 13 = .ok (.invokestatic 54, 3) := by decide +kernel
theorem dX6_copy_16 : decode cX6_copy 16 = .ok (.ifCond .ne 5, 3) := by decide +kernel
theorem dX6_copy_19 : decode cX6_copy 19 = .ok (.iconst (-1), 1) := by decide +kernel
theorem dX6_copy_20 : decode cX6_copy 20 = .ok (.ireturn, 1) := by decide +kernel
theorem dX6_copy_21 : decode cX6_copy 21 = .ok (.aload_n 0, 1) := by decide +kernel
theorem dX6_copy_22 : decode cX6_copy 22 = .ok (.getfield 13, 3) := by decide +kernel
theorem dX6_copy_25 : decode cX6_copy 25 = .ok (.iload_n 1, 1) := by decide +kernel
theorem dX6_copy_26 : decode cX6_copy 26 = .ok (.aaload, 1) := by decide +kernel
theorem dX6_copy_27 : decode cX6_copy 27 = .ok (.astore 6, 2) := by decide +kernel
theorem dX6_copy_29 : decode cX6_copy 29 = .ok (.aload_n 0, 1) := by decide +kernel
theorem dX6_copy_30 : decode cX6_copy 30 = .ok (.getfield 13, 3) := by decide +kernel
theorem dX6_copy_33 : decode cX6_copy 33 = .ok (.iload_n 3, 1) := by decide +kernel
theorem dX6_copy_34 : decode cX6_copy 34 = .ok (.aaload, 1) := by decide +kernel
theorem dX6_copy_35 : decode cX6_copy 35 = .ok (.astore 7, 2) := by decide +kernel
theorem dX6_copy_37 : decode cX6_copy 37 = .ok (.aload 6, 2) := by decide +kernel
theorem dX6_copy_39 : decode cX6_copy 39 = .ok (.getfield 204, 3) := by decide +kernel
theorem dX6_copy_42 : decode cX6_copy 42 = .ok (.ifCond .eq 11, 3) := by decide +kernel
theorem dX6_copy_45 : decode cX6_copy 45 = .ok (.aload 7, 2) := by decide +kernel
theorem dX6_copy_47 : decode cX6_copy 47 = .ok (.getfield 204, 3) := by decide +kernel
theorem dX6_copy_50 : decode cX6_copy 50 = .ok (.ifCond .ne 9, 3) := by decide +kernel
theorem dX6_copy_53 : decode cX6_copy 53 = .ok (.aload_n 0, 1) := by decide +kernel
theorem dX6_copy_54 : decode cX6_copy 54 = .ok (.iconst 1, 1) := by decide +kernel
theorem dX6_copy_55 : decode cX6_copy 55 = .ok (.invokevirtual 66, 3) := by decide +kernel
theorem dX6_copy_58 : decode cX6_copy 58 = .ok (.ireturn, 1) := by decide +kernel
theorem dX6_copy_59 : decode cX6_copy 59 = .ok (.aload 6, 2) := by decide +kernel
theorem dX6_copy_61 : decode cX6_copy 61 = .ok (.getfield 213, 3) := by decide +kernel
theorem dX6_copy_64 : decode cX6_copy 64 = .ok (.aload 7, 2) := by decide +kernel
theorem dX6_copy_66 : decode cX6_copy 66 = .ok (.getfield 213, 3) := by decide +kernel
theorem dX6_copy_69 : decode cX6_copy 69 = .ok (.if_icmp .eq 9, 3) := by decide +kernel
theorem dX6_copy_72 : decode cX6_copy 72 = .ok (.aload_n 0, 1) := by decide +kernel
theorem dX6_copy_73 : decode cX6_copy 73 = .ok (.iconst 2, 1) := by decide +kernel
theorem dX6_copy_74 : decode cX6_copy 74 = .ok (.invokevirtual 66, 3) := by decide +kernel
theorem dX6_copy_77 : decode cX6_copy 77 = .ok (.ireturn, 1) := by decide +kernel
theorem dX6_copy_78 : decode cX6_copy 78 = .ok (.aload 6, 2) := by decide +kernel
theorem dX6_copy_80 : decode cX6_copy 80 = .ok (.iload_n 2, 1) := by decide +kernel
theorem dX6_copy_81 : decode cX6_copy 81 = .ok (.iload 5, 2) := by decide +kernel
theorem dX6_copy_83 : decode cX6_copy 83 = .ok (.invokevirtual 70, 3) := by decide +kernel
theorem dX6_copy_86 : decode cX6_copy 86 = .ok (.ifCond .eq 15, 3) := by decide +kernel
theorem dX6_copy_89 : decode cX6_copy 89 = .ok (.aload 7, 2) := by decide +kernel
theorem dX6_copy_91 : decode cX6_copy 91 = .ok (.iload 4, 2) := by decide +kernel
theorem dX6_copy_93 : decode cX6_copy 93 = .ok (.iload 5, 2) := by decide +kernel
theorem dX6_copy_95 : decode cX6_copy 95 = .ok (.invokevirtual 70, 3) := by decide +kernel
theorem dX6_copy_98 : decode cX6_copy 98 = .ok (.ifCond .ne 9, 3) := by decide +kernel
theorem dX6_copy_101 : decode cX6_copy 101 = .ok (.aload_n 0, 1) := by decide +kernel
theorem dX6_copy_102 : decode cX6_copy 102 = .ok (.iconst 3, 1) := by decide +kernel
theorem dX6_copy_103 : decode cX6_copy 103 = .ok (.invokevirtual 66, 3) := by decide +kernel
theorem dX6_copy_106 : decode cX6_copy 106 = .ok (.ireturn, 1) := by decide +kernel
theorem dX6_copy_107 : decode cX6_copy 107 = .ok (.aload 6, 2) := by decide +kernel
theorem dX6_copy_109 : decode cX6_copy 109 = .ok (.getfield 134, 3) := by decide +kernel
theorem dX6_copy_112 : decode cX6_copy 112 = .ok (.iload_n 2, 1) := by decide +kernel
theorem dX6_copy_113 : decode cX6_copy 113 = .ok (.aload 7, 2) := by decide +kernel
theorem dX6_copy_115 : decode cX6_copy 115 = .ok (.getfield 134, 3) := by decide +kernel
theorem dX6_copy_118 : decode cX6_copy 118 = .ok (.iload 4, 2) := by decide +kernel
theorem dX6_copy_120 : decode cX6_copy 120 = .ok (.iload 5, 2) := by decide +kernel
theorem dX6_copy_122 : decode cX6_copy 122 = .ok (.invokestatic 216, 3) := by decide +kernel
theorem dX6_copy_125 : decode cX6_copy 125 = .ok (.iload 5, 2) := by decide +kernel
theorem dX6_copy_127 : decode cX6_copy 127 = .ok (.ireturn, 1) := by decide +kernel
set_option maxRecDepth 20000 in
theorem ggX6_tell_X2_hasSubject : GoodIn wsX6_tell wsX2_hasSubject := goodIn_r _ [7, 8, 9, 10, 11, 38, 39, 40, 41, 42] (by decide +kernel) (by decide +kernel)
set_option maxRecDepth 20000 in
theorem gX6_tell_X2_hasSubject : GoodIn wsX6_tell (wsV RX6 99 RX2 yX2_hasSubject wsX2_hasSubject) := goodIn_app (goodIn_of _ (by decide +kernel)) ggX6_tell_X2_hasSubject
set_option maxRecDepth 20000 in
theorem ggX6_tell_X6_tellHoly : GoodIn wsX6_tell wsX6_tellHoly := goodIn_r _ [15, 16, 17, 18, 10, 19, 20, 21, 22, 23, 24, 25, 26, 27, 28, 1, 29, 30, 31, 32, 33, 34, 35, 36, 37, 38, 39, 40, 41, 42] (by decide +kernel) (by decide +kernel)
set_option maxRecDepth 20000 in
theorem gX6_tell_X6_tellHoly : GoodIn wsX6_tell (wsV RX6 222 RX6 yX6_tellHoly wsX6_tellHoly) := goodIn_app (goodIn_of _ (by decide +kernel)) ggX6_tell_X6_tellHoly
set_option maxRecDepth 20000 in
theorem ggX6_tell_X6_tellMeek : GoodIn wsX6_tell wsX6_tellMeek := goodIn_r _ [24, 16, 17, 18, 10, 19, 20, 25, 26, 27, 28, 1, 29, 30, 31, 32, 33, 34, 35, 36, 37, 38, 39, 40, 41, 42] (by decide +kernel) (by decide +kernel)
set_option maxRecDepth 20000 in
theorem gX6_tell_X6_tellMeek : GoodIn wsX6_tell (wsV RX6 225 RX6 yX6_tellMeek wsX6_tellMeek) := goodIn_app (goodIn_of _ (by decide +kernel)) ggX6_tell_X6_tellMeek
set_option maxRecDepth 20000 in
theorem ggX6_tell_X6_tellSubject : GoodIn wsX6_tell wsX6_tellSubject := goodIn_r _ [28, 1, 29, 16, 17, 18, 10, 19, 20, 30, 31, 32, 33, 34, 35, 36, 37, 38, 39, 40, 41, 42] (by decide +kernel) (by decide +kernel)
set_option maxRecDepth 20000 in
theorem gX6_tell_X6_tellSubject : GoodIn wsX6_tell (wsV RX6 228 RX6 yX6_tellSubject wsX6_tellSubject) := goodIn_app (goodIn_of _ (by decide +kernel)) ggX6_tell_X6_tellSubject
theorem dX6_tell_0 : decode cX6_tell 0 = .ok (.aload_n 0, 1) := by decide +kernel
theorem dX6_tell_1 : decode cX6_tell 1 = .ok (.getfield 20, 3) := by decide +kernel
theorem dX6_tell_4 : decode cX6_tell 4 = .ok (.iload_n 1, 1) := by decide +kernel
theorem dX6_tell_5 : decode cX6_tell 5 = .ok (.invokevirtual 99, 3) := by decide +kernel
theorem dX6_tell_8 : decode cX6_tell 8 = .ok (.ifCond .ne 5, 3) := by decide +kernel
theorem dX6_tell_11 : decode cX6_tell 11 = .ok (.iconst (-1), 1) := by decide +kernel
theorem dX6_tell_12 : decode cX6_tell 12 = .ok (.ireturn, 1) := by decide +kernel
theorem dX6_tell_13 : decode cX6_tell 13 = .ok (.aload_n 0, 1) := by decide +kernel
theorem dX6_tell_14 : decode cX6_tell 14 = .ok (.getfield 20, 3) := by decide +kernel
theorem dX6_tell_17 : decode cX6_tell 17 = .ok (.getfield 102, 3) := by decide +kernel
theorem dX6_tell_20 : decode cX6_tell 20 = .ok (.iload_n 1, 1) := by decide +kernel
theorem dX6_tell_21 : decode cX6_tell 21 = .ok (.iaload, 1) := by decide +kernel
theorem dX6_tell_22 : decode cX6_tell 22 = .ok (.lookupswitch 38 #[(1, 32), (2, 26)], 26) := by decide +kernel
theorem dX6_tell_48 : decode cX6_tell 48 = .ok (.aload_n 0, 1) := by decide +kernel
theorem dX6_tell_49 : decode cX6_tell 49 = .ok (.iload_n 1, 1) := by decide +kernel
theorem dX6_tell_50 : decode cX6_tell 50 = .ok (.invokevirtual 222, 3) := by decide +kernel
theorem dX6_tell_53 : decode cX6_tell 53 = .ok (.ireturn, 1) := by decide +kernel
theorem dX6_tell_54 : decode cX6_tell 54 = .ok (.aload_n 0, 1) := by decide +kernel
theorem dX6_tell_55 : decode cX6_tell 55 = .ok (.iload_n 1, 1) := by decide +kernel
theorem dX6_tell_56 : decode cX6_tell 56 = .ok (.invokevirtual 225, 3) := by decide +kernel
theorem dX6_tell_59 : decode cX6_tell 59 = .ok (.ireturn, 1) := by decide +kernel
theorem dX6_tell_60 : decode cX6_tell 60 = .ok (.aload_n 0, 1) := by decide +kernel
theorem dX6_tell_61 : decode cX6_tell 61 = .ok (.iload_n 1, 1) := by decide +kernel
theorem dX6_tell_62 : decode cX6_tell 62 = .ok (.invokevirtual 228, 3) := by decide +kernel
theorem dX6_tell_65 : decode cX6_tell 65 = .ok (.ireturn, 1) := by decide +kernel
set_option maxRecDepth 20000 in
theorem ggX6_name_X2_hasSubject : GoodIn wsX6_name wsX2_hasSubject := goodIn_r _ [7, 8, 9, 10, 11, 25, 26, 27, 28, 29] (by decide +kernel) (by decide +kernel)
set_option maxRecDepth 20000 in
theorem gX6_name_X2_hasSubject : GoodIn wsX6_name (wsV RX6 99 RX2 yX2_hasSubject wsX2_hasSubject) := goodIn_app (goodIn_of _ (by decide +kernel)) ggX6_name_X2_hasSubject
set_option maxRecDepth 20000 in
theorem ggX6_name_X6_leave : GoodIn wsX6_name wsX6_leave := goodIn_r _ [15, 16, 17, 18, 19, 20, 21, 22, 23, 24] (by decide +kernel) (by decide +kernel)
set_option maxRecDepth 20000 in
theorem gX6_name_X6_leave : GoodIn wsX6_name (wsV RX6 231 RX6 yX6_leave wsX6_leave) := goodIn_app (goodIn_of _ (by decide +kernel)) ggX6_name_X6_leave
theorem dX6_name_0 : decode cX6_name 0 = .ok (.aload_n 0, 1) := by decide +kernel
theorem dX6_name_1 : decode cX6_name 1 = .ok (.getfield 20, 3) := by decide +kernel
theorem dX6_name_4 : decode cX6_name 4 = .ok (.iload_n 1, 1) := by decide +kernel
theorem dX6_name_5 : decode cX6_name 5 = .ok (.invokevirtual 99, 3) := by decide +kernel
theorem dX6_name_8 : decode cX6_name 8 = .ok (.ifCond .ne 5, 3) := by decide +kernel
theorem dX6_name_11 : decode cX6_name 11 = .ok (.iconst (-1), 1) := by decide +kernel
theorem dX6_name_12 : decode cX6_name 12 = .ok (.ireturn, 1) := by decide +kernel
theorem dX6_name_13 : decode cX6_name 13 = .ok (.aload_n 0, 1) := by decide +kernel
theorem dX6_name_14 : decode cX6_name 14 = .ok (.getfield 20, 3) := by decide +kernel
theorem dX6_name_17 : decode cX6_name 17 = .ok (.getfield 102, 3) := by decide +kernel
theorem dX6_name_20 : decode cX6_name 20 = .ok (.iload_n 1, 1) := by decide +kernel
theorem dX6_name_21 : decode cX6_name 21 = .ok (.iaload, 1) := by decide +kernel
theorem dX6_name_22 : decode cX6_name 22 = .ok (.iconst 2, 1) := by decide +kernel
theorem dX6_name_23 : decode cX6_name 23 = .ok (.if_icmp .ne 11, 3) := by decide +kernel
theorem dX6_name_26 : decode cX6_name 26 = .ok (.aload_n 0, 1) := by decide +kernel
theorem dX6_name_27 : decode cX6_name 27 = .ok (.iconst 5, 1) := by decide +kernel
theorem dX6_name_28 : decode cX6_name 28 = .ok (.invokevirtual 231, 3) := by decide +kernel
theorem dX6_name_31 : decode cX6_name 31 = .ok (.bipush 70, 2) := by decide +kernel
theorem dX6_name_33 : decode cX6_name 33 = .ok (.ireturn, 1) := by decide +kernel
theorem dX6_name_34 : decode cX6_name 34 = .ok (.aload_n 0, 1) := by decide +kernel
theorem dX6_name_35 : decode cX6_name 35 = .ok (.iconst 4, 1) := by decide +kernel
theorem dX6_name_36 : decode cX6_name 36 = .ok (.invokevirtual 231, 3) := by decide +kernel
theorem dX6_name_39 : decode cX6_name 39 = .ok (.iload_n 1, 1) := by decide +kernel
theorem dX6_name_40 : decode cX6_name 40 = .ok (.ireturn, 1) := by decide +kernel
set_option maxRecDepth 20000 in
theorem ggX6_as_X2_hasSubject : GoodIn wsX6_as wsX2_hasSubject := goodIn_r _ [8, 9, 10, 11, 12, 26, 27, 28, 29, 30] (by decide +kernel) (by decide +kernel)
set_option maxRecDepth 20000 in
theorem gX6_as_X2_hasSubject : GoodIn wsX6_as (wsV RX6 99 RX2 yX2_hasSubject wsX2_hasSubject) := goodIn_app (goodIn_of _ (by decide +kernel)) ggX6_as_X2_hasSubject
set_option maxRecDepth 20000 in
theorem ggX6_as_X6_isBelow : GoodIn wsX6_as wsX6_isBelow := goodIn_r _ [12] (by decide +kernel) (by decide +kernel)
set_option maxRecDepth 20000 in
theorem gX6_as_X6_isBelow : GoodIn wsX6_as (va_wsS RX6 58 yX6_isBelow wsX6_isBelow) := goodIn_app (goodIn_of _ (by decide +kernel)) ggX6_as_X6_isBelow
set_option maxRecDepth 20000 in
theorem ggX6_as_X6_failed : GoodIn wsX6_as wsX6_failed := goodIn_r _ [17, 1, 18, 19, 20, 21, 22, 23, 24, 25] (by decide +kernel) (by decide +kernel)
set_option maxRecDepth 20000 in
theorem gX6_as_X6_failed : GoodIn wsX6_as (wsV RX6 66 RX6 yX6_failed wsX6_failed) := goodIn_app (goodIn_of _ (by decide +kernel)) ggX6_as_X6_failed
theorem dX6_as_0 : decode cX6_as 0 = .ok (.aload_n 0, 1) := by decide +kernel
theorem dX6_as_1 : decode cX6_as 1 = .ok (.iconst 0, 1) := by decide +kernel
theorem dX6_as_2 : decode cX6_as 2 = .ok (.putfield 50, 3) := by decide +kernel
theorem dX6_as_5 : decode cX6_as 5 = .ok (.aload_n 0, 1) := by decide +kernel
theorem dX6_as_6 : decode cX6_as 6 = .ok (.getfield 20, 3) := by decide +kernel
theorem dX6_as_9 : decode cX6_as 9 = .ok (.iload_n 1, 1) := by decide +kernel
theorem dX6_as_10 : decode cX6_as 10 = .ok (.invokevirtual 99, 3) := by decide +kernel
theorem dX6_as_13 : decode cX6_as 13 = .ok (.ifCond .ne 5, 3) := by decide +kernel
theorem dX6_as_16 : decode cX6_as 16 = .ok (.iconst (-1), 1) := by decide +kernel
theorem dX6_as_17 : decode cX6_as 17 = .ok (.ireturn, 1) := by decide +kernel
theorem dX6_as_18 : decode cX6_as 18 = .ok (.iload_n 2, 1) := by decide +kernel
theorem dX6_as_19 : decode cX6_as 19 = .ok (.iconst 3, 1) := by decide +kernel
theorem dX6_as_20 : decode cX6_as 20 = .ok (.invokestatic 58, 3) := by decide +kernel
theorem dX6_as_23 : decode cX6_as 23 = .ok (.ifCond .ne 6, 3) := by decide +kernel
theorem dX6_as_26 : decode cX6_as 26 = .ok (.bipush (-2), 2) := by decide +kernel
theorem dX6_as_28 : decode cX6_as 28 = .ok (.ireturn, 1) := by decide +kernel
theorem dX6_as_29 : decode cX6_as 29 = .ok (.aload_n 0, 1) := by decide +kernel
theorem dX6_as_30 : decode cX6_as 30 = .ok (.getfield 20, 3) := by decide +kernel
theorem dX6_as_33 : decode cX6_as 33 = .ok (.getfield 102, 3) := by decide +kernel
theorem dX6_as_36 : decode cX6_as 36 = .ok (.iload_n 1, 1) := by decide +kernel
theorem dX6_as_37 : decode cX6_as 37 = .ok (.iaload, 1) := by decide +kernel
theorem dX6_as_38 : decode cX6_as 38 = .ok (.iload_n 2, 1) := by decide +kernel
theorem dX6_as_39 : decode cX6_as 39 = .ok (.if_icmp .lt 7, 3) := by decide +kernel
theorem dX6_as_42 : decode cX6_as 42 = .ok (.iconst 1, 1) := by decide +kernel
theorem dX6_as_43 : decode cX6_as 43 = .ok (.goto 8, 3) := by decide +kernel
theorem dX6_as_46 : decode cX6_as 46 = .ok (.aload_n 0, 1) := by decide +kernel
theorem dX6_as_47 : decode cX6_as 47 = .ok (.iconst 2, 1) := by decide +kernel
theorem dX6_as_48 : decode cX6_as 48 = .ok (.invokevirtual 66, 3) := by decide +kernel
theorem dX6_as_51 : decode cX6_as 51 = .ok (.ireturn, 1) := by decide +kernel
theorem dX6_trace_0 : decode cX6_trace 0 = .ok (.aload_n 0, 1) := by decide +kernel
theorem dX6_trace_1 : decode cX6_trace 1 = .ok (.getfield 234, 3) := by decide +kernel
theorem dX6_trace_4 : decode cX6_trace 4 = .ok (.ireturn, 1) := by decide +kernel
theorem dX6_fault_0 : decode cX6_fault 0 = .ok (.aload_n 0, 1) := by decide +kernel
theorem dX6_fault_1 : decode cX6_fault 1 = .ok (.getfield 50, 3) := by decide +kernel
theorem dX6_fault_4 : decode cX6_fault 4 = .ok (.ireturn, 1) := by decide +kernel
set_option maxRecDepth 20000 in
theorem ggX6_many_X2_allPapers : GoodIn wsX6_many wsX2_allPapers := goodIn_r _ [10, 11, 12, 21, 22, 23, 24, 25] (by decide +kernel) (by decide +kernel)
set_option maxRecDepth 20000 in
theorem gX6_many_X2_allPapers : GoodIn wsX6_many (wsV RX6 237 RX2 yX2_allPapers wsX2_allPapers) := goodIn_app (goodIn_of _ (by decide +kernel)) ggX6_many_X2_allPapers
theorem dX6_many_0 : decode cX6_many 0 = .ok (.iload_n 1, 1) := by decide +kernel
theorem dX6_many_1 : decode cX6_many 1 = .ok (.tableswitch 63 0 3 #[31, 39, 47, 55], 31) := by decide +kernel
theorem dX6_many_32 : decode cX6_many 32 = .ok (.aload_n 0, 1) := by decide +kernel
theorem dX6_many_33 : decode cX6_many 33 = .ok (.getfield 20, 3) := by decide +kernel
theorem dX6_many_36 : decode cX6_many 36 = .ok (.getfield 89, 3) := by decide +kernel
theorem dX6_many_39 : decode cX6_many 39 = .ok (.ireturn, 1) := by decide +kernel
theorem dX6_many_40 : decode cX6_many 40 = .ok (.aload_n 0, 1) := by decide +kernel
theorem dX6_many_41 : decode cX6_many 41 = .ok (.getfield 20, 3) := by decide +kernel
theorem dX6_many_44 : decode cX6_many 44 = .ok (.getfield 167, 3) := by decide +kernel
theorem dX6_many_47 : decode cX6_many 47 = .ok (.ireturn, 1) := by decide +kernel
theorem dX6_many_48 : decode cX6_many 48 = .ok (.aload_n 0, 1) := by decide +kernel
theorem dX6_many_49 : decode cX6_many 49 = .ok (.getfield 20, 3) := by decide +kernel
theorem dX6_many_52 : decode cX6_many 52 = .ok (.invokevirtual 237, 3) := by decide +kernel
theorem dX6_many_55 : decode cX6_many 55 = .ok (.ireturn, 1) := by decide +kernel
theorem dX6_many_56 : decode cX6_many 56 = .ok (.aload_n 0, 1) := by decide +kernel
theorem dX6_many_57 : decode cX6_many 57 = .ok (.getfield 27, 3) := by decide +kernel
theorem dX6_many_60 : decode cX6_many 60 = .ok (.getfield 86, 3) := by decide +kernel
theorem dX6_many_63 : decode cX6_many 63 = .ok (.ireturn, 1) := by decide +kernel
theorem dX6_many_64 : decode cX6_many 64 = .ok (.bipush (-2), 2) := by decide +kernel
theorem dX6_many_66 : decode cX6_many 66 = .ok (.ireturn, 1) := by decide +kernel
set_option maxRecDepth 20000 in
theorem ggX6_tellSubject_X6_leave : GoodIn wsX6_tellSubject wsX6_leave := goodIn_r _ [7, 8, 9, 10, 11, 12, 13, 14, 15, 16] (by decide +kernel) (by decide +kernel)
set_option maxRecDepth 20000 in
theorem gX6_tellSubject_X6_leave : GoodIn wsX6_tellSubject (wsV RX6 231 RX6 yX6_leave wsX6_leave) := goodIn_app (goodIn_of _ (by decide +kernel)) ggX6_tellSubject_X6_leave
theorem dX6_tellSubject_0 : decode cX6_tellSubject 0 = .ok (.aload_n 0, 1) := by decide +kernel
theorem dX6_tellSubject_1 : decode cX6_tellSubject 1 = .ok (.iconst 1, 1) := by decide +kernel
theorem dX6_tellSubject_2 : decode cX6_tellSubject 2 = .ok (.invokevirtual 231, 3) := by decide +kernel
theorem dX6_tellSubject_5 : decode cX6_tellSubject 5 = .ok (.aload_n 0, 1) := by decide +kernel
theorem dX6_tellSubject_6 : decode cX6_tellSubject 6 = .ok (.getfield 20, 3) := by decide +kernel
theorem dX6_tellSubject_9 : decode cX6_tellSubject 9 = .ok (.getfield 106, 3) := by decide +kernel
theorem dX6_tellSubject_12 : decode cX6_tellSubject 12 = .ok (.iload_n 1, 1) := by decide +kernel
theorem dX6_tellSubject_13 : decode cX6_tellSubject 13 = .ok (.iaload, 1) := by decide +kernel
theorem dX6_tellSubject_14 : decode cX6_tellSubject 14 = .ok (.ireturn, 1) := by decide +kernel
set_option maxRecDepth 20000 in
theorem ggX6_tellMeek_X6_leave : GoodIn wsX6_tellMeek wsX6_leave := goodIn_r _ [5, 6, 13, 14, 15, 16, 17, 18, 19, 20] (by decide +kernel) (by decide +kernel)
set_option maxRecDepth 20000 in
theorem gX6_tellMeek_X6_leave : GoodIn wsX6_tellMeek (wsV RX6 231 RX6 yX6_leave wsX6_leave) := goodIn_app (goodIn_of _ (by decide +kernel)) ggX6_tellMeek_X6_leave
set_option maxRecDepth 20000 in
theorem ggX6_tellMeek_X6_tellSubject : GoodIn wsX6_tellMeek wsX6_tellSubject := goodIn_r _ [10, 11, 12, 1, 2, 3, 4, 5, 6, 13, 14, 15, 16, 17, 18, 19, 20, 21, 22, 23, 24, 25] (by decide +kernel) (by decide +kernel)
set_option maxRecDepth 20000 in
theorem gX6_tellMeek_X6_tellSubject : GoodIn wsX6_tellMeek (wsV RX6 228 RX6 yX6_tellSubject wsX6_tellSubject) := goodIn_app (goodIn_of _ (by decide +kernel)) ggX6_tellMeek_X6_tellSubject
theorem dX6_tellMeek_0 : decode cX6_tellMeek 0 = .ok (.aload_n 0, 1) := by decide +kernel
theorem dX6_tellMeek_1 : decode cX6_tellMeek 1 = .ok (.iconst 2, 1) := by decide +kernel
theorem dX6_tellMeek_2 : decode cX6_tellMeek 2 = .ok (.invokevirtual 231, 3) := by decide +kernel
theorem dX6_tellMeek_5 : decode cX6_tellMeek 5 = .ok (.aload_n 0, 1) := by decide +kernel
theorem dX6_tellMeek_6 : decode cX6_tellMeek 6 = .ok (.iload_n 1, 1) := by decide +kernel
theorem dX6_tellMeek_7 : decode cX6_tellMeek 7 = .ok (.invokevirtual 228, 3) := by decide +kernel
theorem dX6_tellMeek_10 : decode cX6_tellMeek 10 = .ok (.bipush 100, 2) := by decide +kernel
theorem dX6_tellMeek_12 : decode cX6_tellMeek 12 = .ok (.iadd, 1) := by decide +kernel
theorem dX6_tellMeek_13 : decode cX6_tellMeek 13 = .ok (.ireturn, 1) := by decide +kernel
set_option maxRecDepth 20000 in
theorem ggX6_tellHoly_X6_leave : GoodIn wsX6_tellHoly wsX6_leave := goodIn_r _ [5, 6, 17, 18, 19, 20, 21, 22, 23, 24] (by decide +kernel) (by decide +kernel)
set_option maxRecDepth 20000 in
theorem gX6_tellHoly_X6_leave : GoodIn wsX6_tellHoly (wsV RX6 231 RX6 yX6_leave wsX6_leave) := goodIn_app (goodIn_of _ (by decide +kernel)) ggX6_tellHoly_X6_leave
set_option maxRecDepth 20000 in
theorem ggX6_tellHoly_X6_tellMeek : GoodIn wsX6_tellHoly wsX6_tellMeek := goodIn_r _ [10, 1, 2, 3, 4, 5, 6, 11, 12, 13, 14, 15, 16, 17, 18, 19, 20, 21, 22, 23, 24, 25, 26, 27, 28, 29] (by decide +kernel) (by decide +kernel)
set_option maxRecDepth 20000 in
theorem gX6_tellHoly_X6_tellMeek : GoodIn wsX6_tellHoly (wsV RX6 225 RX6 yX6_tellMeek wsX6_tellMeek) := goodIn_app (goodIn_of _ (by decide +kernel)) ggX6_tellHoly_X6_tellMeek
set_option maxRecDepth 20000 in
theorem ggX6_tellHoly_X6_tellSubject : GoodIn wsX6_tellHoly wsX6_tellSubject := goodIn_r _ [14, 15, 16, 1, 2, 3, 4, 5, 6, 17, 18, 19, 20, 21, 22, 23, 24, 25, 26, 27, 28, 29] (by decide +kernel) (by decide +kernel)
set_option maxRecDepth 20000 in
theorem gX6_tellHoly_X6_tellSubject : GoodIn wsX6_tellHoly (wsV RX6 228 RX6 yX6_tellSubject wsX6_tellSubject) := goodIn_app (goodIn_of _ (by decide +kernel)) ggX6_tellHoly_X6_tellSubject
theorem dX6_tellHoly_0 : decode cX6_tellHoly 0 = .ok (.aload_n 0, 1) := by decide +kernel
theorem dX6_tellHoly_1 : decode cX6_tellHoly 1 = .ok (.iconst 3, 1) := by decide +kernel
theorem dX6_tellHoly_2 : decode cX6_tellHoly 2 = .ok (.invokevirtual 231, 3) := by decide +kernel
theorem dX6_tellHoly_5 : decode cX6_tellHoly 5 = .ok (.aload_n 0, 1) := by decide +kernel
theorem dX6_tellHoly_6 : decode cX6_tellHoly 6 = .ok (.iload_n 1, 1) := by decide +kernel
theorem dX6_tellHoly_7 : decode cX6_tellHoly 7 = .ok (.invokevirtual 225, 3) := by decide +kernel
theorem dX6_tellHoly_10 : decode cX6_tellHoly 10 = .ok (.istore_n 2, 1) := by decide +kernel
theorem dX6_tellHoly_11 : decode cX6_tellHoly 11 = .ok (.iload_n 2, 1) := by decide +kernel
theorem dX6_tellHoly_12 : decode cX6_tellHoly 12 = .ok (.aload_n 0, 1) := by decide +kernel
theorem dX6_tellHoly_13 : decode cX6_tellHoly 13 = .ok (.iload_n 1, 1) := by decide +kernel
theorem dX6_tellHoly_14 : decode cX6_tellHoly 14 = .ok (.invokevirtual 228, 3) := by decide +kernel
theorem dX6_tellHoly_17 : decode cX6_tellHoly 17 = .ok (.iadd, 1) := by decide +kernel
theorem dX6_tellHoly_18 : decode cX6_tellHoly 18 = .ok (.ireturn, 1) := by decide +kernel
theorem dX6_leave_0 : decode cX6_leave 0 = .ok (.aload_n 0, 1) := by decide +kernel
theorem dX6_leave_1 : decode cX6_leave 1 = .ok (.bipush 31, 2) := by decide +kernel
theorem dX6_leave_3 : decode cX6_leave 3 = .ok (.aload_n 0, 1) := by decide +kernel
theorem dX6_leave_4 : decode cX6_leave 4 = .ok (.getfield 234, 3) := by decide +kernel
theorem dX6_leave_7 : decode cX6_leave 7 = .ok (.imul, 1) := by decide +kernel
theorem dX6_leave_8 : decode cX6_leave 8 = .ok (.iload_n 1, 1) := by decide +kernel
theorem dX6_leave_9 : decode cX6_leave 9 = .ok (.iadd, 1) := by decide +kernel
theorem dX6_leave_10 : decode cX6_leave 10 = .ok (.putfield 234, 3) := by decide +kernel
theorem dX6_leave_13 : decode cX6_leave 13 = .ok (.return_, 1) := by decide +kernel
theorem dX6_failed_0 : decode cX6_failed 0 = .ok (.aload_n 0, 1) := by decide +kernel
theorem dX6_failed_1 : decode cX6_failed 1 = .ok (.iload_n 1, 1) := by decide +kernel
theorem dX6_failed_2 : decode cX6_failed 2 = .ok (.putfield 50, 3) := by decide +kernel
theorem dX6_failed_5 : decode cX6_failed 5 = .ok (.bipush (-10), 2) := by decide +kernel
theorem dX6_failed_7 : decode cX6_failed 7 = .ok (.iload_n 1, 1) := by decide +kernel
theorem dX6_failed_8 : decode cX6_failed 8 = .ok (.isub, 1) := by decide +kernel
theorem dX6_failed_9 : decode cX6_failed 9 = .ok (.ireturn, 1) := by decide +kernel
theorem dX6_faultAs_0 : decode cX6_faultAs 0 = .ok (.aload_n 0, 1) := by decide +kernel
theorem dX6_faultAs_1 : decode cX6_faultAs 1 = .ok (.getfield 204, 3) := by decide +kernel
theorem dX6_faultAs_4 : decode cX6_faultAs 4 = .ok (.ifCond .ne 5, 3) := by decide +kernel
theorem dX6_faultAs_7 : decode cX6_faultAs 7 = .ok (.iconst 1, 1) := by decide +kernel
theorem dX6_faultAs_8 : decode cX6_faultAs 8 = .ok (.ireturn, 1) := by decide +kernel
theorem dX6_faultAs_9 : decode cX6_faultAs 9 = .ok (.aload_n 0, 1) := by decide +kernel
theorem dX6_faultAs_10 : decode cX6_faultAs 10 = .ok (.getfield 213, 3) := by decide +kernel
theorem dX6_faultAs_13 : decode cX6_faultAs 13 = .ok (.iload_n 1, 1) := by decide +kernel
theorem dX6_faultAs_14 : decode cX6_faultAs 14 = .ok (.if_icmp .ne 7, 3) := by decide +kernel
theorem dX6_faultAs_17 : decode cX6_faultAs 17 = .ok (.iconst 0, 1) := by decide +kernel
theorem dX6_faultAs_18 : decode cX6_faultAs 18 = .ok (.goto 4, 3) := by decide +kernel
theorem dX6_faultAs_21 : decode cX6_faultAs 21 = .ok (.iconst 2, 1) := by decide +kernel
theorem dX6_faultAs_22 : decode cX6_faultAs 22 = .ok (.ireturn, 1) := by decide +kernel
set_option maxRecDepth 20000 in
theorem ggX6_isSheet_X6_isBelow : GoodIn wsX6_isSheet wsX6_isBelow := goodIn_r _ [4] (by decide +kernel) (by decide +kernel)
set_option maxRecDepth 20000 in
theorem gX6_isSheet_X6_isBelow : GoodIn wsX6_isSheet (va_wsS RX6 58 yX6_isBelow wsX6_isBelow) := goodIn_app (goodIn_of _ (by decide +kernel)) ggX6_isSheet_X6_isBelow
theorem dX6_isSheet_0 : decode cX6_isSheet 0 = .ok (.iload_n 0, 1) := by decide +kernel
theorem dX6_isSheet_1 : decode cX6_isSheet 1 = .ok (.iconst 4, 1) := by decide +kernel
theorem dX6_isSheet_2 : decode cX6_isSheet 2 = .ok (.invokestatic 58, 3) := by decide +kernel
theorem dX6_isSheet_5 : decode cX6_isSheet 5 = .ok (.ireturn, 1) := by decide +kernel
theorem dX6_isBelow_0 : decode cX6_isBelow 0 = .ok (.iload_n 0, 1) := by decide +kernel
theorem dX6_isBelow_1 : decode cX6_isBelow 1 = .ok (.ifCond .lt 12, 3) := by decide +kernel
theorem dX6_isBelow_4 : decode cX6_isBelow 4 = .ok (.iload_n 0, 1) := by decide +kernel
theorem dX6_isBelow_5 : decode cX6_isBelow 5 = .ok (.iload_n 1, 1) := by decide +kernel
theorem dX6_isBelow_6 : decode cX6_isBelow 6 = .ok (.if_icmp .ge 7, 3) := by decide +kernel
theorem dX6_isBelow_9 : decode cX6_isBelow 9 = .ok (.iconst 1, 1) := by decide +kernel
theorem dX6_isBelow_10 : decode cX6_isBelow 10 = .ok (.goto 4, 3) := by decide +kernel
theorem dX6_isBelow_13 : decode cX6_isBelow 13 = .ok (.iconst 0, 1) := by decide +kernel
theorem dX6_isBelow_14 : decode cX6_isBelow 14 = .ok (.ireturn, 1) := by decide +kernel
set_option maxRecDepth 20000 in
theorem ggX6_inLeastTerms_X6_commonDivisor : GoodIn wsX6_inLeastTerms wsX6_commonDivisor := goodIn_r _ [4] (by decide +kernel) (by decide +kernel)
set_option maxRecDepth 20000 in
theorem gX6_inLeastTerms_X6_commonDivisor : GoodIn wsX6_inLeastTerms (va_wsS RX6 240 yX6_commonDivisor wsX6_commonDivisor) := goodIn_app (goodIn_of _ (by decide +kernel)) ggX6_inLeastTerms_X6_commonDivisor
theorem dX6_inLeastTerms_0 : decode cX6_inLeastTerms 0 = .ok (.iload 4, 2) := by decide +kernel
theorem dX6_inLeastTerms_2 : decode cX6_inLeastTerms 2 = .ok (.ifCond .ne 7, 3) := by decide +kernel
theorem dX6_inLeastTerms_5 : decode cX6_inLeastTerms 5 = .ok (.lload_n 0, 1) := by decide +kernel
theorem dX6_inLeastTerms_6 : decode cX6_inLeastTerms 6 = .ok (.goto 4, 3) := by decide +kernel
theorem dX6_inLeastTerms_9 : decode cX6_inLeastTerms 9 = .ok (.lload_n 2, 1) := by decide +kernel
theorem dX6_inLeastTerms_10 : decode cX6_inLeastTerms 10 = .ok (.lstore 5, 2) := by decide +kernel
theorem dX6_inLeastTerms_12 : decode cX6_inLeastTerms 12 = .ok (.lload_n 0, 1) := by decide +kernel
theorem dX6_inLeastTerms_13 : decode cX6_inLeastTerms 13 = .ok (.lload_n 2, 1) := by decide +kernel
theorem dX6_inLeastTerms_14 : decode cX6_inLeastTerms 14 = .ok (.invokestatic 240, 3) := by decide +kernel
theorem dX6_inLeastTerms_17 : decode cX6_inLeastTerms 17 = .ok (.lstore 7, 2) := by decide +kernel
theorem dX6_inLeastTerms_19 : decode cX6_inLeastTerms 19 = .ok (.lload 7, 2) := by decide +kernel
theorem dX6_inLeastTerms_21 : decode cX6_inLeastTerms 21 = .ok (.lconst 1, 1) := by decide +kernel
theorem dX6_inLeastTerms_22 : decode cX6_inLeastTerms 22 = .ok (.lcmp, 1) := by decide +kernel
theorem dX6_inLeastTerms_23 : decode cX6_inLeastTerms 23 = .ok (.ifCond .le 11, 3) := by decide +kernel
theorem dX6_inLeastTerms_26 : decode cX6_inLeastTerms 26 = .ok (.lload 5, 2) := by decide +kernel
theorem dX6_inLeastTerms_28 : decode cX6_inLeastTerms 28 = .ok (.lload 7, 2) := by decide +kernel
theorem dX6_inLeastTerms_30 : decode cX6_inLeastTerms 30 = .ok (.ldiv, 1) := by decide +kernel
theorem dX6_inLeastTerms_31 : decode cX6_inLeastTerms 31 = .ok (.goto 5, 3) := by decide +kernel
theorem dX6_inLeastTerms_34 : decode cX6_inLeastTerms 34 = .ok (.lload 5, 2) := by decide +kernel
theorem dX6_inLeastTerms_36 : decode cX6_inLeastTerms 36 = .ok (.lreturn, 1) := by decide +kernel
theorem dX6_commonDivisor_0 : decode cX6_commonDivisor 0 = .ok (.lload_n 0, 1) := by decide +kernel
theorem dX6_commonDivisor_1 : decode cX6_commonDivisor 1 = .ok (.lstore 4, 2) := by decide +kernel
theorem dX6_commonDivisor_3 : decode cX6_commonDivisor 3 = .ok (.lload_n 2, 1) := by decide +kernel
theorem dX6_commonDivisor_4 : decode cX6_commonDivisor 4 = .ok (.lstore 6, 2) := by decide +kernel
theorem dX6_commonDivisor_6 : decode cX6_commonDivisor 6 = .ok (.iconst 0, 1) := by decide +kernel
theorem dX6_commonDivisor_7 : decode cX6_commonDivisor 7 = .ok (.istore 8, 2) := by decide +kernel
theorem dX6_commonDivisor_9 : decode cX6_commonDivisor 9 = .ok (.iload 8, 2) := by decide +kernel
theorem dX6_commonDivisor_11 : decode cX6_commonDivisor 11 = .ok (.sipush 128, 3) := by decide +kernel
theorem dX6_commonDivisor_14 : decode cX6_commonDivisor 14 = .ok (.if_icmp .ge 31, 3) := by decide +kernel
theorem dX6_commonDivisor_17 : decode cX6_commonDivisor 17 = .ok (.lload 6, 2) := by decide +kernel
theorem dX6_commonDivisor_19 : decode cX6_commonDivisor 19 = .ok (.lconst 0, 1) := by decide +kernel
theorem dX6_commonDivisor_20 : decode cX6_commonDivisor 20 = .ok (.lcmp, 1) := by decide +kernel
theorem dX6_commonDivisor_21 : decode cX6_commonDivisor 21 = .ok (.ifCond .eq 24, 3) := by decide +kernel
theorem dX6_commonDivisor_24 : decode cX6_commonDivisor 24 = .ok (.lload 4, 2) := by decide +kernel
theorem dX6_commonDivisor_26 : decode cX6_commonDivisor 26 = .ok (.lload 6, 2) := by decide +kernel
theorem dX6_commonDivisor_28 : decode cX6_commonDivisor 28 = .ok (.lrem, 1) := by decide +kernel
theorem dX6_commonDivisor_29 : decode cX6_commonDivisor 29 = .ok (.lstore 9, 2) := by decide +kernel
theorem dX6_commonDivisor_31 : decode cX6_commonDivisor 31 = .ok (.lload 6, 2) := by decide +kernel
theorem dX6_commonDivisor_33 : decode cX6_commonDivisor 33 = .ok (.lstore 4, 2) := by decide +kernel
theorem dX6_commonDivisor_35 : decode cX6_commonDivisor 35 = .ok (.lload 9, 2) := by decide +kernel
theorem dX6_commonDivisor_37 : decode cX6_commonDivisor 37 = .ok (.lstore 6, 2) := by decide +kernel
theorem dX6_commonDivisor_39 : decode cX6_commonDivisor 39 = .ok (.iinc 8 1, 3) := by decide +kernel
theorem dX6_commonDivisor_42 : decode cX6_commonDivisor 42 = .ok (.goto (-33), 3) := by decide +kernel
theorem dX6_commonDivisor_45 : decode cX6_commonDivisor 45 = .ok (.lload 4, 2) := by decide +kernel
theorem dX6_commonDivisor_47 : decode cX6_commonDivisor 47 = .ok (.lreturn, 1) := by decide +kernel
end
section
theorem dX7_init_0 : decode cX7_init 0 = .ok (.aload_n 0, 1) := by decide +kernel
theorem dX7_init_1 : decode cX7_init 1 = .ok (.invokespecial 1, 3) := by decide +kernel
theorem dX7_init_4 : decode cX7_init 4 = .ok (.aload_n 0, 1) := by decide +kernel
theorem dX7_init_5 : decode cX7_init 5 = .ok (.iconst 5, 1) := by decide +kernel
theorem dX7_init_6 : decode cX7_init 6 = .ok (.newarray .int, 2) := by decide +kernel
theorem dX7_init_8 : decode cX7_init 8 = .ok (.putfield 7, 3) := by decide +kernel
theorem dX7_init_11 : decode cX7_init 11 = .ok (.aload_n 0, 1) := by decide +kernel
theorem dX7_init_12 : decode cX7_init 12 = .ok (.iconst 5, 1) := by decide +kernel
theorem dX7_init_13 : decode cX7_init 13 = .ok (.newarray .int, 2) := by decide +kernel
theorem dX7_init_15 : decode cX7_init 15 = .ok (.putfield 13, 3) := by decide +kernel
theorem dX7_init_18 : decode cX7_init 18 = .ok (.aload_n 0, 1) := by decide +kernel
theorem dX7_init_19 : decode cX7_init 19 = .ok (.iconst 5, 1) := by decide +kernel
theorem dX7_init_20 : decode cX7_init 20 = .ok (.newarray .int, 2) := by decide +kernel
theorem dX7_init_22 : decode cX7_init 22 = .ok (.putfield 16, 3) := by decide +kernel
theorem dX7_init_25 : decode cX7_init 25 = .ok (.aload_n 0, 1) := by decide +kernel
theorem dX7_init_26 : decode cX7_init 26 = .ok (.iconst 4, 1) := by decide +kernel
theorem dX7_init_27 : decode cX7_init 27 = .ok (.newarray .int, 2) := by decide +kernel
theorem dX7_init_29 : decode cX7_init 29 = .ok (.putfield 19, 3) := by decide +kernel
theorem dX7_init_32 : decode cX7_init 32 = .ok (.aload_n 0, 1) := by decide +kernel
theorem dX7_init_33 : decode cX7_init 33 = .ok (.iconst 4, 1) := by decide +kernel
theorem dX7_init_34 : decode cX7_init 34 = .ok (.newarray .int, 2) := by decide +kernel
theorem dX7_init_36 : decode cX7_init 36 = .ok (.putfield 22, 3) := by decide +kernel
theorem dX7_init_39 : decode cX7_init 39 = .ok (.aload_n 0, 1) := by decide +kernel
theorem dX7_init_40 : decode cX7_init 40 = .ok (.iconst 5, 1) := by decide +kernel
theorem dX7_init_41 : decode cX7_init 41 = .ok (.newarray .int, 2) := by decide +kernel
theorem dX7_init_43 : decode cX7_init 43 = .ok (.putfield 25, 3) := by decide +kernel
theorem dX7_init_46 : decode cX7_init 46 = .ok (.aload_n 0, 1) := by decide +kernel
theorem dX7_init_47 : decode cX7_init 47 = .ok (.iconst 5, 1) := by decide +kernel
theorem dX7_init_48 : decode cX7_init 48 = .ok (.newarray .int, 2) := by decide +kernel
theorem dX7_init_50 : decode cX7_init 50 = .ok (.putfield 28, 3) := by decide +kernel
theorem dX7_init_53 : decode cX7_init 53 = .ok (.aload_n 0, 1) := by decide +kernel
theorem dX7_init_54 : decode cX7_init 54 = .ok (.iconst 5, 1) := by decide +kernel
theorem dX7_init_55 : decode cX7_init 55 = .ok (.newarray .int, 2) := by decide +kernel
theorem dX7_init_57 : decode cX7_init 57 = .ok (.putfield 31, 3) := by decide +kernel
theorem dX7_init_60 : decode cX7_init 60 = .ok (.aload_n 0, 1) := by decide +kernel
theorem dX7_init_61 : decode cX7_init 61 = .ok (.iconst 4, 1) := by decide +kernel
theorem dX7_init_62 : decode cX7_init 62 = .ok (.newarray .int, 2) := by decide +kernel
theorem dX7_init_64 : decode cX7_init 64 = .ok (.putfield 34, 3) := by decide +kernel
theorem dX7_init_67 : decode cX7_init 67 = .ok (.aload_n 0, 1) := by decide +kernel
theorem dX7_init_68 : decode cX7_init 68 = .ok (.iconst 4, 1) := by decide +kernel
theorem dX7_init_69 : decode cX7_init 69 = .ok (.newarray .int, 2) := by decide +kernel
theorem dX7_init_71 : decode cX7_init 71 = .ok (.putfield 37, 3) := by decide +kernel
theorem dX7_init_74 : decode cX7_init 74 = .ok (.aload_n 0, 1) := by decide +kernel
theorem dX7_init_75 : decode cX7_init 75 = .ok (.iconst 4, 1) := by decide +kernel
theorem dX7_init_76 : decode cX7_init 76 = .ok (.newarray .int, 2) := by decide +kernel
theorem dX7_init_78 : decode cX7_init 78 = .ok (.putfield 40, 3) := by decide +kernel
theorem dX7_init_81 : decode cX7_init 81 = .ok (.aload_n 0, 1) := by decide +kernel
theorem dX7_init_82 : decode cX7_init 82 = .ok (.bipush 36, 2) := by decide +kernel
theorem dX7_init_84 : decode cX7_init 84 = .ok (.newarray .long, 2) := by decide +kernel
theorem dX7_init_86 : decode cX7_init 86 = .ok (.putfield 43, 3) := by decide +kernel
theorem dX7_init_89 : decode cX7_init 89 = .ok (.aload_n 0, 1) := by decide +kernel
theorem dX7_init_90 : decode cX7_init 90 = .ok (.bipush 8, 2) := by decide +kernel
theorem dX7_init_92 : decode cX7_init 92 = .ok (.newarray .int, 2) := by decide +kernel
theorem dX7_init_94 : decode cX7_init 94 = .ok (.putfield 47, 3) := by decide +kernel
theorem dX7_init_97 : decode cX7_init 97 = .ok (.aload_n 0, 1) := by decide +kernel
theorem dX7_init_98 : decode cX7_init 98 = .ok (.bipush 8, 2) := by decide +kernel
theorem dX7_init_100 : decode cX7_init 100 = .ok (.newarray .int, 2) := by decide +kernel
theorem dX7_init_102 : decode cX7_init 102 = .ok (.putfield 50, 3) := by decide +kernel
theorem dX7_init_105 : decode cX7_init 105 = .ok (.aload_n 0, 1) := by decide +kernel
theorem dX7_init_106 : decode cX7_init 106 = .ok (.bipush 8, 2) := by decide +kernel
theorem dX7_init_108 : decode cX7_init 108 = .ok (.newarray .boolean, 2) := by decide +kernel
theorem dX7_init_110 : decode cX7_init 110 = .ok (.putfield 53, 3) := by decide +kernel
theorem dX7_init_113 : decode cX7_init 113 = .ok (.aload_n 0, 1) := by decide +kernel
theorem dX7_init_114 : decode cX7_init 114 = .ok (.iconst 4, 1) := by decide +kernel
theorem dX7_init_115 : decode cX7_init 115 = .ok (.newarray .int, 2) := by decide +kernel
theorem dX7_init_117 : decode cX7_init 117 = .ok (.putfield 57, 3) := by decide +kernel
theorem dX7_init_120 : decode cX7_init 120 = .ok (.aload_n 0, 1) := by decide +kernel
theorem dX7_init_121 : decode cX7_init 121 = .ok (.iconst 4, 1) := by decide +kernel
theorem dX7_init_122 : decode cX7_init 122 = .ok (.newarray .int, 2) := by decide +kernel
theorem dX7_init_124 : decode cX7_init 124 = .ok (.putfield 60, 3) := by decide +kernel
theorem dX7_init_127 : decode cX7_init 127 = .ok (.aload_n 0, 1) := by decide +kernel
theorem dX7_init_128 : decode cX7_init 128 = .ok (.sipush 240, 3) := by decide +kernel
theorem dX7_init_131 : decode cX7_init 131 = .ok (.newarray .int, 2) := by decide +kernel
theorem dX7_init_133 : decode cX7_init 133 = .ok (.putfield 63, 3) := by decide +kernel
theorem dX7_init_136 : decode cX7_init 136 = .ok (.aload_n 0, 1) := by decide +kernel
theorem dX7_init_137 : decode cX7_init 137 = .ok (.bipush 60, 2) := by decide +kernel
theorem dX7_init_139 : decode cX7_init 139 = .ok (.newarray .int, 2) := by decide +kernel
theorem dX7_init_141 : decode cX7_init 141 = .ok (.putfield 66, 3) := by decide +kernel
theorem dX7_init_144 : decode cX7_init 144 = .ok (.iconst 0, 1) := by decide +kernel
theorem dX7_init_145 : decode cX7_init 145 = .ok (.istore_n 1, 1) := by decide +kernel
theorem dX7_init_146 : decode cX7_init 146 = .ok (.iload_n 1, 1) := by decide +kernel
theorem dX7_init_147 : decode cX7_init 147 = .ok (.iconst 4, 1) := by decide +kernel
theorem dX7_init_148 : decode cX7_init 148 = .ok (.if_icmp .ge 16, 3) := by decide +kernel
theorem dX7_init_151 : decode cX7_init 151 = .ok (.aload_n 0, 1) := by decide +kernel
theorem dX7_init_152 : decode cX7_init 152 = .ok (.getfield 57, 3) := by decide +kernel
theorem dX7_init_155 : decode cX7_init 155 = .ok (.iload_n 1, 1) := by decide +kernel
theorem dX7_init_156 : decode cX7_init 156 = .ok (.iconst (-1), 1) := by decide +kernel
theorem dX7_init_157 : decode cX7_init 157 = .ok (.iastore, 1) := by decide +kernel
theorem dX7_init_158 : decode cX7_init 158 = .ok (.iinc 1 1, 3) := by decide +kernel
theorem dX7_init_161 : decode cX7_init 161 = .ok (.goto (-15), 3) := by decide +kernel
theorem dX7_init_164 : decode cX7_init 164 = .ok (.return_, 1) := by decide +kernel
theorem dX7_in_0 : decode cX7_in 0 = .ok (.lload_n 0, 1) := by decide +kernel
theorem dX7_in_1 : decode cX7_in 1 = .ok (.lload_n 2, 1) := by decide +kernel
theorem dX7_in_2 : decode cX7_in 2 = .ok (.lcmp, 1) := by decide +kernel
theorem dX7_in_3 : decode cX7_in 3 = .ok (.ifCond .lt 14, 3) := by decide +kernel
theorem dX7_in_6 : decode cX7_in 6 = .ok (.lload_n 0, 1) := by decide +kernel
theorem dX7_in_7 : decode cX7_in 7 = .ok (.lload 4, 2) := by decide +kernel
theorem dX7_in_9 : decode cX7_in 9 = .ok (.lcmp, 1) := by decide +kernel
theorem dX7_in_10 : decode cX7_in 10 = .ok (.ifCond .gt 7, 3) := by decide +kernel
theorem dX7_in_13 : decode cX7_in 13 = .ok (.iconst 1, 1) := by decide +kernel
theorem dX7_in_14 : decode cX7_in 14 = .ok (.goto 4, 3) := by decide +kernel
theorem dX7_in_17 : decode cX7_in 17 = .ok (.iconst 0, 1) := by decide +kernel
theorem dX7_in_18 : decode cX7_in 18 = .ok (.ireturn, 1) := by decide +kernel
theorem dX7_lost_0 : decode cX7_lost 0 = .ok (.ldc2_w 69, 3) := by decide +kernel
theorem dX7_lost_3 : decode cX7_lost 3 = .ok (.lreturn, 1) := by decide +kernel
theorem dX7_isIn_0 : decode cX7_isIn 0 = .ok (.iload_n 0, 1) := by decide +kernel
theorem dX7_isIn_1 : decode cX7_isIn 1 = .ok (.iload_n 1, 1) := by decide +kernel
theorem dX7_isIn_2 : decode cX7_isIn 2 = .ok (.ishr, 1) := by decide +kernel
theorem dX7_isIn_3 : decode cX7_isIn 3 = .ok (.iconst 1, 1) := by decide +kernel
theorem dX7_isIn_4 : decode cX7_isIn 4 = .ok (.iand, 1) := by decide +kernel
theorem dX7_isIn_5 : decode cX7_isIn 5 = .ok (.iconst 1, 1) := by decide +kernel
theorem dX7_isIn_6 : decode cX7_isIn 6 = .ok (.if_icmp .ne 7, 3) := by decide +kernel
theorem dX7_isIn_9 : decode cX7_isIn 9 = .ok (.iconst 1, 1) := by decide +kernel
theorem dX7_isIn_10 : decode cX7_isIn 10 = .ok (.goto 4, 3) := by decide +kernel
theorem dX7_isIn_13 : decode cX7_isIn 13 = .ok (.iconst 0, 1) := by decide +kernel
theorem dX7_isIn_14 : decode cX7_isIn 14 = .ok (.ireturn, 1) := by decide +kernel
theorem dX7_bits_0 : decode cX7_bits 0 = .ok (.iconst 0, 1) := by decide +kernel
theorem dX7_bits_1 : decode cX7_bits 1 = .ok (.istore_n 1, 1) := by decide +kernel
theorem dX7_bits_2 : decode cX7_bits 2 = .ok (.iload_n 0, 1) := by decide +kernel
theorem dX7_bits_3 : decode cX7_bits 3 = .ok (.istore_n 2, 1) := by decide +kernel
theorem dX7_bits_4 : decode cX7_bits 4 = .ok (.iload_n 2, 1) := by decide +kernel
theorem dX7_bits_5 : decode cX7_bits 5 = .ok (.ifCond .le 16, 3) := by decide +kernel
theorem dX7_bits_8 : decode cX7_bits 8 = .ok (.iload_n 1, 1) := by decide +kernel
theorem dX7_bits_9 : decode cX7_bits 9 = .ok (.iload_n 2, 1) := by decide +kernel
theorem dX7_bits_10 : decode cX7_bits 10 = .ok (.iconst 1, 1) := by decide +kernel
theorem dX7_bits_11 : decode cX7_bits 11 = .ok (.iand, 1) := by decide +kernel
theorem dX7_bits_12 : decode cX7_bits 12 = .ok (.iadd, 1) := by decide +kernel
theorem dX7_bits_13 : decode cX7_bits 13 = .ok (.istore_n 1, 1) := by decide +kernel
theorem dX7_bits_14 : decode cX7_bits 14 = .ok (.iload_n 2, 1) := by decide +kernel
theorem dX7_bits_15 : decode cX7_bits 15 = .ok (.iconst 1, 1) := by decide +kernel
theorem dX7_bits_16 : decode cX7_bits 16 = .ok (.ishr, 1) := by decide +kernel
theorem dX7_bits_17 : decode cX7_bits 17 = .ok (.istore_n 2, 1) := by decide +kernel
theorem dX7_bits_18 : decode cX7_bits 18 = .ok (.goto (-14), 3) := by decide +kernel
theorem dX7_bits_21 : decode cX7_bits 21 = .ok (.iload_n 1, 1) := by decide +kernel
theorem dX7_bits_22 : decode cX7_bits 22 = .ok (.ireturn, 1) := by decide +kernel
theorem dX7_share_0 : decode cX7_share 0 = .ok (.lload_n 0, 1) := by decide +kernel
theorem dX7_share_1 : decode cX7_share 1 = .ok (.lstore 5, 2) := by decide +kernel
theorem dX7_share_3 : decode cX7_share 3 = .ok (.lload_n 2, 1) := by decide +kernel
theorem dX7_share_4 : decode cX7_share 4 = .ok (.lstore 7, 2) := by decide +kernel
theorem dX7_share_6 : decode cX7_share 6 = .ok (.lload 7, 2) := by decide +kernel
theorem dX7_share_8 : decode cX7_share 8 = .ok (.lconst 0, 1) := by decide +kernel
theorem dX7_share_9 : decode cX7_share 9 = .ok (.lcmp, 1) := by decide +kernel
theorem dX7_share_10 : decode cX7_share 10 = .ok (.ifCond .eq 21, 3) := by decide +kernel
theorem dX7_share_13 : decode cX7_share 13 = .ok (.lload 5, 2) := by decide +kernel
theorem dX7_share_15 : decode cX7_share 15 = .ok (.lload 7, 2) := by decide +kernel
theorem dX7_share_17 : decode cX7_share 17 = .ok (.lrem, 1) := by decide +kernel
theorem dX7_share_18 : decode cX7_share 18 = .ok (.lstore 9, 2) := by decide +kernel
theorem dX7_share_20 : decode cX7_share 20 = .ok (.lload 7, 2) := by decide +kernel
theorem dX7_share_22 : decode cX7_share 22 = .ok (.lstore 5, 2) := by decide +kernel
theorem dX7_share_24 : decode cX7_share 24 = .ok (.lload 9, 2) := by decide +kernel
theorem dX7_share_26 : decode cX7_share 26 = .ok (.lstore 7, 2) := by decide +kernel
theorem dX7_share_28 : decode cX7_share 28 = .ok (.goto (-22), 3) := by decide +kernel
theorem dX7_share_31 : decode cX7_share 31 = .ok (.iload 4, 2) := by decide +kernel
theorem dX7_share_33 : decode cX7_share 33 = .ok (.ifCond .ne 7, 3) := by decide +kernel
theorem dX7_share_36 : decode cX7_share 36 = .ok (.lload_n 0, 1) := by decide +kernel
theorem dX7_share_37 : decode cX7_share 37 = .ok (.goto 4, 3) := by decide +kernel
theorem dX7_share_40 : decode cX7_share 40 = .ok (.lload_n 2, 1) := by decide +kernel
theorem dX7_share_41 : decode cX7_share 41 = .ok (.lload 5, 2) := by decide +kernel
theorem dX7_share_43 : decode cX7_share 43 = .ok (.ldiv, 1) := by decide +kernel
theorem dX7_share_44 : decode cX7_share 44 = .ok (.lreturn, 1) := by decide +kernel
theorem dX7_refused_0 : decode cX7_refused 0 = .ok (.aload_n 0, 1) := by decide +kernel
theorem dX7_refused_1 : decode cX7_refused 1 = .ok (.iconst 0, 1) := by decide +kernel
theorem dX7_refused_2 : decode cX7_refused 2 = .ok (.putfield 71, 3) := by decide +kernel
theorem dX7_refused_5 : decode cX7_refused 5 = .ok (.iload_n 1, 1) := by decide +kernel
theorem dX7_refused_6 : decode cX7_refused 6 = .ok (.ireturn, 1) := by decide +kernel
theorem dX7_failed_0 : decode cX7_failed 0 = .ok (.aload_n 0, 1) := by decide +kernel
theorem dX7_failed_1 : decode cX7_failed 1 = .ok (.iload_n 1, 1) := by decide +kernel
theorem dX7_failed_2 : decode cX7_failed 2 = .ok (.putfield 71, 3) := by decide +kernel
theorem dX7_failed_5 : decode cX7_failed 5 = .ok (.bipush (-10), 2) := by decide +kernel
theorem dX7_failed_7 : decode cX7_failed 7 = .ok (.iload_n 1, 1) := by decide +kernel
theorem dX7_failed_8 : decode cX7_failed 8 = .ok (.isub, 1) := by decide +kernel
theorem dX7_failed_9 : decode cX7_failed 9 = .ok (.ireturn, 1) := by decide +kernel
set_option maxRecDepth 20000 in
theorem ggX7_failedLong_X7_lost : GoodIn wsX7_failedLong wsX7_lost := goodIn_r _ [5, 6] (by decide +kernel) (by decide +kernel)
set_option maxRecDepth 20000 in
theorem gX7_failedLong_X7_lost : GoodIn wsX7_failedLong (va_wsS RX7 75 yX7_lost wsX7_lost) := goodIn_app (goodIn_of _ (by decide +kernel)) ggX7_failedLong_X7_lost
theorem dX7_failedLong_0 : decode cX7_failedLong 0 = .ok (.aload_n 0, 1) := by decide +kernel
theorem dX7_failedLong_1 : decode cX7_failedLong 1 = .ok (.iload_n 1, 1) := by decide +kernel
theorem dX7_failedLong_2 : decode cX7_failedLong 2 = .ok (.putfield 71, 3) := by decide +kernel
theorem dX7_failedLong_5 : decode cX7_failedLong 5 = .ok (.invokestatic 75, 3) := by decide +kernel
theorem dX7_failedLong_8 : decode cX7_failedLong 8 = .ok (.lreturn, 1) := by decide +kernel
set_option maxRecDepth 20000 in
theorem ggX7_noDeed_X7_in : GoodIn wsX7_noDeed wsX7_in := goodIn_r _ [5] (by decide +kernel) (by decide +kernel)
set_option maxRecDepth 20000 in
theorem gX7_noDeed_X7_in : GoodIn wsX7_noDeed (va_wsS RX7 82 yX7_in wsX7_in) := goodIn_app (goodIn_of _ (by decide +kernel)) ggX7_noDeed_X7_in
theorem dX7_noDeed_0 : decode cX7_noDeed 0 = .ok (.iload_n 1, 1) := by decide +kernel
theorem dX7_noDeed_1 : decode cX7_noDeed 1 = .ok (.i2l, 1) := by decide +kernel
theorem dX7_noDeed_2 : decode cX7_noDeed 2 = .ok (.lconst 0, 1) := by decide +kernel
theorem dX7_noDeed_3 : decode cX7_noDeed 3 = .ok (.aload_n 0, 1) := by decide +kernel
theorem dX7_noDeed_4 : decode cX7_noDeed 4 = .ok (.getfield 79, 3) := by decide +kernel
theorem dX7_noDeed_7 : decode cX7_noDeed 7 = .ok (.i2l, 1) := by decide +kernel
theorem dX7_noDeed_8 : decode cX7_noDeed 8 = .ok (.lconst 1, 1) := by decide +kernel
theorem dX7_noDeed_9 : decode cX7_noDeed 9 = .ok (.lsub, 1) := by decide +kernel
theorem dX7_noDeed_10 : decode cX7_noDeed 10 = .ok (.invokestatic 82, 3) := by decide +kernel
theorem dX7_noDeed_13 : decode cX7_noDeed 13 = .ok (.ifCond .ne 7, 3) := by decide +kernel
theorem dX7_noDeed_16 : decode cX7_noDeed 16 = .ok (.iconst 1, 1) := by decide +kernel
theorem dX7_noDeed_17 : decode cX7_noDeed 17 = .ok (.goto 4, 3) := by decide +kernel
theorem dX7_noDeed_20 : decode cX7_noDeed 20 = .ok (.iconst 0, 1) := by decide +kernel
theorem dX7_noDeed_21 : decode cX7_noDeed 21 = .ok (.ireturn, 1) := by decide +kernel
set_option maxRecDepth 20000 in
theorem ggX7_noSubject_X7_in : GoodIn wsX7_noSubject wsX7_in := goodIn_r _ [5] (by decide +kernel) (by decide +kernel)
set_option maxRecDepth 20000 in
theorem gX7_noSubject_X7_in : GoodIn wsX7_noSubject (va_wsS RX7 82 yX7_in wsX7_in) := goodIn_app (goodIn_of _ (by decide +kernel)) ggX7_noSubject_X7_in
theorem dX7_noSubject_0 : decode cX7_noSubject 0 = .ok (.iload_n 1, 1) := by decide +kernel
theorem dX7_noSubject_1 : decode cX7_noSubject 1 = .ok (.i2l, 1) := by decide +kernel
theorem dX7_noSubject_2 : decode cX7_noSubject 2 = .ok (.lconst 0, 1) := by decide +kernel
theorem dX7_noSubject_3 : decode cX7_noSubject 3 = .ok (.aload_n 0, 1) := by decide +kernel
theorem dX7_noSubject_4 : decode cX7_noSubject 4 = .ok (.getfield 86, 3) := by decide +kernel
theorem dX7_noSubject_7 : decode cX7_noSubject 7 = .ok (.i2l, 1) := by decide +kernel
theorem dX7_noSubject_8 : decode cX7_noSubject 8 = .ok (.lconst 1, 1) := by decide +kernel
theorem dX7_noSubject_9 : decode cX7_noSubject 9 = .ok (.lsub, 1) := by decide +kernel
theorem dX7_noSubject_10 : decode cX7_noSubject 10 = .ok (.invokestatic 82, 3) := by decide +kernel
theorem dX7_noSubject_13 : decode cX7_noSubject 13 = .ok (.ifCond .ne 7, 3) := by decide +kernel
theorem dX7_noSubject_16 : decode cX7_noSubject 16 = .ok (.iconst 1, 1) := by decide +kernel
theorem dX7_noSubject_17 : decode cX7_noSubject 17 = .ok (.goto 4, 3) := by decide +kernel
theorem dX7_noSubject_20 : decode cX7_noSubject 20 = .ok (.iconst 0, 1) := by decide +kernel
theorem dX7_noSubject_21 : decode cX7_noSubject 21 = .ok (.ireturn, 1) := by decide +kernel
theorem dX7_codeAt_0 : decode cX7_codeAt 0 = .ok (.aload_n 0, 1) := by decide +kernel
theorem dX7_codeAt_1 : decode cX7_codeAt 1 = .ok (.getfield 89, 3) := by decide +kernel
theorem dX7_codeAt_4 : decode cX7_codeAt 4 = .ok (.iload_n 2, 1) := by decide +kernel
theorem dX7_codeAt_5 : decode cX7_codeAt 5 = .ok (.if_icmp .ge 17, 3) := by decide +kernel
theorem dX7_codeAt_8 : decode cX7_codeAt 8 = .ok (.aload_n 0, 1) := by decide +kernel
theorem dX7_codeAt_9 : decode cX7_codeAt 9 = .ok (.getfield 63, 3) := by decide +kernel
theorem dX7_codeAt_12 : decode cX7_codeAt 12 = .ok (.iload_n 1, 1) := by decide +kernel
theorem dX7_codeAt_13 : decode cX7_codeAt 13 = .ok (.aload_n 0, 1) := by decide +kernel
theorem dX7_codeAt_14 : decode cX7_codeAt 14 = .ok (.getfield 89, 3) := by decide +kernel
theorem dX7_codeAt_17 : decode cX7_codeAt 17 = .ok (.iadd, 1) := by decide +kernel
theorem dX7_codeAt_18 : decode cX7_codeAt 18 = .ok (.iaload, 1) := by decide +kernel
theorem dX7_codeAt_19 : decode cX7_codeAt 19 = .ok (.goto 5, 3) := by decide +kernel
theorem dX7_codeAt_22 : decode cX7_codeAt 22 = .ok (.bipush (-9), 2) := by decide +kernel
theorem dX7_codeAt_24 : decode cX7_codeAt 24 = .ok (.ireturn, 1) := by decide +kernel
set_option maxRecDepth 20000 in
theorem ggX7_figure_X7_codeAt : GoodIn wsX7_figure wsX7_codeAt := goodIn_r _ [6, 1, 7, 11, 12, 13, 14, 15, 16, 17, 18, 19, 20, 21, 22, 23, 24, 25, 26, 27, 28, 29, 30, 31, 32, 33, 34, 35, 36, 37, 38, 39, 40] (by decide +kernel) (by decide +kernel)
set_option maxRecDepth 20000 in
theorem gX7_figure_X7_codeAt : GoodIn wsX7_figure (wsV RX7 92 RX7 yX7_codeAt wsX7_codeAt) := goodIn_app (goodIn_of _ (by decide +kernel)) ggX7_figure_X7_codeAt
set_option maxRecDepth 20000 in
theorem ggX7_figure_X7_in : GoodIn wsX7_figure wsX7_in := goodIn_r _ [10] (by decide +kernel) (by decide +kernel)
set_option maxRecDepth 20000 in
theorem gX7_figure_X7_in : GoodIn wsX7_figure (va_wsS RX7 82 yX7_in wsX7_in) := goodIn_app (goodIn_of _ (by decide +kernel)) ggX7_figure_X7_in
theorem dX7_figure_0 : decode cX7_figure 0 = .ok (.aload_n 0, 1) := by decide +kernel
theorem dX7_figure_1 : decode cX7_figure 1 = .ok (.iload_n 1, 1) := by decide +kernel
theorem dX7_figure_2 : decode cX7_figure 2 = .ok (.iload_n 2, 1) := by decide +kernel
theorem dX7_figure_3 : decode cX7_figure 3 = .ok (.invokevirtual 92, 3) := by decide +kernel
theorem dX7_figure_6 : decode cX7_figure 6 = .ok (.bipush 48, 2) := by decide +kernel
theorem dX7_figure_8 : decode cX7_figure 8 = .ok (.isub, 1) := by decide +kernel
theorem dX7_figure_9 : decode cX7_figure 9 = .ok (.istore 5, 2) := by decide +kernel
theorem dX7_figure_11 : decode cX7_figure 11 = .ok (.iload 5, 2) := by decide +kernel
theorem dX7_figure_13 : decode cX7_figure 13 = .ok (.i2l, 1) := by decide +kernel
theorem dX7_figure_14 : decode cX7_figure 14 = .ok (.iload_n 3, 1) := by decide +kernel
theorem dX7_figure_15 : decode cX7_figure 15 = .ok (.i2l, 1) := by decide +kernel
theorem dX7_figure_16 : decode cX7_figure 16 = .ok (.iload 4, 2) := by decide +kernel
theorem dX7_figure_18 : decode cX7_figure 18 = .ok (.i2l, 1) := by decide +kernel
theorem dX7_figure_19 : decode cX7_figure 19 = .ok (.invokestatic 82, 3) := by decide +kernel
theorem dX7_figure_22 : decode cX7_figure 22 = .ok (.istore 6, 2) := by decide +kernel
theorem dX7_figure_24 : decode cX7_figure 24 = .ok (.aload_n 0, 1) := by decide +kernel
theorem dX7_figure_25 : decode cX7_figure 25 = .ok (.dup, 1) := by decide +kernel
theorem dX7_figure_26 : decode cX7_figure 26 = .ok (.getfield 89, 3) := by decide +kernel
theorem dX7_figure_29 : decode cX7_figure 29 = .ok (.iload 6, 2) := by decide +kernel
theorem dX7_figure_31 : decode cX7_figure 31 = .ok (.ifCond .eq 7, 3) := by decide +kernel
theorem dX7_figure_34 : decode cX7_figure 34 = .ok (.iconst 1, 1) := by decide +kernel
theorem dX7_figure_35 : decode cX7_figure 35 = .ok (.goto 4, 3) := by decide +kernel
theorem dX7_figure_38 : decode cX7_figure 38 = .ok (.iconst 0, 1) := by decide +kernel
theorem dX7_figure_39 : decode cX7_figure 39 = .ok (.iadd, 1) := by decide +kernel
theorem dX7_figure_40 : decode cX7_figure 40 = .ok (.putfield 89, 3) := by decide +kernel
theorem dX7_figure_43 : decode cX7_figure 43 = .ok (.iload 6, 2) := by decide +kernel
theorem dX7_figure_45 : decode cX7_figure 45 = .ok (.ifCond .eq 8, 3) := by decide +kernel
theorem dX7_figure_48 : decode cX7_figure 48 = .ok (.iload 5, 2) := by decide +kernel
theorem dX7_figure_50 : decode cX7_figure 50 = .ok (.goto 5, 3) := by decide +kernel
theorem dX7_figure_53 : decode cX7_figure 53 = .ok (.bipush (-9), 2) := by decide +kernel
theorem dX7_figure_55 : decode cX7_figure 55 = .ok (.ireturn, 1) := by decide +kernel
set_option maxRecDepth 20000 in
theorem ggX7_readsDeed_X7_codeAt : GoodIn wsX7_readsDeed wsX7_codeAt := goodIn_r _ [10, 2, 11, 19, 20, 21, 22, 23, 24, 25, 26, 27, 28, 29, 30, 31, 32, 33, 34, 35, 36, 37, 38, 39, 40, 41, 42, 43, 44, 45, 46, 47, 48] (by decide +kernel) (by decide +kernel)
set_option maxRecDepth 20000 in
theorem gX7_readsDeed_X7_codeAt : GoodIn wsX7_readsDeed (wsV RX7 92 RX7 yX7_codeAt wsX7_codeAt) := goodIn_app (goodIn_of _ (by decide +kernel)) ggX7_readsDeed_X7_codeAt
set_option maxRecDepth 20000 in
theorem ggX7_readsDeed_X7_figure : GoodIn wsX7_readsDeed wsX7_figure := goodIn_r _ [15, 2, 6, 7, 8, 9, 10, 11, 16, 17, 18, 19, 20, 21, 22, 23, 24, 25, 26, 27, 28, 29, 30, 31, 32, 33, 34, 35, 36, 37, 38, 39, 40, 41, 42, 43, 44, 45, 46, 47, 48] (by decide +kernel) (by decide +kernel)
set_option maxRecDepth 20000 in
theorem gX7_readsDeed_X7_figure : GoodIn wsX7_readsDeed (wsV RX7 99 RX7 yX7_figure wsX7_figure) := goodIn_app (goodIn_of _ (by decide +kernel)) ggX7_readsDeed_X7_figure
theorem dX7_readsDeed_0 : decode cX7_readsDeed 0 = .ok (.aload_n 0, 1) := by decide +kernel
theorem dX7_readsDeed_1 : decode cX7_readsDeed 1 = .ok (.getfield 96, 3) := by decide +kernel
theorem dX7_readsDeed_4 : decode cX7_readsDeed 4 = .ok (.iconst 5, 1) := by decide +kernel
theorem dX7_readsDeed_5 : decode cX7_readsDeed 5 = .ok (.if_icmp .eq 14, 3) := by decide +kernel
theorem dX7_readsDeed_8 : decode cX7_readsDeed 8 = .ok (.aload_n 0, 1) := by decide +kernel
theorem dX7_readsDeed_9 : decode cX7_readsDeed 9 = .ok (.iload_n 1, 1) := by decide +kernel
theorem dX7_readsDeed_10 : decode cX7_readsDeed 10 = .ok (.iload_n 2, 1) := by decide +kernel
theorem dX7_readsDeed_11 : decode cX7_readsDeed 11 = .ok (.invokevirtual 92, 3) := by decide +kernel
theorem dX7_readsDeed_14 : decode cX7_readsDeed 14 = .ok (.bipush 47, 2) := by decide +kernel
theorem dX7_readsDeed_16 : decode cX7_readsDeed 16 = .ok (.if_icmp .eq 5, 3) := by decide +kernel
theorem dX7_readsDeed_19 : decode cX7_readsDeed 19 = .ok (.iconst 0, 1) := by decide +kernel
theorem dX7_readsDeed_20 : decode cX7_readsDeed 20 = .ok (.ireturn, 1) := by decide +kernel
theorem dX7_readsDeed_21 : decode cX7_readsDeed 21 = .ok (.aload_n 0, 1) := by decide +kernel
theorem dX7_readsDeed_22 : decode cX7_readsDeed 22 = .ok (.dup, 1) := by decide +kernel
theorem dX7_readsDeed_23 : decode cX7_readsDeed 23 = .ok (.getfield 89, 3) := by decide +kernel
theorem dX7_readsDeed_26 : decode cX7_readsDeed 26 = .ok (.iconst 1, 1) := by decide +kernel
theorem dX7_readsDeed_27 : decode cX7_readsDeed 27 = .ok (.iadd, 1) := by decide +kernel
theorem dX7_readsDeed_28 : decode cX7_readsDeed 28 = .ok (.putfield 89, 3) := by decide +kernel
theorem dX7_readsDeed_31 : decode cX7_readsDeed 31 = .ok (.aload_n 0, 1) := by decide +kernel
theorem dX7_readsDeed_32 : decode cX7_readsDeed 32 = .ok (.iload_n 1, 1) := by decide +kernel
theorem dX7_readsDeed_33 : decode cX7_readsDeed 33 = .ok (.iload_n 2, 1) := by decide +kernel
theorem dX7_readsDeed_34 : decode cX7_readsDeed 34 = .ok (.iconst 0, 1) := by decide +kernel
theorem dX7_readsDeed_35 : decode cX7_readsDeed 35 = .ok (.bipush 9, 2) := by decide +kernel
theorem dX7_readsDeed_37 : decode cX7_readsDeed 37 = .ok (.invokevirtual 99, 3) := by decide +kernel
theorem dX7_readsDeed_40 : decode cX7_readsDeed 40 = .ok (.istore_n 3, 1) := by decide +kernel
theorem dX7_readsDeed_41 : decode cX7_readsDeed 41 = .ok (.iload_n 3, 1) := by decide +kernel
theorem dX7_readsDeed_42 : decode cX7_readsDeed 42 = .ok (.ifCond .ge 8, 3) := by decide +kernel
theorem dX7_readsDeed_45 : decode cX7_readsDeed 45 = .ok (.bipush (-9), 2) := by decide +kernel
theorem dX7_readsDeed_47 : decode cX7_readsDeed 47 = .ok (.goto 12, 3) := by decide +kernel
theorem dX7_readsDeed_50 : decode cX7_readsDeed 50 = .ok (.aload_n 0, 1) := by decide +kernel
theorem dX7_readsDeed_51 : decode cX7_readsDeed 51 = .ok (.iload_n 1, 1) := by decide +kernel
theorem dX7_readsDeed_52 : decode cX7_readsDeed 52 = .ok (.iload_n 2, 1) := by decide +kernel
theorem dX7_readsDeed_53 : decode cX7_readsDeed 53 = .ok (.iconst 0, 1) := by decide +kernel
theorem dX7_readsDeed_54 : decode cX7_readsDeed 54 = .ok (.bipush 9, 2) := by decide +kernel
theorem dX7_readsDeed_56 : decode cX7_readsDeed 56 = .ok (.invokevirtual 99, 3) := by decide +kernel
theorem dX7_readsDeed_59 : decode cX7_readsDeed 59 = .ok (.istore 4, 2) := by decide +kernel
theorem dX7_readsDeed_61 : decode cX7_readsDeed 61 = .ok (.iload 4, 2) := by decide +kernel
theorem dX7_readsDeed_63 : decode cX7_readsDeed 63 = .ok (.ifCond .ge 8, 3) := by decide +kernel
theorem dX7_readsDeed_66 : decode cX7_readsDeed 66 = .ok (.bipush (-9), 2) := by decide +kernel
theorem dX7_readsDeed_68 : decode cX7_readsDeed 68 = .ok (.goto 12, 3) := by decide +kernel
theorem dX7_readsDeed_71 : decode cX7_readsDeed 71 = .ok (.aload_n 0, 1) := by decide +kernel
theorem dX7_readsDeed_72 : decode cX7_readsDeed 72 = .ok (.iload_n 1, 1) := by decide +kernel
theorem dX7_readsDeed_73 : decode cX7_readsDeed 73 = .ok (.iload_n 2, 1) := by decide +kernel
theorem dX7_readsDeed_74 : decode cX7_readsDeed 74 = .ok (.iconst 0, 1) := by decide +kernel
theorem dX7_readsDeed_75 : decode cX7_readsDeed 75 = .ok (.bipush 9, 2) := by decide +kernel
theorem dX7_readsDeed_77 : decode cX7_readsDeed 77 = .ok (.invokevirtual 99, 3) := by decide +kernel
theorem dX7_readsDeed_80 : decode cX7_readsDeed 80 = .ok (.istore 5, 2) := by decide +kernel
theorem dX7_readsDeed_82 : decode cX7_readsDeed 82 = .ok (.iload 5, 2) := by decide +kernel
theorem dX7_readsDeed_84 : decode cX7_readsDeed 84 = .ok (.ifCond .ge 5, 3) := by decide +kernel
theorem dX7_readsDeed_87 : decode cX7_readsDeed 87 = .ok (.iconst 0, 1) := by decide +kernel
theorem dX7_readsDeed_88 : decode cX7_readsDeed 88 = .ok (.ireturn, 1) := by decide +kernel
theorem dX7_readsDeed_89 : decode cX7_readsDeed 89 = .ok (.aload_n 0, 1) := by decide +kernel
theorem dX7_readsDeed_90 : decode cX7_readsDeed 90 = .ok (.getfield 25, 3) := by decide +kernel
theorem dX7_readsDeed_93 : decode cX7_readsDeed 93 = .ok (.aload_n 0, 1) := by decide +kernel
theorem dX7_readsDeed_94 : decode cX7_readsDeed 94 = .ok (.getfield 96, 3) := by decide +kernel
theorem dX7_readsDeed_97 : decode cX7_readsDeed 97 = .ok (.iload_n 3, 1) := by decide +kernel
theorem dX7_readsDeed_98 : decode cX7_readsDeed 98 = .ok (.iastore, 1) := by decide +kernel
theorem dX7_readsDeed_99 : decode cX7_readsDeed 99 = .ok (.aload_n 0, 1) := by decide +kernel
theorem dX7_readsDeed_100 : decode cX7_readsDeed 100 = .ok (.getfield 28, 3) := by decide +kernel
theorem dX7_readsDeed_103 : decode cX7_readsDeed 103 = .ok (.aload_n 0, 1) := by decide +kernel
theorem dX7_readsDeed_104 : decode cX7_readsDeed 104 = .ok (.getfield 96, 3) := by decide +kernel
theorem dX7_readsDeed_107 : decode cX7_readsDeed 107 = .ok (.iload 4, 2) := by decide +kernel
theorem dX7_readsDeed_109 : decode cX7_readsDeed 109 = .ok (.iastore, 1) := by decide +kernel
theorem dX7_readsDeed_110 : decode cX7_readsDeed 110 = .ok (.aload_n 0, 1) := by decide +kernel
theorem dX7_readsDeed_111 : decode cX7_readsDeed 111 = .ok (.getfield 31, 3) := by decide +kernel
theorem dX7_readsDeed_114 : decode cX7_readsDeed 114 = .ok (.aload_n 0, 1) := by decide +kernel
theorem dX7_readsDeed_115 : decode cX7_readsDeed 115 = .ok (.getfield 96, 3) := by decide +kernel
theorem dX7_readsDeed_118 : decode cX7_readsDeed 118 = .ok (.iload 5, 2) := by decide +kernel
theorem dX7_readsDeed_120 : decode cX7_readsDeed 120 = .ok (.iastore, 1) := by decide +kernel
theorem dX7_readsDeed_121 : decode cX7_readsDeed 121 = .ok (.aload_n 0, 1) := by decide +kernel
theorem dX7_readsDeed_122 : decode cX7_readsDeed 122 = .ok (.dup, 1) := by decide +kernel
theorem dX7_readsDeed_123 : decode cX7_readsDeed 123 = .ok (.getfield 96, 3) := by decide +kernel
theorem dX7_readsDeed_126 : decode cX7_readsDeed 126 = .ok (.iconst 1, 1) := by decide +kernel
theorem dX7_readsDeed_127 : decode cX7_readsDeed 127 = .ok (.iadd, 1) := by decide +kernel
theorem dX7_readsDeed_128 : decode cX7_readsDeed 128 = .ok (.putfield 96, 3) := by decide +kernel
theorem dX7_readsDeed_131 : decode cX7_readsDeed 131 = .ok (.iconst 1, 1) := by decide +kernel
theorem dX7_readsDeed_132 : decode cX7_readsDeed 132 = .ok (.ireturn, 1) := by decide +kernel
set_option maxRecDepth 20000 in
theorem ggX7_readsSubject_X7_codeAt : GoodIn wsX7_readsSubject wsX7_codeAt := goodIn_r _ [9, 2, 10, 18, 19, 20, 21, 22, 23, 24, 25, 26, 27, 28, 29, 30, 31, 32, 33, 34, 35, 36, 37, 38, 39, 40, 41, 42, 43, 44, 45, 46, 47] (by decide +kernel) (by decide +kernel)
set_option maxRecDepth 20000 in
theorem gX7_readsSubject_X7_codeAt : GoodIn wsX7_readsSubject (wsV RX7 92 RX7 yX7_codeAt wsX7_codeAt) := goodIn_app (goodIn_of _ (by decide +kernel)) ggX7_readsSubject_X7_codeAt
set_option maxRecDepth 20000 in
theorem ggX7_readsSubject_X7_figure : GoodIn wsX7_readsSubject wsX7_figure := goodIn_r _ [14, 2, 5, 6, 7, 8, 9, 10, 15, 16, 17, 18, 19, 20, 21, 22, 23, 24, 25, 26, 27, 28, 29, 30, 31, 32, 33, 34, 35, 36, 37, 38, 39, 40, 41, 42, 43, 44, 45, 46, 47] (by decide +kernel) (by decide +kernel)
set_option maxRecDepth 20000 in
theorem gX7_readsSubject_X7_figure : GoodIn wsX7_readsSubject (wsV RX7 99 RX7 yX7_figure wsX7_figure) := goodIn_app (goodIn_of _ (by decide +kernel)) ggX7_readsSubject_X7_figure
theorem dX7_readsSubject_0 : decode cX7_readsSubject 0 = .ok (.aload_n 0, 1) := by decide +kernel
theorem dX7_readsSubject_1 : decode cX7_readsSubject 1 = .ok (.getfield 103, 3) := by decide +kernel
theorem dX7_readsSubject_4 : decode cX7_readsSubject 4 = .ok (.iconst 4, 1) := by decide +kernel
theorem dX7_readsSubject_5 : decode cX7_readsSubject 5 = .ok (.if_icmp .eq 14, 3) := by decide +kernel
theorem dX7_readsSubject_8 : decode cX7_readsSubject 8 = .ok (.aload_n 0, 1) := by decide +kernel
theorem dX7_readsSubject_9 : decode cX7_readsSubject 9 = .ok (.iload_n 1, 1) := by decide +kernel
theorem dX7_readsSubject_10 : decode cX7_readsSubject 10 = .ok (.iload_n 2, 1) := by decide +kernel
theorem dX7_readsSubject_11 : decode cX7_readsSubject 11 = .ok (.invokevirtual 92, 3) := by decide +kernel
theorem dX7_readsSubject_14 : decode cX7_readsSubject 14 = .ok (.bipush 59, 2) := by decide +kernel
theorem dX7_readsSubject_16 : decode cX7_readsSubject 16 = .ok (.if_icmp .eq 5, 3) := by decide +kernel
theorem dX7_readsSubject_19 : decode cX7_readsSubject 19 = .ok (.iconst 0, 1) := by decide +kernel
theorem dX7_readsSubject_20 : decode cX7_readsSubject 20 = .ok (.ireturn, 1) := by decide +kernel
theorem dX7_readsSubject_21 : decode cX7_readsSubject 21 = .ok (.aload_n 0, 1) := by decide +kernel
theorem dX7_readsSubject_22 : decode cX7_readsSubject 22 = .ok (.dup, 1) := by decide +kernel
theorem dX7_readsSubject_23 : decode cX7_readsSubject 23 = .ok (.getfield 89, 3) := by decide +kernel
theorem dX7_readsSubject_26 : decode cX7_readsSubject 26 = .ok (.iconst 1, 1) := by decide +kernel
theorem dX7_readsSubject_27 : decode cX7_readsSubject 27 = .ok (.iadd, 1) := by decide +kernel
theorem dX7_readsSubject_28 : decode cX7_readsSubject 28 = .ok (.putfield 89, 3) := by decide +kernel
theorem dX7_readsSubject_31 : decode cX7_readsSubject 31 = .ok (.aload_n 0, 1) := by decide +kernel
theorem dX7_readsSubject_32 : decode cX7_readsSubject 32 = .ok (.iload_n 1, 1) := by decide +kernel
theorem dX7_readsSubject_33 : decode cX7_readsSubject 33 = .ok (.iload_n 2, 1) := by decide +kernel
theorem dX7_readsSubject_34 : decode cX7_readsSubject 34 = .ok (.invokevirtual 92, 3) := by decide +kernel
theorem dX7_readsSubject_37 : decode cX7_readsSubject 37 = .ok (.istore_n 3, 1) := by decide +kernel
theorem dX7_readsSubject_38 : decode cX7_readsSubject 38 = .ok (.iload_n 3, 1) := by decide +kernel
theorem dX7_readsSubject_39 : decode cX7_readsSubject 39 = .ok (.bipush 115, 2) := by decide +kernel
theorem dX7_readsSubject_41 : decode cX7_readsSubject 41 = .ok (.if_icmp .eq 17, 3) := by decide +kernel
theorem dX7_readsSubject_44 : decode cX7_readsSubject 44 = .ok (.iload_n 3, 1) := by decide +kernel
theorem dX7_readsSubject_45 : decode cX7_readsSubject 45 = .ok (.bipush 109, 2) := by decide +kernel
theorem dX7_readsSubject_47 : decode cX7_readsSubject 47 = .ok (.if_icmp .eq 11, 3) := by decide +kernel
theorem dX7_readsSubject_50 : decode cX7_readsSubject 50 = .ok (.iload_n 3, 1) := by decide +kernel
theorem dX7_readsSubject_51 : decode cX7_readsSubject 51 = .ok (.bipush 104, 2) := by decide +kernel
theorem dX7_readsSubject_53 : decode cX7_readsSubject 53 = .ok (.if_icmp .eq 5, 3) := by decide +kernel
theorem dX7_readsSubject_56 : decode cX7_readsSubject 56 = .ok (.iconst 0, 1) := by decide +kernel
theorem dX7_readsSubject_57 : decode cX7_readsSubject 57 = .ok (.ireturn, 1) := by decide +kernel
theorem dX7_readsSubject_58 : decode cX7_readsSubject 58 = .ok (.aload_n 0, 1) := by decide +kernel
theorem dX7_readsSubject_59 : decode cX7_readsSubject 59 = .ok (.dup, 1) := by decide +kernel
theorem dX7_readsSubject_60 : decode cX7_readsSubject 60 = .ok (.getfield 89, 3) := by decide +kernel
theorem dX7_readsSubject_63 : decode cX7_readsSubject 63 = .ok (.iconst 1, 1) := by decide +kernel
theorem dX7_readsSubject_64 : decode cX7_readsSubject 64 = .ok (.iadd, 1) := by decide +kernel
theorem dX7_readsSubject_65 : decode cX7_readsSubject 65 = .ok (.putfield 89, 3) := by decide +kernel
theorem dX7_readsSubject_68 : decode cX7_readsSubject 68 = .ok (.aload_n 0, 1) := by decide +kernel
theorem dX7_readsSubject_69 : decode cX7_readsSubject 69 = .ok (.iload_n 1, 1) := by decide +kernel
theorem dX7_readsSubject_70 : decode cX7_readsSubject 70 = .ok (.iload_n 2, 1) := by decide +kernel
theorem dX7_readsSubject_71 : decode cX7_readsSubject 71 = .ok (.iconst 0, 1) := by decide +kernel
theorem dX7_readsSubject_72 : decode cX7_readsSubject 72 = .ok (.iconst 3, 1) := by decide +kernel
theorem dX7_readsSubject_73 : decode cX7_readsSubject 73 = .ok (.invokevirtual 99, 3) := by decide +kernel
theorem dX7_readsSubject_76 : decode cX7_readsSubject 76 = .ok (.istore 4, 2) := by decide +kernel
theorem dX7_readsSubject_78 : decode cX7_readsSubject 78 = .ok (.iload 4, 2) := by decide +kernel
theorem dX7_readsSubject_80 : decode cX7_readsSubject 80 = .ok (.ifCond .ge 5, 3) := by decide +kernel
theorem dX7_readsSubject_83 : decode cX7_readsSubject 83 = .ok (.iconst 0, 1) := by decide +kernel
theorem dX7_readsSubject_84 : decode cX7_readsSubject 84 = .ok (.ireturn, 1) := by decide +kernel
theorem dX7_readsSubject_85 : decode cX7_readsSubject 85 = .ok (.aload_n 0, 1) := by decide +kernel
theorem dX7_readsSubject_86 : decode cX7_readsSubject 86 = .ok (.getfield 34, 3) := by decide +kernel
theorem dX7_readsSubject_89 : decode cX7_readsSubject 89 = .ok (.aload_n 0, 1) := by decide +kernel
theorem dX7_readsSubject_90 : decode cX7_readsSubject 90 = .ok (.getfield 103, 3) := by decide +kernel
theorem dX7_readsSubject_93 : decode cX7_readsSubject 93 = .ok (.iload_n 3, 1) := by decide +kernel
theorem dX7_readsSubject_94 : decode cX7_readsSubject 94 = .ok (.bipush 115, 2) := by decide +kernel
theorem dX7_readsSubject_96 : decode cX7_readsSubject 96 = .ok (.if_icmp .ne 7, 3) := by decide +kernel
theorem dX7_readsSubject_99 : decode cX7_readsSubject 99 = .ok (.iconst 0, 1) := by decide +kernel
theorem dX7_readsSubject_100 : decode cX7_readsSubject 100 = .ok (.goto 14, 3) := by decide +kernel
theorem dX7_readsSubject_103 : decode cX7_readsSubject 103 = .ok (.iload_n 3, 1) := by decide +kernel
theorem dX7_readsSubject_104 : decode cX7_readsSubject 104 = .ok (.bipush 109, 2) := by decide +kernel
theorem dX7_readsSubject_106 : decode cX7_readsSubject 106 = .ok (.if_icmp .ne 7, 3) := by decide +kernel
theorem dX7_readsSubject_109 : decode cX7_readsSubject 109 = .ok (.iconst 1, 1) := by decide +kernel
theorem dX7_readsSubject_110 : decode cX7_readsSubject 110 = .ok (.goto 4, 3) := by decide +kernel
theorem dX7_readsSubject_113 : decode cX7_readsSubject 113 = .ok (.iconst 2, 1) := by decide +kernel
theorem dX7_readsSubject_114 : decode cX7_readsSubject 114 = .ok (.iastore, 1) := by decide +kernel
theorem dX7_readsSubject_115 : decode cX7_readsSubject 115 = .ok (.aload_n 0, 1) := by decide +kernel
theorem dX7_readsSubject_116 : decode cX7_readsSubject 116 = .ok (.getfield 37, 3) := by decide +kernel
theorem dX7_readsSubject_119 : decode cX7_readsSubject 119 = .ok (.aload_n 0, 1) := by decide +kernel
theorem dX7_readsSubject_120 : decode cX7_readsSubject 120 = .ok (.getfield 103, 3) := by decide +kernel
theorem dX7_readsSubject_123 : decode cX7_readsSubject 123 = .ok (.iload 4, 2) := by decide +kernel
theorem dX7_readsSubject_125 : decode cX7_readsSubject 125 = .ok (.iastore, 1) := by decide +kernel
theorem dX7_readsSubject_126 : decode cX7_readsSubject 126 = .ok (.aload_n 0, 1) := by decide +kernel
theorem dX7_readsSubject_127 : decode cX7_readsSubject 127 = .ok (.dup, 1) := by decide +kernel
theorem dX7_readsSubject_128 : decode cX7_readsSubject 128 = .ok (.getfield 103, 3) := by decide +kernel
theorem dX7_readsSubject_131 : decode cX7_readsSubject 131 = .ok (.iconst 1, 1) := by decide +kernel
theorem dX7_readsSubject_132 : decode cX7_readsSubject 132 = .ok (.iadd, 1) := by decide +kernel
theorem dX7_readsSubject_133 : decode cX7_readsSubject 133 = .ok (.putfield 103, 3) := by decide +kernel
theorem dX7_readsSubject_136 : decode cX7_readsSubject 136 = .ok (.iconst 1, 1) := by decide +kernel
theorem dX7_readsSubject_137 : decode cX7_readsSubject 137 = .ok (.ireturn, 1) := by decide +kernel
set_option maxRecDepth 20000 in
theorem ggX7_readsKingdom_X7_codeAt : GoodIn wsX7_readsKingdom wsX7_codeAt := goodIn_r _ [8, 1, 9, 30, 31, 32, 33, 34, 35, 36, 37, 38, 39, 40, 41, 42, 43, 44, 45, 46, 47, 48, 49, 50, 51, 52, 53, 54, 55, 56, 57, 58, 59] (by decide +kernel) (by decide +kernel)
set_option maxRecDepth 20000 in
theorem gX7_readsKingdom_X7_codeAt : GoodIn wsX7_readsKingdom (wsV RX7 92 RX7 yX7_codeAt wsX7_codeAt) := goodIn_app (goodIn_of _ (by decide +kernel)) ggX7_readsKingdom_X7_codeAt
set_option maxRecDepth 20000 in
theorem ggX7_readsKingdom_X7_readsDeed : GoodIn wsX7_readsKingdom wsX7_readsDeed := goodIn_r _ [13, 2, 1, 14, 15, 16, 4, 5, 6, 7, 8, 9, 17, 18, 19, 20, 21, 22, 23, 30, 31, 32, 33, 34, 35, 36, 37, 38, 39, 40, 41, 42, 43, 44, 45, 46, 47, 48, 49, 50, 51, 52, 53, 54, 55, 56, 57, 58, 59] (by decide +kernel) (by decide +kernel)
set_option maxRecDepth 20000 in
theorem gX7_readsKingdom_X7_readsDeed : GoodIn wsX7_readsKingdom (wsV RX7 106 RX7 yX7_readsDeed wsX7_readsDeed) := goodIn_app (goodIn_of _ (by decide +kernel)) ggX7_readsKingdom_X7_readsDeed
set_option maxRecDepth 20000 in
theorem ggX7_readsKingdom_X7_readsSubject : GoodIn wsX7_readsKingdom wsX7_readsSubject := goodIn_r _ [27, 3, 1, 28, 29, 4, 5, 6, 7, 8, 9, 17, 18, 19, 20, 21, 22, 23, 30, 31, 32, 33, 34, 35, 36, 37, 38, 39, 40, 41, 42, 43, 44, 45, 46, 47, 48, 49, 50, 51, 52, 53, 54, 55, 56, 57, 58, 59] (by decide +kernel) (by decide +kernel)
set_option maxRecDepth 20000 in
theorem gX7_readsKingdom_X7_readsSubject : GoodIn wsX7_readsKingdom (wsV RX7 110 RX7 yX7_readsSubject wsX7_readsSubject) := goodIn_app (goodIn_of _ (by decide +kernel)) ggX7_readsKingdom_X7_readsSubject
theorem dX7_readsKingdom_0 : decode cX7_readsKingdom 0 = .ok (.aload_n 0, 1) := by decide +kernel
theorem dX7_readsKingdom_1 : decode cX7_readsKingdom 1 = .ok (.iconst 0, 1) := by decide +kernel
theorem dX7_readsKingdom_2 : decode cX7_readsKingdom 2 = .ok (.putfield 89, 3) := by decide +kernel
theorem dX7_readsKingdom_5 : decode cX7_readsKingdom 5 = .ok (.aload_n 0, 1) := by decide +kernel
theorem dX7_readsKingdom_6 : decode cX7_readsKingdom 6 = .ok (.iconst 0, 1) := by decide +kernel
theorem dX7_readsKingdom_7 : decode cX7_readsKingdom 7 = .ok (.putfield 96, 3) := by decide +kernel
theorem dX7_readsKingdom_10 : decode cX7_readsKingdom 10 = .ok (.aload_n 0, 1) := by decide +kernel
theorem dX7_readsKingdom_11 : decode cX7_readsKingdom 11 = .ok (.iconst 0, 1) := by decide +kernel
theorem dX7_readsKingdom_12 : decode cX7_readsKingdom 12 = .ok (.putfield 103, 3) := by decide +kernel
theorem dX7_readsKingdom_15 : decode cX7_readsKingdom 15 = .ok (.aload_n 0, 1) := by decide +kernel
theorem dX7_readsKingdom_16 : decode cX7_readsKingdom 16 = .ok (.iload_n 1, 1) := by decide +kernel
theorem dX7_readsKingdom_17 : decode cX7_readsKingdom 17 = .ok (.iload_n 2, 1) := by decide +kernel
theorem dX7_readsKingdom_18 : decode cX7_readsKingdom 18 = .ok (.invokevirtual 92, 3) := by decide +kernel
theorem dX7_readsKingdom_21 : decode cX7_readsKingdom 21 = .ok (.bipush 112, 2) := by decide +kernel
theorem dX7_readsKingdom_23 : decode cX7_readsKingdom 23 = .ok (.if_icmp .ne 7, 3) := by decide +kernel
theorem dX7_readsKingdom_26 : decode cX7_readsKingdom 26 = .ok (.iconst 1, 1) := by decide +kernel
theorem dX7_readsKingdom_27 : decode cX7_readsKingdom 27 = .ok (.goto 4, 3) := by decide +kernel
theorem dX7_readsKingdom_30 : decode cX7_readsKingdom 30 = .ok (.iconst 0, 1) := by decide +kernel
theorem dX7_readsKingdom_31 : decode cX7_readsKingdom 31 = .ok (.istore_n 3, 1) := by decide +kernel
theorem dX7_readsKingdom_32 : decode cX7_readsKingdom 32 = .ok (.aload_n 0, 1) := by decide +kernel
theorem dX7_readsKingdom_33 : decode cX7_readsKingdom 33 = .ok (.dup, 1) := by decide +kernel
theorem dX7_readsKingdom_34 : decode cX7_readsKingdom 34 = .ok (.getfield 89, 3) := by decide +kernel
theorem dX7_readsKingdom_37 : decode cX7_readsKingdom 37 = .ok (.iload_n 3, 1) := by decide +kernel
theorem dX7_readsKingdom_38 : decode cX7_readsKingdom 38 = .ok (.ifCond .eq 7, 3) := by decide +kernel
theorem dX7_readsKingdom_41 : decode cX7_readsKingdom 41 = .ok (.iconst 1, 1) := by decide +kernel
theorem dX7_readsKingdom_42 : decode cX7_readsKingdom 42 = .ok (.goto 4, 3) := by decide +kernel
theorem dX7_readsKingdom_45 : decode cX7_readsKingdom 45 = .ok (.iconst 0, 1) := by decide +kernel
theorem dX7_readsKingdom_46 : decode cX7_readsKingdom 46 = .ok (.iadd, 1) := by decide +kernel
theorem dX7_readsKingdom_47 : decode cX7_readsKingdom 47 = .ok (.putfield 89, 3) := by decide +kernel
theorem dX7_readsKingdom_50 : decode cX7_readsKingdom 50 = .ok (.iload_n 3, 1) := by decide +kernel
theorem dX7_readsKingdom_51 : decode cX7_readsKingdom 51 = .ok (.ifCond .eq 31, 3) := by decide +kernel
theorem dX7_readsKingdom_54 : decode cX7_readsKingdom 54 = .ok (.aload_n 0, 1) := by decide +kernel
theorem dX7_readsKingdom_55 : decode cX7_readsKingdom 55 = .ok (.getfield 96, 3) := by decide +kernel
theorem dX7_readsKingdom_58 : decode cX7_readsKingdom 58 = .ok (.ifCond .eq 14, 3) := by decide +kernel
theorem dX7_readsKingdom_61 : decode cX7_readsKingdom 61 = .ok (.aload_n 0, 1) := by decide +kernel
theorem dX7_readsKingdom_62 : decode cX7_readsKingdom 62 = .ok (.iload_n 1, 1) := by decide +kernel
theorem dX7_readsKingdom_63 : decode cX7_readsKingdom 63 = .ok (.iload_n 2, 1) := by decide +kernel
theorem dX7_readsKingdom_64 : decode cX7_readsKingdom 64 = .ok (.invokevirtual 92, 3) := by decide +kernel
theorem dX7_readsKingdom_67 : decode cX7_readsKingdom 67 = .ok (.bipush 47, 2) := by decide +kernel
theorem dX7_readsKingdom_69 : decode cX7_readsKingdom 69 = .ok (.if_icmp .ne 13, 3) := by decide +kernel
theorem dX7_readsKingdom_72 : decode cX7_readsKingdom 72 = .ok (.aload_n 0, 1) := by decide +kernel
theorem dX7_readsKingdom_73 : decode cX7_readsKingdom 73 = .ok (.iload_n 1, 1) := by decide +kernel
theorem dX7_readsKingdom_74 : decode cX7_readsKingdom 74 = .ok (.iload_n 2, 1) := by decide +kernel
theorem dX7_readsKingdom_75 : decode cX7_readsKingdom 75 = .ok (.invokevirtual 106, 3) := by decide +kernel
theorem dX7_readsKingdom_78 : decode cX7_readsKingdom 78 = .ok (.istore_n 3, 1) := by decide +kernel
theorem dX7_readsKingdom_79 : decode cX7_readsKingdom 79 = .ok (.goto (-29), 3) := by decide +kernel
theorem dX7_readsKingdom_82 : decode cX7_readsKingdom 82 = .ok (.iload_n 3, 1) := by decide +kernel
theorem dX7_readsKingdom_83 : decode cX7_readsKingdom 83 = .ok (.ifCond .eq 28, 3) := by decide +kernel
theorem dX7_readsKingdom_86 : decode cX7_readsKingdom 86 = .ok (.aload_n 0, 1) := by decide +kernel
theorem dX7_readsKingdom_87 : decode cX7_readsKingdom 87 = .ok (.getfield 103, 3) := by decide +kernel
theorem dX7_readsKingdom_90 : decode cX7_readsKingdom 90 = .ok (.ifCond .eq 11, 3) := by decide +kernel
theorem dX7_readsKingdom_93 : decode cX7_readsKingdom 93 = .ok (.aload_n 0, 1) := by decide +kernel
theorem dX7_readsKingdom_94 : decode cX7_readsKingdom 94 = .ok (.getfield 89, 3) := by decide +kernel
theorem dX7_readsKingdom_97 : decode cX7_readsKingdom 97 = .ok (.iload_n 2, 1) := by decide +kernel
theorem dX7_readsKingdom_98 : decode cX7_readsKingdom 98 = .ok (.if_icmp .ge 13, 3) := by decide +kernel
theorem dX7_readsKingdom_101 : decode cX7_readsKingdom 101 = .ok (.aload_n 0, 1) := by decide +kernel
theorem dX7_readsKingdom_102 : decode cX7_readsKingdom 102 = .ok (.iload_n 1, 1) := by decide +kernel
theorem dX7_readsKingdom_103 : decode cX7_readsKingdom 103 = .ok (.iload_n 2, 1) := by decide +kernel
theorem dX7_readsKingdom_104 : decode cX7_readsKingdom 104 = .ok (.invokevirtual 110, 3) := by decide +kernel
theorem dX7_readsKingdom_107 : decode cX7_readsKingdom 107 = .ok (.istore_n 3, 1) := by decide +kernel
theorem dX7_readsKingdom_108 : decode cX7_readsKingdom 108 = .ok (.goto (-26), 3) := by decide +kernel
theorem dX7_readsKingdom_111 : decode cX7_readsKingdom 111 = .ok (.iload_n 3, 1) := by decide +kernel
theorem dX7_readsKingdom_112 : decode cX7_readsKingdom 112 = .ok (.ireturn, 1) := by decide +kernel
set_option maxRecDepth 20000 in
theorem ggX7_cellsBarred_X7_failed : GoodIn wsX7_cellsBarred wsX7_failed := goodIn_r _ [7, 8, 12, 13, 14, 15, 16, 17, 18, 19, 20, 21, 22, 23, 24, 25, 26, 27, 28, 29, 30, 31, 32, 33, 34, 35, 36, 37, 38, 39, 40, 41] (by decide +kernel) (by decide +kernel)
set_option maxRecDepth 20000 in
theorem gX7_cellsBarred_X7_failed : GoodIn wsX7_cellsBarred (wsV RX7 113 RX7 yX7_failed wsX7_failed) := goodIn_app (goodIn_of _ (by decide +kernel)) ggX7_cellsBarred_X7_failed
set_option maxRecDepth 20000 in
theorem ggX7_cellsBarred_X7_isBeyond : GoodIn wsX7_cellsBarred wsX7_isBeyond := goodIn_r _ [11] (by decide +kernel) (by decide +kernel)
set_option maxRecDepth 20000 in
theorem gX7_cellsBarred_X7_isBeyond : GoodIn wsX7_cellsBarred (va_wsS RX7 117 yX7_isBeyond wsX7_isBeyond) := goodIn_app (goodIn_of _ (by decide +kernel)) ggX7_cellsBarred_X7_isBeyond
theorem dX7_cellsBarred_0 : decode cX7_cellsBarred 0 = .ok (.aload_n 0, 1) := by decide +kernel
theorem dX7_cellsBarred_1 : decode cX7_cellsBarred 1 = .ok (.getfield 57, 3) := by decide +kernel
theorem dX7_cellsBarred_4 : decode cX7_cellsBarred 4 = .ok (.iload_n 1, 1) := by decide +kernel
theorem dX7_cellsBarred_5 : decode cX7_cellsBarred 5 = .ok (.iaload, 1) := by decide +kernel
theorem dX7_cellsBarred_6 : decode cX7_cellsBarred 6 = .ok (.ifCond .lt 19, 3) := by decide +kernel
theorem dX7_cellsBarred_9 : decode cX7_cellsBarred 9 = .ok (.aload_n 0, 1) := by decide +kernel
theorem dX7_cellsBarred_10 : decode cX7_cellsBarred 10 = .ok (.getfield 60, 3) := by decide +kernel
theorem dX7_cellsBarred_13 : decode cX7_cellsBarred 13 = .ok (.iload_n 1, 1) := by decide +kernel
theorem dX7_cellsBarred_14 : decode cX7_cellsBarred 14 = .ok (.iaload, 1) := by decide +kernel
theorem dX7_cellsBarred_15 : decode cX7_cellsBarred 15 = .ok (.iload_n 2, 1) := by decide +kernel
theorem dX7_cellsBarred_16 : decode cX7_cellsBarred 16 = .ok (.if_icmp .eq 9, 3) := by decide +kernel
theorem dX7_cellsBarred_19 : decode cX7_cellsBarred 19 = .ok (.aload_n 0, 1) := by decide +kernel
theorem dX7_cellsBarred_20 : decode cX7_cellsBarred 20 = .ok (.iconst 2, 1) := by decide +kernel
theorem dX7_cellsBarred_21 : decode cX7_cellsBarred 21 = .ok (.invokevirtual 113, 3) := by decide +kernel
theorem dX7_cellsBarred_24 : decode cX7_cellsBarred 24 = .ok (.ireturn, 1) := by decide +kernel
theorem dX7_cellsBarred_25 : decode cX7_cellsBarred 25 = .ok (.aload_n 0, 1) := by decide +kernel
theorem dX7_cellsBarred_26 : decode cX7_cellsBarred 26 = .ok (.getfield 57, 3) := by decide +kernel
theorem dX7_cellsBarred_29 : decode cX7_cellsBarred 29 = .ok (.iload_n 1, 1) := by decide +kernel
theorem dX7_cellsBarred_30 : decode cX7_cellsBarred 30 = .ok (.iaload, 1) := by decide +kernel
theorem dX7_cellsBarred_31 : decode cX7_cellsBarred 31 = .ok (.ifCond .ge 9, 3) := by decide +kernel
theorem dX7_cellsBarred_34 : decode cX7_cellsBarred 34 = .ok (.aload_n 0, 1) := by decide +kernel
theorem dX7_cellsBarred_35 : decode cX7_cellsBarred 35 = .ok (.iconst 1, 1) := by decide +kernel
theorem dX7_cellsBarred_36 : decode cX7_cellsBarred 36 = .ok (.invokevirtual 113, 3) := by decide +kernel
theorem dX7_cellsBarred_39 : decode cX7_cellsBarred 39 = .ok (.ireturn, 1) := by decide +kernel
theorem dX7_cellsBarred_40 : decode cX7_cellsBarred 40 = .ok (.lload 4, 2) := by decide +kernel
theorem dX7_cellsBarred_42 : decode cX7_cellsBarred 42 = .ok (.lconst 0, 1) := by decide +kernel
theorem dX7_cellsBarred_43 : decode cX7_cellsBarred 43 = .ok (.lcmp, 1) := by decide +kernel
theorem dX7_cellsBarred_44 : decode cX7_cellsBarred 44 = .ok (.ifCond .ge 9, 3) := by decide +kernel
theorem dX7_cellsBarred_47 : decode cX7_cellsBarred 47 = .ok (.aload_n 0, 1) := by decide +kernel
theorem dX7_cellsBarred_48 : decode cX7_cellsBarred 48 = .ok (.iconst 4, 1) := by decide +kernel
theorem dX7_cellsBarred_49 : decode cX7_cellsBarred 49 = .ok (.invokevirtual 113, 3) := by decide +kernel
theorem dX7_cellsBarred_52 : decode cX7_cellsBarred 52 = .ok (.ireturn, 1) := by decide +kernel
theorem dX7_cellsBarred_53 : decode cX7_cellsBarred 53 = .ok (.iload_n 3, 1) := by decide +kernel
theorem dX7_cellsBarred_54 : decode cX7_cellsBarred 54 = .ok (.lload 4, 2) := by decide +kernel
theorem dX7_cellsBarred_56 : decode cX7_cellsBarred 56 = .ok (.aload_n 0, 1) := by decide +kernel
theorem dX7_cellsBarred_57 : decode cX7_cellsBarred 57 = .ok (.getfield 57, 3) := by decide +kernel
theorem dX7_cellsBarred_60 : decode cX7_cellsBarred 60 = .ok (.iload_n 1, 1) := by decide +kernel
theorem dX7_cellsBarred_61 : decode cX7_cellsBarred 61 = .ok (.iaload, 1) := by decide +kernel
theorem dX7_cellsBarred_62 : decode cX7_cellsBarred 62 = .ok (.invokestatic 117, 3) := by decide +kernel
theorem dX7_cellsBarred_65 : decode cX7_cellsBarred 65 = .ok (.ifCond .eq 11, 3) := by decide +kernel
theorem dX7_cellsBarred_68 : decode cX7_cellsBarred 68 = .ok (.aload_n 0, 1) := by decide +kernel
theorem dX7_cellsBarred_69 : decode cX7_cellsBarred 69 = .ok (.iconst 3, 1) := by decide +kernel
theorem dX7_cellsBarred_70 : decode cX7_cellsBarred 70 = .ok (.invokevirtual 113, 3) := by decide +kernel
theorem dX7_cellsBarred_73 : decode cX7_cellsBarred 73 = .ok (.goto 4, 3) := by decide +kernel
theorem dX7_cellsBarred_76 : decode cX7_cellsBarred 76 = .ok (.iconst 0, 1) := by decide +kernel
theorem dX7_cellsBarred_77 : decode cX7_cellsBarred 77 = .ok (.ireturn, 1) := by decide +kernel
set_option maxRecDepth 20000 in
theorem ggX7_kingdom_X7_noSheet : GoodIn wsX7_kingdom wsX7_noSheet := goodIn_r _ [21, 22, 23, 24, 20, 25] (by decide +kernel) (by decide +kernel)
set_option maxRecDepth 20000 in
theorem gX7_kingdom_X7_noSheet : GoodIn wsX7_kingdom (va_wsS RX7 121 yX7_noSheet wsX7_noSheet) := goodIn_app (goodIn_of _ (by decide +kernel)) ggX7_kingdom_X7_noSheet
set_option maxRecDepth 20000 in
theorem ggX7_kingdom_X7_refused : GoodIn wsX7_kingdom wsX7_refused := goodIn_r _ [29, 30, 65, 66, 67, 68, 69, 70, 71, 72, 73, 74, 75, 76, 77, 78, 79, 80, 81, 82, 83, 84, 85, 86, 87, 88, 89, 90, 91, 92, 93, 94] (by decide +kernel) (by decide +kernel)
set_option maxRecDepth 20000 in
theorem gX7_kingdom_X7_refused : GoodIn wsX7_kingdom (wsV RX7 125 RX7 yX7_refused wsX7_refused) := goodIn_app (goodIn_of _ (by decide +kernel)) ggX7_kingdom_X7_refused
set_option maxRecDepth 20000 in
theorem ggX7_kingdom_X7_in : GoodIn wsX7_kingdom wsX7_in := goodIn_r _ [25] (by decide +kernel) (by decide +kernel)
set_option maxRecDepth 20000 in
theorem gX7_kingdom_X7_in : GoodIn wsX7_kingdom (va_wsS RX7 82 yX7_in wsX7_in) := goodIn_app (goodIn_of _ (by decide +kernel)) ggX7_kingdom_X7_in
set_option maxRecDepth 20000 in
theorem ggX7_kingdom_X7_cellsBarred : GoodIn wsX7_kingdom wsX7_cellsBarred := goodIn_r _ [34, 35, 36, 37, 38, 39, 20, 40, 30, 41, 42, 43, 65, 66, 67, 68, 69, 70, 71, 72, 73, 74, 75, 76, 77, 78, 79, 80, 81, 82, 83, 84, 85, 86, 87, 88, 89, 90, 91, 92, 93, 94] (by decide +kernel) (by decide +kernel)
set_option maxRecDepth 20000 in
theorem gX7_kingdom_X7_cellsBarred : GoodIn wsX7_kingdom (wsV RX7 130 RX7 yX7_cellsBarred wsX7_cellsBarred) := goodIn_app (goodIn_of _ (by decide +kernel)) ggX7_kingdom_X7_cellsBarred
set_option maxRecDepth 20000 in
theorem ggX7_kingdom_X7_readsKingdom : GoodIn wsX7_kingdom wsX7_readsKingdom := goodIn_r _ [47, 2, 3, 5, 48, 49, 50, 20, 51, 52, 53, 54, 55, 56, 8, 10, 12, 57, 58, 59, 60, 23, 24, 25, 61, 62, 63, 64, 14, 16, 65, 66, 67, 68, 69, 70, 71, 72, 73, 74, 75, 76, 77, 78, 79, 80, 81, 82, 83, 84, 85, 86, 87, 88, 89, 90, 91, 92, 93, 94] (by decide +kernel) (by decide +kernel)
set_option maxRecDepth 20000 in
theorem gX7_kingdom_X7_readsKingdom : GoodIn wsX7_kingdom (wsV RX7 134 RX7 yX7_readsKingdom wsX7_readsKingdom) := goodIn_app (goodIn_of _ (by decide +kernel)) ggX7_kingdom_X7_readsKingdom
theorem dX7_kingdom_0 : decode cX7_kingdom 0 = .ok (.iload_n 1, 1) := by decide +kernel
theorem dX7_kingdom_1 : decode cX7_kingdom 1 = .ok (.invokestatic 121, 3) := by decide +kernel
theorem dX7_kingdom_4 : decode cX7_kingdom 4 = .ok (.ifCond .eq 9, 3) := by decide +kernel
theorem dX7_kingdom_7 : decode cX7_kingdom 7 = .ok (.aload_n 0, 1) := by decide +kernel
theorem dX7_kingdom_8 : decode cX7_kingdom 8 = .ok (.iconst (-1), 1) := by decide +kernel
theorem dX7_kingdom_9 : decode cX7_kingdom 9 = .ok (.invokevirtual 125, 3) := by decide +kernel
theorem dX7_kingdom_12 : decode cX7_kingdom 12 = .ok (.ireturn, 1) := by decide +kernel
theorem dX7_kingdom_13 : decode cX7_kingdom 13 = .ok (.iload_n 2, 1) := by decide +kernel
theorem dX7_kingdom_14 : decode cX7_kingdom 14 = .ok (.i2l, 1) := by decide +kernel
theorem dX7_kingdom_15 : decode cX7_kingdom 15 = .ok (.lconst 0, 1) := by decide +kernel
theorem dX7_kingdom_16 : decode cX7_kingdom 16 = .ok (.ldc2_w 128, 3) := by decide +kernel
theorem dX7_kingdom_19 : decode cX7_kingdom 19 = .ok (.invokestatic 82, 3) := by decide +kernel
theorem dX7_kingdom_22 : decode cX7_kingdom 22 = .ok (.ifCond .ne 10, 3) := by decide +kernel
theorem dX7_kingdom_25 : decode cX7_kingdom 25 = .ok (.aload_n 0, 1) := by decide +kernel
theorem dX7_kingdom_26 : decode cX7_kingdom 26 = .ok (.bipush (-2), 2) := by decide +kernel
theorem dX7_kingdom_28 : decode cX7_kingdom 28 = .ok (.invokevirtual 125, 3) := by decide +kernel
theorem dX7_kingdom_31 : decode cX7_kingdom 31 = .ok (.ireturn, 1) := by decide +kernel
theorem dX7_kingdom_32 : decode cX7_kingdom 32 = .ok (.aload_n 0, 1) := by decide +kernel
theorem dX7_kingdom_33 : decode cX7_kingdom 33 = .ok (.iload_n 1, 1) := by decide +kernel
theorem dX7_kingdom_34 : decode cX7_kingdom 34 = .ok (.iload_n 2, 1) := by decide +kernel
theorem dX7_kingdom_35 : decode cX7_kingdom 35 = .ok (.iload_n 3, 1) := by decide +kernel
theorem dX7_kingdom_36 : decode cX7_kingdom 36 = .ok (.iload 4, 2) := by decide +kernel
theorem dX7_kingdom_38 : decode cX7_kingdom 38 = .ok (.i2l, 1) := by decide +kernel
theorem dX7_kingdom_39 : decode cX7_kingdom 39 = .ok (.invokevirtual 130, 3) := by decide +kernel
theorem dX7_kingdom_42 : decode cX7_kingdom 42 = .ok (.istore 5, 2) := by decide +kernel
theorem dX7_kingdom_44 : decode cX7_kingdom 44 = .ok (.iload 5, 2) := by decide +kernel
theorem dX7_kingdom_46 : decode cX7_kingdom 46 = .ok (.ifCond .ge 6, 3) := by decide +kernel
theorem dX7_kingdom_49 : decode cX7_kingdom 49 = .ok (.iload 5, 2) := by decide +kernel
theorem dX7_kingdom_51 : decode cX7_kingdom 51 = .ok (.ireturn, 1) := by decide +kernel
theorem dX7_kingdom_52 : decode cX7_kingdom 52 = .ok (.aload_n 0, 1) := by decide +kernel
theorem dX7_kingdom_53 : decode cX7_kingdom 53 = .ok (.bipush 60, 2) := by decide +kernel
theorem dX7_kingdom_55 : decode cX7_kingdom 55 = .ok (.iload_n 1, 1) := by decide +kernel
theorem dX7_kingdom_56 : decode cX7_kingdom 56 = .ok (.imul, 1) := by decide +kernel
theorem dX7_kingdom_57 : decode cX7_kingdom 57 = .ok (.iload_n 3, 1) := by decide +kernel
theorem dX7_kingdom_58 : decode cX7_kingdom 58 = .ok (.iadd, 1) := by decide +kernel
theorem dX7_kingdom_59 : decode cX7_kingdom 59 = .ok (.iload 4, 2) := by decide +kernel
theorem dX7_kingdom_61 : decode cX7_kingdom 61 = .ok (.invokevirtual 134, 3) := by decide +kernel
theorem dX7_kingdom_64 : decode cX7_kingdom 64 = .ok (.ifCond .ne 15, 3) := by decide +kernel
theorem dX7_kingdom_67 : decode cX7_kingdom 67 = .ok (.aload_n 0, 1) := by decide +kernel
theorem dX7_kingdom_68 : decode cX7_kingdom 68 = .ok (.bipush (-100), 2) := by decide +kernel
theorem dX7_kingdom_70 : decode cX7_kingdom 70 = .ok (.aload_n 0, 1) := by decide +kernel
theorem dX7_kingdom_71 : decode cX7_kingdom 71 = .ok (.getfield 89, 3) := by decide +kernel
theorem dX7_kingdom_74 : decode cX7_kingdom 74 = .ok (.isub, 1) := by decide +kernel
theorem dX7_kingdom_75 : decode cX7_kingdom 75 = .ok (.invokevirtual 125, 3) := by decide +kernel
theorem dX7_kingdom_78 : decode cX7_kingdom 78 = .ok (.ireturn, 1) := by decide +kernel
theorem dX7_kingdom_79 : decode cX7_kingdom 79 = .ok (.aload_n 0, 1) := by decide +kernel
theorem dX7_kingdom_80 : decode cX7_kingdom 80 = .ok (.aload_n 0, 1) := by decide +kernel
theorem dX7_kingdom_81 : decode cX7_kingdom 81 = .ok (.getfield 96, 3) := by decide +kernel
theorem dX7_kingdom_84 : decode cX7_kingdom 84 = .ok (.putfield 79, 3) := by decide +kernel
theorem dX7_kingdom_87 : decode cX7_kingdom 87 = .ok (.aload_n 0, 1) := by decide +kernel
theorem dX7_kingdom_88 : decode cX7_kingdom 88 = .ok (.aload_n 0, 1) := by decide +kernel
theorem dX7_kingdom_89 : decode cX7_kingdom 89 = .ok (.getfield 103, 3) := by decide +kernel
theorem dX7_kingdom_92 : decode cX7_kingdom 92 = .ok (.putfield 86, 3) := by decide +kernel
theorem dX7_kingdom_95 : decode cX7_kingdom 95 = .ok (.iconst 0, 1) := by decide +kernel
theorem dX7_kingdom_96 : decode cX7_kingdom 96 = .ok (.istore 6, 2) := by decide +kernel
theorem dX7_kingdom_98 : decode cX7_kingdom 98 = .ok (.iload 6, 2) := by decide +kernel
theorem dX7_kingdom_100 : decode cX7_kingdom 100 = .ok (.aload_n 0, 1) := by decide +kernel
theorem dX7_kingdom_101 : decode cX7_kingdom 101 = .ok (.getfield 79, 3) := by decide +kernel
theorem dX7_kingdom_104 : decode cX7_kingdom 104 = .ok (.if_icmp .ge 51, 3) := by decide +kernel
theorem dX7_kingdom_107 : decode cX7_kingdom 107 = .ok (.aload_n 0, 1) := by decide +kernel
theorem dX7_kingdom_108 : decode cX7_kingdom 108 = .ok (.getfield 7, 3) := by decide +kernel
theorem dX7_kingdom_111 : decode cX7_kingdom 111 = .ok (.iload 6, 2) := by decide +kernel
theorem dX7_kingdom_113 : decode cX7_kingdom 113 = .ok (.aload_n 0, 1) := by decide +kernel
theorem dX7_kingdom_114 : decode cX7_kingdom 114 = .ok (.getfield 25, 3) := by decide +kernel
theorem dX7_kingdom_117 : decode cX7_kingdom 117 = .ok (.iload 6, 2) := by decide +kernel
theorem dX7_kingdom_119 : decode cX7_kingdom 119 = .ok (.iaload, 1) := by decide +kernel
theorem dX7_kingdom_120 : decode cX7_kingdom 120 = .ok (.iastore, 1) := by decide +kernel
theorem dX7_kingdom_121 : decode cX7_kingdom 121 = .ok (.aload_n 0, 1) := by decide +kernel
theorem dX7_kingdom_122 : decode cX7_kingdom 122 = .ok (.getfield 13, 3) := by decide +kernel
theorem dX7_kingdom_125 : decode cX7_kingdom 125 = .ok (.iload 6, 2) := by decide +kernel
theorem dX7_kingdom_127 : decode cX7_kingdom 127 = .ok (.aload_n 0, 1) := by decide +kernel
theorem dX7_kingdom_128 : decode cX7_kingdom 128 = .ok (.getfield 28, 3) := by decide +kernel
theorem dX7_kingdom_131 : decode cX7_kingdom 131 = .ok (.iload 6, 2) := by decide +kernel
theorem dX7_kingdom_133 : decode cX7_kingdom 133 = .ok (.iaload, 1) := by decide +kernel
theorem dX7_kingdom_134 : decode cX7_kingdom 134 = .ok (.iastore, 1) := by decide +kernel
theorem dX7_kingdom_135 : decode cX7_kingdom 135 = .ok (.aload_n 0, 1) := by decide +kernel
theorem dX7_kingdom_136 : decode cX7_kingdom 136 = .ok (.getfield 16, 3) := by decide +kernel
theorem dX7_kingdom_139 : decode cX7_kingdom 139 = .ok (.iload 6, 2) := by decide +kernel
theorem dX7_kingdom_141 : decode cX7_kingdom 141 = .ok (.aload_n 0, 1) := by decide +kernel
theorem dX7_kingdom_142 : decode cX7_kingdom 142 = .ok (.getfield 31, 3) := by decide +kernel
theorem dX7_kingdom_145 : decode cX7_kingdom 145 = .ok (.iload 6, 2) := by decide +kernel
theorem dX7_kingdom_147 : decode cX7_kingdom 147 = .ok (.iaload, 1) := by decide +kernel
theorem dX7_kingdom_148 : decode cX7_kingdom 148 = .ok (.iastore, 1) := by decide +kernel
theorem dX7_kingdom_149 : decode cX7_kingdom 149 = .ok (.iinc 6 1, 3) := by decide +kernel
theorem dX7_kingdom_152 : decode cX7_kingdom 152 = .ok (.goto (-54), 3) := by decide +kernel
theorem dX7_kingdom_155 : decode cX7_kingdom 155 = .ok (.iconst 0, 1) := by decide +kernel
theorem dX7_kingdom_156 : decode cX7_kingdom 156 = .ok (.istore 6, 2) := by decide +kernel
theorem dX7_kingdom_158 : decode cX7_kingdom 158 = .ok (.iload 6, 2) := by decide +kernel
theorem dX7_kingdom_160 : decode cX7_kingdom 160 = .ok (.aload_n 0, 1) := by decide +kernel
theorem dX7_kingdom_161 : decode cX7_kingdom 161 = .ok (.getfield 86, 3) := by decide +kernel
theorem dX7_kingdom_164 : decode cX7_kingdom 164 = .ok (.if_icmp .ge 37, 3) := by decide +kernel
theorem dX7_kingdom_167 : decode cX7_kingdom 167 = .ok (.aload_n 0, 1) := by decide +kernel
theorem dX7_kingdom_168 : decode cX7_kingdom 168 = .ok (.getfield 19, 3) := by decide +kernel
theorem dX7_kingdom_171 : decode cX7_kingdom 171 = .ok (.iload 6, 2) := by decide +kernel
theorem dX7_kingdom_173 : decode cX7_kingdom 173 = .ok (.aload_n 0, 1) := by decide +kernel
theorem dX7_kingdom_174 : decode cX7_kingdom 174 = .ok (.getfield 34, 3) := by decide +kernel
theorem dX7_kingdom_177 : decode cX7_kingdom 177 = .ok (.iload 6, 2) := by decide +kernel
theorem dX7_kingdom_179 : decode cX7_kingdom 179 = .ok (.iaload, 1) := by decide +kernel
theorem dX7_kingdom_180 : decode cX7_kingdom 180 = .ok (.iastore, 1) := by decide +kernel
theorem dX7_kingdom_181 : decode cX7_kingdom 181 = .ok (.aload_n 0, 1) := by decide +kernel
theorem dX7_kingdom_182 : decode cX7_kingdom 182 = .ok (.getfield 22, 3) := by decide +kernel
theorem dX7_kingdom_185 : decode cX7_kingdom 185 = .ok (.iload 6, 2) := by decide +kernel
theorem dX7_kingdom_187 : decode cX7_kingdom 187 = .ok (.aload_n 0, 1) := by decide +kernel
theorem dX7_kingdom_188 : decode cX7_kingdom 188 = .ok (.getfield 37, 3) := by decide +kernel
theorem dX7_kingdom_191 : decode cX7_kingdom 191 = .ok (.iload 6, 2) := by decide +kernel
theorem dX7_kingdom_193 : decode cX7_kingdom 193 = .ok (.iaload, 1) := by decide +kernel
theorem dX7_kingdom_194 : decode cX7_kingdom 194 = .ok (.iastore, 1) := by decide +kernel
theorem dX7_kingdom_195 : decode cX7_kingdom 195 = .ok (.iinc 6 1, 3) := by decide +kernel
theorem dX7_kingdom_198 : decode cX7_kingdom 198 = .ok (.goto (-40), 3) := by decide +kernel
theorem dX7_kingdom_201 : decode cX7_kingdom 201 = .ok (.aload_n 0, 1) := by decide +kernel
theorem dX7_kingdom_202 : decode cX7_kingdom 202 = .ok (.iconst 0, 1) := by decide +kernel
theorem dX7_kingdom_203 : decode cX7_kingdom 203 = .ok (.putfield 137, 3) := by decide +kernel
theorem dX7_kingdom_206 : decode cX7_kingdom 206 = .ok (.aload_n 0, 1) := by decide +kernel
theorem dX7_kingdom_207 : decode cX7_kingdom 207 = .ok (.aload_n 0, 1) := by decide +kernel
theorem dX7_kingdom_208 : decode cX7_kingdom 208 = .ok (.getfield 86, 3) := by decide +kernel
theorem dX7_kingdom_211 : decode cX7_kingdom 211 = .ok (.invokevirtual 125, 3) := by decide +kernel
theorem dX7_kingdom_214 : decode cX7_kingdom 214 = .ok (.ireturn, 1) := by decide +kernel
theorem dX7_fearOf_0 : decode cX7_fearOf 0 = .ok (.aload_n 0, 1) := by decide +kernel
theorem dX7_fearOf_1 : decode cX7_fearOf 1 = .ok (.getfield 13, 3) := by decide +kernel
theorem dX7_fearOf_4 : decode cX7_fearOf 4 = .ok (.iload_n 2, 1) := by decide +kernel
theorem dX7_fearOf_5 : decode cX7_fearOf 5 = .ok (.iaload, 1) := by decide +kernel
theorem dX7_fearOf_6 : decode cX7_fearOf 6 = .ok (.aload_n 0, 1) := by decide +kernel
theorem dX7_fearOf_7 : decode cX7_fearOf 7 = .ok (.getfield 16, 3) := by decide +kernel
theorem dX7_fearOf_10 : decode cX7_fearOf 10 = .ok (.iload_n 2, 1) := by decide +kernel
theorem dX7_fearOf_11 : decode cX7_fearOf 11 = .ok (.iaload, 1) := by decide +kernel
theorem dX7_fearOf_12 : decode cX7_fearOf 12 = .ok (.imul, 1) := by decide +kernel
theorem dX7_fearOf_13 : decode cX7_fearOf 13 = .ok (.istore_n 3, 1) := by decide +kernel
theorem dX7_fearOf_14 : decode cX7_fearOf 14 = .ok (.aload_n 0, 1) := by decide +kernel
theorem dX7_fearOf_15 : decode cX7_fearOf 15 = .ok (.getfield 19, 3) := by decide +kernel
theorem dX7_fearOf_18 : decode cX7_fearOf 18 = .ok (.iload_n 1, 1) := by decide +kernel
theorem dX7_fearOf_19 : decode cX7_fearOf 19 = .ok (.iaload, 1) := by decide +kernel
theorem dX7_fearOf_20 : decode cX7_fearOf 20 = .ok (.ifCond .ne 7, 3) := by decide +kernel
theorem dX7_fearOf_23 : decode cX7_fearOf 23 = .ok (.iload_n 3, 1) := by decide +kernel
theorem dX7_fearOf_24 : decode cX7_fearOf 24 = .ok (.goto 26, 3) := by decide +kernel
theorem dX7_fearOf_27 : decode cX7_fearOf 27 = .ok (.aload_n 0, 1) := by decide +kernel
theorem dX7_fearOf_28 : decode cX7_fearOf 28 = .ok (.getfield 19, 3) := by decide +kernel
theorem dX7_fearOf_31 : decode cX7_fearOf 31 = .ok (.iload_n 1, 1) := by decide +kernel
theorem dX7_fearOf_32 : decode cX7_fearOf 32 = .ok (.iaload, 1) := by decide +kernel
theorem dX7_fearOf_33 : decode cX7_fearOf 33 = .ok (.iconst 1, 1) := by decide +kernel
theorem dX7_fearOf_34 : decode cX7_fearOf 34 = .ok (.if_icmp .ne 10, 3) := by decide +kernel
theorem dX7_fearOf_37 : decode cX7_fearOf 37 = .ok (.iload_n 3, 1) := by decide +kernel
theorem dX7_fearOf_38 : decode cX7_fearOf 38 = .ok (.bipush 10, 2) := by decide +kernel
theorem dX7_fearOf_40 : decode cX7_fearOf 40 = .ok (.iadd, 1) := by decide +kernel
theorem dX7_fearOf_41 : decode cX7_fearOf 41 = .ok (.goto 9, 3) := by decide +kernel
theorem dX7_fearOf_44 : decode cX7_fearOf 44 = .ok (.iconst 2, 1) := by decide +kernel
theorem dX7_fearOf_45 : decode cX7_fearOf 45 = .ok (.iload_n 3, 1) := by decide +kernel
theorem dX7_fearOf_46 : decode cX7_fearOf 46 = .ok (.bipush 10, 2) := by decide +kernel
theorem dX7_fearOf_48 : decode cX7_fearOf 48 = .ok (.iadd, 1) := by decide +kernel
theorem dX7_fearOf_49 : decode cX7_fearOf 49 = .ok (.imul, 1) := by decide +kernel
theorem dX7_fearOf_50 : decode cX7_fearOf 50 = .ok (.ireturn, 1) := by decide +kernel
set_option maxRecDepth 20000 in
theorem ggX7_valueOf_X7_fearOf : GoodIn wsX7_valueOf wsX7_fearOf := goodIn_r _ [6, 7, 8, 9, 10, 11, 12, 13, 14, 15, 16, 17, 18, 19, 20, 21, 22, 23, 24, 25, 26, 27, 28, 29, 30, 31, 32, 33, 34, 35, 36, 37, 38, 39] (by decide +kernel) (by decide +kernel)
set_option maxRecDepth 20000 in
theorem gX7_valueOf_X7_fearOf : GoodIn wsX7_valueOf (wsV RX7 140 RX7 yX7_fearOf wsX7_fearOf) := goodIn_app (goodIn_of _ (by decide +kernel)) ggX7_valueOf_X7_fearOf
theorem dX7_valueOf_0 : decode cX7_valueOf 0 = .ok (.bipush 10, 2) := by decide +kernel
theorem dX7_valueOf_2 : decode cX7_valueOf 2 = .ok (.aload_n 0, 1) := by decide +kernel
theorem dX7_valueOf_3 : decode cX7_valueOf 3 = .ok (.getfield 7, 3) := by decide +kernel
theorem dX7_valueOf_6 : decode cX7_valueOf 6 = .ok (.iload_n 2, 1) := by decide +kernel
theorem dX7_valueOf_7 : decode cX7_valueOf 7 = .ok (.iaload, 1) := by decide +kernel
theorem dX7_valueOf_8 : decode cX7_valueOf 8 = .ok (.imul, 1) := by decide +kernel
theorem dX7_valueOf_9 : decode cX7_valueOf 9 = .ok (.aload_n 0, 1) := by decide +kernel
theorem dX7_valueOf_10 : decode cX7_valueOf 10 = .ok (.iload_n 1, 1) := by decide +kernel
theorem dX7_valueOf_11 : decode cX7_valueOf 11 = .ok (.iload_n 2, 1) := by decide +kernel
theorem dX7_valueOf_12 : decode cX7_valueOf 12 = .ok (.invokevirtual 140, 3) := by decide +kernel
theorem dX7_valueOf_15 : decode cX7_valueOf 15 = .ok (.isub, 1) := by decide +kernel
theorem dX7_valueOf_16 : decode cX7_valueOf 16 = .ok (.ireturn, 1) := by decide +kernel
set_option maxRecDepth 20000 in
theorem ggX7_doneBy_X7_valueOf : GoodIn wsX7_doneBy wsX7_valueOf := goodIn_r _ [6, 7, 8, 9, 10, 5, 11, 12, 13, 14, 15, 16, 17, 18, 19, 20, 21, 22, 23, 24, 25, 26, 27, 28, 29, 30, 31, 32, 33, 34, 35, 36, 37, 38, 39, 40, 41, 42, 43, 44] (by decide +kernel) (by decide +kernel)
set_option maxRecDepth 20000 in
theorem gX7_doneBy_X7_valueOf : GoodIn wsX7_doneBy (wsV RX7 143 RX7 yX7_valueOf wsX7_valueOf) := goodIn_app (goodIn_of _ (by decide +kernel)) ggX7_doneBy_X7_valueOf
theorem dX7_doneBy_0 : decode cX7_doneBy 0 = .ok (.iconst 0, 1) := by decide +kernel
theorem dX7_doneBy_1 : decode cX7_doneBy 1 = .ok (.istore_n 2, 1) := by decide +kernel
theorem dX7_doneBy_2 : decode cX7_doneBy 2 = .ok (.iconst 0, 1) := by decide +kernel
theorem dX7_doneBy_3 : decode cX7_doneBy 3 = .ok (.istore_n 3, 1) := by decide +kernel
theorem dX7_doneBy_4 : decode cX7_doneBy 4 = .ok (.iload_n 3, 1) := by decide +kernel
theorem dX7_doneBy_5 : decode cX7_doneBy 5 = .ok (.aload_n 0, 1) := by decide +kernel
theorem dX7_doneBy_6 : decode cX7_doneBy 6 = .ok (.getfield 79, 3) := by decide +kernel
theorem dX7_doneBy_9 : decode cX7_doneBy 9 = .ok (.if_icmp .ge 28, 3) := by decide +kernel
theorem dX7_doneBy_12 : decode cX7_doneBy 12 = .ok (.iload_n 2, 1) := by decide +kernel
theorem dX7_doneBy_13 : decode cX7_doneBy 13 = .ok (.aload_n 0, 1) := by decide +kernel
theorem dX7_doneBy_14 : decode cX7_doneBy 14 = .ok (.iload_n 1, 1) := by decide +kernel
theorem dX7_doneBy_15 : decode cX7_doneBy 15 = .ok (.iload_n 3, 1) := by decide +kernel
theorem dX7_doneBy_16 : decode cX7_doneBy 16 = .ok (.invokevirtual 143, 3) := by decide +kernel
theorem dX7_doneBy_19 : decode cX7_doneBy 19 = .ok (.ifCond .le 9, 3) := by decide +kernel
theorem dX7_doneBy_22 : decode cX7_doneBy 22 = .ok (.iconst 1, 1) := by decide +kernel
theorem dX7_doneBy_23 : decode cX7_doneBy 23 = .ok (.iload_n 3, 1) := by decide +kernel
theorem dX7_doneBy_24 : decode cX7_doneBy 24 = .ok (.ishl, 1) := by decide +kernel
theorem dX7_doneBy_25 : decode cX7_doneBy 25 = .ok (.goto 4, 3) := by decide +kernel
theorem dX7_doneBy_28 : decode cX7_doneBy 28 = .ok (.iconst 0, 1) := by decide +kernel
theorem dX7_doneBy_29 : decode cX7_doneBy 29 = .ok (.ior, 1) := by decide +kernel
theorem dX7_doneBy_30 : decode cX7_doneBy 30 = .ok (.istore_n 2, 1) := by decide +kernel
theorem dX7_doneBy_31 : decode cX7_doneBy 31 = .ok (.iinc 3 1, 3) := by decide +kernel
theorem dX7_doneBy_34 : decode cX7_doneBy 34 = .ok (.goto (-30), 3) := by decide +kernel
theorem dX7_doneBy_37 : decode cX7_doneBy 37 = .ok (.iload_n 2, 1) := by decide +kernel
theorem dX7_doneBy_38 : decode cX7_doneBy 38 = .ok (.ireturn, 1) := by decide +kernel
theorem dX7_ofDeedBy_0 : decode cX7_ofDeedBy 0 = .ok (.iload_n 2, 1) := by decide +kernel
theorem dX7_ofDeedBy_1 : decode cX7_ofDeedBy 1 = .ok (.ifCond .ne 12, 3) := by decide +kernel
theorem dX7_ofDeedBy_4 : decode cX7_ofDeedBy 4 = .ok (.aload_n 0, 1) := by decide +kernel
theorem dX7_ofDeedBy_5 : decode cX7_ofDeedBy 5 = .ok (.getfield 7, 3) := by decide +kernel
theorem dX7_ofDeedBy_8 : decode cX7_ofDeedBy 8 = .ok (.iload_n 1, 1) := by decide +kernel
theorem dX7_ofDeedBy_9 : decode cX7_ofDeedBy 9 = .ok (.iaload, 1) := by decide +kernel
theorem dX7_ofDeedBy_10 : decode cX7_ofDeedBy 10 = .ok (.goto 23, 3) := by decide +kernel
theorem dX7_ofDeedBy_13 : decode cX7_ofDeedBy 13 = .ok (.iload_n 2, 1) := by decide +kernel
theorem dX7_ofDeedBy_14 : decode cX7_ofDeedBy 14 = .ok (.iconst 1, 1) := by decide +kernel
theorem dX7_ofDeedBy_15 : decode cX7_ofDeedBy 15 = .ok (.if_icmp .ne 12, 3) := by decide +kernel
theorem dX7_ofDeedBy_18 : decode cX7_ofDeedBy 18 = .ok (.aload_n 0, 1) := by decide +kernel
theorem dX7_ofDeedBy_19 : decode cX7_ofDeedBy 19 = .ok (.getfield 13, 3) := by decide +kernel
theorem dX7_ofDeedBy_22 : decode cX7_ofDeedBy 22 = .ok (.iload_n 1, 1) := by decide +kernel
theorem dX7_ofDeedBy_23 : decode cX7_ofDeedBy 23 = .ok (.iaload, 1) := by decide +kernel
theorem dX7_ofDeedBy_24 : decode cX7_ofDeedBy 24 = .ok (.goto 9, 3) := by decide +kernel
theorem dX7_ofDeedBy_27 : decode cX7_ofDeedBy 27 = .ok (.aload_n 0, 1) := by decide +kernel
theorem dX7_ofDeedBy_28 : decode cX7_ofDeedBy 28 = .ok (.getfield 16, 3) := by decide +kernel
theorem dX7_ofDeedBy_31 : decode cX7_ofDeedBy 31 = .ok (.iload_n 1, 1) := by decide +kernel
theorem dX7_ofDeedBy_32 : decode cX7_ofDeedBy 32 = .ok (.iaload, 1) := by decide +kernel
theorem dX7_ofDeedBy_33 : decode cX7_ofDeedBy 33 = .ok (.ireturn, 1) := by decide +kernel
set_option maxRecDepth 20000 in
theorem ggX7_ofDeed_X7_noDeed : GoodIn wsX7_ofDeed wsX7_noDeed := goodIn_r _ [6, 7, 8, 9, 5, 10, 18, 19, 20, 21, 22, 23, 24, 25, 26, 27, 28, 29, 30, 31, 32, 33, 34, 35, 36, 37, 38, 39, 40, 41, 42, 43, 44, 45, 46, 47] (by decide +kernel) (by decide +kernel)
set_option maxRecDepth 20000 in
theorem gX7_ofDeed_X7_noDeed : GoodIn wsX7_ofDeed (wsV RX7 146 RX7 yX7_noDeed wsX7_noDeed) := goodIn_app (goodIn_of _ (by decide +kernel)) ggX7_ofDeed_X7_noDeed
set_option maxRecDepth 20000 in
theorem ggX7_ofDeed_X7_in : GoodIn wsX7_ofDeed wsX7_in := goodIn_r _ [10] (by decide +kernel) (by decide +kernel)
set_option maxRecDepth 20000 in
theorem gX7_ofDeed_X7_in : GoodIn wsX7_ofDeed (va_wsS RX7 82 yX7_in wsX7_in) := goodIn_app (goodIn_of _ (by decide +kernel)) ggX7_ofDeed_X7_in
set_option maxRecDepth 20000 in
theorem ggX7_ofDeed_X7_ofDeedBy : GoodIn wsX7_ofDeed wsX7_ofDeedBy := goodIn_r _ [14, 15, 16, 17, 18, 19, 20, 21, 22, 23, 24, 25, 26, 27, 28, 29, 30, 31, 32, 33, 34, 35, 36, 37, 38, 39, 40, 41, 42, 43, 44, 45, 46, 47] (by decide +kernel) (by decide +kernel)
set_option maxRecDepth 20000 in
theorem gX7_ofDeed_X7_ofDeedBy : GoodIn wsX7_ofDeed (wsV RX7 149 RX7 yX7_ofDeedBy wsX7_ofDeedBy) := goodIn_app (goodIn_of _ (by decide +kernel)) ggX7_ofDeed_X7_ofDeedBy
theorem dX7_ofDeed_0 : decode cX7_ofDeed 0 = .ok (.aload_n 0, 1) := by decide +kernel
theorem dX7_ofDeed_1 : decode cX7_ofDeed 1 = .ok (.iload_n 1, 1) := by decide +kernel
theorem dX7_ofDeed_2 : decode cX7_ofDeed 2 = .ok (.invokevirtual 146, 3) := by decide +kernel
theorem dX7_ofDeed_5 : decode cX7_ofDeed 5 = .ok (.ifCond .eq 5, 3) := by decide +kernel
theorem dX7_ofDeed_8 : decode cX7_ofDeed 8 = .ok (.iconst (-1), 1) := by decide +kernel
theorem dX7_ofDeed_9 : decode cX7_ofDeed 9 = .ok (.ireturn, 1) := by decide +kernel
theorem dX7_ofDeed_10 : decode cX7_ofDeed 10 = .ok (.iload_n 2, 1) := by decide +kernel
theorem dX7_ofDeed_11 : decode cX7_ofDeed 11 = .ok (.i2l, 1) := by decide +kernel
theorem dX7_ofDeed_12 : decode cX7_ofDeed 12 = .ok (.lconst 0, 1) := by decide +kernel
theorem dX7_ofDeed_13 : decode cX7_ofDeed 13 = .ok (.ldc2_w 128, 3) := by decide +kernel
theorem dX7_ofDeed_16 : decode cX7_ofDeed 16 = .ok (.invokestatic 82, 3) := by decide +kernel
theorem dX7_ofDeed_19 : decode cX7_ofDeed 19 = .ok (.ifCond .eq 12, 3) := by decide +kernel
theorem dX7_ofDeed_22 : decode cX7_ofDeed 22 = .ok (.aload_n 0, 1) := by decide +kernel
theorem dX7_ofDeed_23 : decode cX7_ofDeed 23 = .ok (.iload_n 1, 1) := by decide +kernel
theorem dX7_ofDeed_24 : decode cX7_ofDeed 24 = .ok (.iload_n 2, 1) := by decide +kernel
theorem dX7_ofDeed_25 : decode cX7_ofDeed 25 = .ok (.invokevirtual 149, 3) := by decide +kernel
theorem dX7_ofDeed_28 : decode cX7_ofDeed 28 = .ok (.goto 5, 3) := by decide +kernel
theorem dX7_ofDeed_31 : decode cX7_ofDeed 31 = .ok (.bipush (-2), 2) := by decide +kernel
theorem dX7_ofDeed_33 : decode cX7_ofDeed 33 = .ok (.ireturn, 1) := by decide +kernel
set_option maxRecDepth 20000 in
theorem ggX7_ofSubject_X7_noSubject : GoodIn wsX7_ofSubject wsX7_noSubject := goodIn_r _ [7, 8, 9, 10, 6, 11, 28, 29, 30, 31, 32, 33, 34, 35, 36, 37, 38, 39, 40, 41, 42, 43, 44, 45, 46, 47, 48, 49, 50, 51, 52, 53, 54, 55, 56, 57] (by decide +kernel) (by decide +kernel)
set_option maxRecDepth 20000 in
theorem gX7_ofSubject_X7_noSubject : GoodIn wsX7_ofSubject (wsV RX7 152 RX7 yX7_noSubject wsX7_noSubject) := goodIn_app (goodIn_of _ (by decide +kernel)) ggX7_ofSubject_X7_noSubject
set_option maxRecDepth 20000 in
theorem ggX7_ofSubject_X7_doneBy : GoodIn wsX7_ofSubject wsX7_doneBy := goodIn_r _ [15, 16, 17, 18, 19, 6, 20, 21, 22, 23, 24, 25, 26, 27, 1, 28, 29, 30, 31, 32, 33, 34, 35, 36, 37, 38, 39, 40, 41, 42, 43, 44, 45, 46, 47, 48, 49, 50, 51, 52, 53, 54, 55, 56, 57] (by decide +kernel) (by decide +kernel)
set_option maxRecDepth 20000 in
theorem gX7_ofSubject_X7_doneBy : GoodIn wsX7_ofSubject (wsV RX7 155 RX7 yX7_doneBy wsX7_doneBy) := goodIn_app (goodIn_of _ (by decide +kernel)) ggX7_ofSubject_X7_doneBy
theorem dX7_ofSubject_0 : decode cX7_ofSubject 0 = .ok (.aload_n 0, 1) := by decide +kernel
theorem dX7_ofSubject_1 : decode cX7_ofSubject 1 = .ok (.iload_n 1, 1) := by decide +kernel
theorem dX7_ofSubject_2 : decode cX7_ofSubject 2 = .ok (.invokevirtual 152, 3) := by decide +kernel
theorem dX7_ofSubject_5 : decode cX7_ofSubject 5 = .ok (.ifCond .eq 5, 3) := by decide +kernel
theorem dX7_ofSubject_8 : decode cX7_ofSubject 8 = .ok (.iconst (-1), 1) := by decide +kernel
theorem dX7_ofSubject_9 : decode cX7_ofSubject 9 = .ok (.ireturn, 1) := by decide +kernel
theorem dX7_ofSubject_10 : decode cX7_ofSubject 10 = .ok (.iload_n 2, 1) := by decide +kernel
theorem dX7_ofSubject_11 : decode cX7_ofSubject 11 = .ok (.ifCond .ne 12, 3) := by decide +kernel
theorem dX7_ofSubject_14 : decode cX7_ofSubject 14 = .ok (.aload_n 0, 1) := by decide +kernel
theorem dX7_ofSubject_15 : decode cX7_ofSubject 15 = .ok (.getfield 19, 3) := by decide +kernel
theorem dX7_ofSubject_18 : decode cX7_ofSubject 18 = .ok (.iload_n 1, 1) := by decide +kernel
theorem dX7_ofSubject_19 : decode cX7_ofSubject 19 = .ok (.iaload, 1) := by decide +kernel
theorem dX7_ofSubject_20 : decode cX7_ofSubject 20 = .ok (.goto 32, 3) := by decide +kernel
theorem dX7_ofSubject_23 : decode cX7_ofSubject 23 = .ok (.iload_n 2, 1) := by decide +kernel
theorem dX7_ofSubject_24 : decode cX7_ofSubject 24 = .ok (.iconst 1, 1) := by decide +kernel
theorem dX7_ofSubject_25 : decode cX7_ofSubject 25 = .ok (.if_icmp .ne 12, 3) := by decide +kernel
theorem dX7_ofSubject_28 : decode cX7_ofSubject 28 = .ok (.aload_n 0, 1) := by decide +kernel
theorem dX7_ofSubject_29 : decode cX7_ofSubject 29 = .ok (.getfield 22, 3) := by decide +kernel
theorem dX7_ofSubject_32 : decode cX7_ofSubject 32 = .ok (.iload_n 1, 1) := by decide +kernel
theorem dX7_ofSubject_33 : decode cX7_ofSubject 33 = .ok (.iaload, 1) := by decide +kernel
theorem dX7_ofSubject_34 : decode cX7_ofSubject 34 = .ok (.goto 18, 3) := by decide +kernel
theorem dX7_ofSubject_37 : decode cX7_ofSubject 37 = .ok (.iload_n 2, 1) := by decide +kernel
theorem dX7_ofSubject_38 : decode cX7_ofSubject 38 = .ok (.iconst 2, 1) := by decide +kernel
theorem dX7_ofSubject_39 : decode cX7_ofSubject 39 = .ok (.if_icmp .ne 11, 3) := by decide +kernel
theorem dX7_ofSubject_42 : decode cX7_ofSubject 42 = .ok (.aload_n 0, 1) := by decide +kernel
theorem dX7_ofSubject_43 : decode cX7_ofSubject 43 = .ok (.iload_n 1, 1) := by decide +kernel
theorem dX7_ofSubject_44 : decode cX7_ofSubject 44 = .ok (.invokevirtual 155, 3) := by decide +kernel
theorem dX7_ofSubject_47 : decode cX7_ofSubject 47 = .ok (.goto 5, 3) := by decide +kernel
theorem dX7_ofSubject_50 : decode cX7_ofSubject 50 = .ok (.bipush (-2), 2) := by decide +kernel
theorem dX7_ofSubject_52 : decode cX7_ofSubject 52 = .ok (.ireturn, 1) := by decide +kernel
set_option maxRecDepth 20000 in
theorem ggX7_fear_X7_noSubject : GoodIn wsX7_fear wsX7_noSubject := goodIn_r _ [5, 6, 7, 8, 4, 9, 22, 23, 24, 25, 26, 27, 28, 29, 30, 31, 32, 33, 34, 35, 36, 37, 38, 39, 40, 41, 42, 43, 44, 45, 46, 47, 48, 49, 50, 51] (by decide +kernel) (by decide +kernel)
set_option maxRecDepth 20000 in
theorem gX7_fear_X7_noSubject : GoodIn wsX7_fear (wsV RX7 152 RX7 yX7_noSubject wsX7_noSubject) := goodIn_app (goodIn_of _ (by decide +kernel)) ggX7_fear_X7_noSubject
set_option maxRecDepth 20000 in
theorem ggX7_fear_X7_noDeed : GoodIn wsX7_fear wsX7_noDeed := goodIn_r _ [13, 14, 7, 8, 4, 9, 22, 23, 24, 25, 26, 27, 28, 29, 30, 31, 32, 33, 34, 35, 36, 37, 38, 39, 40, 41, 42, 43, 44, 45, 46, 47, 48, 49, 50, 51] (by decide +kernel) (by decide +kernel)
set_option maxRecDepth 20000 in
theorem gX7_fear_X7_noDeed : GoodIn wsX7_fear (wsV RX7 146 RX7 yX7_noDeed wsX7_noDeed) := goodIn_app (goodIn_of _ (by decide +kernel)) ggX7_fear_X7_noDeed
set_option maxRecDepth 20000 in
theorem ggX7_fear_X7_fearOf : GoodIn wsX7_fear wsX7_fearOf := goodIn_r _ [18, 19, 20, 21, 22, 23, 24, 25, 26, 27, 28, 29, 30, 31, 32, 33, 34, 35, 36, 37, 38, 39, 40, 41, 42, 43, 44, 45, 46, 47, 48, 49, 50, 51] (by decide +kernel) (by decide +kernel)
set_option maxRecDepth 20000 in
theorem gX7_fear_X7_fearOf : GoodIn wsX7_fear (wsV RX7 140 RX7 yX7_fearOf wsX7_fearOf) := goodIn_app (goodIn_of _ (by decide +kernel)) ggX7_fear_X7_fearOf
theorem dX7_fear_0 : decode cX7_fear 0 = .ok (.aload_n 0, 1) := by decide +kernel
theorem dX7_fear_1 : decode cX7_fear 1 = .ok (.iload_n 1, 1) := by decide +kernel
theorem dX7_fear_2 : decode cX7_fear 2 = .ok (.invokevirtual 152, 3) := by decide +kernel
theorem dX7_fear_5 : decode cX7_fear 5 = .ok (.ifCond .ne 11, 3) := by decide +kernel
theorem dX7_fear_8 : decode cX7_fear 8 = .ok (.aload_n 0, 1) := by decide +kernel
theorem dX7_fear_9 : decode cX7_fear 9 = .ok (.iload_n 2, 1) := by decide +kernel
theorem dX7_fear_10 : decode cX7_fear 10 = .ok (.invokevirtual 146, 3) := by decide +kernel
theorem dX7_fear_13 : decode cX7_fear 13 = .ok (.ifCond .eq 7, 3) := by decide +kernel
theorem dX7_fear_16 : decode cX7_fear 16 = .ok (.iconst (-1), 1) := by decide +kernel
theorem dX7_fear_17 : decode cX7_fear 17 = .ok (.goto 9, 3) := by decide +kernel
theorem dX7_fear_20 : decode cX7_fear 20 = .ok (.aload_n 0, 1) := by decide +kernel
theorem dX7_fear_21 : decode cX7_fear 21 = .ok (.iload_n 1, 1) := by decide +kernel
theorem dX7_fear_22 : decode cX7_fear 22 = .ok (.iload_n 2, 1) := by decide +kernel
theorem dX7_fear_23 : decode cX7_fear 23 = .ok (.invokevirtual 140, 3) := by decide +kernel
theorem dX7_fear_26 : decode cX7_fear 26 = .ok (.ireturn, 1) := by decide +kernel
set_option maxRecDepth 20000 in
theorem ggX7_alter_X7_noDeed : GoodIn wsX7_alter wsX7_noDeed := goodIn_r _ [10, 11, 12, 13, 9, 14, 19, 20, 21, 22, 23, 24, 25, 26, 27, 28, 29, 30, 31, 32, 33, 34, 35, 36, 37, 38, 39, 40, 41, 42, 43, 44, 45, 46, 47, 48] (by decide +kernel) (by decide +kernel)
set_option maxRecDepth 20000 in
theorem gX7_alter_X7_noDeed : GoodIn wsX7_alter (wsV RX7 146 RX7 yX7_noDeed wsX7_noDeed) := goodIn_app (goodIn_of _ (by decide +kernel)) ggX7_alter_X7_noDeed
set_option maxRecDepth 20000 in
theorem ggX7_alter_X7_in : GoodIn wsX7_alter wsX7_in := goodIn_r _ [14] (by decide +kernel) (by decide +kernel)
set_option maxRecDepth 20000 in
theorem gX7_alter_X7_in : GoodIn wsX7_alter (va_wsS RX7 82 yX7_in wsX7_in) := goodIn_app (goodIn_of _ (by decide +kernel)) ggX7_alter_X7_in
set_option maxRecDepth 20000 in
theorem ggX7_alter_X7_ofDeedBy : GoodIn wsX7_alter wsX7_ofDeedBy := goodIn_r _ [18, 3, 4, 5, 19, 20, 21, 22, 23, 24, 25, 26, 27, 28, 29, 30, 31, 32, 33, 34, 35, 36, 37, 38, 39, 40, 41, 42, 43, 44, 45, 46, 47, 48] (by decide +kernel) (by decide +kernel)
set_option maxRecDepth 20000 in
theorem gX7_alter_X7_ofDeedBy : GoodIn wsX7_alter (wsV RX7 149 RX7 yX7_ofDeedBy wsX7_ofDeedBy) := goodIn_app (goodIn_of _ (by decide +kernel)) ggX7_alter_X7_ofDeedBy
theorem dX7_alter_0 : decode cX7_alter 0 = .ok (.aload_n 0, 1) := by decide +kernel
theorem dX7_alter_1 : decode cX7_alter 1 = .ok (.iload_n 1, 1) := by decide +kernel
theorem dX7_alter_2 : decode cX7_alter 2 = .ok (.invokevirtual 146, 3) := by decide +kernel
theorem dX7_alter_5 : decode cX7_alter 5 = .ok (.ifCond .eq 5, 3) := by decide +kernel
theorem dX7_alter_8 : decode cX7_alter 8 = .ok (.iconst (-1), 1) := by decide +kernel
theorem dX7_alter_9 : decode cX7_alter 9 = .ok (.ireturn, 1) := by decide +kernel
theorem dX7_alter_10 : decode cX7_alter 10 = .ok (.iload_n 2, 1) := by decide +kernel
theorem dX7_alter_11 : decode cX7_alter 11 = .ok (.i2l, 1) := by decide +kernel
theorem dX7_alter_12 : decode cX7_alter 12 = .ok (.lconst 0, 1) := by decide +kernel
theorem dX7_alter_13 : decode cX7_alter 13 = .ok (.ldc2_w 128, 3) := by decide +kernel
theorem dX7_alter_16 : decode cX7_alter 16 = .ok (.invokestatic 82, 3) := by decide +kernel
theorem dX7_alter_19 : decode cX7_alter 19 = .ok (.ifCond .eq 15, 3) := by decide +kernel
theorem dX7_alter_22 : decode cX7_alter 22 = .ok (.iload_n 3, 1) := by decide +kernel
theorem dX7_alter_23 : decode cX7_alter 23 = .ok (.i2l, 1) := by decide +kernel
theorem dX7_alter_24 : decode cX7_alter 24 = .ok (.lconst 0, 1) := by decide +kernel
theorem dX7_alter_25 : decode cX7_alter 25 = .ok (.ldc2_w 158, 3) := by decide +kernel
theorem dX7_alter_28 : decode cX7_alter 28 = .ok (.invokestatic 82, 3) := by decide +kernel
theorem dX7_alter_31 : decode cX7_alter 31 = .ok (.ifCond .ne 6, 3) := by decide +kernel
theorem dX7_alter_34 : decode cX7_alter 34 = .ok (.bipush (-2), 2) := by decide +kernel
end
section
theorem dX7_alter_36 : decode cX7_alter 36 = .ok (.ireturn, 1) := by decide +kernel
theorem dX7_alter_37 : decode cX7_alter 37 = .ok (.aload_n 0, 1) := by decide +kernel
theorem dX7_alter_38 : decode cX7_alter 38 = .ok (.iload_n 1, 1) := by decide +kernel
theorem dX7_alter_39 : decode cX7_alter 39 = .ok (.iload_n 2, 1) := by decide +kernel
theorem dX7_alter_40 : decode cX7_alter 40 = .ok (.invokevirtual 149, 3) := by decide +kernel
theorem dX7_alter_43 : decode cX7_alter 43 = .ok (.istore 4, 2) := by decide +kernel
theorem dX7_alter_45 : decode cX7_alter 45 = .ok (.aload_n 0, 1) := by decide +kernel
theorem dX7_alter_46 : decode cX7_alter 46 = .ok (.getfield 7, 3) := by decide +kernel
theorem dX7_alter_49 : decode cX7_alter 49 = .ok (.iload_n 1, 1) := by decide +kernel
theorem dX7_alter_50 : decode cX7_alter 50 = .ok (.iload_n 2, 1) := by decide +kernel
theorem dX7_alter_51 : decode cX7_alter 51 = .ok (.ifCond .ne 7, 3) := by decide +kernel
theorem dX7_alter_54 : decode cX7_alter 54 = .ok (.iload_n 3, 1) := by decide +kernel
theorem dX7_alter_55 : decode cX7_alter 55 = .ok (.goto 9, 3) := by decide +kernel
theorem dX7_alter_58 : decode cX7_alter 58 = .ok (.aload_n 0, 1) := by decide +kernel
theorem dX7_alter_59 : decode cX7_alter 59 = .ok (.getfield 7, 3) := by decide +kernel
theorem dX7_alter_62 : decode cX7_alter 62 = .ok (.iload_n 1, 1) := by decide +kernel
theorem dX7_alter_63 : decode cX7_alter 63 = .ok (.iaload, 1) := by decide +kernel
theorem dX7_alter_64 : decode cX7_alter 64 = .ok (.iastore, 1) := by decide +kernel
theorem dX7_alter_65 : decode cX7_alter 65 = .ok (.aload_n 0, 1) := by decide +kernel
theorem dX7_alter_66 : decode cX7_alter 66 = .ok (.getfield 13, 3) := by decide +kernel
theorem dX7_alter_69 : decode cX7_alter 69 = .ok (.iload_n 1, 1) := by decide +kernel
theorem dX7_alter_70 : decode cX7_alter 70 = .ok (.iload_n 2, 1) := by decide +kernel
theorem dX7_alter_71 : decode cX7_alter 71 = .ok (.iconst 1, 1) := by decide +kernel
theorem dX7_alter_72 : decode cX7_alter 72 = .ok (.if_icmp .ne 7, 3) := by decide +kernel
theorem dX7_alter_75 : decode cX7_alter 75 = .ok (.iload_n 3, 1) := by decide +kernel
theorem dX7_alter_76 : decode cX7_alter 76 = .ok (.goto 9, 3) := by decide +kernel
theorem dX7_alter_79 : decode cX7_alter 79 = .ok (.aload_n 0, 1) := by decide +kernel
theorem dX7_alter_80 : decode cX7_alter 80 = .ok (.getfield 13, 3) := by decide +kernel
theorem dX7_alter_83 : decode cX7_alter 83 = .ok (.iload_n 1, 1) := by decide +kernel
theorem dX7_alter_84 : decode cX7_alter 84 = .ok (.iaload, 1) := by decide +kernel
theorem dX7_alter_85 : decode cX7_alter 85 = .ok (.iastore, 1) := by decide +kernel
theorem dX7_alter_86 : decode cX7_alter 86 = .ok (.aload_n 0, 1) := by decide +kernel
theorem dX7_alter_87 : decode cX7_alter 87 = .ok (.getfield 16, 3) := by decide +kernel
theorem dX7_alter_90 : decode cX7_alter 90 = .ok (.iload_n 1, 1) := by decide +kernel
theorem dX7_alter_91 : decode cX7_alter 91 = .ok (.iload_n 2, 1) := by decide +kernel
theorem dX7_alter_92 : decode cX7_alter 92 = .ok (.iconst 2, 1) := by decide +kernel
theorem dX7_alter_93 : decode cX7_alter 93 = .ok (.if_icmp .ne 7, 3) := by decide +kernel
theorem dX7_alter_96 : decode cX7_alter 96 = .ok (.iload_n 3, 1) := by decide +kernel
theorem dX7_alter_97 : decode cX7_alter 97 = .ok (.goto 9, 3) := by decide +kernel
theorem dX7_alter_100 : decode cX7_alter 100 = .ok (.aload_n 0, 1) := by decide +kernel
theorem dX7_alter_101 : decode cX7_alter 101 = .ok (.getfield 16, 3) := by decide +kernel
theorem dX7_alter_104 : decode cX7_alter 104 = .ok (.iload_n 1, 1) := by decide +kernel
theorem dX7_alter_105 : decode cX7_alter 105 = .ok (.iaload, 1) := by decide +kernel
theorem dX7_alter_106 : decode cX7_alter 106 = .ok (.iastore, 1) := by decide +kernel
theorem dX7_alter_107 : decode cX7_alter 107 = .ok (.iload 4, 2) := by decide +kernel
theorem dX7_alter_109 : decode cX7_alter 109 = .ok (.ireturn, 1) := by decide +kernel
set_option maxRecDepth 20000 in
theorem ggX7_grant_X7_noSubject : GoodIn wsX7_grant wsX7_noSubject := goodIn_r _ [7, 8, 9, 10, 6, 11, 12, 13, 14, 15, 16, 17, 18, 19, 20, 21, 22, 23, 24, 25, 26, 27, 28, 29, 30, 31, 32, 33, 34, 35, 36, 37, 38, 39, 40, 41] (by decide +kernel) (by decide +kernel)
set_option maxRecDepth 20000 in
theorem gX7_grant_X7_noSubject : GoodIn wsX7_grant (wsV RX7 152 RX7 yX7_noSubject wsX7_noSubject) := goodIn_app (goodIn_of _ (by decide +kernel)) ggX7_grant_X7_noSubject
set_option maxRecDepth 20000 in
theorem ggX7_grant_X7_in : GoodIn wsX7_grant wsX7_in := goodIn_r _ [11] (by decide +kernel) (by decide +kernel)
set_option maxRecDepth 20000 in
theorem gX7_grant_X7_in : GoodIn wsX7_grant (va_wsS RX7 82 yX7_in wsX7_in) := goodIn_app (goodIn_of _ (by decide +kernel)) ggX7_grant_X7_in
theorem dX7_grant_0 : decode cX7_grant 0 = .ok (.aload_n 0, 1) := by decide +kernel
theorem dX7_grant_1 : decode cX7_grant 1 = .ok (.iload_n 1, 1) := by decide +kernel
theorem dX7_grant_2 : decode cX7_grant 2 = .ok (.invokevirtual 152, 3) := by decide +kernel
theorem dX7_grant_5 : decode cX7_grant 5 = .ok (.ifCond .eq 5, 3) := by decide +kernel
theorem dX7_grant_8 : decode cX7_grant 8 = .ok (.iconst (-1), 1) := by decide +kernel
theorem dX7_grant_9 : decode cX7_grant 9 = .ok (.ireturn, 1) := by decide +kernel
theorem dX7_grant_10 : decode cX7_grant 10 = .ok (.iload_n 2, 1) := by decide +kernel
theorem dX7_grant_11 : decode cX7_grant 11 = .ok (.i2l, 1) := by decide +kernel
theorem dX7_grant_12 : decode cX7_grant 12 = .ok (.lconst 0, 1) := by decide +kernel
theorem dX7_grant_13 : decode cX7_grant 13 = .ok (.ldc2_w 160, 3) := by decide +kernel
theorem dX7_grant_16 : decode cX7_grant 16 = .ok (.invokestatic 82, 3) := by decide +kernel
theorem dX7_grant_19 : decode cX7_grant 19 = .ok (.ifCond .ne 6, 3) := by decide +kernel
theorem dX7_grant_22 : decode cX7_grant 22 = .ok (.bipush (-2), 2) := by decide +kernel
theorem dX7_grant_24 : decode cX7_grant 24 = .ok (.ireturn, 1) := by decide +kernel
theorem dX7_grant_25 : decode cX7_grant 25 = .ok (.aload_n 0, 1) := by decide +kernel
theorem dX7_grant_26 : decode cX7_grant 26 = .ok (.getfield 22, 3) := by decide +kernel
theorem dX7_grant_29 : decode cX7_grant 29 = .ok (.iload_n 1, 1) := by decide +kernel
theorem dX7_grant_30 : decode cX7_grant 30 = .ok (.iaload, 1) := by decide +kernel
theorem dX7_grant_31 : decode cX7_grant 31 = .ok (.istore_n 3, 1) := by decide +kernel
theorem dX7_grant_32 : decode cX7_grant 32 = .ok (.aload_n 0, 1) := by decide +kernel
theorem dX7_grant_33 : decode cX7_grant 33 = .ok (.getfield 22, 3) := by decide +kernel
theorem dX7_grant_36 : decode cX7_grant 36 = .ok (.iload_n 1, 1) := by decide +kernel
theorem dX7_grant_37 : decode cX7_grant 37 = .ok (.iload_n 2, 1) := by decide +kernel
theorem dX7_grant_38 : decode cX7_grant 38 = .ok (.iastore, 1) := by decide +kernel
theorem dX7_grant_39 : decode cX7_grant 39 = .ok (.iload_n 3, 1) := by decide +kernel
theorem dX7_grant_40 : decode cX7_grant 40 = .ok (.ireturn, 1) := by decide +kernel
set_option maxRecDepth 20000 in
theorem ggX7_goYear_X7_valueOf : GoodIn wsX7_goYear wsX7_valueOf := goodIn_r _ [13, 8, 14, 15, 16, 12, 17, 18, 19, 20, 21, 22, 23, 24, 25, 26, 27, 28, 29, 30, 31, 32, 33, 34, 35, 36, 37, 38, 39, 40, 41, 42, 43, 44, 45, 46, 47, 48, 49, 50] (by decide +kernel) (by decide +kernel)
set_option maxRecDepth 20000 in
theorem gX7_goYear_X7_valueOf : GoodIn wsX7_goYear (wsV RX7 143 RX7 yX7_valueOf wsX7_valueOf) := goodIn_app (goodIn_of _ (by decide +kernel)) ggX7_goYear_X7_valueOf
theorem dX7_goYear_0 : decode cX7_goYear 0 = .ok (.aload_n 0, 1) := by decide +kernel
theorem dX7_goYear_1 : decode cX7_goYear 1 = .ok (.bipush (-9), 2) := by decide +kernel
theorem dX7_goYear_3 : decode cX7_goYear 3 = .ok (.putfield 162, 3) := by decide +kernel
theorem dX7_goYear_6 : decode cX7_goYear 6 = .ok (.aload_n 0, 1) := by decide +kernel
theorem dX7_goYear_7 : decode cX7_goYear 7 = .ok (.iconst 0, 1) := by decide +kernel
theorem dX7_goYear_8 : decode cX7_goYear 8 = .ok (.putfield 165, 3) := by decide +kernel
theorem dX7_goYear_11 : decode cX7_goYear 11 = .ok (.aload_n 0, 1) := by decide +kernel
theorem dX7_goYear_12 : decode cX7_goYear 12 = .ok (.iconst 0, 1) := by decide +kernel
theorem dX7_goYear_13 : decode cX7_goYear 13 = .ok (.putfield 168, 3) := by decide +kernel
theorem dX7_goYear_16 : decode cX7_goYear 16 = .ok (.iconst 0, 1) := by decide +kernel
theorem dX7_goYear_17 : decode cX7_goYear 17 = .ok (.istore_n 3, 1) := by decide +kernel
theorem dX7_goYear_18 : decode cX7_goYear 18 = .ok (.iload_n 3, 1) := by decide +kernel
theorem dX7_goYear_19 : decode cX7_goYear 19 = .ok (.aload_n 0, 1) := by decide +kernel
theorem dX7_goYear_20 : decode cX7_goYear 20 = .ok (.getfield 86, 3) := by decide +kernel
theorem dX7_goYear_23 : decode cX7_goYear 23 = .ok (.if_icmp .ge 21, 3) := by decide +kernel
theorem dX7_goYear_26 : decode cX7_goYear 26 = .ok (.aload_n 0, 1) := by decide +kernel
theorem dX7_goYear_27 : decode cX7_goYear 27 = .ok (.getfield 40, 3) := by decide +kernel
theorem dX7_goYear_30 : decode cX7_goYear 30 = .ok (.iload_n 3, 1) := by decide +kernel
theorem dX7_goYear_31 : decode cX7_goYear 31 = .ok (.aload_n 0, 1) := by decide +kernel
theorem dX7_goYear_32 : decode cX7_goYear 32 = .ok (.getfield 22, 3) := by decide +kernel
theorem dX7_goYear_35 : decode cX7_goYear 35 = .ok (.iload_n 3, 1) := by decide +kernel
theorem dX7_goYear_36 : decode cX7_goYear 36 = .ok (.iaload, 1) := by decide +kernel
theorem dX7_goYear_37 : decode cX7_goYear 37 = .ok (.iastore, 1) := by decide +kernel
theorem dX7_goYear_38 : decode cX7_goYear 38 = .ok (.iinc 3 1, 3) := by decide +kernel
theorem dX7_goYear_41 : decode cX7_goYear 41 = .ok (.goto (-23), 3) := by decide +kernel
theorem dX7_goYear_44 : decode cX7_goYear 44 = .ok (.iconst 0, 1) := by decide +kernel
theorem dX7_goYear_45 : decode cX7_goYear 45 = .ok (.istore_n 3, 1) := by decide +kernel
theorem dX7_goYear_46 : decode cX7_goYear 46 = .ok (.iload_n 3, 1) := by decide +kernel
theorem dX7_goYear_47 : decode cX7_goYear 47 = .ok (.iload_n 2, 1) := by decide +kernel
theorem dX7_goYear_48 : decode cX7_goYear 48 = .ok (.if_icmp .ge 212, 3) := by decide +kernel
theorem dX7_goYear_51 : decode cX7_goYear 51 = .ok (.aload_n 0, 1) := by decide +kernel
theorem dX7_goYear_52 : decode cX7_goYear 52 = .ok (.getfield 162, 3) := by decide +kernel
theorem dX7_goYear_55 : decode cX7_goYear 55 = .ok (.ifCond .ge 205, 3) := by decide +kernel
theorem dX7_goYear_58 : decode cX7_goYear 58 = .ok (.aload_n 0, 1) := by decide +kernel
theorem dX7_goYear_59 : decode cX7_goYear 59 = .ok (.getfield 63, 3) := by decide +kernel
theorem dX7_goYear_62 : decode cX7_goYear 62 = .ok (.iload_n 1, 1) := by decide +kernel
theorem dX7_goYear_63 : decode cX7_goYear 63 = .ok (.iconst 3, 1) := by decide +kernel
theorem dX7_goYear_64 : decode cX7_goYear 64 = .ok (.iload_n 3, 1) := by decide +kernel
theorem dX7_goYear_65 : decode cX7_goYear 65 = .ok (.imul, 1) := by decide +kernel
theorem dX7_goYear_66 : decode cX7_goYear 66 = .ok (.iadd, 1) := by decide +kernel
theorem dX7_goYear_67 : decode cX7_goYear 67 = .ok (.iaload, 1) := by decide +kernel
theorem dX7_goYear_68 : decode cX7_goYear 68 = .ok (.istore 4, 2) := by decide +kernel
theorem dX7_goYear_70 : decode cX7_goYear 70 = .ok (.aload_n 0, 1) := by decide +kernel
theorem dX7_goYear_71 : decode cX7_goYear 71 = .ok (.getfield 63, 3) := by decide +kernel
theorem dX7_goYear_74 : decode cX7_goYear 74 = .ok (.iload_n 1, 1) := by decide +kernel
theorem dX7_goYear_75 : decode cX7_goYear 75 = .ok (.iconst 3, 1) := by decide +kernel
theorem dX7_goYear_76 : decode cX7_goYear 76 = .ok (.iload_n 3, 1) := by decide +kernel
theorem dX7_goYear_77 : decode cX7_goYear 77 = .ok (.imul, 1) := by decide +kernel
theorem dX7_goYear_78 : decode cX7_goYear 78 = .ok (.iadd, 1) := by decide +kernel
theorem dX7_goYear_79 : decode cX7_goYear 79 = .ok (.iconst 1, 1) := by decide +kernel
theorem dX7_goYear_80 : decode cX7_goYear 80 = .ok (.iadd, 1) := by decide +kernel
theorem dX7_goYear_81 : decode cX7_goYear 81 = .ok (.iaload, 1) := by decide +kernel
theorem dX7_goYear_82 : decode cX7_goYear 82 = .ok (.istore 5, 2) := by decide +kernel
theorem dX7_goYear_84 : decode cX7_goYear 84 = .ok (.aload_n 0, 1) := by decide +kernel
theorem dX7_goYear_85 : decode cX7_goYear 85 = .ok (.getfield 63, 3) := by decide +kernel
theorem dX7_goYear_88 : decode cX7_goYear 88 = .ok (.iload_n 1, 1) := by decide +kernel
theorem dX7_goYear_89 : decode cX7_goYear 89 = .ok (.iconst 3, 1) := by decide +kernel
theorem dX7_goYear_90 : decode cX7_goYear 90 = .ok (.iload_n 3, 1) := by decide +kernel
theorem dX7_goYear_91 : decode cX7_goYear 91 = .ok (.imul, 1) := by decide +kernel
theorem dX7_goYear_92 : decode cX7_goYear 92 = .ok (.iadd, 1) := by decide +kernel
theorem dX7_goYear_93 : decode cX7_goYear 93 = .ok (.iconst 2, 1) := by decide +kernel
theorem dX7_goYear_94 : decode cX7_goYear 94 = .ok (.iadd, 1) := by decide +kernel
theorem dX7_goYear_95 : decode cX7_goYear 95 = .ok (.iaload, 1) := by decide +kernel
theorem dX7_goYear_96 : decode cX7_goYear 96 = .ok (.istore 6, 2) := by decide +kernel
theorem dX7_goYear_98 : decode cX7_goYear 98 = .ok (.iload 6, 2) := by decide +kernel
theorem dX7_goYear_100 : decode cX7_goYear 100 = .ok (.iconst 1, 1) := by decide +kernel
theorem dX7_goYear_101 : decode cX7_goYear 101 = .ok (.if_icmp .ne 14, 3) := by decide +kernel
theorem dX7_goYear_104 : decode cX7_goYear 104 = .ok (.aload_n 0, 1) := by decide +kernel
theorem dX7_goYear_105 : decode cX7_goYear 105 = .ok (.iload 4, 2) := by decide +kernel
theorem dX7_goYear_107 : decode cX7_goYear 107 = .ok (.iload 5, 2) := by decide +kernel
theorem dX7_goYear_109 : decode cX7_goYear 109 = .ok (.invokevirtual 143, 3) := by decide +kernel
theorem dX7_goYear_112 : decode cX7_goYear 112 = .ok (.ifCond .le 19, 3) := by decide +kernel
theorem dX7_goYear_115 : decode cX7_goYear 115 = .ok (.iload 6, 2) := by decide +kernel
theorem dX7_goYear_117 : decode cX7_goYear 117 = .ok (.iconst 2, 1) := by decide +kernel
theorem dX7_goYear_118 : decode cX7_goYear 118 = .ok (.if_icmp .ne 17, 3) := by decide +kernel
theorem dX7_goYear_121 : decode cX7_goYear 121 = .ok (.aload_n 0, 1) := by decide +kernel
theorem dX7_goYear_122 : decode cX7_goYear 122 = .ok (.getfield 40, 3) := by decide +kernel
theorem dX7_goYear_125 : decode cX7_goYear 125 = .ok (.iload 4, 2) := by decide +kernel
theorem dX7_goYear_127 : decode cX7_goYear 127 = .ok (.iaload, 1) := by decide +kernel
theorem dX7_goYear_128 : decode cX7_goYear 128 = .ok (.ifCond .ne 7, 3) := by decide +kernel
theorem dX7_goYear_131 : decode cX7_goYear 131 = .ok (.iconst 1, 1) := by decide +kernel
theorem dX7_goYear_132 : decode cX7_goYear 132 = .ok (.goto 4, 3) := by decide +kernel
theorem dX7_goYear_135 : decode cX7_goYear 135 = .ok (.iconst 0, 1) := by decide +kernel
theorem dX7_goYear_136 : decode cX7_goYear 136 = .ok (.istore 7, 2) := by decide +kernel
theorem dX7_goYear_138 : decode cX7_goYear 138 = .ok (.aload_n 0, 1) := by decide +kernel
theorem dX7_goYear_139 : decode cX7_goYear 139 = .ok (.iload 7, 2) := by decide +kernel
theorem dX7_goYear_141 : decode cX7_goYear 141 = .ok (.ifCond .eq 7, 3) := by decide +kernel
theorem dX7_goYear_144 : decode cX7_goYear 144 = .ok (.iload_n 3, 1) := by decide +kernel
theorem dX7_goYear_145 : decode cX7_goYear 145 = .ok (.goto 5, 3) := by decide +kernel
theorem dX7_goYear_148 : decode cX7_goYear 148 = .ok (.bipush (-9), 2) := by decide +kernel
theorem dX7_goYear_150 : decode cX7_goYear 150 = .ok (.putfield 162, 3) := by decide +kernel
theorem dX7_goYear_153 : decode cX7_goYear 153 = .ok (.aload_n 0, 1) := by decide +kernel
theorem dX7_goYear_154 : decode cX7_goYear 154 = .ok (.dup, 1) := by decide +kernel
theorem dX7_goYear_155 : decode cX7_goYear 155 = .ok (.getfield 165, 3) := by decide +kernel
theorem dX7_goYear_158 : decode cX7_goYear 158 = .ok (.iload 7, 2) := by decide +kernel
theorem dX7_goYear_160 : decode cX7_goYear 160 = .ok (.ifCond .ne 8, 3) := by decide +kernel
theorem dX7_goYear_163 : decode cX7_goYear 163 = .ok (.iload 6, 2) := by decide +kernel
theorem dX7_goYear_165 : decode cX7_goYear 165 = .ok (.ifCond .ne 7, 3) := by decide +kernel
theorem dX7_goYear_168 : decode cX7_goYear 168 = .ok (.iconst 0, 1) := by decide +kernel
theorem dX7_goYear_169 : decode cX7_goYear 169 = .ok (.goto 30, 3) := by decide +kernel
theorem dX7_goYear_172 : decode cX7_goYear 172 = .ok (.iload 6, 2) := by decide +kernel
theorem dX7_goYear_174 : decode cX7_goYear 174 = .ok (.iconst 1, 1) := by decide +kernel
theorem dX7_goYear_175 : decode cX7_goYear 175 = .ok (.if_icmp .ne 14, 3) := by decide +kernel
theorem dX7_goYear_178 : decode cX7_goYear 178 = .ok (.aload_n 0, 1) := by decide +kernel
theorem dX7_goYear_179 : decode cX7_goYear 179 = .ok (.iload 4, 2) := by decide +kernel
theorem dX7_goYear_181 : decode cX7_goYear 181 = .ok (.iload 5, 2) := by decide +kernel
theorem dX7_goYear_183 : decode cX7_goYear 183 = .ok (.invokevirtual 143, 3) := by decide +kernel
theorem dX7_goYear_186 : decode cX7_goYear 186 = .ok (.goto 13, 3) := by decide +kernel
theorem dX7_goYear_189 : decode cX7_goYear 189 = .ok (.bipush 10, 2) := by decide +kernel
theorem dX7_goYear_191 : decode cX7_goYear 191 = .ok (.aload_n 0, 1) := by decide +kernel
theorem dX7_goYear_192 : decode cX7_goYear 192 = .ok (.getfield 7, 3) := by decide +kernel
theorem dX7_goYear_195 : decode cX7_goYear 195 = .ok (.iload 5, 2) := by decide +kernel
theorem dX7_goYear_197 : decode cX7_goYear 197 = .ok (.iaload, 1) := by decide +kernel
theorem dX7_goYear_198 : decode cX7_goYear 198 = .ok (.imul, 1) := by decide +kernel
theorem dX7_goYear_199 : decode cX7_goYear 199 = .ok (.iadd, 1) := by decide +kernel
theorem dX7_goYear_200 : decode cX7_goYear 200 = .ok (.putfield 165, 3) := by decide +kernel
theorem dX7_goYear_203 : decode cX7_goYear 203 = .ok (.aload_n 0, 1) := by decide +kernel
theorem dX7_goYear_204 : decode cX7_goYear 204 = .ok (.dup, 1) := by decide +kernel
theorem dX7_goYear_205 : decode cX7_goYear 205 = .ok (.getfield 168, 3) := by decide +kernel
theorem dX7_goYear_208 : decode cX7_goYear 208 = .ok (.iload 7, 2) := by decide +kernel
theorem dX7_goYear_210 : decode cX7_goYear 210 = .ok (.ifCond .ne 13, 3) := by decide +kernel
theorem dX7_goYear_213 : decode cX7_goYear 213 = .ok (.iload 6, 2) := by decide +kernel
theorem dX7_goYear_215 : decode cX7_goYear 215 = .ok (.iconst 2, 1) := by decide +kernel
theorem dX7_goYear_216 : decode cX7_goYear 216 = .ok (.if_icmp .ne 7, 3) := by decide +kernel
theorem dX7_goYear_219 : decode cX7_goYear 219 = .ok (.iconst 1, 1) := by decide +kernel
theorem dX7_goYear_220 : decode cX7_goYear 220 = .ok (.goto 4, 3) := by decide +kernel
theorem dX7_goYear_223 : decode cX7_goYear 223 = .ok (.iconst 0, 1) := by decide +kernel
theorem dX7_goYear_224 : decode cX7_goYear 224 = .ok (.iadd, 1) := by decide +kernel
theorem dX7_goYear_225 : decode cX7_goYear 225 = .ok (.putfield 168, 3) := by decide +kernel
theorem dX7_goYear_228 : decode cX7_goYear 228 = .ok (.aload_n 0, 1) := by decide +kernel
theorem dX7_goYear_229 : decode cX7_goYear 229 = .ok (.getfield 40, 3) := by decide +kernel
theorem dX7_goYear_232 : decode cX7_goYear 232 = .ok (.iload 4, 2) := by decide +kernel
theorem dX7_goYear_234 : decode cX7_goYear 234 = .ok (.dup2, 1) := by decide +kernel
theorem dX7_goYear_235 : decode cX7_goYear 235 = .ok (.iaload, 1) := by decide +kernel
theorem dX7_goYear_236 : decode cX7_goYear 236 = .ok (.iload 7, 2) := by decide +kernel
theorem dX7_goYear_238 : decode cX7_goYear 238 = .ok (.ifCond .ne 13, 3) := by decide +kernel
theorem dX7_goYear_241 : decode cX7_goYear 241 = .ok (.iload 6, 2) := by decide +kernel
theorem dX7_goYear_243 : decode cX7_goYear 243 = .ok (.iconst 2, 1) := by decide +kernel
theorem dX7_goYear_244 : decode cX7_goYear 244 = .ok (.if_icmp .ne 7, 3) := by decide +kernel
theorem dX7_goYear_247 : decode cX7_goYear 247 = .ok (.iconst 1, 1) := by decide +kernel
theorem dX7_goYear_248 : decode cX7_goYear 248 = .ok (.goto 4, 3) := by decide +kernel
theorem dX7_goYear_251 : decode cX7_goYear 251 = .ok (.iconst 0, 1) := by decide +kernel
theorem dX7_goYear_252 : decode cX7_goYear 252 = .ok (.isub, 1) := by decide +kernel
theorem dX7_goYear_253 : decode cX7_goYear 253 = .ok (.iastore, 1) := by decide +kernel
theorem dX7_goYear_254 : decode cX7_goYear 254 = .ok (.iinc 3 1, 3) := by decide +kernel
theorem dX7_goYear_257 : decode cX7_goYear 257 = .ok (.goto (-211), 3) := by decide +kernel
theorem dX7_goYear_260 : decode cX7_goYear 260 = .ok (.return_, 1) := by decide +kernel
set_option maxRecDepth 20000 in
theorem ggX7_year_X7_noSheet : GoodIn wsX7_year wsX7_noSheet := goodIn_r _ [16, 6, 17, 18, 15, 19] (by decide +kernel) (by decide +kernel)
set_option maxRecDepth 20000 in
theorem gX7_year_X7_noSheet : GoodIn wsX7_year (va_wsS RX7 121 yX7_noSheet wsX7_noSheet) := goodIn_app (goodIn_of _ (by decide +kernel)) ggX7_year_X7_noSheet
set_option maxRecDepth 20000 in
theorem ggX7_year_X7_refused : GoodIn wsX7_year wsX7_refused := goodIn_r _ [23, 24, 64, 65, 66, 67, 68, 69, 70, 71, 72, 73, 74, 75, 76, 77, 78, 79, 80, 81, 82, 83, 84, 85, 86, 87, 88, 89, 90, 91, 92, 93] (by decide +kernel) (by decide +kernel)
set_option maxRecDepth 20000 in
theorem gX7_year_X7_refused : GoodIn wsX7_year (wsV RX7 125 RX7 yX7_refused wsX7_refused) := goodIn_app (goodIn_of _ (by decide +kernel)) ggX7_year_X7_refused
set_option maxRecDepth 20000 in
theorem ggX7_year_X7_in : GoodIn wsX7_year wsX7_in := goodIn_r _ [19] (by decide +kernel) (by decide +kernel)
set_option maxRecDepth 20000 in
theorem gX7_year_X7_in : GoodIn wsX7_year (va_wsS RX7 82 yX7_in wsX7_in) := goodIn_app (goodIn_of _ (by decide +kernel)) ggX7_year_X7_in
set_option maxRecDepth 20000 in
theorem ggX7_year_X7_cellsBarred : GoodIn wsX7_year wsX7_cellsBarred := goodIn_r _ [28, 29, 30, 31, 32, 33, 15, 34, 24, 35, 36, 37, 64, 65, 66, 67, 68, 69, 70, 71, 72, 73, 74, 75, 76, 77, 78, 79, 80, 81, 82, 83, 84, 85, 86, 87, 88, 89, 90, 91, 92, 93] (by decide +kernel) (by decide +kernel)
set_option maxRecDepth 20000 in
theorem gX7_year_X7_cellsBarred : GoodIn wsX7_year (wsV RX7 130 RX7 yX7_cellsBarred wsX7_cellsBarred) := goodIn_app (goodIn_of _ (by decide +kernel)) ggX7_year_X7_cellsBarred
set_option maxRecDepth 20000 in
theorem ggX7_year_X7_noSubject : GoodIn wsX7_year wsX7_noSubject := goodIn_r _ [41, 5, 17, 18, 15, 19, 64, 65, 66, 67, 68, 69, 70, 71, 72, 73, 74, 75, 76, 77, 78, 79, 80, 81, 82, 83, 84, 85, 86, 87, 88, 89, 90, 91, 92, 93] (by decide +kernel) (by decide +kernel)
set_option maxRecDepth 20000 in
theorem gX7_year_X7_noSubject : GoodIn wsX7_year (wsV RX7 152 RX7 yX7_noSubject wsX7_noSubject) := goodIn_app (goodIn_of _ (by decide +kernel)) ggX7_year_X7_noSubject
set_option maxRecDepth 20000 in
theorem ggX7_year_X7_noDeed : GoodIn wsX7_year wsX7_noDeed := goodIn_r _ [45, 46, 17, 18, 15, 19, 64, 65, 66, 67, 68, 69, 70, 71, 72, 73, 74, 75, 76, 77, 78, 79, 80, 81, 82, 83, 84, 85, 86, 87, 88, 89, 90, 91, 92, 93] (by decide +kernel) (by decide +kernel)
set_option maxRecDepth 20000 in
theorem gX7_year_X7_noDeed : GoodIn wsX7_year (wsV RX7 146 RX7 yX7_noDeed wsX7_noDeed) := goodIn_app (goodIn_of _ (by decide +kernel)) ggX7_year_X7_noDeed
set_option maxRecDepth 20000 in
theorem ggX7_year_X7_goYear : GoodIn wsX7_year wsX7_goYear := goodIn_r _ [50, 8, 11, 12, 5, 10, 51, 7, 52, 53, 54, 55, 15, 56, 57, 58, 59, 60, 61, 62, 63, 64, 65, 66, 67, 68, 69, 70, 71, 72, 73, 74, 75, 76, 77, 78, 79, 80, 81, 82, 83, 84, 85, 86, 87, 88, 89, 90, 91, 92, 93] (by decide +kernel) (by decide +kernel)
set_option maxRecDepth 20000 in
theorem gX7_year_X7_goYear : GoodIn wsX7_year (wsV RX7 177 RX7 yX7_goYear wsX7_goYear) := goodIn_app (goodIn_of _ (by decide +kernel)) ggX7_year_X7_goYear
theorem dX7_year_0 : decode cX7_year 0 = .ok (.iload_n 1, 1) := by decide +kernel
theorem dX7_year_1 : decode cX7_year 1 = .ok (.invokestatic 121, 3) := by decide +kernel
theorem dX7_year_4 : decode cX7_year 4 = .ok (.ifCond .eq 9, 3) := by decide +kernel
theorem dX7_year_7 : decode cX7_year 7 = .ok (.aload_n 0, 1) := by decide +kernel
theorem dX7_year_8 : decode cX7_year 8 = .ok (.iconst (-1), 1) := by decide +kernel
theorem dX7_year_9 : decode cX7_year 9 = .ok (.invokevirtual 125, 3) := by decide +kernel
theorem dX7_year_12 : decode cX7_year 12 = .ok (.ireturn, 1) := by decide +kernel
theorem dX7_year_13 : decode cX7_year 13 = .ok (.iload 5, 2) := by decide +kernel
theorem dX7_year_15 : decode cX7_year 15 = .ok (.i2l, 1) := by decide +kernel
theorem dX7_year_16 : decode cX7_year 16 = .ok (.lconst 0, 1) := by decide +kernel
theorem dX7_year_17 : decode cX7_year 17 = .ok (.ldc2_w 128, 3) := by decide +kernel
theorem dX7_year_20 : decode cX7_year 20 = .ok (.invokestatic 82, 3) := by decide +kernel
theorem dX7_year_23 : decode cX7_year 23 = .ok (.ifCond .ne 18, 3) := by decide +kernel
theorem dX7_year_26 : decode cX7_year 26 = .ok (.iload 5, 2) := by decide +kernel
theorem dX7_year_28 : decode cX7_year 28 = .ok (.i2l, 1) := by decide +kernel
theorem dX7_year_29 : decode cX7_year 29 = .ok (.ldc2_w 171, 3) := by decide +kernel
theorem dX7_year_32 : decode cX7_year 32 = .ok (.ldc2_w 173, 3) := by decide +kernel
theorem dX7_year_35 : decode cX7_year 35 = .ok (.invokestatic 82, 3) := by decide +kernel
theorem dX7_year_38 : decode cX7_year 38 = .ok (.ifCond .eq 7, 3) := by decide +kernel
theorem dX7_year_41 : decode cX7_year 41 = .ok (.iconst 1, 1) := by decide +kernel
theorem dX7_year_42 : decode cX7_year 42 = .ok (.goto 4, 3) := by decide +kernel
theorem dX7_year_45 : decode cX7_year 45 = .ok (.iconst 0, 1) := by decide +kernel
theorem dX7_year_46 : decode cX7_year 46 = .ok (.istore 6, 2) := by decide +kernel
theorem dX7_year_48 : decode cX7_year 48 = .ok (.iload_n 2, 1) := by decide +kernel
theorem dX7_year_49 : decode cX7_year 49 = .ok (.i2l, 1) := by decide +kernel
theorem dX7_year_50 : decode cX7_year 50 = .ok (.lconst 0, 1) := by decide +kernel
theorem dX7_year_51 : decode cX7_year 51 = .ok (.ldc2_w 128, 3) := by decide +kernel
theorem dX7_year_54 : decode cX7_year 54 = .ok (.invokestatic 82, 3) := by decide +kernel
theorem dX7_year_57 : decode cX7_year 57 = .ok (.ifCond .eq 21, 3) := by decide +kernel
theorem dX7_year_60 : decode cX7_year 60 = .ok (.iload 4, 2) := by decide +kernel
theorem dX7_year_62 : decode cX7_year 62 = .ok (.i2l, 1) := by decide +kernel
theorem dX7_year_63 : decode cX7_year 63 = .ok (.lconst 0, 1) := by decide +kernel
theorem dX7_year_64 : decode cX7_year 64 = .ok (.ldc2_w 175, 3) := by decide +kernel
theorem dX7_year_67 : decode cX7_year 67 = .ok (.invokestatic 82, 3) := by decide +kernel
theorem dX7_year_70 : decode cX7_year 70 = .ok (.ifCond .eq 8, 3) := by decide +kernel
theorem dX7_year_73 : decode cX7_year 73 = .ok (.iload 6, 2) := by decide +kernel
theorem dX7_year_75 : decode cX7_year 75 = .ok (.ifCond .ne 10, 3) := by decide +kernel
theorem dX7_year_78 : decode cX7_year 78 = .ok (.aload_n 0, 1) := by decide +kernel
theorem dX7_year_79 : decode cX7_year 79 = .ok (.bipush (-2), 2) := by decide +kernel
theorem dX7_year_81 : decode cX7_year 81 = .ok (.invokevirtual 125, 3) := by decide +kernel
theorem dX7_year_84 : decode cX7_year 84 = .ok (.ireturn, 1) := by decide +kernel
theorem dX7_year_85 : decode cX7_year 85 = .ok (.aload_n 0, 1) := by decide +kernel
theorem dX7_year_86 : decode cX7_year 86 = .ok (.getfield 86, 3) := by decide +kernel
theorem dX7_year_89 : decode cX7_year 89 = .ok (.ifCond .ne 10, 3) := by decide +kernel
theorem dX7_year_92 : decode cX7_year 92 = .ok (.aload_n 0, 1) := by decide +kernel
theorem dX7_year_93 : decode cX7_year 93 = .ok (.bipush (-3), 2) := by decide +kernel
theorem dX7_year_95 : decode cX7_year 95 = .ok (.invokevirtual 125, 3) := by decide +kernel
theorem dX7_year_98 : decode cX7_year 98 = .ok (.ireturn, 1) := by decide +kernel
theorem dX7_year_99 : decode cX7_year 99 = .ok (.aload_n 0, 1) := by decide +kernel
theorem dX7_year_100 : decode cX7_year 100 = .ok (.iload_n 1, 1) := by decide +kernel
theorem dX7_year_101 : decode cX7_year 101 = .ok (.iload_n 2, 1) := by decide +kernel
theorem dX7_year_102 : decode cX7_year 102 = .ok (.iload_n 3, 1) := by decide +kernel
theorem dX7_year_103 : decode cX7_year 103 = .ok (.ldc2_w 160, 3) := by decide +kernel
theorem dX7_year_106 : decode cX7_year 106 = .ok (.iload 4, 2) := by decide +kernel
theorem dX7_year_108 : decode cX7_year 108 = .ok (.i2l, 1) := by decide +kernel
theorem dX7_year_109 : decode cX7_year 109 = .ok (.lmul, 1) := by decide +kernel
theorem dX7_year_110 : decode cX7_year 110 = .ok (.invokevirtual 130, 3) := by decide +kernel
theorem dX7_year_113 : decode cX7_year 113 = .ok (.istore 7, 2) := by decide +kernel
theorem dX7_year_115 : decode cX7_year 115 = .ok (.iload 7, 2) := by decide +kernel
theorem dX7_year_117 : decode cX7_year 117 = .ok (.ifCond .ge 6, 3) := by decide +kernel
theorem dX7_year_120 : decode cX7_year 120 = .ok (.iload 7, 2) := by decide +kernel
theorem dX7_year_122 : decode cX7_year 122 = .ok (.ireturn, 1) := by decide +kernel
theorem dX7_year_123 : decode cX7_year 123 = .ok (.iconst 0, 1) := by decide +kernel
theorem dX7_year_124 : decode cX7_year 124 = .ok (.istore 8, 2) := by decide +kernel
theorem dX7_year_126 : decode cX7_year 126 = .ok (.iload 8, 2) := by decide +kernel
theorem dX7_year_128 : decode cX7_year 128 = .ok (.iload 4, 2) := by decide +kernel
theorem dX7_year_130 : decode cX7_year 130 = .ok (.if_icmp .ge 78, 3) := by decide +kernel
theorem dX7_year_133 : decode cX7_year 133 = .ok (.bipush 60, 2) := by decide +kernel
theorem dX7_year_135 : decode cX7_year 135 = .ok (.iload_n 1, 1) := by decide +kernel
theorem dX7_year_136 : decode cX7_year 136 = .ok (.imul, 1) := by decide +kernel
theorem dX7_year_137 : decode cX7_year 137 = .ok (.iload_n 3, 1) := by decide +kernel
theorem dX7_year_138 : decode cX7_year 138 = .ok (.iadd, 1) := by decide +kernel
theorem dX7_year_139 : decode cX7_year 139 = .ok (.iconst 3, 1) := by decide +kernel
theorem dX7_year_140 : decode cX7_year 140 = .ok (.iload 8, 2) := by decide +kernel
theorem dX7_year_142 : decode cX7_year 142 = .ok (.imul, 1) := by decide +kernel
theorem dX7_year_143 : decode cX7_year 143 = .ok (.iadd, 1) := by decide +kernel
theorem dX7_year_144 : decode cX7_year 144 = .ok (.istore 9, 2) := by decide +kernel
theorem dX7_year_146 : decode cX7_year 146 = .ok (.aload_n 0, 1) := by decide +kernel
theorem dX7_year_147 : decode cX7_year 147 = .ok (.aload_n 0, 1) := by decide +kernel
theorem dX7_year_148 : decode cX7_year 148 = .ok (.getfield 63, 3) := by decide +kernel
theorem dX7_year_151 : decode cX7_year 151 = .ok (.iload 9, 2) := by decide +kernel
theorem dX7_year_153 : decode cX7_year 153 = .ok (.iaload, 1) := by decide +kernel
theorem dX7_year_154 : decode cX7_year 154 = .ok (.invokevirtual 152, 3) := by decide +kernel
theorem dX7_year_157 : decode cX7_year 157 = .ok (.ifCond .ne 39, 3) := by decide +kernel
theorem dX7_year_160 : decode cX7_year 160 = .ok (.aload_n 0, 1) := by decide +kernel
theorem dX7_year_161 : decode cX7_year 161 = .ok (.aload_n 0, 1) := by decide +kernel
theorem dX7_year_162 : decode cX7_year 162 = .ok (.getfield 63, 3) := by decide +kernel
theorem dX7_year_165 : decode cX7_year 165 = .ok (.iload 9, 2) := by decide +kernel
theorem dX7_year_167 : decode cX7_year 167 = .ok (.iconst 1, 1) := by decide +kernel
theorem dX7_year_168 : decode cX7_year 168 = .ok (.iadd, 1) := by decide +kernel
theorem dX7_year_169 : decode cX7_year 169 = .ok (.iaload, 1) := by decide +kernel
theorem dX7_year_170 : decode cX7_year 170 = .ok (.invokevirtual 146, 3) := by decide +kernel
theorem dX7_year_173 : decode cX7_year 173 = .ok (.ifCond .ne 23, 3) := by decide +kernel
theorem dX7_year_176 : decode cX7_year 176 = .ok (.aload_n 0, 1) := by decide +kernel
theorem dX7_year_177 : decode cX7_year 177 = .ok (.getfield 63, 3) := by decide +kernel
theorem dX7_year_180 : decode cX7_year 180 = .ok (.iload 9, 2) := by decide +kernel
theorem dX7_year_182 : decode cX7_year 182 = .ok (.iconst 2, 1) := by decide +kernel
theorem dX7_year_183 : decode cX7_year 183 = .ok (.iadd, 1) := by decide +kernel
theorem dX7_year_184 : decode cX7_year 184 = .ok (.iaload, 1) := by decide +kernel
theorem dX7_year_185 : decode cX7_year 185 = .ok (.i2l, 1) := by decide +kernel
theorem dX7_year_186 : decode cX7_year 186 = .ok (.lconst 0, 1) := by decide +kernel
theorem dX7_year_187 : decode cX7_year 187 = .ok (.ldc2_w 128, 3) := by decide +kernel
theorem dX7_year_190 : decode cX7_year 190 = .ok (.invokestatic 82, 3) := by decide +kernel
theorem dX7_year_193 : decode cX7_year 193 = .ok (.ifCond .ne 9, 3) := by decide +kernel
theorem dX7_year_196 : decode cX7_year 196 = .ok (.aload_n 0, 1) := by decide +kernel
theorem dX7_year_197 : decode cX7_year 197 = .ok (.iconst (-1), 1) := by decide +kernel
theorem dX7_year_198 : decode cX7_year 198 = .ok (.invokevirtual 125, 3) := by decide +kernel
theorem dX7_year_201 : decode cX7_year 201 = .ok (.ireturn, 1) := by decide +kernel
theorem dX7_year_202 : decode cX7_year 202 = .ok (.iinc 8 1, 3) := by decide +kernel
theorem dX7_year_205 : decode cX7_year 205 = .ok (.goto (-79), 3) := by decide +kernel
theorem dX7_year_208 : decode cX7_year 208 = .ok (.aload_n 0, 1) := by decide +kernel
theorem dX7_year_209 : decode cX7_year 209 = .ok (.bipush 60, 2) := by decide +kernel
theorem dX7_year_211 : decode cX7_year 211 = .ok (.iload_n 1, 1) := by decide +kernel
theorem dX7_year_212 : decode cX7_year 212 = .ok (.imul, 1) := by decide +kernel
theorem dX7_year_213 : decode cX7_year 213 = .ok (.iload_n 3, 1) := by decide +kernel
theorem dX7_year_214 : decode cX7_year 214 = .ok (.iadd, 1) := by decide +kernel
theorem dX7_year_215 : decode cX7_year 215 = .ok (.iload 4, 2) := by decide +kernel
theorem dX7_year_217 : decode cX7_year 217 = .ok (.invokevirtual 177, 3) := by decide +kernel
theorem dX7_year_220 : decode cX7_year 220 = .ok (.iload 5, 2) := by decide +kernel
theorem dX7_year_222 : decode cX7_year 222 = .ok (.iconst 1, 1) := by decide +kernel
theorem dX7_year_223 : decode cX7_year 223 = .ok (.if_icmp .ne 12, 3) := by decide +kernel
theorem dX7_year_226 : decode cX7_year 226 = .ok (.aload_n 0, 1) := by decide +kernel
theorem dX7_year_227 : decode cX7_year 227 = .ok (.aload_n 0, 1) := by decide +kernel
theorem dX7_year_228 : decode cX7_year 228 = .ok (.getfield 162, 3) := by decide +kernel
theorem dX7_year_231 : decode cX7_year 231 = .ok (.invokevirtual 125, 3) := by decide +kernel
theorem dX7_year_234 : decode cX7_year 234 = .ok (.ireturn, 1) := by decide +kernel
theorem dX7_year_235 : decode cX7_year 235 = .ok (.aload_n 0, 1) := by decide +kernel
theorem dX7_year_236 : decode cX7_year 236 = .ok (.getfield 162, 3) := by decide +kernel
theorem dX7_year_239 : decode cX7_year 239 = .ok (.ifCond .lt 15, 3) := by decide +kernel
theorem dX7_year_242 : decode cX7_year 242 = .ok (.aload_n 0, 1) := by decide +kernel
theorem dX7_year_243 : decode cX7_year 243 = .ok (.ldc 181, 2) := by decide +kernel
theorem dX7_year_245 : decode cX7_year 245 = .ok (.aload_n 0, 1) := by decide +kernel
theorem dX7_year_246 : decode cX7_year 246 = .ok (.getfield 162, 3) := by decide +kernel
theorem dX7_year_249 : decode cX7_year 249 = .ok (.isub, 1) := by decide +kernel
theorem dX7_year_250 : decode cX7_year 250 = .ok (.invokevirtual 125, 3) := by decide +kernel
theorem dX7_year_253 : decode cX7_year 253 = .ok (.ireturn, 1) := by decide +kernel
theorem dX7_year_254 : decode cX7_year 254 = .ok (.iload 5, 2) := by decide +kernel
theorem dX7_year_256 : decode cX7_year 256 = .ok (.bipush 9, 2) := by decide +kernel
theorem dX7_year_258 : decode cX7_year 258 = .ok (.if_icmp .le 35, 3) := by decide +kernel
theorem dX7_year_261 : decode cX7_year 261 = .ok (.aload_n 0, 1) := by decide +kernel
theorem dX7_year_262 : decode cX7_year 262 = .ok (.aload_n 0, 1) := by decide +kernel
theorem dX7_year_263 : decode cX7_year 263 = .ok (.iload 5, 2) := by decide +kernel
theorem dX7_year_265 : decode cX7_year 265 = .ok (.bipush 10, 2) := by decide +kernel
theorem dX7_year_267 : decode cX7_year 267 = .ok (.isub, 1) := by decide +kernel
theorem dX7_year_268 : decode cX7_year 268 = .ok (.invokevirtual 152, 3) := by decide +kernel
theorem dX7_year_271 : decode cX7_year 271 = .ok (.ifCond .eq 8, 3) := by decide +kernel
theorem dX7_year_274 : decode cX7_year 274 = .ok (.bipush (-9), 2) := by decide +kernel
theorem dX7_year_276 : decode cX7_year 276 = .ok (.goto 13, 3) := by decide +kernel
theorem dX7_year_279 : decode cX7_year 279 = .ok (.aload_n 0, 1) := by decide +kernel
theorem dX7_year_280 : decode cX7_year 280 = .ok (.getfield 40, 3) := by decide +kernel
theorem dX7_year_283 : decode cX7_year 283 = .ok (.iload 5, 2) := by decide +kernel
theorem dX7_year_285 : decode cX7_year 285 = .ok (.bipush 10, 2) := by decide +kernel
theorem dX7_year_287 : decode cX7_year 287 = .ok (.isub, 1) := by decide +kernel
theorem dX7_year_288 : decode cX7_year 288 = .ok (.iaload, 1) := by decide +kernel
theorem dX7_year_289 : decode cX7_year 289 = .ok (.invokevirtual 125, 3) := by decide +kernel
theorem dX7_year_292 : decode cX7_year 292 = .ok (.ireturn, 1) := by decide +kernel
theorem dX7_year_293 : decode cX7_year 293 = .ok (.aload_n 0, 1) := by decide +kernel
theorem dX7_year_294 : decode cX7_year 294 = .ok (.iload 5, 2) := by decide +kernel
theorem dX7_year_296 : decode cX7_year 296 = .ok (.ifCond .ne 10, 3) := by decide +kernel
theorem dX7_year_299 : decode cX7_year 299 = .ok (.aload_n 0, 1) := by decide +kernel
theorem dX7_year_300 : decode cX7_year 300 = .ok (.getfield 165, 3) := by decide +kernel
theorem dX7_year_303 : decode cX7_year 303 = .ok (.goto 7, 3) := by decide +kernel
theorem dX7_year_306 : decode cX7_year 306 = .ok (.aload_n 0, 1) := by decide +kernel
theorem dX7_year_307 : decode cX7_year 307 = .ok (.getfield 168, 3) := by decide +kernel
theorem dX7_year_310 : decode cX7_year 310 = .ok (.invokevirtual 125, 3) := by decide +kernel
theorem dX7_year_313 : decode cX7_year 313 = .ok (.ireturn, 1) := by decide +kernel
theorem dX7_timesOf_0 : decode cX7_timesOf 0 = .ok (.lconst 1, 1) := by decide +kernel
theorem dX7_timesOf_1 : decode cX7_timesOf 1 = .ok (.lstore_n 2, 1) := by decide +kernel
theorem dX7_timesOf_2 : decode cX7_timesOf 2 = .ok (.iconst 0, 1) := by decide +kernel
theorem dX7_timesOf_3 : decode cX7_timesOf 3 = .ok (.istore 4, 2) := by decide +kernel
theorem dX7_timesOf_5 : decode cX7_timesOf 5 = .ok (.iload 4, 2) := by decide +kernel
theorem dX7_timesOf_7 : decode cX7_timesOf 7 = .ok (.iload_n 1, 1) := by decide +kernel
theorem dX7_timesOf_8 : decode cX7_timesOf 8 = .ok (.if_icmp .ge 17, 3) := by decide +kernel
theorem dX7_timesOf_11 : decode cX7_timesOf 11 = .ok (.lload_n 2, 1) := by decide +kernel
theorem dX7_timesOf_12 : decode cX7_timesOf 12 = .ok (.aload_n 0, 1) := by decide +kernel
theorem dX7_timesOf_13 : decode cX7_timesOf 13 = .ok (.getfield 79, 3) := by decide +kernel
theorem dX7_timesOf_16 : decode cX7_timesOf 16 = .ok (.i2l, 1) := by decide +kernel
theorem dX7_timesOf_17 : decode cX7_timesOf 17 = .ok (.lmul, 1) := by decide +kernel
theorem dX7_timesOf_18 : decode cX7_timesOf 18 = .ok (.lstore_n 2, 1) := by decide +kernel
theorem dX7_timesOf_19 : decode cX7_timesOf 19 = .ok (.iinc 4 1, 3) := by decide +kernel
theorem dX7_timesOf_22 : decode cX7_timesOf 22 = .ok (.goto (-17), 3) := by decide +kernel
theorem dX7_timesOf_25 : decode cX7_timesOf 25 = .ok (.lload_n 2, 1) := by decide +kernel
theorem dX7_timesOf_26 : decode cX7_timesOf 26 = .ok (.lreturn, 1) := by decide +kernel
theorem dX7_greater_0 : decode cX7_greater 0 = .ok (.lload_n 1, 1) := by decide +kernel
theorem dX7_greater_1 : decode cX7_greater 1 = .ok (.lload_n 3, 1) := by decide +kernel
theorem dX7_greater_2 : decode cX7_greater 2 = .ok (.lcmp, 1) := by decide +kernel
theorem dX7_greater_3 : decode cX7_greater 3 = .ok (.ifCond .le 7, 3) := by decide +kernel
theorem dX7_greater_6 : decode cX7_greater 6 = .ok (.lload_n 1, 1) := by decide +kernel
theorem dX7_greater_7 : decode cX7_greater 7 = .ok (.goto 4, 3) := by decide +kernel
theorem dX7_greater_10 : decode cX7_greater 10 = .ok (.lload_n 3, 1) := by decide +kernel
theorem dX7_greater_11 : decode cX7_greater 11 = .ok (.lreturn, 1) := by decide +kernel
set_option maxRecDepth 20000 in
theorem ggX7_bestBy_X7_timesOf : GoodIn wsX7_bestBy wsX7_timesOf := goodIn_r _ [8, 9, 25, 26, 27, 28, 29, 30, 31, 32, 33, 34, 35, 36, 37, 38, 39, 40, 41, 42, 43, 44, 45, 46, 47, 48, 49, 50, 51, 52, 53, 54] (by decide +kernel) (by decide +kernel)
set_option maxRecDepth 20000 in
theorem gX7_bestBy_X7_timesOf : GoodIn wsX7_bestBy (wsV RX7 182 RX7 yX7_timesOf wsX7_timesOf) := goodIn_app (goodIn_of _ (by decide +kernel)) ggX7_bestBy_X7_timesOf
set_option maxRecDepth 20000 in
theorem ggX7_bestBy_X7_valueOf : GoodIn wsX7_bestBy wsX7_valueOf := goodIn_r _ [13, 3, 14, 15, 16, 7, 17, 18, 19, 20, 25, 26, 27, 28, 29, 30, 31, 32, 33, 34, 35, 36, 37, 38, 39, 40, 41, 42, 43, 44, 45, 46, 47, 48, 49, 50, 51, 52, 53, 54] (by decide +kernel) (by decide +kernel)
set_option maxRecDepth 20000 in
theorem gX7_bestBy_X7_valueOf : GoodIn wsX7_bestBy (wsV RX7 143 RX7 yX7_valueOf wsX7_valueOf) := goodIn_app (goodIn_of _ (by decide +kernel)) ggX7_bestBy_X7_valueOf
set_option maxRecDepth 20000 in
theorem ggX7_bestBy_X7_greater : GoodIn wsX7_bestBy wsX7_greater := goodIn_r _ [24] (by decide +kernel) (by decide +kernel)
set_option maxRecDepth 20000 in
theorem gX7_bestBy_X7_greater : GoodIn wsX7_bestBy (wsV RX7 186 RX7 yX7_greater wsX7_greater) := goodIn_app (goodIn_of _ (by decide +kernel)) ggX7_bestBy_X7_greater
theorem dX7_bestBy_0 : decode cX7_bestBy 0 = .ok (.aload_n 0, 1) := by decide +kernel
theorem dX7_bestBy_1 : decode cX7_bestBy 1 = .ok (.iload_n 3, 1) := by decide +kernel
theorem dX7_bestBy_2 : decode cX7_bestBy 2 = .ok (.invokevirtual 182, 3) := by decide +kernel
theorem dX7_bestBy_5 : decode cX7_bestBy 5 = .ok (.lstore 5, 2) := by decide +kernel
theorem dX7_bestBy_7 : decode cX7_bestBy 7 = .ok (.aload_n 0, 1) := by decide +kernel
theorem dX7_bestBy_8 : decode cX7_bestBy 8 = .ok (.getfield 43, 3) := by decide +kernel
theorem dX7_bestBy_11 : decode cX7_bestBy 11 = .ok (.iconst 4, 1) := by decide +kernel
theorem dX7_bestBy_12 : decode cX7_bestBy 12 = .ok (.iload_n 3, 1) := by decide +kernel
theorem dX7_bestBy_13 : decode cX7_bestBy 13 = .ok (.imul, 1) := by decide +kernel
theorem dX7_bestBy_14 : decode cX7_bestBy 14 = .ok (.iload 4, 2) := by decide +kernel
theorem dX7_bestBy_16 : decode cX7_bestBy 16 = .ok (.iadd, 1) := by decide +kernel
theorem dX7_bestBy_17 : decode cX7_bestBy 17 = .ok (.laload, 1) := by decide +kernel
theorem dX7_bestBy_18 : decode cX7_bestBy 18 = .ok (.lstore 7, 2) := by decide +kernel
theorem dX7_bestBy_20 : decode cX7_bestBy 20 = .ok (.lload 7, 2) := by decide +kernel
theorem dX7_bestBy_22 : decode cX7_bestBy 22 = .ok (.aload_n 0, 1) := by decide +kernel
theorem dX7_bestBy_23 : decode cX7_bestBy 23 = .ok (.lconst 0, 1) := by decide +kernel
theorem dX7_bestBy_24 : decode cX7_bestBy 24 = .ok (.aload_n 0, 1) := by decide +kernel
theorem dX7_bestBy_25 : decode cX7_bestBy 25 = .ok (.iload_n 1, 1) := by decide +kernel
theorem dX7_bestBy_26 : decode cX7_bestBy 26 = .ok (.iload_n 2, 1) := by decide +kernel
theorem dX7_bestBy_27 : decode cX7_bestBy 27 = .ok (.invokevirtual 143, 3) := by decide +kernel
theorem dX7_bestBy_30 : decode cX7_bestBy 30 = .ok (.i2l, 1) := by decide +kernel
theorem dX7_bestBy_31 : decode cX7_bestBy 31 = .ok (.lload 5, 2) := by decide +kernel
theorem dX7_bestBy_33 : decode cX7_bestBy 33 = .ok (.lmul, 1) := by decide +kernel
theorem dX7_bestBy_34 : decode cX7_bestBy 34 = .ok (.invokevirtual 186, 3) := by decide +kernel
theorem dX7_bestBy_37 : decode cX7_bestBy 37 = .ok (.ladd, 1) := by decide +kernel
theorem dX7_bestBy_38 : decode cX7_bestBy 38 = .ok (.lstore 9, 2) := by decide +kernel
theorem dX7_bestBy_40 : decode cX7_bestBy 40 = .ok (.iload 4, 2) := by decide +kernel
theorem dX7_bestBy_42 : decode cX7_bestBy 42 = .ok (.ifCond .ne 8, 3) := by decide +kernel
theorem dX7_bestBy_45 : decode cX7_bestBy 45 = .ok (.lload 9, 2) := by decide +kernel
theorem dX7_bestBy_47 : decode cX7_bestBy 47 = .ok (.goto 37, 3) := by decide +kernel
theorem dX7_bestBy_50 : decode cX7_bestBy 50 = .ok (.aload_n 0, 1) := by decide +kernel
theorem dX7_bestBy_51 : decode cX7_bestBy 51 = .ok (.lload 9, 2) := by decide +kernel
theorem dX7_bestBy_53 : decode cX7_bestBy 53 = .ok (.aload_n 0, 1) := by decide +kernel
theorem dX7_bestBy_54 : decode cX7_bestBy 54 = .ok (.getfield 43, 3) := by decide +kernel
theorem dX7_bestBy_57 : decode cX7_bestBy 57 = .ok (.iconst 4, 1) := by decide +kernel
theorem dX7_bestBy_58 : decode cX7_bestBy 58 = .ok (.iload_n 3, 1) := by decide +kernel
theorem dX7_bestBy_59 : decode cX7_bestBy 59 = .ok (.imul, 1) := by decide +kernel
theorem dX7_bestBy_60 : decode cX7_bestBy 60 = .ok (.iload 4, 2) := by decide +kernel
theorem dX7_bestBy_62 : decode cX7_bestBy 62 = .ok (.iadd, 1) := by decide +kernel
theorem dX7_bestBy_63 : decode cX7_bestBy 63 = .ok (.iconst 1, 1) := by decide +kernel
theorem dX7_bestBy_64 : decode cX7_bestBy 64 = .ok (.isub, 1) := by decide +kernel
theorem dX7_bestBy_65 : decode cX7_bestBy 65 = .ok (.laload, 1) := by decide +kernel
theorem dX7_bestBy_66 : decode cX7_bestBy 66 = .ok (.ldc2_w 171, 3) := by decide +kernel
theorem dX7_bestBy_69 : decode cX7_bestBy 69 = .ok (.aload_n 0, 1) := by decide +kernel
theorem dX7_bestBy_70 : decode cX7_bestBy 70 = .ok (.getfield 7, 3) := by decide +kernel
theorem dX7_bestBy_73 : decode cX7_bestBy 73 = .ok (.iload_n 2, 1) := by decide +kernel
theorem dX7_bestBy_74 : decode cX7_bestBy 74 = .ok (.iaload, 1) := by decide +kernel
theorem dX7_bestBy_75 : decode cX7_bestBy 75 = .ok (.i2l, 1) := by decide +kernel
theorem dX7_bestBy_76 : decode cX7_bestBy 76 = .ok (.lmul, 1) := by decide +kernel
theorem dX7_bestBy_77 : decode cX7_bestBy 77 = .ok (.lload 5, 2) := by decide +kernel
theorem dX7_bestBy_79 : decode cX7_bestBy 79 = .ok (.lmul, 1) := by decide +kernel
theorem dX7_bestBy_80 : decode cX7_bestBy 80 = .ok (.ladd, 1) := by decide +kernel
theorem dX7_bestBy_81 : decode cX7_bestBy 81 = .ok (.invokevirtual 186, 3) := by decide +kernel
theorem dX7_bestBy_84 : decode cX7_bestBy 84 = .ok (.lreturn, 1) := by decide +kernel
set_option maxRecDepth 20000 in
theorem ggX7_goHope_X7_bestBy : GoodIn wsX7_goHope wsX7_bestBy := goodIn_r _ [7, 1, 8, 9, 10, 11, 12, 6, 13, 2, 14, 15, 16, 17, 18, 19, 20, 21, 22, 23, 24, 25, 26, 27, 28, 29, 30, 31, 32, 33, 34, 35, 36, 37, 38, 39, 40, 41, 42, 43, 44, 45, 46, 47, 48, 49, 50, 51, 52, 53, 54, 55, 56, 57, 58] (by decide +kernel) (by decide +kernel)
set_option maxRecDepth 20000 in
theorem gX7_goHope_X7_bestBy : GoodIn wsX7_goHope (wsV RX7 190 RX7 yX7_bestBy wsX7_bestBy) := goodIn_app (goodIn_of _ (by decide +kernel)) ggX7_goHope_X7_bestBy
theorem dX7_goHope_0 : decode cX7_goHope 0 = .ok (.iconst 0, 1) := by decide +kernel
theorem dX7_goHope_1 : decode cX7_goHope 1 = .ok (.istore_n 3, 1) := by decide +kernel
theorem dX7_goHope_2 : decode cX7_goHope 2 = .ok (.iload_n 3, 1) := by decide +kernel
theorem dX7_goHope_3 : decode cX7_goHope 3 = .ok (.iconst 4, 1) := by decide +kernel
theorem dX7_goHope_4 : decode cX7_goHope 4 = .ok (.if_icmp .ge 16, 3) := by decide +kernel
theorem dX7_goHope_7 : decode cX7_goHope 7 = .ok (.aload_n 0, 1) := by decide +kernel
theorem dX7_goHope_8 : decode cX7_goHope 8 = .ok (.getfield 43, 3) := by decide +kernel
theorem dX7_goHope_11 : decode cX7_goHope 11 = .ok (.iload_n 3, 1) := by decide +kernel
theorem dX7_goHope_12 : decode cX7_goHope 12 = .ok (.lconst 0, 1) := by decide +kernel
theorem dX7_goHope_13 : decode cX7_goHope 13 = .ok (.lastore, 1) := by decide +kernel
theorem dX7_goHope_14 : decode cX7_goHope 14 = .ok (.iinc 3 1, 3) := by decide +kernel
theorem dX7_goHope_17 : decode cX7_goHope 17 = .ok (.goto (-15), 3) := by decide +kernel
theorem dX7_goHope_20 : decode cX7_goHope 20 = .ok (.iconst 1, 1) := by decide +kernel
theorem dX7_goHope_21 : decode cX7_goHope 21 = .ok (.istore_n 3, 1) := by decide +kernel
theorem dX7_goHope_22 : decode cX7_goHope 22 = .ok (.iload_n 3, 1) := by decide +kernel
theorem dX7_goHope_23 : decode cX7_goHope 23 = .ok (.iload_n 2, 1) := by decide +kernel
theorem dX7_goHope_24 : decode cX7_goHope 24 = .ok (.if_icmp .gt 75, 3) := by decide +kernel
theorem dX7_goHope_27 : decode cX7_goHope 27 = .ok (.iconst 0, 1) := by decide +kernel
theorem dX7_goHope_28 : decode cX7_goHope 28 = .ok (.istore 4, 2) := by decide +kernel
theorem dX7_goHope_30 : decode cX7_goHope 30 = .ok (.iload 4, 2) := by decide +kernel
theorem dX7_goHope_32 : decode cX7_goHope 32 = .ok (.iconst 4, 1) := by decide +kernel
theorem dX7_goHope_33 : decode cX7_goHope 33 = .ok (.if_icmp .ge 60, 3) := by decide +kernel
theorem dX7_goHope_36 : decode cX7_goHope 36 = .ok (.lconst 0, 1) := by decide +kernel
theorem dX7_goHope_37 : decode cX7_goHope 37 = .ok (.lstore 5, 2) := by decide +kernel
theorem dX7_goHope_39 : decode cX7_goHope 39 = .ok (.iconst 0, 1) := by decide +kernel
theorem dX7_goHope_40 : decode cX7_goHope 40 = .ok (.istore 7, 2) := by decide +kernel
theorem dX7_goHope_42 : decode cX7_goHope 42 = .ok (.iload 7, 2) := by decide +kernel
theorem dX7_goHope_44 : decode cX7_goHope 44 = .ok (.aload_n 0, 1) := by decide +kernel
theorem dX7_goHope_45 : decode cX7_goHope 45 = .ok (.getfield 79, 3) := by decide +kernel
theorem dX7_goHope_48 : decode cX7_goHope 48 = .ok (.if_icmp .ge 26, 3) := by decide +kernel
theorem dX7_goHope_51 : decode cX7_goHope 51 = .ok (.lload 5, 2) := by decide +kernel
theorem dX7_goHope_53 : decode cX7_goHope 53 = .ok (.aload_n 0, 1) := by decide +kernel
theorem dX7_goHope_54 : decode cX7_goHope 54 = .ok (.iload_n 1, 1) := by decide +kernel
theorem dX7_goHope_55 : decode cX7_goHope 55 = .ok (.iload 7, 2) := by decide +kernel
theorem dX7_goHope_57 : decode cX7_goHope 57 = .ok (.iload_n 3, 1) := by decide +kernel
theorem dX7_goHope_58 : decode cX7_goHope 58 = .ok (.iconst 1, 1) := by decide +kernel
theorem dX7_goHope_59 : decode cX7_goHope 59 = .ok (.isub, 1) := by decide +kernel
theorem dX7_goHope_60 : decode cX7_goHope 60 = .ok (.iload 4, 2) := by decide +kernel
theorem dX7_goHope_62 : decode cX7_goHope 62 = .ok (.invokevirtual 190, 3) := by decide +kernel
theorem dX7_goHope_65 : decode cX7_goHope 65 = .ok (.ladd, 1) := by decide +kernel
theorem dX7_goHope_66 : decode cX7_goHope 66 = .ok (.lstore 5, 2) := by decide +kernel
theorem dX7_goHope_68 : decode cX7_goHope 68 = .ok (.iinc 7 1, 3) := by decide +kernel
theorem dX7_goHope_71 : decode cX7_goHope 71 = .ok (.goto (-29), 3) := by decide +kernel
theorem dX7_goHope_74 : decode cX7_goHope 74 = .ok (.aload_n 0, 1) := by decide +kernel
theorem dX7_goHope_75 : decode cX7_goHope 75 = .ok (.getfield 43, 3) := by decide +kernel
theorem dX7_goHope_78 : decode cX7_goHope 78 = .ok (.iconst 4, 1) := by decide +kernel
theorem dX7_goHope_79 : decode cX7_goHope 79 = .ok (.iload_n 3, 1) := by decide +kernel
theorem dX7_goHope_80 : decode cX7_goHope 80 = .ok (.imul, 1) := by decide +kernel
theorem dX7_goHope_81 : decode cX7_goHope 81 = .ok (.iload 4, 2) := by decide +kernel
theorem dX7_goHope_83 : decode cX7_goHope 83 = .ok (.iadd, 1) := by decide +kernel
theorem dX7_goHope_84 : decode cX7_goHope 84 = .ok (.lload 5, 2) := by decide +kernel
theorem dX7_goHope_86 : decode cX7_goHope 86 = .ok (.lastore, 1) := by decide +kernel
theorem dX7_goHope_87 : decode cX7_goHope 87 = .ok (.iinc 4 1, 3) := by decide +kernel
theorem dX7_goHope_90 : decode cX7_goHope 90 = .ok (.goto (-60), 3) := by decide +kernel
theorem dX7_goHope_93 : decode cX7_goHope 93 = .ok (.iinc 3 1, 3) := by decide +kernel
theorem dX7_goHope_96 : decode cX7_goHope 96 = .ok (.goto (-74), 3) := by decide +kernel
theorem dX7_goHope_99 : decode cX7_goHope 99 = .ok (.return_, 1) := by decide +kernel
set_option maxRecDepth 20000 in
theorem ggX7_hope_X7_noSubject : GoodIn wsX7_hope wsX7_noSubject := goodIn_r _ [8, 9, 10, 11, 7, 12, 50, 51, 52, 53, 54, 55, 56, 57, 58, 59, 60, 61, 62, 63, 64, 65, 66, 67, 68, 69, 70, 71, 72, 73, 74, 75, 76, 77, 78, 79] (by decide +kernel) (by decide +kernel)
set_option maxRecDepth 20000 in
theorem gX7_hope_X7_noSubject : GoodIn wsX7_hope (wsV RX7 152 RX7 yX7_noSubject wsX7_noSubject) := goodIn_app (goodIn_of _ (by decide +kernel)) ggX7_hope_X7_noSubject
set_option maxRecDepth 20000 in
theorem ggX7_hope_X7_in : GoodIn wsX7_hope wsX7_in := goodIn_r _ [12] (by decide +kernel) (by decide +kernel)
set_option maxRecDepth 20000 in
theorem gX7_hope_X7_in : GoodIn wsX7_hope (va_wsS RX7 82 yX7_in wsX7_in) := goodIn_app (goodIn_of _ (by decide +kernel)) ggX7_hope_X7_in
set_option maxRecDepth 20000 in
theorem ggX7_hope_X7_lost : GoodIn wsX7_hope wsX7_lost := goodIn_r _ [15, 16] (by decide +kernel) (by decide +kernel)
set_option maxRecDepth 20000 in
theorem gX7_hope_X7_lost : GoodIn wsX7_hope (va_wsS RX7 75 yX7_lost wsX7_lost) := goodIn_app (goodIn_of _ (by decide +kernel)) ggX7_hope_X7_lost
set_option maxRecDepth 20000 in
theorem ggX7_hope_X7_goHope : GoodIn wsX7_hope wsX7_goHope := goodIn_r _ [20, 3, 21, 22, 23, 24, 7, 25, 26, 27, 28, 29, 30, 31, 32, 33, 34, 35, 36, 37, 38, 39, 40, 41, 42, 43, 44, 45, 46, 50, 51, 52, 53, 54, 55, 56, 57, 58, 59, 60, 61, 62, 63, 64, 65, 66, 67, 68, 69, 70, 71, 72, 73, 74, 75, 76, 77, 78, 79] (by decide +kernel) (by decide +kernel)
set_option maxRecDepth 20000 in
theorem gX7_hope_X7_goHope : GoodIn wsX7_hope (wsV RX7 196 RX7 yX7_goHope wsX7_goHope) := goodIn_app (goodIn_of _ (by decide +kernel)) ggX7_hope_X7_goHope
set_option maxRecDepth 20000 in
theorem ggX7_hope_X7_timesOf : GoodIn wsX7_hope wsX7_timesOf := goodIn_r _ [31, 21, 50, 51, 52, 53, 54, 55, 56, 57, 58, 59, 60, 61, 62, 63, 64, 65, 66, 67, 68, 69, 70, 71, 72, 73, 74, 75, 76, 77, 78, 79] (by decide +kernel) (by decide +kernel)
set_option maxRecDepth 20000 in
theorem gX7_hope_X7_timesOf : GoodIn wsX7_hope (wsV RX7 182 RX7 yX7_timesOf wsX7_timesOf) := goodIn_app (goodIn_of _ (by decide +kernel)) ggX7_hope_X7_timesOf
set_option maxRecDepth 20000 in
theorem ggX7_hope_X7_share : GoodIn wsX7_hope wsX7_share := goodIn_r _ [49] (by decide +kernel) (by decide +kernel)
set_option maxRecDepth 20000 in
theorem gX7_hope_X7_share : GoodIn wsX7_hope (va_wsS RX7 199 yX7_share wsX7_share) := goodIn_app (goodIn_of _ (by decide +kernel)) ggX7_hope_X7_share
theorem dX7_hope_0 : decode cX7_hope 0 = .ok (.aload_n 0, 1) := by decide +kernel
theorem dX7_hope_1 : decode cX7_hope 1 = .ok (.iload_n 1, 1) := by decide +kernel
theorem dX7_hope_2 : decode cX7_hope 2 = .ok (.invokevirtual 152, 3) := by decide +kernel
theorem dX7_hope_5 : decode cX7_hope 5 = .ok (.ifCond .ne 38, 3) := by decide +kernel
theorem dX7_hope_8 : decode cX7_hope 8 = .ok (.iload_n 2, 1) := by decide +kernel
theorem dX7_hope_9 : decode cX7_hope 9 = .ok (.i2l, 1) := by decide +kernel
theorem dX7_hope_10 : decode cX7_hope 10 = .ok (.lconst 0, 1) := by decide +kernel
theorem dX7_hope_11 : decode cX7_hope 11 = .ok (.ldc2_w 194, 3) := by decide +kernel
theorem dX7_hope_14 : decode cX7_hope 14 = .ok (.invokestatic 82, 3) := by decide +kernel
theorem dX7_hope_17 : decode cX7_hope 17 = .ok (.ifCond .eq 26, 3) := by decide +kernel
theorem dX7_hope_20 : decode cX7_hope 20 = .ok (.iload_n 3, 1) := by decide +kernel
theorem dX7_hope_21 : decode cX7_hope 21 = .ok (.i2l, 1) := by decide +kernel
theorem dX7_hope_22 : decode cX7_hope 22 = .ok (.lconst 0, 1) := by decide +kernel
theorem dX7_hope_23 : decode cX7_hope 23 = .ok (.ldc2_w 160, 3) := by decide +kernel
theorem dX7_hope_26 : decode cX7_hope 26 = .ok (.invokestatic 82, 3) := by decide +kernel
theorem dX7_hope_29 : decode cX7_hope 29 = .ok (.ifCond .eq 14, 3) := by decide +kernel
theorem dX7_hope_32 : decode cX7_hope 32 = .ok (.iload 4, 2) := by decide +kernel
theorem dX7_hope_34 : decode cX7_hope 34 = .ok (.i2l, 1) := by decide +kernel
theorem dX7_hope_35 : decode cX7_hope 35 = .ok (.lconst 0, 1) := by decide +kernel
theorem dX7_hope_36 : decode cX7_hope 36 = .ok (.lconst 1, 1) := by decide +kernel
theorem dX7_hope_37 : decode cX7_hope 37 = .ok (.invokestatic 82, 3) := by decide +kernel
theorem dX7_hope_40 : decode cX7_hope 40 = .ok (.ifCond .ne 7, 3) := by decide +kernel
theorem dX7_hope_43 : decode cX7_hope 43 = .ok (.invokestatic 75, 3) := by decide +kernel
theorem dX7_hope_46 : decode cX7_hope 46 = .ok (.lreturn, 1) := by decide +kernel
theorem dX7_hope_47 : decode cX7_hope 47 = .ok (.aload_n 0, 1) := by decide +kernel
theorem dX7_hope_48 : decode cX7_hope 48 = .ok (.iload_n 1, 1) := by decide +kernel
theorem dX7_hope_49 : decode cX7_hope 49 = .ok (.iload_n 2, 1) := by decide +kernel
theorem dX7_hope_50 : decode cX7_hope 50 = .ok (.invokevirtual 196, 3) := by decide +kernel
theorem dX7_hope_53 : decode cX7_hope 53 = .ok (.aload_n 0, 1) := by decide +kernel
theorem dX7_hope_54 : decode cX7_hope 54 = .ok (.getfield 43, 3) := by decide +kernel
theorem dX7_hope_57 : decode cX7_hope 57 = .ok (.iconst 4, 1) := by decide +kernel
theorem dX7_hope_58 : decode cX7_hope 58 = .ok (.iload_n 2, 1) := by decide +kernel
theorem dX7_hope_59 : decode cX7_hope 59 = .ok (.imul, 1) := by decide +kernel
theorem dX7_hope_60 : decode cX7_hope 60 = .ok (.iload_n 3, 1) := by decide +kernel
theorem dX7_hope_61 : decode cX7_hope 61 = .ok (.iadd, 1) := by decide +kernel
theorem dX7_hope_62 : decode cX7_hope 62 = .ok (.laload, 1) := by decide +kernel
theorem dX7_hope_63 : decode cX7_hope 63 = .ok (.aload_n 0, 1) := by decide +kernel
theorem dX7_hope_64 : decode cX7_hope 64 = .ok (.iload_n 2, 1) := by decide +kernel
theorem dX7_hope_65 : decode cX7_hope 65 = .ok (.invokevirtual 182, 3) := by decide +kernel
theorem dX7_hope_68 : decode cX7_hope 68 = .ok (.iload 4, 2) := by decide +kernel
theorem dX7_hope_70 : decode cX7_hope 70 = .ok (.invokestatic 199, 3) := by decide +kernel
theorem dX7_hope_73 : decode cX7_hope 73 = .ok (.lreturn, 1) := by decide +kernel
set_option maxRecDepth 20000 in
theorem ggX7_uses_X7_noSubject : GoodIn wsX7_uses wsX7_noSubject := goodIn_r _ [11, 12, 13, 14, 10, 15, 43, 44, 45, 46, 47, 48, 49, 50, 51, 52, 53, 54, 55, 56, 57, 58, 59, 60, 61, 62, 63, 64, 65, 66, 67, 68, 69, 70, 71, 72] (by decide +kernel) (by decide +kernel)
set_option maxRecDepth 20000 in
theorem gX7_uses_X7_noSubject : GoodIn wsX7_uses (wsV RX7 152 RX7 yX7_noSubject wsX7_noSubject) := goodIn_app (goodIn_of _ (by decide +kernel)) ggX7_uses_X7_noSubject
set_option maxRecDepth 20000 in
theorem ggX7_uses_X7_in : GoodIn wsX7_uses wsX7_in := goodIn_r _ [15] (by decide +kernel) (by decide +kernel)
set_option maxRecDepth 20000 in
theorem gX7_uses_X7_in : GoodIn wsX7_uses (va_wsS RX7 82 yX7_in wsX7_in) := goodIn_app (goodIn_of _ (by decide +kernel)) ggX7_uses_X7_in
set_option maxRecDepth 20000 in
theorem ggX7_uses_X7_goHope : GoodIn wsX7_uses wsX7_goHope := goodIn_r _ [19, 3, 4, 20, 21, 22, 10, 23, 5, 6, 24, 25, 26, 27, 28, 29, 30, 31, 32, 33, 34, 35, 36, 37, 38, 39, 40, 41, 42, 43, 44, 45, 46, 47, 48, 49, 50, 51, 52, 53, 54, 55, 56, 57, 58, 59, 60, 61, 62, 63, 64, 65, 66, 67, 68, 69, 70, 71, 72] (by decide +kernel) (by decide +kernel)
set_option maxRecDepth 20000 in
theorem gX7_uses_X7_goHope : GoodIn wsX7_uses (wsV RX7 196 RX7 yX7_goHope wsX7_goHope) := goodIn_app (goodIn_of _ (by decide +kernel)) ggX7_uses_X7_goHope
set_option maxRecDepth 20000 in
theorem ggX7_uses_X7_timesOf : GoodIn wsX7_uses wsX7_timesOf := goodIn_r _ [27, 4, 43, 44, 45, 46, 47, 48, 49, 50, 51, 52, 53, 54, 55, 56, 57, 58, 59, 60, 61, 62, 63, 64, 65, 66, 67, 68, 69, 70, 71, 72] (by decide +kernel) (by decide +kernel)
set_option maxRecDepth 20000 in
theorem gX7_uses_X7_timesOf : GoodIn wsX7_uses (wsV RX7 182 RX7 yX7_timesOf wsX7_timesOf) := goodIn_app (goodIn_of _ (by decide +kernel)) ggX7_uses_X7_timesOf
set_option maxRecDepth 20000 in
theorem ggX7_uses_X7_valueOf : GoodIn wsX7_uses wsX7_valueOf := goodIn_r _ [31, 6, 32, 33, 34, 10, 35, 36, 37, 38, 43, 44, 45, 46, 47, 48, 49, 50, 51, 52, 53, 54, 55, 56, 57, 58, 59, 60, 61, 62, 63, 64, 65, 66, 67, 68, 69, 70, 71, 72] (by decide +kernel) (by decide +kernel)
set_option maxRecDepth 20000 in
theorem gX7_uses_X7_valueOf : GoodIn wsX7_uses (wsV RX7 143 RX7 yX7_valueOf wsX7_valueOf) := goodIn_app (goodIn_of _ (by decide +kernel)) ggX7_uses_X7_valueOf
set_option maxRecDepth 20000 in
theorem ggX7_uses_X7_greater : GoodIn wsX7_uses wsX7_greater := goodIn_r _ [42] (by decide +kernel) (by decide +kernel)
set_option maxRecDepth 20000 in
theorem gX7_uses_X7_greater : GoodIn wsX7_uses (wsV RX7 186 RX7 yX7_greater wsX7_greater) := goodIn_app (goodIn_of _ (by decide +kernel)) ggX7_uses_X7_greater
theorem dX7_uses_0 : decode cX7_uses 0 = .ok (.aload_n 0, 1) := by decide +kernel
theorem dX7_uses_1 : decode cX7_uses 1 = .ok (.iload_n 1, 1) := by decide +kernel
theorem dX7_uses_2 : decode cX7_uses 2 = .ok (.invokevirtual 152, 3) := by decide +kernel
theorem dX7_uses_5 : decode cX7_uses 5 = .ok (.ifCond .eq 5, 3) := by decide +kernel
theorem dX7_uses_8 : decode cX7_uses 8 = .ok (.iconst (-1), 1) := by decide +kernel
theorem dX7_uses_9 : decode cX7_uses 9 = .ok (.ireturn, 1) := by decide +kernel
theorem dX7_uses_10 : decode cX7_uses 10 = .ok (.iload_n 2, 1) := by decide +kernel
theorem dX7_uses_11 : decode cX7_uses 11 = .ok (.i2l, 1) := by decide +kernel
theorem dX7_uses_12 : decode cX7_uses 12 = .ok (.lconst 1, 1) := by decide +kernel
theorem dX7_uses_13 : decode cX7_uses 13 = .ok (.ldc2_w 194, 3) := by decide +kernel
theorem dX7_uses_16 : decode cX7_uses 16 = .ok (.invokestatic 82, 3) := by decide +kernel
theorem dX7_uses_19 : decode cX7_uses 19 = .ok (.ifCond .eq 15, 3) := by decide +kernel
theorem dX7_uses_22 : decode cX7_uses 22 = .ok (.iload_n 3, 1) := by decide +kernel
theorem dX7_uses_23 : decode cX7_uses 23 = .ok (.i2l, 1) := by decide +kernel
theorem dX7_uses_24 : decode cX7_uses 24 = .ok (.lconst 1, 1) := by decide +kernel
theorem dX7_uses_25 : decode cX7_uses 25 = .ok (.ldc2_w 160, 3) := by decide +kernel
theorem dX7_uses_28 : decode cX7_uses 28 = .ok (.invokestatic 82, 3) := by decide +kernel
theorem dX7_uses_31 : decode cX7_uses 31 = .ok (.ifCond .ne 6, 3) := by decide +kernel
theorem dX7_uses_34 : decode cX7_uses 34 = .ok (.bipush (-2), 2) := by decide +kernel
theorem dX7_uses_36 : decode cX7_uses 36 = .ok (.ireturn, 1) := by decide +kernel
theorem dX7_uses_37 : decode cX7_uses 37 = .ok (.aload_n 0, 1) := by decide +kernel
theorem dX7_uses_38 : decode cX7_uses 38 = .ok (.iload_n 1, 1) := by decide +kernel
theorem dX7_uses_39 : decode cX7_uses 39 = .ok (.iload_n 2, 1) := by decide +kernel
theorem dX7_uses_40 : decode cX7_uses 40 = .ok (.invokevirtual 196, 3) := by decide +kernel
theorem dX7_uses_43 : decode cX7_uses 43 = .ok (.iconst 0, 1) := by decide +kernel
theorem dX7_uses_44 : decode cX7_uses 44 = .ok (.istore 4, 2) := by decide +kernel
theorem dX7_uses_46 : decode cX7_uses 46 = .ok (.aload_n 0, 1) := by decide +kernel
theorem dX7_uses_47 : decode cX7_uses 47 = .ok (.iload_n 2, 1) := by decide +kernel
theorem dX7_uses_48 : decode cX7_uses 48 = .ok (.iconst 1, 1) := by decide +kernel
theorem dX7_uses_49 : decode cX7_uses 49 = .ok (.isub, 1) := by decide +kernel
theorem dX7_uses_50 : decode cX7_uses 50 = .ok (.invokevirtual 182, 3) := by decide +kernel
theorem dX7_uses_53 : decode cX7_uses 53 = .ok (.lstore 5, 2) := by decide +kernel
theorem dX7_uses_55 : decode cX7_uses 55 = .ok (.aload_n 0, 1) := by decide +kernel
theorem dX7_uses_56 : decode cX7_uses 56 = .ok (.getfield 43, 3) := by decide +kernel
theorem dX7_uses_59 : decode cX7_uses 59 = .ok (.iconst 4, 1) := by decide +kernel
theorem dX7_uses_60 : decode cX7_uses 60 = .ok (.iload_n 2, 1) := by decide +kernel
theorem dX7_uses_61 : decode cX7_uses 61 = .ok (.iconst 1, 1) := by decide +kernel
theorem dX7_uses_62 : decode cX7_uses 62 = .ok (.isub, 1) := by decide +kernel
theorem dX7_uses_63 : decode cX7_uses 63 = .ok (.imul, 1) := by decide +kernel
theorem dX7_uses_64 : decode cX7_uses 64 = .ok (.iload_n 3, 1) := by decide +kernel
theorem dX7_uses_65 : decode cX7_uses 65 = .ok (.iadd, 1) := by decide +kernel
theorem dX7_uses_66 : decode cX7_uses 66 = .ok (.laload, 1) := by decide +kernel
theorem dX7_uses_67 : decode cX7_uses 67 = .ok (.lstore 7, 2) := by decide +kernel
theorem dX7_uses_69 : decode cX7_uses 69 = .ok (.aload_n 0, 1) := by decide +kernel
theorem dX7_uses_70 : decode cX7_uses 70 = .ok (.getfield 43, 3) := by decide +kernel
theorem dX7_uses_73 : decode cX7_uses 73 = .ok (.iconst 4, 1) := by decide +kernel
theorem dX7_uses_74 : decode cX7_uses 74 = .ok (.iload_n 2, 1) := by decide +kernel
theorem dX7_uses_75 : decode cX7_uses 75 = .ok (.iconst 1, 1) := by decide +kernel
theorem dX7_uses_76 : decode cX7_uses 76 = .ok (.isub, 1) := by decide +kernel
theorem dX7_uses_77 : decode cX7_uses 77 = .ok (.imul, 1) := by decide +kernel
theorem dX7_uses_78 : decode cX7_uses 78 = .ok (.iload_n 3, 1) := by decide +kernel
theorem dX7_uses_79 : decode cX7_uses 79 = .ok (.iadd, 1) := by decide +kernel
theorem dX7_uses_80 : decode cX7_uses 80 = .ok (.iconst 1, 1) := by decide +kernel
theorem dX7_uses_81 : decode cX7_uses 81 = .ok (.isub, 1) := by decide +kernel
theorem dX7_uses_82 : decode cX7_uses 82 = .ok (.laload, 1) := by decide +kernel
theorem dX7_uses_83 : decode cX7_uses 83 = .ok (.lstore 9, 2) := by decide +kernel
theorem dX7_uses_85 : decode cX7_uses 85 = .ok (.iconst 0, 1) := by decide +kernel
theorem dX7_uses_86 : decode cX7_uses 86 = .ok (.istore 11, 2) := by decide +kernel
theorem dX7_uses_88 : decode cX7_uses 88 = .ok (.iload 11, 2) := by decide +kernel
theorem dX7_uses_90 : decode cX7_uses 90 = .ok (.aload_n 0, 1) := by decide +kernel
theorem dX7_uses_91 : decode cX7_uses 91 = .ok (.getfield 79, 3) := by decide +kernel
theorem dX7_uses_94 : decode cX7_uses 94 = .ok (.if_icmp .ge 67, 3) := by decide +kernel
theorem dX7_uses_97 : decode cX7_uses 97 = .ok (.lload 7, 2) := by decide +kernel
theorem dX7_uses_99 : decode cX7_uses 99 = .ok (.aload_n 0, 1) := by decide +kernel
theorem dX7_uses_100 : decode cX7_uses 100 = .ok (.lconst 0, 1) := by decide +kernel
theorem dX7_uses_101 : decode cX7_uses 101 = .ok (.aload_n 0, 1) := by decide +kernel
theorem dX7_uses_102 : decode cX7_uses 102 = .ok (.iload_n 1, 1) := by decide +kernel
theorem dX7_uses_103 : decode cX7_uses 103 = .ok (.iload 11, 2) := by decide +kernel
theorem dX7_uses_105 : decode cX7_uses 105 = .ok (.invokevirtual 143, 3) := by decide +kernel
theorem dX7_uses_108 : decode cX7_uses 108 = .ok (.i2l, 1) := by decide +kernel
theorem dX7_uses_109 : decode cX7_uses 109 = .ok (.lload 5, 2) := by decide +kernel
theorem dX7_uses_111 : decode cX7_uses 111 = .ok (.lmul, 1) := by decide +kernel
theorem dX7_uses_112 : decode cX7_uses 112 = .ok (.invokevirtual 186, 3) := by decide +kernel
theorem dX7_uses_115 : decode cX7_uses 115 = .ok (.ladd, 1) := by decide +kernel
theorem dX7_uses_116 : decode cX7_uses 116 = .ok (.lstore 12, 2) := by decide +kernel
theorem dX7_uses_118 : decode cX7_uses 118 = .ok (.iload 4, 2) := by decide +kernel
theorem dX7_uses_120 : decode cX7_uses 120 = .ok (.lload 9, 2) := by decide +kernel
theorem dX7_uses_122 : decode cX7_uses 122 = .ok (.ldc2_w 171, 3) := by decide +kernel
theorem dX7_uses_125 : decode cX7_uses 125 = .ok (.aload_n 0, 1) := by decide +kernel
theorem dX7_uses_126 : decode cX7_uses 126 = .ok (.getfield 7, 3) := by decide +kernel
theorem dX7_uses_129 : decode cX7_uses 129 = .ok (.iload 11, 2) := by decide +kernel
theorem dX7_uses_131 : decode cX7_uses 131 = .ok (.iaload, 1) := by decide +kernel
theorem dX7_uses_132 : decode cX7_uses 132 = .ok (.i2l, 1) := by decide +kernel
theorem dX7_uses_133 : decode cX7_uses 133 = .ok (.lmul, 1) := by decide +kernel
theorem dX7_uses_134 : decode cX7_uses 134 = .ok (.lload 5, 2) := by decide +kernel
theorem dX7_uses_136 : decode cX7_uses 136 = .ok (.lmul, 1) := by decide +kernel
theorem dX7_uses_137 : decode cX7_uses 137 = .ok (.ladd, 1) := by decide +kernel
theorem dX7_uses_138 : decode cX7_uses 138 = .ok (.lload 12, 2) := by decide +kernel
theorem dX7_uses_140 : decode cX7_uses 140 = .ok (.lcmp, 1) := by decide +kernel
theorem dX7_uses_141 : decode cX7_uses 141 = .ok (.ifCond .le 10, 3) := by decide +kernel
theorem dX7_uses_144 : decode cX7_uses 144 = .ok (.iconst 1, 1) := by decide +kernel
theorem dX7_uses_145 : decode cX7_uses 145 = .ok (.iload 11, 2) := by decide +kernel
theorem dX7_uses_147 : decode cX7_uses 147 = .ok (.ishl, 1) := by decide +kernel
theorem dX7_uses_148 : decode cX7_uses 148 = .ok (.goto 4, 3) := by decide +kernel
theorem dX7_uses_151 : decode cX7_uses 151 = .ok (.iconst 0, 1) := by decide +kernel
theorem dX7_uses_152 : decode cX7_uses 152 = .ok (.ior, 1) := by decide +kernel
theorem dX7_uses_153 : decode cX7_uses 153 = .ok (.istore 4, 2) := by decide +kernel
theorem dX7_uses_155 : decode cX7_uses 155 = .ok (.iinc 11 1, 3) := by decide +kernel
theorem dX7_uses_158 : decode cX7_uses 158 = .ok (.goto (-70), 3) := by decide +kernel
theorem dX7_uses_161 : decode cX7_uses 161 = .ok (.iload 4, 2) := by decide +kernel
theorem dX7_uses_163 : decode cX7_uses 163 = .ok (.ireturn, 1) := by decide +kernel
set_option maxRecDepth 20000 in
theorem ggX7_buyersAt_X7_goHope : GoodIn wsX7_buyersAt wsX7_goHope := goodIn_r _ [7, 2, 8, 9, 10, 11, 6, 12, 13, 14, 15, 16, 17, 18, 19, 20, 21, 22, 23, 24, 25, 26, 27, 28, 29, 30, 31, 32, 33, 34, 35, 36, 37, 38, 39, 40, 41, 42, 43, 44, 45, 46, 47, 48, 49, 50, 51, 52, 53, 54, 55, 56, 57, 58, 59, 60, 61, 62, 63] (by decide +kernel) (by decide +kernel)
set_option maxRecDepth 20000 in
theorem gX7_buyersAt_X7_goHope : GoodIn wsX7_buyersAt (wsV RX7 196 RX7 yX7_goHope wsX7_goHope) := goodIn_app (goodIn_of _ (by decide +kernel)) ggX7_buyersAt_X7_goHope
set_option maxRecDepth 20000 in
theorem ggX7_buyersAt_X7_timesOf : GoodIn wsX7_buyersAt wsX7_timesOf := goodIn_r _ [18, 8, 34, 35, 36, 37, 38, 39, 40, 41, 42, 43, 44, 45, 46, 47, 48, 49, 50, 51, 52, 53, 54, 55, 56, 57, 58, 59, 60, 61, 62, 63] (by decide +kernel) (by decide +kernel)
set_option maxRecDepth 20000 in
theorem gX7_buyersAt_X7_timesOf : GoodIn wsX7_buyersAt (wsV RX7 182 RX7 yX7_timesOf wsX7_timesOf) := goodIn_app (goodIn_of _ (by decide +kernel)) ggX7_buyersAt_X7_timesOf
theorem dX7_buyersAt_0 : decode cX7_buyersAt 0 = .ok (.iconst 0, 1) := by decide +kernel
theorem dX7_buyersAt_1 : decode cX7_buyersAt 1 = .ok (.istore_n 3, 1) := by decide +kernel
theorem dX7_buyersAt_2 : decode cX7_buyersAt 2 = .ok (.iconst 0, 1) := by decide +kernel
theorem dX7_buyersAt_3 : decode cX7_buyersAt 3 = .ok (.istore 4, 2) := by decide +kernel
theorem dX7_buyersAt_5 : decode cX7_buyersAt 5 = .ok (.iload 4, 2) := by decide +kernel
theorem dX7_buyersAt_7 : decode cX7_buyersAt 7 = .ok (.aload_n 0, 1) := by decide +kernel
theorem dX7_buyersAt_8 : decode cX7_buyersAt 8 = .ok (.getfield 86, 3) := by decide +kernel
theorem dX7_buyersAt_11 : decode cX7_buyersAt 11 = .ok (.if_icmp .ge 58, 3) := by decide +kernel
theorem dX7_buyersAt_14 : decode cX7_buyersAt 14 = .ok (.aload_n 0, 1) := by decide +kernel
theorem dX7_buyersAt_15 : decode cX7_buyersAt 15 = .ok (.iload 4, 2) := by decide +kernel
theorem dX7_buyersAt_17 : decode cX7_buyersAt 17 = .ok (.iload_n 2, 1) := by decide +kernel
theorem dX7_buyersAt_18 : decode cX7_buyersAt 18 = .ok (.invokevirtual 196, 3) := by decide +kernel
theorem dX7_buyersAt_21 : decode cX7_buyersAt 21 = .ok (.iload_n 3, 1) := by decide +kernel
theorem dX7_buyersAt_22 : decode cX7_buyersAt 22 = .ok (.aload_n 0, 1) := by decide +kernel
theorem dX7_buyersAt_23 : decode cX7_buyersAt 23 = .ok (.getfield 43, 3) := by decide +kernel
theorem dX7_buyersAt_26 : decode cX7_buyersAt 26 = .ok (.iconst 4, 1) := by decide +kernel
theorem dX7_buyersAt_27 : decode cX7_buyersAt 27 = .ok (.iload_n 2, 1) := by decide +kernel
theorem dX7_buyersAt_28 : decode cX7_buyersAt 28 = .ok (.imul, 1) := by decide +kernel
theorem dX7_buyersAt_29 : decode cX7_buyersAt 29 = .ok (.iconst 1, 1) := by decide +kernel
theorem dX7_buyersAt_30 : decode cX7_buyersAt 30 = .ok (.iadd, 1) := by decide +kernel
theorem dX7_buyersAt_31 : decode cX7_buyersAt 31 = .ok (.laload, 1) := by decide +kernel
theorem dX7_buyersAt_32 : decode cX7_buyersAt 32 = .ok (.aload_n 0, 1) := by decide +kernel
theorem dX7_buyersAt_33 : decode cX7_buyersAt 33 = .ok (.getfield 43, 3) := by decide +kernel
theorem dX7_buyersAt_36 : decode cX7_buyersAt 36 = .ok (.iconst 4, 1) := by decide +kernel
theorem dX7_buyersAt_37 : decode cX7_buyersAt 37 = .ok (.iload_n 2, 1) := by decide +kernel
theorem dX7_buyersAt_38 : decode cX7_buyersAt 38 = .ok (.imul, 1) := by decide +kernel
theorem dX7_buyersAt_39 : decode cX7_buyersAt 39 = .ok (.laload, 1) := by decide +kernel
theorem dX7_buyersAt_40 : decode cX7_buyersAt 40 = .ok (.lsub, 1) := by decide +kernel
theorem dX7_buyersAt_41 : decode cX7_buyersAt 41 = .ok (.iload_n 1, 1) := by decide +kernel
theorem dX7_buyersAt_42 : decode cX7_buyersAt 42 = .ok (.i2l, 1) := by decide +kernel
theorem dX7_buyersAt_43 : decode cX7_buyersAt 43 = .ok (.aload_n 0, 1) := by decide +kernel
theorem dX7_buyersAt_44 : decode cX7_buyersAt 44 = .ok (.iload_n 2, 1) := by decide +kernel
theorem dX7_buyersAt_45 : decode cX7_buyersAt 45 = .ok (.invokevirtual 182, 3) := by decide +kernel
theorem dX7_buyersAt_48 : decode cX7_buyersAt 48 = .ok (.lmul, 1) := by decide +kernel
theorem dX7_buyersAt_49 : decode cX7_buyersAt 49 = .ok (.lcmp, 1) := by decide +kernel
theorem dX7_buyersAt_50 : decode cX7_buyersAt 50 = .ok (.ifCond .lt 10, 3) := by decide +kernel
theorem dX7_buyersAt_53 : decode cX7_buyersAt 53 = .ok (.iconst 1, 1) := by decide +kernel
theorem dX7_buyersAt_54 : decode cX7_buyersAt 54 = .ok (.iload 4, 2) := by decide +kernel
theorem dX7_buyersAt_56 : decode cX7_buyersAt 56 = .ok (.ishl, 1) := by decide +kernel
theorem dX7_buyersAt_57 : decode cX7_buyersAt 57 = .ok (.goto 4, 3) := by decide +kernel
theorem dX7_buyersAt_60 : decode cX7_buyersAt 60 = .ok (.iconst 0, 1) := by decide +kernel
theorem dX7_buyersAt_61 : decode cX7_buyersAt 61 = .ok (.ior, 1) := by decide +kernel
theorem dX7_buyersAt_62 : decode cX7_buyersAt 62 = .ok (.istore_n 3, 1) := by decide +kernel
theorem dX7_buyersAt_63 : decode cX7_buyersAt 63 = .ok (.iinc 4 1, 3) := by decide +kernel
theorem dX7_buyersAt_66 : decode cX7_buyersAt 66 = .ok (.goto (-61), 3) := by decide +kernel
theorem dX7_buyersAt_69 : decode cX7_buyersAt 69 = .ok (.iload_n 3, 1) := by decide +kernel
theorem dX7_buyersAt_70 : decode cX7_buyersAt 70 = .ok (.ireturn, 1) := by decide +kernel
set_option maxRecDepth 20000 in
theorem ggX7_buyers_X7_in : GoodIn wsX7_buyers wsX7_in := goodIn_r _ [7] (by decide +kernel) (by decide +kernel)
set_option maxRecDepth 20000 in
theorem gX7_buyers_X7_in : GoodIn wsX7_buyers (va_wsS RX7 82 yX7_in wsX7_in) := goodIn_app (goodIn_of _ (by decide +kernel)) ggX7_buyers_X7_in
set_option maxRecDepth 20000 in
theorem ggX7_buyers_X7_buyersAt : GoodIn wsX7_buyers wsX7_buyersAt := goodIn_r _ [11, 3, 12, 13, 14, 15, 6, 16, 17, 18, 19, 20, 21, 22, 23, 24, 25, 26, 27, 28, 29, 30, 31, 32, 33, 34, 35, 36, 37, 38, 39, 40, 41, 42, 43, 44, 45, 46, 47, 48, 49, 50, 51, 52, 53, 54, 55, 56, 57, 58, 59, 60, 61, 62, 63, 64, 65, 66, 67, 68, 69, 70, 71, 72] (by decide +kernel) (by decide +kernel)
set_option maxRecDepth 20000 in
theorem gX7_buyers_X7_buyersAt : GoodIn wsX7_buyers (wsV RX7 205 RX7 yX7_buyersAt wsX7_buyersAt) := goodIn_app (goodIn_of _ (by decide +kernel)) ggX7_buyers_X7_buyersAt
theorem dX7_buyers_0 : decode cX7_buyers 0 = .ok (.iload_n 1, 1) := by decide +kernel
theorem dX7_buyers_1 : decode cX7_buyers 1 = .ok (.i2l, 1) := by decide +kernel
theorem dX7_buyers_2 : decode cX7_buyers 2 = .ok (.lconst 0, 1) := by decide +kernel
theorem dX7_buyers_3 : decode cX7_buyers 3 = .ok (.ldc2_w 203, 3) := by decide +kernel
theorem dX7_buyers_6 : decode cX7_buyers 6 = .ok (.invokestatic 82, 3) := by decide +kernel
theorem dX7_buyers_9 : decode cX7_buyers 9 = .ok (.ifCond .eq 15, 3) := by decide +kernel
theorem dX7_buyers_12 : decode cX7_buyers 12 = .ok (.iload_n 2, 1) := by decide +kernel
theorem dX7_buyers_13 : decode cX7_buyers 13 = .ok (.i2l, 1) := by decide +kernel
theorem dX7_buyers_14 : decode cX7_buyers 14 = .ok (.lconst 0, 1) := by decide +kernel
theorem dX7_buyers_15 : decode cX7_buyers 15 = .ok (.ldc2_w 194, 3) := by decide +kernel
theorem dX7_buyers_18 : decode cX7_buyers 18 = .ok (.invokestatic 82, 3) := by decide +kernel
theorem dX7_buyers_21 : decode cX7_buyers 21 = .ok (.ifCond .ne 6, 3) := by decide +kernel
theorem dX7_buyers_24 : decode cX7_buyers 24 = .ok (.bipush (-2), 2) := by decide +kernel
theorem dX7_buyers_26 : decode cX7_buyers 26 = .ok (.ireturn, 1) := by decide +kernel
theorem dX7_buyers_27 : decode cX7_buyers 27 = .ok (.aload_n 0, 1) := by decide +kernel
theorem dX7_buyers_28 : decode cX7_buyers 28 = .ok (.getfield 86, 3) := by decide +kernel
theorem dX7_buyers_31 : decode cX7_buyers 31 = .ok (.ifCond .ne 8, 3) := by decide +kernel
theorem dX7_buyers_34 : decode cX7_buyers 34 = .ok (.bipush (-3), 2) := by decide +kernel
theorem dX7_buyers_36 : decode cX7_buyers 36 = .ok (.goto 9, 3) := by decide +kernel
theorem dX7_buyers_39 : decode cX7_buyers 39 = .ok (.aload_n 0, 1) := by decide +kernel
theorem dX7_buyers_40 : decode cX7_buyers 40 = .ok (.iload_n 1, 1) := by decide +kernel
theorem dX7_buyers_41 : decode cX7_buyers 41 = .ok (.iload_n 2, 1) := by decide +kernel
theorem dX7_buyers_42 : decode cX7_buyers 42 = .ok (.invokevirtual 205, 3) := by decide +kernel
theorem dX7_buyers_45 : decode cX7_buyers 45 = .ok (.ireturn, 1) := by decide +kernel
set_option maxRecDepth 20000 in
theorem ggX7_best_X7_in : GoodIn wsX7_best wsX7_in := goodIn_r _ [6] (by decide +kernel) (by decide +kernel)
set_option maxRecDepth 20000 in
theorem gX7_best_X7_in : GoodIn wsX7_best (va_wsS RX7 82 yX7_in wsX7_in) := goodIn_app (goodIn_of _ (by decide +kernel)) ggX7_best_X7_in
set_option maxRecDepth 20000 in
theorem ggX7_best_X7_buyersAt : GoodIn wsX7_best wsX7_buyersAt := goodIn_r _ [10, 2, 11, 12, 13, 14, 5, 15, 16, 17, 18, 19, 20, 21, 22, 23, 24, 25, 26, 27, 28, 29, 30, 31, 32, 33, 34, 35, 36, 37, 38, 39, 40, 41, 45, 46, 47, 48, 49, 50, 51, 52, 53, 54, 55, 56, 57, 58, 59, 60, 61, 62, 63, 64, 65, 66, 67, 68, 69, 70, 71, 72, 73, 74] (by decide +kernel) (by decide +kernel)
set_option maxRecDepth 20000 in
theorem gX7_best_X7_buyersAt : GoodIn wsX7_best (wsV RX7 205 RX7 yX7_buyersAt wsX7_buyersAt) := goodIn_app (goodIn_of _ (by decide +kernel)) ggX7_best_X7_buyersAt
set_option maxRecDepth 20000 in
theorem ggX7_best_X7_bits : GoodIn wsX7_best wsX7_bits := goodIn_r _ [44] (by decide +kernel) (by decide +kernel)
set_option maxRecDepth 20000 in
theorem gX7_best_X7_bits : GoodIn wsX7_best (va_wsS RX7 208 yX7_bits wsX7_bits) := goodIn_app (goodIn_of _ (by decide +kernel)) ggX7_best_X7_bits
theorem dX7_best_0 : decode cX7_best 0 = .ok (.iload_n 1, 1) := by decide +kernel
theorem dX7_best_1 : decode cX7_best 1 = .ok (.i2l, 1) := by decide +kernel
theorem dX7_best_2 : decode cX7_best 2 = .ok (.lconst 0, 1) := by decide +kernel
theorem dX7_best_3 : decode cX7_best 3 = .ok (.ldc2_w 194, 3) := by decide +kernel
theorem dX7_best_6 : decode cX7_best 6 = .ok (.invokestatic 82, 3) := by decide +kernel
theorem dX7_best_9 : decode cX7_best 9 = .ok (.ifCond .ne 6, 3) := by decide +kernel
theorem dX7_best_12 : decode cX7_best 12 = .ok (.bipush (-2), 2) := by decide +kernel
theorem dX7_best_14 : decode cX7_best 14 = .ok (.ireturn, 1) := by decide +kernel
theorem dX7_best_15 : decode cX7_best 15 = .ok (.aload_n 0, 1) := by decide +kernel
theorem dX7_best_16 : decode cX7_best 16 = .ok (.getfield 86, 3) := by decide +kernel
theorem dX7_best_19 : decode cX7_best 19 = .ok (.ifCond .ne 6, 3) := by decide +kernel
theorem dX7_best_22 : decode cX7_best 22 = .ok (.bipush (-3), 2) := by decide +kernel
theorem dX7_best_24 : decode cX7_best 24 = .ok (.ireturn, 1) := by decide +kernel
theorem dX7_best_25 : decode cX7_best 25 = .ok (.bipush (-9), 2) := by decide +kernel
theorem dX7_best_27 : decode cX7_best 27 = .ok (.istore_n 2, 1) := by decide +kernel
theorem dX7_best_28 : decode cX7_best 28 = .ok (.iconst 0, 1) := by decide +kernel
theorem dX7_best_29 : decode cX7_best 29 = .ok (.istore_n 3, 1) := by decide +kernel
theorem dX7_best_30 : decode cX7_best 30 = .ok (.iconst 1, 1) := by decide +kernel
theorem dX7_best_31 : decode cX7_best 31 = .ok (.istore 4, 2) := by decide +kernel
theorem dX7_best_33 : decode cX7_best 33 = .ok (.iload 4, 2) := by decide +kernel
theorem dX7_best_35 : decode cX7_best 35 = .ok (.bipush 100, 2) := by decide +kernel
theorem dX7_best_37 : decode cX7_best 37 = .ok (.if_icmp .ge 50, 3) := by decide +kernel
theorem dX7_best_40 : decode cX7_best 40 = .ok (.iload 4, 2) := by decide +kernel
theorem dX7_best_42 : decode cX7_best 42 = .ok (.aload_n 0, 1) := by decide +kernel
theorem dX7_best_43 : decode cX7_best 43 = .ok (.iload 4, 2) := by decide +kernel
theorem dX7_best_45 : decode cX7_best 45 = .ok (.iload_n 1, 1) := by decide +kernel
theorem dX7_best_46 : decode cX7_best 46 = .ok (.invokevirtual 205, 3) := by decide +kernel
theorem dX7_best_49 : decode cX7_best 49 = .ok (.invokestatic 208, 3) := by decide +kernel
theorem dX7_best_52 : decode cX7_best 52 = .ok (.imul, 1) := by decide +kernel
theorem dX7_best_53 : decode cX7_best 53 = .ok (.istore 5, 2) := by decide +kernel
theorem dX7_best_55 : decode cX7_best 55 = .ok (.iload 5, 2) := by decide +kernel
theorem dX7_best_57 : decode cX7_best 57 = .ok (.iload_n 3, 1) := by decide +kernel
theorem dX7_best_58 : decode cX7_best 58 = .ok (.if_icmp .le 8, 3) := by decide +kernel
theorem dX7_best_61 : decode cX7_best 61 = .ok (.iload 4, 2) := by decide +kernel
theorem dX7_best_63 : decode cX7_best 63 = .ok (.goto 4, 3) := by decide +kernel
theorem dX7_best_66 : decode cX7_best 66 = .ok (.iload_n 2, 1) := by decide +kernel
theorem dX7_best_67 : decode cX7_best 67 = .ok (.istore_n 2, 1) := by decide +kernel
theorem dX7_best_68 : decode cX7_best 68 = .ok (.iload 5, 2) := by decide +kernel
theorem dX7_best_70 : decode cX7_best 70 = .ok (.iload_n 3, 1) := by decide +kernel
theorem dX7_best_71 : decode cX7_best 71 = .ok (.if_icmp .le 8, 3) := by decide +kernel
theorem dX7_best_74 : decode cX7_best 74 = .ok (.iload 5, 2) := by decide +kernel
theorem dX7_best_76 : decode cX7_best 76 = .ok (.goto 4, 3) := by decide +kernel
theorem dX7_best_79 : decode cX7_best 79 = .ok (.iload_n 3, 1) := by decide +kernel
theorem dX7_best_80 : decode cX7_best 80 = .ok (.istore_n 3, 1) := by decide +kernel
theorem dX7_best_81 : decode cX7_best 81 = .ok (.iinc 4 1, 3) := by decide +kernel
theorem dX7_best_84 : decode cX7_best 84 = .ok (.goto (-51), 3) := by decide +kernel
theorem dX7_best_87 : decode cX7_best 87 = .ok (.iload_n 2, 1) := by decide +kernel
theorem dX7_best_88 : decode cX7_best 88 = .ok (.ireturn, 1) := by decide +kernel
set_option maxRecDepth 20000 in
theorem ggX7_reading_X7_noSubject : GoodIn wsX7_reading wsX7_noSubject := goodIn_r _ [9, 10, 11, 12, 8, 13, 19, 20, 21, 22, 23, 24, 25, 26, 27, 28, 29, 30, 31, 32, 33, 34, 35, 36, 37, 38, 39, 40, 41, 42, 43, 44, 45, 46, 47, 48] (by decide +kernel) (by decide +kernel)
set_option maxRecDepth 20000 in
theorem gX7_reading_X7_noSubject : GoodIn wsX7_reading (wsV RX7 152 RX7 yX7_noSubject wsX7_noSubject) := goodIn_app (goodIn_of _ (by decide +kernel)) ggX7_reading_X7_noSubject
set_option maxRecDepth 20000 in
theorem ggX7_reading_X7_noDeed : GoodIn wsX7_reading wsX7_noDeed := goodIn_r _ [17, 18, 11, 12, 8, 13, 19, 20, 21, 22, 23, 24, 25, 26, 27, 28, 29, 30, 31, 32, 33, 34, 35, 36, 37, 38, 39, 40, 41, 42, 43, 44, 45, 46, 47, 48] (by decide +kernel) (by decide +kernel)
set_option maxRecDepth 20000 in
theorem gX7_reading_X7_noDeed : GoodIn wsX7_reading (wsV RX7 146 RX7 yX7_noDeed wsX7_noDeed) := goodIn_app (goodIn_of _ (by decide +kernel)) ggX7_reading_X7_noDeed
theorem dX7_reading_0 : decode cX7_reading 0 = .ok (.aload_n 0, 1) := by decide +kernel
theorem dX7_reading_1 : decode cX7_reading 1 = .ok (.iload_n 1, 1) := by decide +kernel
theorem dX7_reading_2 : decode cX7_reading 2 = .ok (.invokevirtual 152, 3) := by decide +kernel
theorem dX7_reading_5 : decode cX7_reading 5 = .ok (.ifCond .ne 11, 3) := by decide +kernel
theorem dX7_reading_8 : decode cX7_reading 8 = .ok (.aload_n 0, 1) := by decide +kernel
theorem dX7_reading_9 : decode cX7_reading 9 = .ok (.iload_n 2, 1) := by decide +kernel
theorem dX7_reading_10 : decode cX7_reading 10 = .ok (.invokevirtual 146, 3) := by decide +kernel
theorem dX7_reading_13 : decode cX7_reading 13 = .ok (.ifCond .eq 5, 3) := by decide +kernel
theorem dX7_reading_16 : decode cX7_reading 16 = .ok (.iconst (-1), 1) := by decide +kernel
theorem dX7_reading_17 : decode cX7_reading 17 = .ok (.ireturn, 1) := by decide +kernel
theorem dX7_reading_18 : decode cX7_reading 18 = .ok (.aload_n 0, 1) := by decide +kernel
theorem dX7_reading_19 : decode cX7_reading 19 = .ok (.getfield 137, 3) := by decide +kernel
theorem dX7_reading_22 : decode cX7_reading 22 = .ok (.bipush 8, 2) := by decide +kernel
theorem dX7_reading_24 : decode cX7_reading 24 = .ok (.if_icmp .ne 6, 3) := by decide +kernel
theorem dX7_reading_27 : decode cX7_reading 27 = .ok (.bipush (-4), 2) := by decide +kernel
theorem dX7_reading_29 : decode cX7_reading 29 = .ok (.ireturn, 1) := by decide +kernel
theorem dX7_reading_30 : decode cX7_reading 30 = .ok (.aload_n 0, 1) := by decide +kernel
theorem dX7_reading_31 : decode cX7_reading 31 = .ok (.getfield 47, 3) := by decide +kernel
end
section
theorem dX7_reading_34 : decode cX7_reading 34 = .ok (.aload_n 0, 1) := by decide +kernel
theorem dX7_reading_35 : decode cX7_reading 35 = .ok (.getfield 137, 3) := by decide +kernel
theorem dX7_reading_38 : decode cX7_reading 38 = .ok (.iload_n 1, 1) := by decide +kernel
theorem dX7_reading_39 : decode cX7_reading 39 = .ok (.iastore, 1) := by decide +kernel
theorem dX7_reading_40 : decode cX7_reading 40 = .ok (.aload_n 0, 1) := by decide +kernel
theorem dX7_reading_41 : decode cX7_reading 41 = .ok (.getfield 50, 3) := by decide +kernel
theorem dX7_reading_44 : decode cX7_reading 44 = .ok (.aload_n 0, 1) := by decide +kernel
theorem dX7_reading_45 : decode cX7_reading 45 = .ok (.getfield 137, 3) := by decide +kernel
theorem dX7_reading_48 : decode cX7_reading 48 = .ok (.iload_n 2, 1) := by decide +kernel
theorem dX7_reading_49 : decode cX7_reading 49 = .ok (.iastore, 1) := by decide +kernel
theorem dX7_reading_50 : decode cX7_reading 50 = .ok (.aload_n 0, 1) := by decide +kernel
theorem dX7_reading_51 : decode cX7_reading 51 = .ok (.getfield 53, 3) := by decide +kernel
theorem dX7_reading_54 : decode cX7_reading 54 = .ok (.aload_n 0, 1) := by decide +kernel
theorem dX7_reading_55 : decode cX7_reading 55 = .ok (.getfield 137, 3) := by decide +kernel
theorem dX7_reading_58 : decode cX7_reading 58 = .ok (.iload_n 3, 1) := by decide +kernel
theorem dX7_reading_59 : decode cX7_reading 59 = .ok (.bastore, 1) := by decide +kernel
theorem dX7_reading_60 : decode cX7_reading 60 = .ok (.aload_n 0, 1) := by decide +kernel
theorem dX7_reading_61 : decode cX7_reading 61 = .ok (.dup, 1) := by decide +kernel
theorem dX7_reading_62 : decode cX7_reading 62 = .ok (.getfield 137, 3) := by decide +kernel
theorem dX7_reading_65 : decode cX7_reading 65 = .ok (.iconst 1, 1) := by decide +kernel
theorem dX7_reading_66 : decode cX7_reading 66 = .ok (.iadd, 1) := by decide +kernel
theorem dX7_reading_67 : decode cX7_reading 67 = .ok (.putfield 137, 3) := by decide +kernel
theorem dX7_reading_70 : decode cX7_reading 70 = .ok (.aload_n 0, 1) := by decide +kernel
theorem dX7_reading_71 : decode cX7_reading 71 = .ok (.getfield 137, 3) := by decide +kernel
theorem dX7_reading_74 : decode cX7_reading 74 = .ok (.iconst 1, 1) := by decide +kernel
theorem dX7_reading_75 : decode cX7_reading 75 = .ok (.isub, 1) := by decide +kernel
theorem dX7_reading_76 : decode cX7_reading 76 = .ok (.ireturn, 1) := by decide +kernel
set_option maxRecDepth 20000 in
theorem ggX7_back_X7_in : GoodIn wsX7_back wsX7_in := goodIn_r _ [5] (by decide +kernel) (by decide +kernel)
set_option maxRecDepth 20000 in
theorem gX7_back_X7_in : GoodIn wsX7_back (va_wsS RX7 82 yX7_in wsX7_in) := goodIn_app (goodIn_of _ (by decide +kernel)) ggX7_back_X7_in
theorem dX7_back_0 : decode cX7_back 0 = .ok (.iload_n 1, 1) := by decide +kernel
theorem dX7_back_1 : decode cX7_back 1 = .ok (.i2l, 1) := by decide +kernel
theorem dX7_back_2 : decode cX7_back 2 = .ok (.lconst 0, 1) := by decide +kernel
theorem dX7_back_3 : decode cX7_back 3 = .ok (.aload_n 0, 1) := by decide +kernel
theorem dX7_back_4 : decode cX7_back 4 = .ok (.getfield 137, 3) := by decide +kernel
theorem dX7_back_7 : decode cX7_back 7 = .ok (.i2l, 1) := by decide +kernel
theorem dX7_back_8 : decode cX7_back 8 = .ok (.invokestatic 82, 3) := by decide +kernel
theorem dX7_back_11 : decode cX7_back 11 = .ok (.ifCond .ne 6, 3) := by decide +kernel
theorem dX7_back_14 : decode cX7_back 14 = .ok (.bipush (-2), 2) := by decide +kernel
theorem dX7_back_16 : decode cX7_back 16 = .ok (.ireturn, 1) := by decide +kernel
theorem dX7_back_17 : decode cX7_back 17 = .ok (.aload_n 0, 1) := by decide +kernel
theorem dX7_back_18 : decode cX7_back 18 = .ok (.dup, 1) := by decide +kernel
theorem dX7_back_19 : decode cX7_back 19 = .ok (.getfield 137, 3) := by decide +kernel
theorem dX7_back_22 : decode cX7_back 22 = .ok (.iload_n 1, 1) := by decide +kernel
theorem dX7_back_23 : decode cX7_back 23 = .ok (.isub, 1) := by decide +kernel
theorem dX7_back_24 : decode cX7_back 24 = .ok (.putfield 137, 3) := by decide +kernel
theorem dX7_back_27 : decode cX7_back 27 = .ok (.aload_n 0, 1) := by decide +kernel
theorem dX7_back_28 : decode cX7_back 28 = .ok (.getfield 137, 3) := by decide +kernel
theorem dX7_back_31 : decode cX7_back 31 = .ok (.ireturn, 1) := by decide +kernel
set_option maxRecDepth 20000 in
theorem ggX7_areSo_X7_valueOf : GoodIn wsX7_areSo wsX7_valueOf := goodIn_r _ [9, 10, 11, 12, 13, 8, 14, 15, 16, 17, 18, 19, 20, 21, 22, 23, 24, 25, 26, 27, 28, 29, 30, 31, 32, 33, 34, 35, 36, 37, 38, 39, 40, 41, 42, 43, 44, 45, 46, 47] (by decide +kernel) (by decide +kernel)
set_option maxRecDepth 20000 in
theorem gX7_areSo_X7_valueOf : GoodIn wsX7_areSo (wsV RX7 143 RX7 yX7_valueOf wsX7_valueOf) := goodIn_app (goodIn_of _ (by decide +kernel)) ggX7_areSo_X7_valueOf
theorem dX7_areSo_0 : decode cX7_areSo 0 = .ok (.iconst 1, 1) := by decide +kernel
theorem dX7_areSo_1 : decode cX7_areSo 1 = .ok (.istore_n 1, 1) := by decide +kernel
theorem dX7_areSo_2 : decode cX7_areSo 2 = .ok (.iconst 0, 1) := by decide +kernel
theorem dX7_areSo_3 : decode cX7_areSo 3 = .ok (.istore_n 2, 1) := by decide +kernel
theorem dX7_areSo_4 : decode cX7_areSo 4 = .ok (.iload_n 2, 1) := by decide +kernel
theorem dX7_areSo_5 : decode cX7_areSo 5 = .ok (.aload_n 0, 1) := by decide +kernel
theorem dX7_areSo_6 : decode cX7_areSo 6 = .ok (.getfield 137, 3) := by decide +kernel
theorem dX7_areSo_9 : decode cX7_areSo 9 = .ok (.if_icmp .ge 52, 3) := by decide +kernel
theorem dX7_areSo_12 : decode cX7_areSo 12 = .ok (.iload_n 1, 1) := by decide +kernel
theorem dX7_areSo_13 : decode cX7_areSo 13 = .ok (.ifCond .eq 40, 3) := by decide +kernel
theorem dX7_areSo_16 : decode cX7_areSo 16 = .ok (.aload_n 0, 1) := by decide +kernel
theorem dX7_areSo_17 : decode cX7_areSo 17 = .ok (.aload_n 0, 1) := by decide +kernel
theorem dX7_areSo_18 : decode cX7_areSo 18 = .ok (.getfield 47, 3) := by decide +kernel
theorem dX7_areSo_21 : decode cX7_areSo 21 = .ok (.iload_n 2, 1) := by decide +kernel
theorem dX7_areSo_22 : decode cX7_areSo 22 = .ok (.iaload, 1) := by decide +kernel
theorem dX7_areSo_23 : decode cX7_areSo 23 = .ok (.aload_n 0, 1) := by decide +kernel
theorem dX7_areSo_24 : decode cX7_areSo 24 = .ok (.getfield 50, 3) := by decide +kernel
theorem dX7_areSo_27 : decode cX7_areSo 27 = .ok (.iload_n 2, 1) := by decide +kernel
theorem dX7_areSo_28 : decode cX7_areSo 28 = .ok (.iaload, 1) := by decide +kernel
theorem dX7_areSo_29 : decode cX7_areSo 29 = .ok (.invokevirtual 143, 3) := by decide +kernel
theorem dX7_areSo_32 : decode cX7_areSo 32 = .ok (.ifCond .le 7, 3) := by decide +kernel
theorem dX7_areSo_35 : decode cX7_areSo 35 = .ok (.iconst 1, 1) := by decide +kernel
theorem dX7_areSo_36 : decode cX7_areSo 36 = .ok (.goto 4, 3) := by decide +kernel
theorem dX7_areSo_39 : decode cX7_areSo 39 = .ok (.iconst 0, 1) := by decide +kernel
theorem dX7_areSo_40 : decode cX7_areSo 40 = .ok (.aload_n 0, 1) := by decide +kernel
theorem dX7_areSo_41 : decode cX7_areSo 41 = .ok (.getfield 53, 3) := by decide +kernel
theorem dX7_areSo_44 : decode cX7_areSo 44 = .ok (.iload_n 2, 1) := by decide +kernel
theorem dX7_areSo_45 : decode cX7_areSo 45 = .ok (.baload, 1) := by decide +kernel
theorem dX7_areSo_46 : decode cX7_areSo 46 = .ok (.if_icmp .ne 7, 3) := by decide +kernel
theorem dX7_areSo_49 : decode cX7_areSo 49 = .ok (.iconst 1, 1) := by decide +kernel
theorem dX7_areSo_50 : decode cX7_areSo 50 = .ok (.goto 4, 3) := by decide +kernel
theorem dX7_areSo_53 : decode cX7_areSo 53 = .ok (.iconst 0, 1) := by decide +kernel
theorem dX7_areSo_54 : decode cX7_areSo 54 = .ok (.istore_n 1, 1) := by decide +kernel
theorem dX7_areSo_55 : decode cX7_areSo 55 = .ok (.iinc 2 1, 3) := by decide +kernel
theorem dX7_areSo_58 : decode cX7_areSo 58 = .ok (.goto (-54), 3) := by decide +kernel
theorem dX7_areSo_61 : decode cX7_areSo 61 = .ok (.iload_n 1, 1) := by decide +kernel
theorem dX7_areSo_62 : decode cX7_areSo 62 = .ok (.ireturn, 1) := by decide +kernel
set_option maxRecDepth 20000 in
theorem ggX7_risks_X7_noDeed : GoodIn wsX7_risks wsX7_noDeed := goodIn_r _ [6, 7, 8, 9, 5, 10, 30, 31, 32, 33, 34, 35, 36, 37, 38, 39, 40, 41, 42, 43, 44, 45, 46, 47, 48, 49, 50, 51, 52, 53, 54, 55, 56, 57, 58, 59] (by decide +kernel) (by decide +kernel)
set_option maxRecDepth 20000 in
theorem gX7_risks_X7_noDeed : GoodIn wsX7_risks (wsV RX7 146 RX7 yX7_noDeed wsX7_noDeed) := goodIn_app (goodIn_of _ (by decide +kernel)) ggX7_risks_X7_noDeed
set_option maxRecDepth 20000 in
theorem ggX7_risks_X7_areSo : GoodIn wsX7_risks wsX7_areSo := goodIn_r _ [14, 15, 16, 17, 18, 19, 20, 21, 5, 22, 23, 24, 25, 26, 27, 1, 28, 29, 30, 31, 32, 33, 34, 35, 36, 37, 38, 39, 40, 41, 42, 43, 44, 45, 46, 47, 48, 49, 50, 51, 52, 53, 54, 55, 56, 57, 58, 59] (by decide +kernel) (by decide +kernel)
set_option maxRecDepth 20000 in
theorem gX7_risks_X7_areSo : GoodIn wsX7_risks (wsV RX7 211 RX7 yX7_areSo wsX7_areSo) := goodIn_app (goodIn_of _ (by decide +kernel)) ggX7_risks_X7_areSo
theorem dX7_risks_0 : decode cX7_risks 0 = .ok (.aload_n 0, 1) := by decide +kernel
theorem dX7_risks_1 : decode cX7_risks 1 = .ok (.iload_n 1, 1) := by decide +kernel
theorem dX7_risks_2 : decode cX7_risks 2 = .ok (.invokevirtual 146, 3) := by decide +kernel
theorem dX7_risks_5 : decode cX7_risks 5 = .ok (.ifCond .eq 5, 3) := by decide +kernel
theorem dX7_risks_8 : decode cX7_risks 8 = .ok (.iconst (-1), 1) := by decide +kernel
theorem dX7_risks_9 : decode cX7_risks 9 = .ok (.ireturn, 1) := by decide +kernel
theorem dX7_risks_10 : decode cX7_risks 10 = .ok (.aload_n 0, 1) := by decide +kernel
theorem dX7_risks_11 : decode cX7_risks 11 = .ok (.getfield 13, 3) := by decide +kernel
theorem dX7_risks_14 : decode cX7_risks 14 = .ok (.iload_n 1, 1) := by decide +kernel
theorem dX7_risks_15 : decode cX7_risks 15 = .ok (.iaload, 1) := by decide +kernel
theorem dX7_risks_16 : decode cX7_risks 16 = .ok (.istore_n 2, 1) := by decide +kernel
theorem dX7_risks_17 : decode cX7_risks 17 = .ok (.iconst 0, 1) := by decide +kernel
theorem dX7_risks_18 : decode cX7_risks 18 = .ok (.istore_n 3, 1) := by decide +kernel
theorem dX7_risks_19 : decode cX7_risks 19 = .ok (.iconst 0, 1) := by decide +kernel
theorem dX7_risks_20 : decode cX7_risks 20 = .ok (.istore 4, 2) := by decide +kernel
theorem dX7_risks_22 : decode cX7_risks 22 = .ok (.iload 4, 2) := by decide +kernel
theorem dX7_risks_24 : decode cX7_risks 24 = .ok (.bipush 10, 2) := by decide +kernel
theorem dX7_risks_26 : decode cX7_risks 26 = .ok (.if_icmp .ge 35, 3) := by decide +kernel
theorem dX7_risks_29 : decode cX7_risks 29 = .ok (.aload_n 0, 1) := by decide +kernel
theorem dX7_risks_30 : decode cX7_risks 30 = .ok (.getfield 13, 3) := by decide +kernel
theorem dX7_risks_33 : decode cX7_risks 33 = .ok (.iload_n 1, 1) := by decide +kernel
theorem dX7_risks_34 : decode cX7_risks 34 = .ok (.iload 4, 2) := by decide +kernel
theorem dX7_risks_36 : decode cX7_risks 36 = .ok (.iastore, 1) := by decide +kernel
theorem dX7_risks_37 : decode cX7_risks 37 = .ok (.iload_n 3, 1) := by decide +kernel
theorem dX7_risks_38 : decode cX7_risks 38 = .ok (.aload_n 0, 1) := by decide +kernel
theorem dX7_risks_39 : decode cX7_risks 39 = .ok (.invokevirtual 211, 3) := by decide +kernel
theorem dX7_risks_42 : decode cX7_risks 42 = .ok (.ifCond .eq 10, 3) := by decide +kernel
theorem dX7_risks_45 : decode cX7_risks 45 = .ok (.iconst 1, 1) := by decide +kernel
theorem dX7_risks_46 : decode cX7_risks 46 = .ok (.iload 4, 2) := by decide +kernel
theorem dX7_risks_48 : decode cX7_risks 48 = .ok (.ishl, 1) := by decide +kernel
theorem dX7_risks_49 : decode cX7_risks 49 = .ok (.goto 4, 3) := by decide +kernel
theorem dX7_risks_52 : decode cX7_risks 52 = .ok (.iconst 0, 1) := by decide +kernel
theorem dX7_risks_53 : decode cX7_risks 53 = .ok (.ior, 1) := by decide +kernel
theorem dX7_risks_54 : decode cX7_risks 54 = .ok (.istore_n 3, 1) := by decide +kernel
theorem dX7_risks_55 : decode cX7_risks 55 = .ok (.iinc 4 1, 3) := by decide +kernel
theorem dX7_risks_58 : decode cX7_risks 58 = .ok (.goto (-36), 3) := by decide +kernel
theorem dX7_risks_61 : decode cX7_risks 61 = .ok (.aload_n 0, 1) := by decide +kernel
theorem dX7_risks_62 : decode cX7_risks 62 = .ok (.getfield 13, 3) := by decide +kernel
theorem dX7_risks_65 : decode cX7_risks 65 = .ok (.iload_n 1, 1) := by decide +kernel
theorem dX7_risks_66 : decode cX7_risks 66 = .ok (.iload_n 2, 1) := by decide +kernel
theorem dX7_risks_67 : decode cX7_risks 67 = .ok (.iastore, 1) := by decide +kernel
theorem dX7_risks_68 : decode cX7_risks 68 = .ok (.iload_n 3, 1) := by decide +kernel
theorem dX7_risks_69 : decode cX7_risks 69 = .ok (.ireturn, 1) := by decide +kernel
set_option maxRecDepth 20000 in
theorem ggX7_hurts_X7_noDeed : GoodIn wsX7_hurts wsX7_noDeed := goodIn_r _ [6, 7, 8, 9, 5, 10, 30, 31, 32, 33, 34, 35, 36, 37, 38, 39, 40, 41, 42, 43, 44, 45, 46, 47, 48, 49, 50, 51, 52, 53, 54, 55, 56, 57, 58, 59] (by decide +kernel) (by decide +kernel)
set_option maxRecDepth 20000 in
theorem gX7_hurts_X7_noDeed : GoodIn wsX7_hurts (wsV RX7 146 RX7 yX7_noDeed wsX7_noDeed) := goodIn_app (goodIn_of _ (by decide +kernel)) ggX7_hurts_X7_noDeed
set_option maxRecDepth 20000 in
theorem ggX7_hurts_X7_areSo : GoodIn wsX7_hurts wsX7_areSo := goodIn_r _ [14, 15, 16, 17, 18, 19, 20, 21, 5, 22, 23, 24, 25, 26, 27, 28, 1, 29, 30, 31, 32, 33, 34, 35, 36, 37, 38, 39, 40, 41, 42, 43, 44, 45, 46, 47, 48, 49, 50, 51, 52, 53, 54, 55, 56, 57, 58, 59] (by decide +kernel) (by decide +kernel)
set_option maxRecDepth 20000 in
theorem gX7_hurts_X7_areSo : GoodIn wsX7_hurts (wsV RX7 211 RX7 yX7_areSo wsX7_areSo) := goodIn_app (goodIn_of _ (by decide +kernel)) ggX7_hurts_X7_areSo
theorem dX7_hurts_0 : decode cX7_hurts 0 = .ok (.aload_n 0, 1) := by decide +kernel
theorem dX7_hurts_1 : decode cX7_hurts 1 = .ok (.iload_n 1, 1) := by decide +kernel
theorem dX7_hurts_2 : decode cX7_hurts 2 = .ok (.invokevirtual 146, 3) := by decide +kernel
theorem dX7_hurts_5 : decode cX7_hurts 5 = .ok (.ifCond .eq 5, 3) := by decide +kernel
theorem dX7_hurts_8 : decode cX7_hurts 8 = .ok (.iconst (-1), 1) := by decide +kernel
theorem dX7_hurts_9 : decode cX7_hurts 9 = .ok (.ireturn, 1) := by decide +kernel
theorem dX7_hurts_10 : decode cX7_hurts 10 = .ok (.aload_n 0, 1) := by decide +kernel
theorem dX7_hurts_11 : decode cX7_hurts 11 = .ok (.getfield 16, 3) := by decide +kernel
theorem dX7_hurts_14 : decode cX7_hurts 14 = .ok (.iload_n 1, 1) := by decide +kernel
theorem dX7_hurts_15 : decode cX7_hurts 15 = .ok (.iaload, 1) := by decide +kernel
theorem dX7_hurts_16 : decode cX7_hurts 16 = .ok (.istore_n 2, 1) := by decide +kernel
theorem dX7_hurts_17 : decode cX7_hurts 17 = .ok (.iconst 0, 1) := by decide +kernel
theorem dX7_hurts_18 : decode cX7_hurts 18 = .ok (.istore_n 3, 1) := by decide +kernel
theorem dX7_hurts_19 : decode cX7_hurts 19 = .ok (.iconst 0, 1) := by decide +kernel
theorem dX7_hurts_20 : decode cX7_hurts 20 = .ok (.istore 4, 2) := by decide +kernel
theorem dX7_hurts_22 : decode cX7_hurts 22 = .ok (.iload 4, 2) := by decide +kernel
theorem dX7_hurts_24 : decode cX7_hurts 24 = .ok (.bipush 10, 2) := by decide +kernel
theorem dX7_hurts_26 : decode cX7_hurts 26 = .ok (.if_icmp .ge 35, 3) := by decide +kernel
theorem dX7_hurts_29 : decode cX7_hurts 29 = .ok (.aload_n 0, 1) := by decide +kernel
theorem dX7_hurts_30 : decode cX7_hurts 30 = .ok (.getfield 16, 3) := by decide +kernel
theorem dX7_hurts_33 : decode cX7_hurts 33 = .ok (.iload_n 1, 1) := by decide +kernel
theorem dX7_hurts_34 : decode cX7_hurts 34 = .ok (.iload 4, 2) := by decide +kernel
theorem dX7_hurts_36 : decode cX7_hurts 36 = .ok (.iastore, 1) := by decide +kernel
theorem dX7_hurts_37 : decode cX7_hurts 37 = .ok (.iload_n 3, 1) := by decide +kernel
theorem dX7_hurts_38 : decode cX7_hurts 38 = .ok (.aload_n 0, 1) := by decide +kernel
theorem dX7_hurts_39 : decode cX7_hurts 39 = .ok (.invokevirtual 211, 3) := by decide +kernel
theorem dX7_hurts_42 : decode cX7_hurts 42 = .ok (.ifCond .eq 10, 3) := by decide +kernel
theorem dX7_hurts_45 : decode cX7_hurts 45 = .ok (.iconst 1, 1) := by decide +kernel
theorem dX7_hurts_46 : decode cX7_hurts 46 = .ok (.iload 4, 2) := by decide +kernel
theorem dX7_hurts_48 : decode cX7_hurts 48 = .ok (.ishl, 1) := by decide +kernel
theorem dX7_hurts_49 : decode cX7_hurts 49 = .ok (.goto 4, 3) := by decide +kernel
theorem dX7_hurts_52 : decode cX7_hurts 52 = .ok (.iconst 0, 1) := by decide +kernel
theorem dX7_hurts_53 : decode cX7_hurts 53 = .ok (.ior, 1) := by decide +kernel
theorem dX7_hurts_54 : decode cX7_hurts 54 = .ok (.istore_n 3, 1) := by decide +kernel
theorem dX7_hurts_55 : decode cX7_hurts 55 = .ok (.iinc 4 1, 3) := by decide +kernel
theorem dX7_hurts_58 : decode cX7_hurts 58 = .ok (.goto (-36), 3) := by decide +kernel
theorem dX7_hurts_61 : decode cX7_hurts 61 = .ok (.aload_n 0, 1) := by decide +kernel
theorem dX7_hurts_62 : decode cX7_hurts 62 = .ok (.getfield 16, 3) := by decide +kernel
theorem dX7_hurts_65 : decode cX7_hurts 65 = .ok (.iload_n 1, 1) := by decide +kernel
theorem dX7_hurts_66 : decode cX7_hurts 66 = .ok (.iload_n 2, 1) := by decide +kernel
theorem dX7_hurts_67 : decode cX7_hurts 67 = .ok (.iastore, 1) := by decide +kernel
theorem dX7_hurts_68 : decode cX7_hurts 68 = .ok (.iload_n 3, 1) := by decide +kernel
theorem dX7_hurts_69 : decode cX7_hurts 69 = .ok (.ireturn, 1) := by decide +kernel
set_option maxRecDepth 20000 in
theorem ggX7_kinds_X7_noSubject : GoodIn wsX7_kinds wsX7_noSubject := goodIn_r _ [6, 7, 8, 9, 5, 10, 30, 31, 32, 33, 34, 35, 36, 37, 38, 39, 40, 41, 42, 43, 44, 45, 46, 47, 48, 49, 50, 51, 52, 53, 54, 55, 56, 57, 58, 59] (by decide +kernel) (by decide +kernel)
set_option maxRecDepth 20000 in
theorem gX7_kinds_X7_noSubject : GoodIn wsX7_kinds (wsV RX7 152 RX7 yX7_noSubject wsX7_noSubject) := goodIn_app (goodIn_of _ (by decide +kernel)) ggX7_kinds_X7_noSubject
set_option maxRecDepth 20000 in
theorem ggX7_kinds_X7_areSo : GoodIn wsX7_kinds wsX7_areSo := goodIn_r _ [14, 15, 16, 17, 18, 19, 20, 21, 5, 22, 23, 24, 25, 26, 27, 28, 29, 1, 30, 31, 32, 33, 34, 35, 36, 37, 38, 39, 40, 41, 42, 43, 44, 45, 46, 47, 48, 49, 50, 51, 52, 53, 54, 55, 56, 57, 58, 59] (by decide +kernel) (by decide +kernel)
set_option maxRecDepth 20000 in
theorem gX7_kinds_X7_areSo : GoodIn wsX7_kinds (wsV RX7 211 RX7 yX7_areSo wsX7_areSo) := goodIn_app (goodIn_of _ (by decide +kernel)) ggX7_kinds_X7_areSo
theorem dX7_kinds_0 : decode cX7_kinds 0 = .ok (.aload_n 0, 1) := by decide +kernel
theorem dX7_kinds_1 : decode cX7_kinds 1 = .ok (.iload_n 1, 1) := by decide +kernel
theorem dX7_kinds_2 : decode cX7_kinds 2 = .ok (.invokevirtual 152, 3) := by decide +kernel
theorem dX7_kinds_5 : decode cX7_kinds 5 = .ok (.ifCond .eq 5, 3) := by decide +kernel
theorem dX7_kinds_8 : decode cX7_kinds 8 = .ok (.iconst (-1), 1) := by decide +kernel
theorem dX7_kinds_9 : decode cX7_kinds 9 = .ok (.ireturn, 1) := by decide +kernel
theorem dX7_kinds_10 : decode cX7_kinds 10 = .ok (.aload_n 0, 1) := by decide +kernel
theorem dX7_kinds_11 : decode cX7_kinds 11 = .ok (.getfield 19, 3) := by decide +kernel
theorem dX7_kinds_14 : decode cX7_kinds 14 = .ok (.iload_n 1, 1) := by decide +kernel
theorem dX7_kinds_15 : decode cX7_kinds 15 = .ok (.iaload, 1) := by decide +kernel
theorem dX7_kinds_16 : decode cX7_kinds 16 = .ok (.istore_n 2, 1) := by decide +kernel
theorem dX7_kinds_17 : decode cX7_kinds 17 = .ok (.iconst 0, 1) := by decide +kernel
theorem dX7_kinds_18 : decode cX7_kinds 18 = .ok (.istore_n 3, 1) := by decide +kernel
theorem dX7_kinds_19 : decode cX7_kinds 19 = .ok (.iconst 0, 1) := by decide +kernel
theorem dX7_kinds_20 : decode cX7_kinds 20 = .ok (.istore 4, 2) := by decide +kernel
theorem dX7_kinds_22 : decode cX7_kinds 22 = .ok (.iload 4, 2) := by decide +kernel
theorem dX7_kinds_24 : decode cX7_kinds 24 = .ok (.iconst 3, 1) := by decide +kernel
theorem dX7_kinds_25 : decode cX7_kinds 25 = .ok (.if_icmp .ge 35, 3) := by decide +kernel
theorem dX7_kinds_28 : decode cX7_kinds 28 = .ok (.aload_n 0, 1) := by decide +kernel
theorem dX7_kinds_29 : decode cX7_kinds 29 = .ok (.getfield 19, 3) := by decide +kernel
theorem dX7_kinds_32 : decode cX7_kinds 32 = .ok (.iload_n 1, 1) := by decide +kernel
theorem dX7_kinds_33 : decode cX7_kinds 33 = .ok (.iload 4, 2) := by decide +kernel
theorem dX7_kinds_35 : decode cX7_kinds 35 = .ok (.iastore, 1) := by decide +kernel
theorem dX7_kinds_36 : decode cX7_kinds 36 = .ok (.iload_n 3, 1) := by decide +kernel
theorem dX7_kinds_37 : decode cX7_kinds 37 = .ok (.aload_n 0, 1) := by decide +kernel
theorem dX7_kinds_38 : decode cX7_kinds 38 = .ok (.invokevirtual 211, 3) := by decide +kernel
theorem dX7_kinds_41 : decode cX7_kinds 41 = .ok (.ifCond .eq 10, 3) := by decide +kernel
theorem dX7_kinds_44 : decode cX7_kinds 44 = .ok (.iconst 1, 1) := by decide +kernel
theorem dX7_kinds_45 : decode cX7_kinds 45 = .ok (.iload 4, 2) := by decide +kernel
theorem dX7_kinds_47 : decode cX7_kinds 47 = .ok (.ishl, 1) := by decide +kernel
theorem dX7_kinds_48 : decode cX7_kinds 48 = .ok (.goto 4, 3) := by decide +kernel
theorem dX7_kinds_51 : decode cX7_kinds 51 = .ok (.iconst 0, 1) := by decide +kernel
theorem dX7_kinds_52 : decode cX7_kinds 52 = .ok (.ior, 1) := by decide +kernel
theorem dX7_kinds_53 : decode cX7_kinds 53 = .ok (.istore_n 3, 1) := by decide +kernel
theorem dX7_kinds_54 : decode cX7_kinds 54 = .ok (.iinc 4 1, 3) := by decide +kernel
theorem dX7_kinds_57 : decode cX7_kinds 57 = .ok (.goto (-35), 3) := by decide +kernel
theorem dX7_kinds_60 : decode cX7_kinds 60 = .ok (.aload_n 0, 1) := by decide +kernel
theorem dX7_kinds_61 : decode cX7_kinds 61 = .ok (.getfield 19, 3) := by decide +kernel
theorem dX7_kinds_64 : decode cX7_kinds 64 = .ok (.iload_n 1, 1) := by decide +kernel
theorem dX7_kinds_65 : decode cX7_kinds 65 = .ok (.iload_n 2, 1) := by decide +kernel
theorem dX7_kinds_66 : decode cX7_kinds 66 = .ok (.iastore, 1) := by decide +kernel
theorem dX7_kinds_67 : decode cX7_kinds 67 = .ok (.iload_n 3, 1) := by decide +kernel
theorem dX7_kinds_68 : decode cX7_kinds 68 = .ok (.ireturn, 1) := by decide +kernel
set_option maxRecDepth 20000 in
theorem ggX7_odds_X7_in : GoodIn wsX7_odds wsX7_in := goodIn_r _ [9] (by decide +kernel) (by decide +kernel)
set_option maxRecDepth 20000 in
theorem gX7_odds_X7_in : GoodIn wsX7_odds (va_wsS RX7 82 yX7_in wsX7_in) := goodIn_app (goodIn_of _ (by decide +kernel)) ggX7_odds_X7_in
set_option maxRecDepth 20000 in
theorem ggX7_odds_X7_lost : GoodIn wsX7_odds wsX7_lost := goodIn_r _ [12, 13] (by decide +kernel) (by decide +kernel)
set_option maxRecDepth 20000 in
theorem gX7_odds_X7_lost : GoodIn wsX7_odds (va_wsS RX7 75 yX7_lost wsX7_lost) := goodIn_app (goodIn_of _ (by decide +kernel)) ggX7_odds_X7_lost
set_option maxRecDepth 20000 in
theorem ggX7_odds_X7_isIn : GoodIn wsX7_odds wsX7_isIn := goodIn_r _ [16] (by decide +kernel) (by decide +kernel)
set_option maxRecDepth 20000 in
theorem gX7_odds_X7_isIn : GoodIn wsX7_odds (va_wsS RX7 215 yX7_isIn wsX7_isIn) := goodIn_app (goodIn_of _ (by decide +kernel)) ggX7_odds_X7_isIn
set_option maxRecDepth 20000 in
theorem ggX7_odds_X7_share : GoodIn wsX7_odds wsX7_share := goodIn_r _ [19] (by decide +kernel) (by decide +kernel)
set_option maxRecDepth 20000 in
theorem gX7_odds_X7_share : GoodIn wsX7_odds (va_wsS RX7 199 yX7_share wsX7_share) := goodIn_app (goodIn_of _ (by decide +kernel)) ggX7_odds_X7_share
theorem dX7_odds_0 : decode cX7_odds 0 = .ok (.aload_n 0, 1) := by decide +kernel
theorem dX7_odds_1 : decode cX7_odds 1 = .ok (.getfield 86, 3) := by decide +kernel
theorem dX7_odds_4 : decode cX7_odds 4 = .ok (.ifCond .eq 43, 3) := by decide +kernel
theorem dX7_odds_7 : decode cX7_odds 7 = .ok (.iload_n 1, 1) := by decide +kernel
theorem dX7_odds_8 : decode cX7_odds 8 = .ok (.i2l, 1) := by decide +kernel
theorem dX7_odds_9 : decode cX7_odds 9 = .ok (.lconst 0, 1) := by decide +kernel
theorem dX7_odds_10 : decode cX7_odds 10 = .ok (.iconst 1, 1) := by decide +kernel
theorem dX7_odds_11 : decode cX7_odds 11 = .ok (.aload_n 0, 1) := by decide +kernel
theorem dX7_odds_12 : decode cX7_odds 12 = .ok (.getfield 79, 3) := by decide +kernel
theorem dX7_odds_15 : decode cX7_odds 15 = .ok (.ishl, 1) := by decide +kernel
theorem dX7_odds_16 : decode cX7_odds 16 = .ok (.i2l, 1) := by decide +kernel
theorem dX7_odds_17 : decode cX7_odds 17 = .ok (.lconst 1, 1) := by decide +kernel
theorem dX7_odds_18 : decode cX7_odds 18 = .ok (.lsub, 1) := by decide +kernel
theorem dX7_odds_19 : decode cX7_odds 19 = .ok (.invokestatic 82, 3) := by decide +kernel
theorem dX7_odds_22 : decode cX7_odds 22 = .ok (.ifCond .eq 25, 3) := by decide +kernel
theorem dX7_odds_25 : decode cX7_odds 25 = .ok (.iload_n 2, 1) := by decide +kernel
theorem dX7_odds_26 : decode cX7_odds 26 = .ok (.i2l, 1) := by decide +kernel
theorem dX7_odds_27 : decode cX7_odds 27 = .ok (.lconst 0, 1) := by decide +kernel
theorem dX7_odds_28 : decode cX7_odds 28 = .ok (.ldc2_w 160, 3) := by decide +kernel
theorem dX7_odds_31 : decode cX7_odds 31 = .ok (.invokestatic 82, 3) := by decide +kernel
theorem dX7_odds_34 : decode cX7_odds 34 = .ok (.ifCond .eq 13, 3) := by decide +kernel
theorem dX7_odds_37 : decode cX7_odds 37 = .ok (.iload_n 3, 1) := by decide +kernel
theorem dX7_odds_38 : decode cX7_odds 38 = .ok (.i2l, 1) := by decide +kernel
theorem dX7_odds_39 : decode cX7_odds 39 = .ok (.lconst 0, 1) := by decide +kernel
theorem dX7_odds_40 : decode cX7_odds 40 = .ok (.lconst 1, 1) := by decide +kernel
theorem dX7_odds_41 : decode cX7_odds 41 = .ok (.invokestatic 82, 3) := by decide +kernel
theorem dX7_odds_44 : decode cX7_odds 44 = .ok (.ifCond .ne 7, 3) := by decide +kernel
theorem dX7_odds_47 : decode cX7_odds 47 = .ok (.invokestatic 75, 3) := by decide +kernel
theorem dX7_odds_50 : decode cX7_odds 50 = .ok (.lreturn, 1) := by decide +kernel
theorem dX7_odds_51 : decode cX7_odds 51 = .ok (.lconst 1, 1) := by decide +kernel
theorem dX7_odds_52 : decode cX7_odds 52 = .ok (.lstore 4, 2) := by decide +kernel
theorem dX7_odds_54 : decode cX7_odds 54 = .ok (.lconst 1, 1) := by decide +kernel
theorem dX7_odds_55 : decode cX7_odds 55 = .ok (.lstore 6, 2) := by decide +kernel
theorem dX7_odds_57 : decode cX7_odds 57 = .ok (.iconst 0, 1) := by decide +kernel
theorem dX7_odds_58 : decode cX7_odds 58 = .ok (.istore 8, 2) := by decide +kernel
theorem dX7_odds_60 : decode cX7_odds 60 = .ok (.iload 8, 2) := by decide +kernel
theorem dX7_odds_62 : decode cX7_odds 62 = .ok (.iload_n 2, 1) := by decide +kernel
theorem dX7_odds_63 : decode cX7_odds 63 = .ok (.aload_n 0, 1) := by decide +kernel
theorem dX7_odds_64 : decode cX7_odds 64 = .ok (.getfield 79, 3) := by decide +kernel
theorem dX7_odds_67 : decode cX7_odds 67 = .ok (.imul, 1) := by decide +kernel
theorem dX7_odds_68 : decode cX7_odds 68 = .ok (.if_icmp .ge 70, 3) := by decide +kernel
theorem dX7_odds_71 : decode cX7_odds 71 = .ok (.iload_n 1, 1) := by decide +kernel
theorem dX7_odds_72 : decode cX7_odds 72 = .ok (.iload 8, 2) := by decide +kernel
theorem dX7_odds_74 : decode cX7_odds 74 = .ok (.aload_n 0, 1) := by decide +kernel
theorem dX7_odds_75 : decode cX7_odds 75 = .ok (.getfield 79, 3) := by decide +kernel
theorem dX7_odds_78 : decode cX7_odds 78 = .ok (.irem, 1) := by decide +kernel
theorem dX7_odds_79 : decode cX7_odds 79 = .ok (.invokestatic 215, 3) := by decide +kernel
theorem dX7_odds_82 : decode cX7_odds 82 = .ok (.istore 9, 2) := by decide +kernel
theorem dX7_odds_84 : decode cX7_odds 84 = .ok (.lload 4, 2) := by decide +kernel
theorem dX7_odds_86 : decode cX7_odds 86 = .ok (.iload 9, 2) := by decide +kernel
theorem dX7_odds_88 : decode cX7_odds 88 = .ok (.ifCond .eq 23, 3) := by decide +kernel
theorem dX7_odds_91 : decode cX7_odds 91 = .ok (.ldc2_w 171, 3) := by decide +kernel
theorem dX7_odds_94 : decode cX7_odds 94 = .ok (.aload_n 0, 1) := by decide +kernel
theorem dX7_odds_95 : decode cX7_odds 95 = .ok (.getfield 13, 3) := by decide +kernel
theorem dX7_odds_98 : decode cX7_odds 98 = .ok (.iload 8, 2) := by decide +kernel
theorem dX7_odds_100 : decode cX7_odds 100 = .ok (.aload_n 0, 1) := by decide +kernel
theorem dX7_odds_101 : decode cX7_odds 101 = .ok (.getfield 79, 3) := by decide +kernel
theorem dX7_odds_104 : decode cX7_odds 104 = .ok (.irem, 1) := by decide +kernel
theorem dX7_odds_105 : decode cX7_odds 105 = .ok (.iaload, 1) := by decide +kernel
theorem dX7_odds_106 : decode cX7_odds 106 = .ok (.i2l, 1) := by decide +kernel
theorem dX7_odds_107 : decode cX7_odds 107 = .ok (.lsub, 1) := by decide +kernel
theorem dX7_odds_108 : decode cX7_odds 108 = .ok (.goto 4, 3) := by decide +kernel
theorem dX7_odds_111 : decode cX7_odds 111 = .ok (.lconst 1, 1) := by decide +kernel
theorem dX7_odds_112 : decode cX7_odds 112 = .ok (.lmul, 1) := by decide +kernel
theorem dX7_odds_113 : decode cX7_odds 113 = .ok (.lstore 4, 2) := by decide +kernel
theorem dX7_odds_115 : decode cX7_odds 115 = .ok (.lload 6, 2) := by decide +kernel
theorem dX7_odds_117 : decode cX7_odds 117 = .ok (.iload 9, 2) := by decide +kernel
theorem dX7_odds_119 : decode cX7_odds 119 = .ok (.ifCond .eq 9, 3) := by decide +kernel
theorem dX7_odds_122 : decode cX7_odds 122 = .ok (.ldc2_w 171, 3) := by decide +kernel
theorem dX7_odds_125 : decode cX7_odds 125 = .ok (.goto 4, 3) := by decide +kernel
theorem dX7_odds_128 : decode cX7_odds 128 = .ok (.lconst 1, 1) := by decide +kernel
theorem dX7_odds_129 : decode cX7_odds 129 = .ok (.lmul, 1) := by decide +kernel
theorem dX7_odds_130 : decode cX7_odds 130 = .ok (.lstore 6, 2) := by decide +kernel
theorem dX7_odds_132 : decode cX7_odds 132 = .ok (.iinc 8 1, 3) := by decide +kernel
theorem dX7_odds_135 : decode cX7_odds 135 = .ok (.goto (-75), 3) := by decide +kernel
theorem dX7_odds_138 : decode cX7_odds 138 = .ok (.lload 4, 2) := by decide +kernel
theorem dX7_odds_140 : decode cX7_odds 140 = .ok (.lload 6, 2) := by decide +kernel
theorem dX7_odds_142 : decode cX7_odds 142 = .ok (.iload_n 3, 1) := by decide +kernel
theorem dX7_odds_143 : decode cX7_odds 143 = .ok (.invokestatic 199, 3) := by decide +kernel
theorem dX7_odds_146 : decode cX7_odds 146 = .ok (.lreturn, 1) := by decide +kernel
set_option maxRecDepth 20000 in
theorem ggX7_noSheet_X7_in : GoodIn wsX7_noSheet wsX7_in := goodIn_r _ [5] (by decide +kernel) (by decide +kernel)
set_option maxRecDepth 20000 in
theorem gX7_noSheet_X7_in : GoodIn wsX7_noSheet (va_wsS RX7 82 yX7_in wsX7_in) := goodIn_app (goodIn_of _ (by decide +kernel)) ggX7_noSheet_X7_in
theorem dX7_noSheet_0 : decode cX7_noSheet 0 = .ok (.iload_n 0, 1) := by decide +kernel
theorem dX7_noSheet_1 : decode cX7_noSheet 1 = .ok (.i2l, 1) := by decide +kernel
theorem dX7_noSheet_2 : decode cX7_noSheet 2 = .ok (.lconst 0, 1) := by decide +kernel
theorem dX7_noSheet_3 : decode cX7_noSheet 3 = .ok (.ldc2_w 160, 3) := by decide +kernel
theorem dX7_noSheet_6 : decode cX7_noSheet 6 = .ok (.invokestatic 82, 3) := by decide +kernel
theorem dX7_noSheet_9 : decode cX7_noSheet 9 = .ok (.ifCond .ne 7, 3) := by decide +kernel
theorem dX7_noSheet_12 : decode cX7_noSheet 12 = .ok (.iconst 1, 1) := by decide +kernel
theorem dX7_noSheet_13 : decode cX7_noSheet 13 = .ok (.goto 4, 3) := by decide +kernel
theorem dX7_noSheet_16 : decode cX7_noSheet 16 = .ok (.iconst 0, 1) := by decide +kernel
theorem dX7_noSheet_17 : decode cX7_noSheet 17 = .ok (.ireturn, 1) := by decide +kernel
set_option maxRecDepth 20000 in
theorem ggX7_sheet_X7_noSheet : GoodIn wsX7_sheet wsX7_noSheet := goodIn_r _ [8, 9, 10, 11, 7, 12] (by decide +kernel) (by decide +kernel)
set_option maxRecDepth 20000 in
theorem gX7_sheet_X7_noSheet : GoodIn wsX7_sheet (va_wsS RX7 121 yX7_noSheet wsX7_noSheet) := goodIn_app (goodIn_of _ (by decide +kernel)) ggX7_sheet_X7_noSheet
set_option maxRecDepth 20000 in
theorem ggX7_sheet_X7_refused : GoodIn wsX7_sheet wsX7_refused := goodIn_r _ [16, 17, 22, 23, 24, 25, 26, 27, 28, 29, 30, 31, 32, 33, 34, 35, 36, 37, 38, 39, 40, 41, 42, 43, 44, 45, 46, 47, 48, 49, 50, 51] (by decide +kernel) (by decide +kernel)
set_option maxRecDepth 20000 in
theorem gX7_sheet_X7_refused : GoodIn wsX7_sheet (wsV RX7 125 RX7 yX7_refused wsX7_refused) := goodIn_app (goodIn_of _ (by decide +kernel)) ggX7_sheet_X7_refused
set_option maxRecDepth 20000 in
theorem ggX7_sheet_X7_in : GoodIn wsX7_sheet wsX7_in := goodIn_r _ [12] (by decide +kernel) (by decide +kernel)
set_option maxRecDepth 20000 in
theorem gX7_sheet_X7_in : GoodIn wsX7_sheet (va_wsS RX7 82 yX7_in wsX7_in) := goodIn_app (goodIn_of _ (by decide +kernel)) ggX7_sheet_X7_in
set_option maxRecDepth 20000 in
theorem ggX7_sheet_X7_failed : GoodIn wsX7_sheet wsX7_failed := goodIn_r _ [21, 17, 22, 23, 24, 25, 26, 27, 28, 29, 30, 31, 32, 33, 34, 35, 36, 37, 38, 39, 40, 41, 42, 43, 44, 45, 46, 47, 48, 49, 50, 51] (by decide +kernel) (by decide +kernel)
set_option maxRecDepth 20000 in
theorem gX7_sheet_X7_failed : GoodIn wsX7_sheet (wsV RX7 113 RX7 yX7_failed wsX7_failed) := goodIn_app (goodIn_of _ (by decide +kernel)) ggX7_sheet_X7_failed
theorem dX7_sheet_0 : decode cX7_sheet 0 = .ok (.iload_n 1, 1) := by decide +kernel
theorem dX7_sheet_1 : decode cX7_sheet 1 = .ok (.invokestatic 121, 3) := by decide +kernel
theorem dX7_sheet_4 : decode cX7_sheet 4 = .ok (.ifCond .eq 9, 3) := by decide +kernel
theorem dX7_sheet_7 : decode cX7_sheet 7 = .ok (.aload_n 0, 1) := by decide +kernel
theorem dX7_sheet_8 : decode cX7_sheet 8 = .ok (.iconst (-1), 1) := by decide +kernel
theorem dX7_sheet_9 : decode cX7_sheet 9 = .ok (.invokevirtual 125, 3) := by decide +kernel
theorem dX7_sheet_12 : decode cX7_sheet 12 = .ok (.ireturn, 1) := by decide +kernel
theorem dX7_sheet_13 : decode cX7_sheet 13 = .ok (.iload_n 2, 1) := by decide +kernel
theorem dX7_sheet_14 : decode cX7_sheet 14 = .ok (.i2l, 1) := by decide +kernel
theorem dX7_sheet_15 : decode cX7_sheet 15 = .ok (.lconst 0, 1) := by decide +kernel
theorem dX7_sheet_16 : decode cX7_sheet 16 = .ok (.ldc2_w 128, 3) := by decide +kernel
theorem dX7_sheet_19 : decode cX7_sheet 19 = .ok (.invokestatic 82, 3) := by decide +kernel
theorem dX7_sheet_22 : decode cX7_sheet 22 = .ok (.ifCond .eq 9, 3) := by decide +kernel
theorem dX7_sheet_25 : decode cX7_sheet 25 = .ok (.iload_n 3, 1) := by decide +kernel
theorem dX7_sheet_26 : decode cX7_sheet 26 = .ok (.bipush 60, 2) := by decide +kernel
theorem dX7_sheet_28 : decode cX7_sheet 28 = .ok (.if_icmp .le 10, 3) := by decide +kernel
theorem dX7_sheet_31 : decode cX7_sheet 31 = .ok (.aload_n 0, 1) := by decide +kernel
theorem dX7_sheet_32 : decode cX7_sheet 32 = .ok (.bipush (-2), 2) := by decide +kernel
theorem dX7_sheet_34 : decode cX7_sheet 34 = .ok (.invokevirtual 125, 3) := by decide +kernel
theorem dX7_sheet_37 : decode cX7_sheet 37 = .ok (.ireturn, 1) := by decide +kernel
theorem dX7_sheet_38 : decode cX7_sheet 38 = .ok (.iload_n 3, 1) := by decide +kernel
theorem dX7_sheet_39 : decode cX7_sheet 39 = .ok (.ifCond .ge 9, 3) := by decide +kernel
theorem dX7_sheet_42 : decode cX7_sheet 42 = .ok (.aload_n 0, 1) := by decide +kernel
theorem dX7_sheet_43 : decode cX7_sheet 43 = .ok (.iconst 4, 1) := by decide +kernel
theorem dX7_sheet_44 : decode cX7_sheet 44 = .ok (.invokevirtual 113, 3) := by decide +kernel
theorem dX7_sheet_47 : decode cX7_sheet 47 = .ok (.ireturn, 1) := by decide +kernel
theorem dX7_sheet_48 : decode cX7_sheet 48 = .ok (.aload_n 0, 1) := by decide +kernel
theorem dX7_sheet_49 : decode cX7_sheet 49 = .ok (.getfield 57, 3) := by decide +kernel
theorem dX7_sheet_52 : decode cX7_sheet 52 = .ok (.iload_n 1, 1) := by decide +kernel
theorem dX7_sheet_53 : decode cX7_sheet 53 = .ok (.iload_n 3, 1) := by decide +kernel
theorem dX7_sheet_54 : decode cX7_sheet 54 = .ok (.iastore, 1) := by decide +kernel
theorem dX7_sheet_55 : decode cX7_sheet 55 = .ok (.aload_n 0, 1) := by decide +kernel
theorem dX7_sheet_56 : decode cX7_sheet 56 = .ok (.getfield 60, 3) := by decide +kernel
theorem dX7_sheet_59 : decode cX7_sheet 59 = .ok (.iload_n 1, 1) := by decide +kernel
theorem dX7_sheet_60 : decode cX7_sheet 60 = .ok (.iload_n 2, 1) := by decide +kernel
theorem dX7_sheet_61 : decode cX7_sheet 61 = .ok (.iastore, 1) := by decide +kernel
theorem dX7_sheet_62 : decode cX7_sheet 62 = .ok (.iconst 0, 1) := by decide +kernel
theorem dX7_sheet_63 : decode cX7_sheet 63 = .ok (.istore 4, 2) := by decide +kernel
theorem dX7_sheet_65 : decode cX7_sheet 65 = .ok (.iload 4, 2) := by decide +kernel
theorem dX7_sheet_67 : decode cX7_sheet 67 = .ok (.iload_n 3, 1) := by decide +kernel
theorem dX7_sheet_68 : decode cX7_sheet 68 = .ok (.if_icmp .ge 22, 3) := by decide +kernel
theorem dX7_sheet_71 : decode cX7_sheet 71 = .ok (.aload_n 0, 1) := by decide +kernel
theorem dX7_sheet_72 : decode cX7_sheet 72 = .ok (.getfield 63, 3) := by decide +kernel
theorem dX7_sheet_75 : decode cX7_sheet 75 = .ok (.bipush 60, 2) := by decide +kernel
theorem dX7_sheet_77 : decode cX7_sheet 77 = .ok (.iload_n 1, 1) := by decide +kernel
theorem dX7_sheet_78 : decode cX7_sheet 78 = .ok (.imul, 1) := by decide +kernel
theorem dX7_sheet_79 : decode cX7_sheet 79 = .ok (.iload 4, 2) := by decide +kernel
theorem dX7_sheet_81 : decode cX7_sheet 81 = .ok (.iadd, 1) := by decide +kernel
theorem dX7_sheet_82 : decode cX7_sheet 82 = .ok (.iconst 0, 1) := by decide +kernel
theorem dX7_sheet_83 : decode cX7_sheet 83 = .ok (.iastore, 1) := by decide +kernel
theorem dX7_sheet_84 : decode cX7_sheet 84 = .ok (.iinc 4 1, 3) := by decide +kernel
theorem dX7_sheet_87 : decode cX7_sheet 87 = .ok (.goto (-22), 3) := by decide +kernel
theorem dX7_sheet_90 : decode cX7_sheet 90 = .ok (.aload_n 0, 1) := by decide +kernel
theorem dX7_sheet_91 : decode cX7_sheet 91 = .ok (.iconst 1, 1) := by decide +kernel
theorem dX7_sheet_92 : decode cX7_sheet 92 = .ok (.invokevirtual 125, 3) := by decide +kernel
theorem dX7_sheet_95 : decode cX7_sheet 95 = .ok (.ireturn, 1) := by decide +kernel
set_option maxRecDepth 20000 in
theorem ggX7_lose_X7_noSheet : GoodIn wsX7_lose wsX7_noSheet := goodIn_r _ [5, 6, 7, 8, 4, 9] (by decide +kernel) (by decide +kernel)
set_option maxRecDepth 20000 in
theorem gX7_lose_X7_noSheet : GoodIn wsX7_lose (va_wsS RX7 121 yX7_noSheet wsX7_noSheet) := goodIn_app (goodIn_of _ (by decide +kernel)) ggX7_lose_X7_noSheet
theorem dX7_lose_0 : decode cX7_lose 0 = .ok (.iload_n 1, 1) := by decide +kernel
theorem dX7_lose_1 : decode cX7_lose 1 = .ok (.invokestatic 121, 3) := by decide +kernel
theorem dX7_lose_4 : decode cX7_lose 4 = .ok (.ifCond .eq 5, 3) := by decide +kernel
theorem dX7_lose_7 : decode cX7_lose 7 = .ok (.iconst (-1), 1) := by decide +kernel
theorem dX7_lose_8 : decode cX7_lose 8 = .ok (.ireturn, 1) := by decide +kernel
theorem dX7_lose_9 : decode cX7_lose 9 = .ok (.aload_n 0, 1) := by decide +kernel
theorem dX7_lose_10 : decode cX7_lose 10 = .ok (.getfield 57, 3) := by decide +kernel
theorem dX7_lose_13 : decode cX7_lose 13 = .ok (.iload_n 1, 1) := by decide +kernel
theorem dX7_lose_14 : decode cX7_lose 14 = .ok (.iaload, 1) := by decide +kernel
theorem dX7_lose_15 : decode cX7_lose 15 = .ok (.ifCond .ge 7, 3) := by decide +kernel
theorem dX7_lose_18 : decode cX7_lose 18 = .ok (.iconst 0, 1) := by decide +kernel
theorem dX7_lose_19 : decode cX7_lose 19 = .ok (.goto 4, 3) := by decide +kernel
theorem dX7_lose_22 : decode cX7_lose 22 = .ok (.iconst 1, 1) := by decide +kernel
theorem dX7_lose_23 : decode cX7_lose 23 = .ok (.istore_n 2, 1) := by decide +kernel
theorem dX7_lose_24 : decode cX7_lose 24 = .ok (.aload_n 0, 1) := by decide +kernel
theorem dX7_lose_25 : decode cX7_lose 25 = .ok (.getfield 57, 3) := by decide +kernel
theorem dX7_lose_28 : decode cX7_lose 28 = .ok (.iload_n 1, 1) := by decide +kernel
theorem dX7_lose_29 : decode cX7_lose 29 = .ok (.iconst (-1), 1) := by decide +kernel
theorem dX7_lose_30 : decode cX7_lose 30 = .ok (.iastore, 1) := by decide +kernel
theorem dX7_lose_31 : decode cX7_lose 31 = .ok (.iload_n 2, 1) := by decide +kernel
theorem dX7_lose_32 : decode cX7_lose 32 = .ok (.ireturn, 1) := by decide +kernel
set_option maxRecDepth 20000 in
theorem ggX7_noCell_X7_in : GoodIn wsX7_noCell wsX7_in := goodIn_r _ [5] (by decide +kernel) (by decide +kernel)
set_option maxRecDepth 20000 in
theorem gX7_noCell_X7_in : GoodIn wsX7_noCell (va_wsS RX7 82 yX7_in wsX7_in) := goodIn_app (goodIn_of _ (by decide +kernel)) ggX7_noCell_X7_in
theorem dX7_noCell_0 : decode cX7_noCell 0 = .ok (.aload_n 0, 1) := by decide +kernel
theorem dX7_noCell_1 : decode cX7_noCell 1 = .ok (.getfield 57, 3) := by decide +kernel
theorem dX7_noCell_4 : decode cX7_noCell 4 = .ok (.iload_n 1, 1) := by decide +kernel
theorem dX7_noCell_5 : decode cX7_noCell 5 = .ok (.iaload, 1) := by decide +kernel
theorem dX7_noCell_6 : decode cX7_noCell 6 = .ok (.ifCond .ge 7, 3) := by decide +kernel
theorem dX7_noCell_9 : decode cX7_noCell 9 = .ok (.iconst 1, 1) := by decide +kernel
theorem dX7_noCell_10 : decode cX7_noCell 10 = .ok (.goto 26, 3) := by decide +kernel
theorem dX7_noCell_13 : decode cX7_noCell 13 = .ok (.iload_n 2, 1) := by decide +kernel
theorem dX7_noCell_14 : decode cX7_noCell 14 = .ok (.i2l, 1) := by decide +kernel
theorem dX7_noCell_15 : decode cX7_noCell 15 = .ok (.lconst 0, 1) := by decide +kernel
theorem dX7_noCell_16 : decode cX7_noCell 16 = .ok (.aload_n 0, 1) := by decide +kernel
theorem dX7_noCell_17 : decode cX7_noCell 17 = .ok (.getfield 57, 3) := by decide +kernel
theorem dX7_noCell_20 : decode cX7_noCell 20 = .ok (.iload_n 1, 1) := by decide +kernel
theorem dX7_noCell_21 : decode cX7_noCell 21 = .ok (.iaload, 1) := by decide +kernel
theorem dX7_noCell_22 : decode cX7_noCell 22 = .ok (.i2l, 1) := by decide +kernel
theorem dX7_noCell_23 : decode cX7_noCell 23 = .ok (.lconst 1, 1) := by decide +kernel
theorem dX7_noCell_24 : decode cX7_noCell 24 = .ok (.lsub, 1) := by decide +kernel
theorem dX7_noCell_25 : decode cX7_noCell 25 = .ok (.invokestatic 82, 3) := by decide +kernel
theorem dX7_noCell_28 : decode cX7_noCell 28 = .ok (.ifCond .eq 7, 3) := by decide +kernel
theorem dX7_noCell_31 : decode cX7_noCell 31 = .ok (.iconst 0, 1) := by decide +kernel
theorem dX7_noCell_32 : decode cX7_noCell 32 = .ok (.goto 4, 3) := by decide +kernel
theorem dX7_noCell_35 : decode cX7_noCell 35 = .ok (.iconst 3, 1) := by decide +kernel
theorem dX7_noCell_36 : decode cX7_noCell 36 = .ok (.ireturn, 1) := by decide +kernel
set_option maxRecDepth 20000 in
theorem ggX7_put_X7_noSheet : GoodIn wsX7_put wsX7_noSheet := goodIn_r _ [6, 7, 8, 9, 5, 10] (by decide +kernel) (by decide +kernel)
set_option maxRecDepth 20000 in
theorem gX7_put_X7_noSheet : GoodIn wsX7_put (va_wsS RX7 121 yX7_noSheet wsX7_noSheet) := goodIn_app (goodIn_of _ (by decide +kernel)) ggX7_put_X7_noSheet
set_option maxRecDepth 20000 in
theorem ggX7_put_X7_refused : GoodIn wsX7_put wsX7_refused := goodIn_r _ [14, 15, 25, 26, 27, 28, 29, 30, 31, 32, 33, 34, 35, 36, 37, 38, 39, 40, 41, 42, 43, 44, 45, 46, 47, 48, 49, 50, 51, 52, 53, 54] (by decide +kernel) (by decide +kernel)
set_option maxRecDepth 20000 in
theorem gX7_put_X7_refused : GoodIn wsX7_put (wsV RX7 125 RX7 yX7_refused wsX7_refused) := goodIn_app (goodIn_of _ (by decide +kernel)) ggX7_put_X7_refused
set_option maxRecDepth 20000 in
theorem ggX7_put_X7_noCell : GoodIn wsX7_put wsX7_noCell := goodIn_r _ [19, 20, 8, 9, 5, 10, 25, 26, 27, 28, 29, 30, 31, 32, 33, 34, 35, 36, 37, 38, 39, 40, 41, 42, 43, 44, 45, 46, 47, 48, 49, 50, 51, 52, 53, 54] (by decide +kernel) (by decide +kernel)
set_option maxRecDepth 20000 in
theorem gX7_put_X7_noCell : GoodIn wsX7_put (wsV RX7 218 RX7 yX7_noCell wsX7_noCell) := goodIn_app (goodIn_of _ (by decide +kernel)) ggX7_put_X7_noCell
set_option maxRecDepth 20000 in
theorem ggX7_put_X7_failed : GoodIn wsX7_put wsX7_failed := goodIn_r _ [24, 15, 25, 26, 27, 28, 29, 30, 31, 32, 33, 34, 35, 36, 37, 38, 39, 40, 41, 42, 43, 44, 45, 46, 47, 48, 49, 50, 51, 52, 53, 54] (by decide +kernel) (by decide +kernel)
set_option maxRecDepth 20000 in
theorem gX7_put_X7_failed : GoodIn wsX7_put (wsV RX7 113 RX7 yX7_failed wsX7_failed) := goodIn_app (goodIn_of _ (by decide +kernel)) ggX7_put_X7_failed
theorem dX7_put_0 : decode cX7_put 0 = .ok (.iload_n 1, 1) := by decide +kernel
theorem dX7_put_1 : decode cX7_put 1 = .ok (.invokestatic 121, 3) := by decide +kernel
theorem dX7_put_4 : decode cX7_put 4 = .ok (.ifCond .eq 9, 3) := by decide +kernel
theorem dX7_put_7 : decode cX7_put 7 = .ok (.aload_n 0, 1) := by decide +kernel
theorem dX7_put_8 : decode cX7_put 8 = .ok (.iconst (-1), 1) := by decide +kernel
theorem dX7_put_9 : decode cX7_put 9 = .ok (.invokevirtual 125, 3) := by decide +kernel
theorem dX7_put_12 : decode cX7_put 12 = .ok (.ireturn, 1) := by decide +kernel
theorem dX7_put_13 : decode cX7_put 13 = .ok (.aload_n 0, 1) := by decide +kernel
theorem dX7_put_14 : decode cX7_put 14 = .ok (.iload_n 1, 1) := by decide +kernel
theorem dX7_put_15 : decode cX7_put 15 = .ok (.iload_n 2, 1) := by decide +kernel
theorem dX7_put_16 : decode cX7_put 16 = .ok (.invokevirtual 218, 3) := by decide +kernel
theorem dX7_put_19 : decode cX7_put 19 = .ok (.ifCond .le 14, 3) := by decide +kernel
theorem dX7_put_22 : decode cX7_put 22 = .ok (.aload_n 0, 1) := by decide +kernel
theorem dX7_put_23 : decode cX7_put 23 = .ok (.aload_n 0, 1) := by decide +kernel
theorem dX7_put_24 : decode cX7_put 24 = .ok (.iload_n 1, 1) := by decide +kernel
theorem dX7_put_25 : decode cX7_put 25 = .ok (.iload_n 2, 1) := by decide +kernel
theorem dX7_put_26 : decode cX7_put 26 = .ok (.invokevirtual 218, 3) := by decide +kernel
theorem dX7_put_29 : decode cX7_put 29 = .ok (.invokevirtual 113, 3) := by decide +kernel
theorem dX7_put_32 : decode cX7_put 32 = .ok (.ireturn, 1) := by decide +kernel
theorem dX7_put_33 : decode cX7_put 33 = .ok (.aload_n 0, 1) := by decide +kernel
theorem dX7_put_34 : decode cX7_put 34 = .ok (.getfield 63, 3) := by decide +kernel
theorem dX7_put_37 : decode cX7_put 37 = .ok (.bipush 60, 2) := by decide +kernel
theorem dX7_put_39 : decode cX7_put 39 = .ok (.iload_n 1, 1) := by decide +kernel
theorem dX7_put_40 : decode cX7_put 40 = .ok (.imul, 1) := by decide +kernel
theorem dX7_put_41 : decode cX7_put 41 = .ok (.iload_n 2, 1) := by decide +kernel
theorem dX7_put_42 : decode cX7_put 42 = .ok (.iadd, 1) := by decide +kernel
theorem dX7_put_43 : decode cX7_put 43 = .ok (.aload_n 0, 1) := by decide +kernel
theorem dX7_put_44 : decode cX7_put 44 = .ok (.getfield 60, 3) := by decide +kernel
theorem dX7_put_47 : decode cX7_put 47 = .ok (.iload_n 1, 1) := by decide +kernel
theorem dX7_put_48 : decode cX7_put 48 = .ok (.iaload, 1) := by decide +kernel
theorem dX7_put_49 : decode cX7_put 49 = .ok (.ifCond .ne 8, 3) := by decide +kernel
theorem dX7_put_52 : decode cX7_put 52 = .ok (.iload_n 3, 1) := by decide +kernel
theorem dX7_put_53 : decode cX7_put 53 = .ok (.i2b, 1) := by decide +kernel
theorem dX7_put_54 : decode cX7_put 54 = .ok (.goto 19, 3) := by decide +kernel
theorem dX7_put_57 : decode cX7_put 57 = .ok (.aload_n 0, 1) := by decide +kernel
theorem dX7_put_58 : decode cX7_put 58 = .ok (.getfield 60, 3) := by decide +kernel
theorem dX7_put_61 : decode cX7_put 61 = .ok (.iload_n 1, 1) := by decide +kernel
theorem dX7_put_62 : decode cX7_put 62 = .ok (.iaload, 1) := by decide +kernel
theorem dX7_put_63 : decode cX7_put 63 = .ok (.iconst 1, 1) := by decide +kernel
theorem dX7_put_64 : decode cX7_put 64 = .ok (.if_icmp .ne 8, 3) := by decide +kernel
theorem dX7_put_67 : decode cX7_put 67 = .ok (.iload_n 3, 1) := by decide +kernel
theorem dX7_put_68 : decode cX7_put 68 = .ok (.i2s, 1) := by decide +kernel
theorem dX7_put_69 : decode cX7_put 69 = .ok (.goto 4, 3) := by decide +kernel
theorem dX7_put_72 : decode cX7_put 72 = .ok (.iload_n 3, 1) := by decide +kernel
theorem dX7_put_73 : decode cX7_put 73 = .ok (.iastore, 1) := by decide +kernel
theorem dX7_put_74 : decode cX7_put 74 = .ok (.aload_n 0, 1) := by decide +kernel
theorem dX7_put_75 : decode cX7_put 75 = .ok (.iconst 1, 1) := by decide +kernel
theorem dX7_put_76 : decode cX7_put 76 = .ok (.invokevirtual 125, 3) := by decide +kernel
theorem dX7_put_79 : decode cX7_put 79 = .ok (.ireturn, 1) := by decide +kernel
set_option maxRecDepth 20000 in
theorem ggX7_cell_X7_noSheet : GoodIn wsX7_cell wsX7_noSheet := goodIn_r _ [9, 10, 11, 12, 8, 13] (by decide +kernel) (by decide +kernel)
set_option maxRecDepth 20000 in
theorem gX7_cell_X7_noSheet : GoodIn wsX7_cell (va_wsS RX7 121 yX7_noSheet wsX7_noSheet) := goodIn_app (goodIn_of _ (by decide +kernel)) ggX7_cell_X7_noSheet
set_option maxRecDepth 20000 in
theorem ggX7_cell_X7_in : GoodIn wsX7_cell wsX7_in := goodIn_r _ [13] (by decide +kernel) (by decide +kernel)
set_option maxRecDepth 20000 in
theorem gX7_cell_X7_in : GoodIn wsX7_cell (va_wsS RX7 82 yX7_in wsX7_in) := goodIn_app (goodIn_of _ (by decide +kernel)) ggX7_cell_X7_in
set_option maxRecDepth 20000 in
theorem ggX7_cell_X7_lost : GoodIn wsX7_cell wsX7_lost := goodIn_r _ [16, 17] (by decide +kernel) (by decide +kernel)
set_option maxRecDepth 20000 in
theorem gX7_cell_X7_lost : GoodIn wsX7_cell (va_wsS RX7 75 yX7_lost wsX7_lost) := goodIn_app (goodIn_of _ (by decide +kernel)) ggX7_cell_X7_lost
set_option maxRecDepth 20000 in
theorem ggX7_cell_X7_failedLong : GoodIn wsX7_cell wsX7_failedLong := goodIn_r _ [21, 1, 14, 15, 8, 16, 17, 26, 27, 28, 29, 30, 31, 32, 33, 34, 35, 36, 37, 38, 39, 40, 41, 42, 43, 44, 45, 46, 47, 48, 49, 50, 51, 52, 53, 54, 55] (by decide +kernel) (by decide +kernel)
set_option maxRecDepth 20000 in
theorem gX7_cell_X7_failedLong : GoodIn wsX7_cell (wsV RX7 221 RX7 yX7_failedLong wsX7_failedLong) := goodIn_app (goodIn_of _ (by decide +kernel)) ggX7_cell_X7_failedLong
set_option maxRecDepth 20000 in
theorem ggX7_cell_X7_noCell : GoodIn wsX7_cell wsX7_noCell := goodIn_r _ [25, 3, 11, 12, 8, 13, 26, 27, 28, 29, 30, 31, 32, 33, 34, 35, 36, 37, 38, 39, 40, 41, 42, 43, 44, 45, 46, 47, 48, 49, 50, 51, 52, 53, 54, 55] (by decide +kernel) (by decide +kernel)
set_option maxRecDepth 20000 in
theorem gX7_cell_X7_noCell : GoodIn wsX7_cell (wsV RX7 218 RX7 yX7_noCell wsX7_noCell) := goodIn_app (goodIn_of _ (by decide +kernel)) ggX7_cell_X7_noCell
theorem dX7_cell_0 : decode cX7_cell 0 = .ok (.aload_n 0, 1) := by decide +kernel
theorem dX7_cell_1 : decode cX7_cell 1 = .ok (.iconst 0, 1) := by decide +kernel
theorem dX7_cell_2 : decode cX7_cell 2 = .ok (.putfield 71, 3) := by decide +kernel
theorem dX7_cell_5 : decode cX7_cell 5 = .ok (.iload_n 1, 1) := by decide +kernel
theorem dX7_cell_6 : decode cX7_cell 6 = .ok (.invokestatic 121, 3) := by decide +kernel
theorem dX7_cell_9 : decode cX7_cell 9 = .ok (.ifCond .ne 15, 3) := by decide +kernel
theorem dX7_cell_12 : decode cX7_cell 12 = .ok (.iload_n 3, 1) := by decide +kernel
theorem dX7_cell_13 : decode cX7_cell 13 = .ok (.i2l, 1) := by decide +kernel
theorem dX7_cell_14 : decode cX7_cell 14 = .ok (.lconst 0, 1) := by decide +kernel
theorem dX7_cell_15 : decode cX7_cell 15 = .ok (.ldc2_w 128, 3) := by decide +kernel
theorem dX7_cell_18 : decode cX7_cell 18 = .ok (.invokestatic 82, 3) := by decide +kernel
theorem dX7_cell_21 : decode cX7_cell 21 = .ok (.ifCond .ne 7, 3) := by decide +kernel
theorem dX7_cell_24 : decode cX7_cell 24 = .ok (.invokestatic 75, 3) := by decide +kernel
theorem dX7_cell_27 : decode cX7_cell 27 = .ok (.lreturn, 1) := by decide +kernel
theorem dX7_cell_28 : decode cX7_cell 28 = .ok (.aload_n 0, 1) := by decide +kernel
theorem dX7_cell_29 : decode cX7_cell 29 = .ok (.getfield 57, 3) := by decide +kernel
theorem dX7_cell_32 : decode cX7_cell 32 = .ok (.iload_n 1, 1) := by decide +kernel
theorem dX7_cell_33 : decode cX7_cell 33 = .ok (.iaload, 1) := by decide +kernel
theorem dX7_cell_34 : decode cX7_cell 34 = .ok (.ifCond .lt 19, 3) := by decide +kernel
theorem dX7_cell_37 : decode cX7_cell 37 = .ok (.aload_n 0, 1) := by decide +kernel
theorem dX7_cell_38 : decode cX7_cell 38 = .ok (.getfield 60, 3) := by decide +kernel
theorem dX7_cell_41 : decode cX7_cell 41 = .ok (.iload_n 1, 1) := by decide +kernel
theorem dX7_cell_42 : decode cX7_cell 42 = .ok (.iaload, 1) := by decide +kernel
theorem dX7_cell_43 : decode cX7_cell 43 = .ok (.iload_n 3, 1) := by decide +kernel
theorem dX7_cell_44 : decode cX7_cell 44 = .ok (.if_icmp .eq 9, 3) := by decide +kernel
theorem dX7_cell_47 : decode cX7_cell 47 = .ok (.aload_n 0, 1) := by decide +kernel
theorem dX7_cell_48 : decode cX7_cell 48 = .ok (.iconst 2, 1) := by decide +kernel
theorem dX7_cell_49 : decode cX7_cell 49 = .ok (.invokevirtual 221, 3) := by decide +kernel
theorem dX7_cell_52 : decode cX7_cell 52 = .ok (.lreturn, 1) := by decide +kernel
theorem dX7_cell_53 : decode cX7_cell 53 = .ok (.aload_n 0, 1) := by decide +kernel
theorem dX7_cell_54 : decode cX7_cell 54 = .ok (.iload_n 1, 1) := by decide +kernel
theorem dX7_cell_55 : decode cX7_cell 55 = .ok (.iload_n 2, 1) := by decide +kernel
theorem dX7_cell_56 : decode cX7_cell 56 = .ok (.invokevirtual 218, 3) := by decide +kernel
theorem dX7_cell_59 : decode cX7_cell 59 = .ok (.ifCond .le 16, 3) := by decide +kernel
theorem dX7_cell_62 : decode cX7_cell 62 = .ok (.aload_n 0, 1) := by decide +kernel
theorem dX7_cell_63 : decode cX7_cell 63 = .ok (.aload_n 0, 1) := by decide +kernel
theorem dX7_cell_64 : decode cX7_cell 64 = .ok (.iload_n 1, 1) := by decide +kernel
theorem dX7_cell_65 : decode cX7_cell 65 = .ok (.iload_n 2, 1) := by decide +kernel
theorem dX7_cell_66 : decode cX7_cell 66 = .ok (.invokevirtual 218, 3) := by decide +kernel
theorem dX7_cell_69 : decode cX7_cell 69 = .ok (.invokevirtual 221, 3) := by decide +kernel
theorem dX7_cell_72 : decode cX7_cell 72 = .ok (.goto 15, 3) := by decide +kernel
theorem dX7_cell_75 : decode cX7_cell 75 = .ok (.aload_n 0, 1) := by decide +kernel
theorem dX7_cell_76 : decode cX7_cell 76 = .ok (.getfield 63, 3) := by decide +kernel
theorem dX7_cell_79 : decode cX7_cell 79 = .ok (.bipush 60, 2) := by decide +kernel
theorem dX7_cell_81 : decode cX7_cell 81 = .ok (.iload_n 1, 1) := by decide +kernel
theorem dX7_cell_82 : decode cX7_cell 82 = .ok (.imul, 1) := by decide +kernel
theorem dX7_cell_83 : decode cX7_cell 83 = .ok (.iload_n 2, 1) := by decide +kernel
theorem dX7_cell_84 : decode cX7_cell 84 = .ok (.iadd, 1) := by decide +kernel
theorem dX7_cell_85 : decode cX7_cell 85 = .ok (.iaload, 1) := by decide +kernel
theorem dX7_cell_86 : decode cX7_cell 86 = .ok (.i2l, 1) := by decide +kernel
theorem dX7_cell_87 : decode cX7_cell 87 = .ok (.lreturn, 1) := by decide +kernel
theorem dX7_isBeyond_0 : decode cX7_isBeyond 0 = .ok (.iload_n 0, 1) := by decide +kernel
theorem dX7_isBeyond_1 : decode cX7_isBeyond 1 = .ok (.ifCond .lt 19, 3) := by decide +kernel
theorem dX7_isBeyond_4 : decode cX7_isBeyond 4 = .ok (.lload_n 1, 1) := by decide +kernel
theorem dX7_isBeyond_5 : decode cX7_isBeyond 5 = .ok (.lconst 0, 1) := by decide +kernel
theorem dX7_isBeyond_6 : decode cX7_isBeyond 6 = .ok (.lcmp, 1) := by decide +kernel
theorem dX7_isBeyond_7 : decode cX7_isBeyond 7 = .ok (.ifCond .lt 13, 3) := by decide +kernel
theorem dX7_isBeyond_10 : decode cX7_isBeyond 10 = .ok (.iload_n 0, 1) := by decide +kernel
theorem dX7_isBeyond_11 : decode cX7_isBeyond 11 = .ok (.i2l, 1) := by decide +kernel
theorem dX7_isBeyond_12 : decode cX7_isBeyond 12 = .ok (.lload_n 1, 1) := by decide +kernel
theorem dX7_isBeyond_13 : decode cX7_isBeyond 13 = .ok (.ladd, 1) := by decide +kernel
theorem dX7_isBeyond_14 : decode cX7_isBeyond 14 = .ok (.iload_n 3, 1) := by decide +kernel
theorem dX7_isBeyond_15 : decode cX7_isBeyond 15 = .ok (.i2l, 1) := by decide +kernel
theorem dX7_isBeyond_16 : decode cX7_isBeyond 16 = .ok (.lcmp, 1) := by decide +kernel
theorem dX7_isBeyond_17 : decode cX7_isBeyond 17 = .ok (.ifCond .le 7, 3) := by decide +kernel
theorem dX7_isBeyond_20 : decode cX7_isBeyond 20 = .ok (.iconst 1, 1) := by decide +kernel
theorem dX7_isBeyond_21 : decode cX7_isBeyond 21 = .ok (.goto 4, 3) := by decide +kernel
theorem dX7_isBeyond_24 : decode cX7_isBeyond 24 = .ok (.iconst 0, 1) := by decide +kernel
theorem dX7_isBeyond_25 : decode cX7_isBeyond 25 = .ok (.ireturn, 1) := by decide +kernel
set_option maxRecDepth 20000 in
theorem ggX7_copy_X7_noSheet : GoodIn wsX7_copy wsX7_noSheet := goodIn_r _ [8, 9, 10, 11, 7, 12] (by decide +kernel) (by decide +kernel)
set_option maxRecDepth 20000 in
theorem gX7_copy_X7_noSheet : GoodIn wsX7_copy (va_wsS RX7 121 yX7_noSheet wsX7_noSheet) := goodIn_app (goodIn_of _ (by decide +kernel)) ggX7_copy_X7_noSheet
set_option maxRecDepth 20000 in
theorem ggX7_copy_X7_refused : GoodIn wsX7_copy wsX7_refused := goodIn_r _ [16, 17, 25, 26, 27, 28, 29, 30, 31, 32, 33, 34, 35, 36, 37, 38, 39, 40, 41, 42, 43, 44, 45, 46, 47, 48, 49, 50, 51, 52, 53, 54] (by decide +kernel) (by decide +kernel)
set_option maxRecDepth 20000 in
theorem gX7_copy_X7_refused : GoodIn wsX7_copy (wsV RX7 125 RX7 yX7_refused wsX7_refused) := goodIn_app (goodIn_of _ (by decide +kernel)) ggX7_copy_X7_refused
set_option maxRecDepth 20000 in
theorem ggX7_copy_X7_failed : GoodIn wsX7_copy wsX7_failed := goodIn_r _ [21, 17, 25, 26, 27, 28, 29, 30, 31, 32, 33, 34, 35, 36, 37, 38, 39, 40, 41, 42, 43, 44, 45, 46, 47, 48, 49, 50, 51, 52, 53, 54] (by decide +kernel) (by decide +kernel)
set_option maxRecDepth 20000 in
theorem gX7_copy_X7_failed : GoodIn wsX7_copy (wsV RX7 113 RX7 yX7_failed wsX7_failed) := goodIn_app (goodIn_of _ (by decide +kernel)) ggX7_copy_X7_failed
set_option maxRecDepth 20000 in
theorem ggX7_copy_X7_isBeyond : GoodIn wsX7_copy wsX7_isBeyond := goodIn_r _ [24] (by decide +kernel) (by decide +kernel)
set_option maxRecDepth 20000 in
theorem gX7_copy_X7_isBeyond : GoodIn wsX7_copy (va_wsS RX7 117 yX7_isBeyond wsX7_isBeyond) := goodIn_app (goodIn_of _ (by decide +kernel)) ggX7_copy_X7_isBeyond
theorem dX7_copy_0 : decode cX7_copy 0 = .ok (.iload_n 1, 1) := by decide +kernel
theorem dX7_copy_1 : decode cX7_copy 1 = .ok (.invokestatic 121, 3) := by decide +kernel
theorem dX7_copy_4 : decode cX7_copy 4 = .ok (.ifCond .ne 10, 3) := by decide +kernel
theorem dX7_copy_7 : decode cX7_copy 7 = .ok (.iload_n 3, 1) := by decide +kernel
theorem dX7_copy_8 : decode cX7_copy 8 = .ok (.invokestatic 121, 3) := by decide +kernel
theorem dX7_copy_11 : decode cX7_copy 11 = .ok (.ifCond .eq 9, 3) := by decide +kernel
theorem dX7_copy_14 : decode cX7_copy 14 = .ok (.aload_n 0, 1) := by decide +kernel
theorem dX7_copy_15 : decode cX7_copy 15 = .ok (.iconst (-1), 1) := by decide +kernel
theorem dX7_copy_16 : decode cX7_copy 16 = .ok (.invokevirtual 125, 3) := by decide +kernel
theorem dX7_copy_19 : decode cX7_copy 19 = .ok (.ireturn, 1) := by decide +kernel
theorem dX7_copy_20 : decode cX7_copy 20 = .ok (.aload_n 0, 1) := by decide +kernel
theorem dX7_copy_21 : decode cX7_copy 21 = .ok (.getfield 57, 3) := by decide +kernel
theorem dX7_copy_24 : decode cX7_copy 24 = .ok (.iload_n 1, 1) := by decide +kernel
theorem dX7_copy_25 : decode cX7_copy 25 = .ok (.iaload, 1) := by decide +kernel
theorem dX7_copy_26 : decode cX7_copy 26 = .ok (.ifCond .lt 12, 3) := by decide +kernel
theorem dX7_copy_29 : decode cX7_copy 29 = .ok (.aload_n 0, 1) := by decide +kernel
theorem dX7_copy_30 : decode cX7_copy 30 = .ok (.getfield 57, 3) := by decide +kernel
theorem dX7_copy_33 : decode cX7_copy 33 = .ok (.iload_n 3, 1) := by decide +kernel
theorem dX7_copy_34 : decode cX7_copy 34 = .ok (.iaload, 1) := by decide +kernel
theorem dX7_copy_35 : decode cX7_copy 35 = .ok (.ifCond .ge 9, 3) := by decide +kernel
theorem dX7_copy_38 : decode cX7_copy 38 = .ok (.aload_n 0, 1) := by decide +kernel
theorem dX7_copy_39 : decode cX7_copy 39 = .ok (.iconst 1, 1) := by decide +kernel
theorem dX7_copy_40 : decode cX7_copy 40 = .ok (.invokevirtual 113, 3) := by decide +kernel
theorem dX7_copy_43 : decode cX7_copy 43 = .ok (.ireturn, 1) := by decide +kernel
theorem dX7_copy_44 : decode cX7_copy 44 = .ok (.aload_n 0, 1) := by decide +kernel
theorem dX7_copy_45 : decode cX7_copy 45 = .ok (.getfield 60, 3) := by decide +kernel
theorem dX7_copy_48 : decode cX7_copy 48 = .ok (.iload_n 1, 1) := by decide +kernel
theorem dX7_copy_49 : decode cX7_copy 49 = .ok (.iaload, 1) := by decide +kernel
theorem dX7_copy_50 : decode cX7_copy 50 = .ok (.aload_n 0, 1) := by decide +kernel
theorem dX7_copy_51 : decode cX7_copy 51 = .ok (.getfield 60, 3) := by decide +kernel
theorem dX7_copy_54 : decode cX7_copy 54 = .ok (.iload_n 3, 1) := by decide +kernel
theorem dX7_copy_55 : decode cX7_copy 55 = .ok (.iaload, 1) := by decide +kernel
theorem dX7_copy_56 : decode cX7_copy 56 = .ok (.if_icmp .eq 9, 3) := by decide +kernel
theorem dX7_copy_59 : decode cX7_copy 59 = .ok (.aload_n 0, 1) := by decide +kernel
theorem dX7_copy_60 : decode cX7_copy 60 = .ok (.iconst 2, 1) := by decide +kernel
theorem dX7_copy_61 : decode cX7_copy 61 = .ok (.invokevirtual 113, 3) := by decide +kernel
theorem dX7_copy_64 : decode cX7_copy 64 = .ok (.ireturn, 1) := by decide +kernel
theorem dX7_copy_65 : decode cX7_copy 65 = .ok (.iload_n 2, 1) := by decide +kernel
theorem dX7_copy_66 : decode cX7_copy 66 = .ok (.iload 5, 2) := by decide +kernel
theorem dX7_copy_68 : decode cX7_copy 68 = .ok (.i2l, 1) := by decide +kernel
theorem dX7_copy_69 : decode cX7_copy 69 = .ok (.aload_n 0, 1) := by decide +kernel
theorem dX7_copy_70 : decode cX7_copy 70 = .ok (.getfield 57, 3) := by decide +kernel
theorem dX7_copy_73 : decode cX7_copy 73 = .ok (.iload_n 1, 1) := by decide +kernel
theorem dX7_copy_74 : decode cX7_copy 74 = .ok (.iaload, 1) := by decide +kernel
theorem dX7_copy_75 : decode cX7_copy 75 = .ok (.invokestatic 117, 3) := by decide +kernel
theorem dX7_copy_78 : decode cX7_copy 78 = .ok (.ifCond .ne 20, 3) := by decide +kernel
theorem dX7_copy_81 : decode cX7_copy 81 = .ok (.iload 4, 2) := by decide +kernel
theorem dX7_copy_83 : decode cX7_copy 83 = .ok (.iload 5, 2) := by decide +kernel
theorem dX7_copy_85 : decode cX7_copy 85 = .ok (.i2l, 1) := by decide +kernel
theorem dX7_copy_86 : decode cX7_copy 86 = .ok (.aload_n 0, 1) := by decide +kernel
theorem dX7_copy_87 : decode cX7_copy 87 = .ok (.getfield 57, 3) := by decide +kernel
theorem dX7_copy_90 : decode cX7_copy 90 = .ok (.iload_n 3, 1) := by decide +kernel
theorem dX7_copy_91 : decode cX7_copy 91 = .ok (.iaload, 1) := by decide +kernel
theorem dX7_copy_92 : decode cX7_copy 92 = .ok (.invokestatic 117, 3) := by decide +kernel
theorem dX7_copy_95 : decode cX7_copy 95 = .ok (.ifCond .eq 9, 3) := by decide +kernel
theorem dX7_copy_98 : decode cX7_copy 98 = .ok (.aload_n 0, 1) := by decide +kernel
theorem dX7_copy_99 : decode cX7_copy 99 = .ok (.iconst 3, 1) := by decide +kernel
theorem dX7_copy_100 : decode cX7_copy 100 = .ok (.invokevirtual 113, 3) := by decide +kernel
theorem dX7_copy_103 : decode cX7_copy 103 = .ok (.ireturn, 1) := by decide +kernel
theorem dX7_copy_104 : decode cX7_copy 104 = .ok (.iconst 0, 1) := by decide +kernel
theorem dX7_copy_105 : decode cX7_copy 105 = .ok (.istore 6, 2) := by decide +kernel
theorem dX7_copy_107 : decode cX7_copy 107 = .ok (.iload 6, 2) := by decide +kernel
theorem dX7_copy_109 : decode cX7_copy 109 = .ok (.iload 5, 2) := by decide +kernel
theorem dX7_copy_111 : decode cX7_copy 111 = .ok (.if_icmp .ge 30, 3) := by decide +kernel
theorem dX7_copy_114 : decode cX7_copy 114 = .ok (.aload_n 0, 1) := by decide +kernel
theorem dX7_copy_115 : decode cX7_copy 115 = .ok (.getfield 66, 3) := by decide +kernel
theorem dX7_copy_118 : decode cX7_copy 118 = .ok (.iload 6, 2) := by decide +kernel
theorem dX7_copy_120 : decode cX7_copy 120 = .ok (.aload_n 0, 1) := by decide +kernel
theorem dX7_copy_121 : decode cX7_copy 121 = .ok (.getfield 63, 3) := by decide +kernel
theorem dX7_copy_124 : decode cX7_copy 124 = .ok (.bipush 60, 2) := by decide +kernel
theorem dX7_copy_126 : decode cX7_copy 126 = .ok (.iload_n 1, 1) := by decide +kernel
theorem dX7_copy_127 : decode cX7_copy 127 = .ok (.imul, 1) := by decide +kernel
theorem dX7_copy_128 : decode cX7_copy 128 = .ok (.iload_n 2, 1) := by decide +kernel
theorem dX7_copy_129 : decode cX7_copy 129 = .ok (.iadd, 1) := by decide +kernel
theorem dX7_copy_130 : decode cX7_copy 130 = .ok (.iload 6, 2) := by decide +kernel
theorem dX7_copy_132 : decode cX7_copy 132 = .ok (.iadd, 1) := by decide +kernel
theorem dX7_copy_133 : decode cX7_copy 133 = .ok (.iaload, 1) := by decide +kernel
theorem dX7_copy_134 : decode cX7_copy 134 = .ok (.iastore, 1) := by decide +kernel
theorem dX7_copy_135 : decode cX7_copy 135 = .ok (.iinc 6 1, 3) := by decide +kernel
theorem dX7_copy_138 : decode cX7_copy 138 = .ok (.goto (-31), 3) := by decide +kernel
theorem dX7_copy_141 : decode cX7_copy 141 = .ok (.iconst 0, 1) := by decide +kernel
theorem dX7_copy_142 : decode cX7_copy 142 = .ok (.istore 6, 2) := by decide +kernel
theorem dX7_copy_144 : decode cX7_copy 144 = .ok (.iload 6, 2) := by decide +kernel
theorem dX7_copy_146 : decode cX7_copy 146 = .ok (.iload 5, 2) := by decide +kernel
theorem dX7_copy_148 : decode cX7_copy 148 = .ok (.if_icmp .ge 31, 3) := by decide +kernel
theorem dX7_copy_151 : decode cX7_copy 151 = .ok (.aload_n 0, 1) := by decide +kernel
theorem dX7_copy_152 : decode cX7_copy 152 = .ok (.getfield 63, 3) := by decide +kernel
theorem dX7_copy_155 : decode cX7_copy 155 = .ok (.bipush 60, 2) := by decide +kernel
theorem dX7_copy_157 : decode cX7_copy 157 = .ok (.iload_n 3, 1) := by decide +kernel
theorem dX7_copy_158 : decode cX7_copy 158 = .ok (.imul, 1) := by decide +kernel
theorem dX7_copy_159 : decode cX7_copy 159 = .ok (.iload 4, 2) := by decide +kernel
theorem dX7_copy_161 : decode cX7_copy 161 = .ok (.iadd, 1) := by decide +kernel
theorem dX7_copy_162 : decode cX7_copy 162 = .ok (.iload 6, 2) := by decide +kernel
theorem dX7_copy_164 : decode cX7_copy 164 = .ok (.iadd, 1) := by decide +kernel
theorem dX7_copy_165 : decode cX7_copy 165 = .ok (.aload_n 0, 1) := by decide +kernel
theorem dX7_copy_166 : decode cX7_copy 166 = .ok (.getfield 66, 3) := by decide +kernel
theorem dX7_copy_169 : decode cX7_copy 169 = .ok (.iload 6, 2) := by decide +kernel
theorem dX7_copy_171 : decode cX7_copy 171 = .ok (.iaload, 1) := by decide +kernel
theorem dX7_copy_172 : decode cX7_copy 172 = .ok (.iastore, 1) := by decide +kernel
theorem dX7_copy_173 : decode cX7_copy 173 = .ok (.iinc 6 1, 3) := by decide +kernel
theorem dX7_copy_176 : decode cX7_copy 176 = .ok (.goto (-32), 3) := by decide +kernel
theorem dX7_copy_179 : decode cX7_copy 179 = .ok (.aload_n 0, 1) := by decide +kernel
theorem dX7_copy_180 : decode cX7_copy 180 = .ok (.iload 5, 2) := by decide +kernel
theorem dX7_copy_182 : decode cX7_copy 182 = .ok (.invokevirtual 125, 3) := by decide +kernel
theorem dX7_copy_185 : decode cX7_copy 185 = .ok (.ireturn, 1) := by decide +kernel
theorem dX7_traced_0 : decode cX7_traced 0 = .ok (.aload_n 0, 1) := by decide +kernel
theorem dX7_traced_1 : decode cX7_traced 1 = .ok (.bipush 31, 2) := by decide +kernel
theorem dX7_traced_3 : decode cX7_traced 3 = .ok (.aload_n 0, 1) := by decide +kernel
theorem dX7_traced_4 : decode cX7_traced 4 = .ok (.getfield 224, 3) := by decide +kernel
theorem dX7_traced_7 : decode cX7_traced 7 = .ok (.imul, 1) := by decide +kernel
theorem dX7_traced_8 : decode cX7_traced 8 = .ok (.iload_n 1, 1) := by decide +kernel
theorem dX7_traced_9 : decode cX7_traced 9 = .ok (.iadd, 1) := by decide +kernel
theorem dX7_traced_10 : decode cX7_traced 10 = .ok (.putfield 224, 3) := by decide +kernel
theorem dX7_traced_13 : decode cX7_traced 13 = .ok (.return_, 1) := by decide +kernel
set_option maxRecDepth 20000 in
theorem ggX7_tell_X7_noSubject : GoodIn wsX7_tell wsX7_noSubject := goodIn_r _ [7, 8, 9, 10, 6, 11, 17, 18, 19, 20, 21, 22, 23, 24, 25, 26, 27, 28, 29, 30, 31, 32, 33, 34, 35, 36, 37, 38, 39, 40, 41, 42, 43, 44, 45, 46] (by decide +kernel) (by decide +kernel)
set_option maxRecDepth 20000 in
theorem gX7_tell_X7_noSubject : GoodIn wsX7_tell (wsV RX7 152 RX7 yX7_noSubject wsX7_noSubject) := goodIn_app (goodIn_of _ (by decide +kernel)) ggX7_tell_X7_noSubject
set_option maxRecDepth 20000 in
theorem ggX7_tell_X7_traced : GoodIn wsX7_tell wsX7_traced := goodIn_r _ [15, 16, 17, 18, 19, 20, 21, 22, 23, 24, 25, 26, 27, 28, 29, 30, 31, 32, 33, 34, 35, 36, 37, 38, 39, 40, 41, 42, 43, 44, 45, 46] (by decide +kernel) (by decide +kernel)
set_option maxRecDepth 20000 in
theorem gX7_tell_X7_traced : GoodIn wsX7_tell (wsV RX7 227 RX7 yX7_traced wsX7_traced) := goodIn_app (goodIn_of _ (by decide +kernel)) ggX7_tell_X7_traced
theorem dX7_tell_0 : decode cX7_tell 0 = .ok (.aload_n 0, 1) := by decide +kernel
theorem dX7_tell_1 : decode cX7_tell 1 = .ok (.iload_n 1, 1) := by decide +kernel
theorem dX7_tell_2 : decode cX7_tell 2 = .ok (.invokevirtual 152, 3) := by decide +kernel
theorem dX7_tell_5 : decode cX7_tell 5 = .ok (.ifCond .eq 5, 3) := by decide +kernel
theorem dX7_tell_8 : decode cX7_tell 8 = .ok (.iconst (-1), 1) := by decide +kernel
theorem dX7_tell_9 : decode cX7_tell 9 = .ok (.ireturn, 1) := by decide +kernel
theorem dX7_tell_10 : decode cX7_tell 10 = .ok (.aload_n 0, 1) := by decide +kernel
theorem dX7_tell_11 : decode cX7_tell 11 = .ok (.getfield 19, 3) := by decide +kernel
theorem dX7_tell_14 : decode cX7_tell 14 = .ok (.iload_n 1, 1) := by decide +kernel
theorem dX7_tell_15 : decode cX7_tell 15 = .ok (.iaload, 1) := by decide +kernel
theorem dX7_tell_16 : decode cX7_tell 16 = .ok (.istore_n 2, 1) := by decide +kernel
theorem dX7_tell_17 : decode cX7_tell 17 = .ok (.iload_n 2, 1) := by decide +kernel
theorem dX7_tell_18 : decode cX7_tell 18 = .ok (.iconst 2, 1) := by decide +kernel
theorem dX7_tell_19 : decode cX7_tell 19 = .ok (.if_icmp .ne 8, 3) := by decide +kernel
theorem dX7_tell_22 : decode cX7_tell 22 = .ok (.aload_n 0, 1) := by decide +kernel
theorem dX7_tell_23 : decode cX7_tell 23 = .ok (.iconst 3, 1) := by decide +kernel
theorem dX7_tell_24 : decode cX7_tell 24 = .ok (.invokevirtual 227, 3) := by decide +kernel
theorem dX7_tell_27 : decode cX7_tell 27 = .ok (.iload_n 2, 1) := by decide +kernel
theorem dX7_tell_28 : decode cX7_tell 28 = .ok (.ifCond .le 8, 3) := by decide +kernel
theorem dX7_tell_31 : decode cX7_tell 31 = .ok (.aload_n 0, 1) := by decide +kernel
theorem dX7_tell_32 : decode cX7_tell 32 = .ok (.iconst 2, 1) := by decide +kernel
theorem dX7_tell_33 : decode cX7_tell 33 = .ok (.invokevirtual 227, 3) := by decide +kernel
theorem dX7_tell_36 : decode cX7_tell 36 = .ok (.aload_n 0, 1) := by decide +kernel
theorem dX7_tell_37 : decode cX7_tell 37 = .ok (.iconst 1, 1) := by decide +kernel
theorem dX7_tell_38 : decode cX7_tell 38 = .ok (.invokevirtual 227, 3) := by decide +kernel
theorem dX7_tell_41 : decode cX7_tell 41 = .ok (.iload_n 2, 1) := by decide +kernel
theorem dX7_tell_42 : decode cX7_tell 42 = .ok (.iconst 2, 1) := by decide +kernel
theorem dX7_tell_43 : decode cX7_tell 43 = .ok (.if_icmp .ne 8, 3) := by decide +kernel
theorem dX7_tell_46 : decode cX7_tell 46 = .ok (.aload_n 0, 1) := by decide +kernel
theorem dX7_tell_47 : decode cX7_tell 47 = .ok (.iconst 1, 1) := by decide +kernel
theorem dX7_tell_48 : decode cX7_tell 48 = .ok (.invokevirtual 227, 3) := by decide +kernel
theorem dX7_tell_51 : decode cX7_tell 51 = .ok (.aload_n 0, 1) := by decide +kernel
theorem dX7_tell_52 : decode cX7_tell 52 = .ok (.getfield 22, 3) := by decide +kernel
theorem dX7_tell_55 : decode cX7_tell 55 = .ok (.iload_n 1, 1) := by decide +kernel
theorem dX7_tell_56 : decode cX7_tell 56 = .ok (.iaload, 1) := by decide +kernel
theorem dX7_tell_57 : decode cX7_tell 57 = .ok (.istore_n 3, 1) := by decide +kernel
theorem dX7_tell_58 : decode cX7_tell 58 = .ok (.iload_n 2, 1) := by decide +kernel
theorem dX7_tell_59 : decode cX7_tell 59 = .ok (.ifCond .ne 7, 3) := by decide +kernel
theorem dX7_tell_62 : decode cX7_tell 62 = .ok (.iload_n 3, 1) := by decide +kernel
theorem dX7_tell_63 : decode cX7_tell 63 = .ok (.goto 21, 3) := by decide +kernel
theorem dX7_tell_66 : decode cX7_tell 66 = .ok (.iload_n 2, 1) := by decide +kernel
theorem dX7_tell_67 : decode cX7_tell 67 = .ok (.iconst 1, 1) := by decide +kernel
theorem dX7_tell_68 : decode cX7_tell 68 = .ok (.if_icmp .ne 10, 3) := by decide +kernel
theorem dX7_tell_71 : decode cX7_tell 71 = .ok (.iload_n 3, 1) := by decide +kernel
theorem dX7_tell_72 : decode cX7_tell 72 = .ok (.bipush 100, 2) := by decide +kernel
theorem dX7_tell_74 : decode cX7_tell 74 = .ok (.iadd, 1) := by decide +kernel
theorem dX7_tell_75 : decode cX7_tell 75 = .ok (.goto 9, 3) := by decide +kernel
theorem dX7_tell_78 : decode cX7_tell 78 = .ok (.iconst 2, 1) := by decide +kernel
theorem dX7_tell_79 : decode cX7_tell 79 = .ok (.iload_n 3, 1) := by decide +kernel
theorem dX7_tell_80 : decode cX7_tell 80 = .ok (.imul, 1) := by decide +kernel
theorem dX7_tell_81 : decode cX7_tell 81 = .ok (.bipush 100, 2) := by decide +kernel
theorem dX7_tell_83 : decode cX7_tell 83 = .ok (.iadd, 1) := by decide +kernel
theorem dX7_tell_84 : decode cX7_tell 84 = .ok (.ireturn, 1) := by decide +kernel
set_option maxRecDepth 20000 in
theorem ggX7_name_X7_noSubject : GoodIn wsX7_name wsX7_noSubject := goodIn_r _ [6, 7, 8, 9, 5, 10, 16, 17, 18, 19, 20, 21, 22, 23, 24, 25, 26, 27, 28, 29, 30, 31, 32, 33, 34, 35, 36, 37, 38, 39, 40, 41, 42, 43, 44, 45] (by decide +kernel) (by decide +kernel)
set_option maxRecDepth 20000 in
theorem gX7_name_X7_noSubject : GoodIn wsX7_name (wsV RX7 152 RX7 yX7_noSubject wsX7_noSubject) := goodIn_app (goodIn_of _ (by decide +kernel)) ggX7_name_X7_noSubject
set_option maxRecDepth 20000 in
theorem ggX7_name_X7_traced : GoodIn wsX7_name wsX7_traced := goodIn_r _ [14, 15, 16, 17, 18, 19, 20, 21, 22, 23, 24, 25, 26, 27, 28, 29, 30, 31, 32, 33, 34, 35, 36, 37, 38, 39, 40, 41, 42, 43, 44, 45] (by decide +kernel) (by decide +kernel)
set_option maxRecDepth 20000 in
theorem gX7_name_X7_traced : GoodIn wsX7_name (wsV RX7 227 RX7 yX7_traced wsX7_traced) := goodIn_app (goodIn_of _ (by decide +kernel)) ggX7_name_X7_traced
theorem dX7_name_0 : decode cX7_name 0 = .ok (.aload_n 0, 1) := by decide +kernel
theorem dX7_name_1 : decode cX7_name 1 = .ok (.iload_n 1, 1) := by decide +kernel
theorem dX7_name_2 : decode cX7_name 2 = .ok (.invokevirtual 152, 3) := by decide +kernel
theorem dX7_name_5 : decode cX7_name 5 = .ok (.ifCond .eq 5, 3) := by decide +kernel
theorem dX7_name_8 : decode cX7_name 8 = .ok (.iconst (-1), 1) := by decide +kernel
theorem dX7_name_9 : decode cX7_name 9 = .ok (.ireturn, 1) := by decide +kernel
theorem dX7_name_10 : decode cX7_name 10 = .ok (.aload_n 0, 1) := by decide +kernel
theorem dX7_name_11 : decode cX7_name 11 = .ok (.aload_n 0, 1) := by decide +kernel
theorem dX7_name_12 : decode cX7_name 12 = .ok (.getfield 19, 3) := by decide +kernel
theorem dX7_name_15 : decode cX7_name 15 = .ok (.iload_n 1, 1) := by decide +kernel
theorem dX7_name_16 : decode cX7_name 16 = .ok (.iaload, 1) := by decide +kernel
theorem dX7_name_17 : decode cX7_name 17 = .ok (.iconst 2, 1) := by decide +kernel
theorem dX7_name_18 : decode cX7_name 18 = .ok (.if_icmp .ne 7, 3) := by decide +kernel
theorem dX7_name_21 : decode cX7_name 21 = .ok (.iconst 5, 1) := by decide +kernel
theorem dX7_name_22 : decode cX7_name 22 = .ok (.goto 4, 3) := by decide +kernel
theorem dX7_name_25 : decode cX7_name 25 = .ok (.iconst 4, 1) := by decide +kernel
theorem dX7_name_26 : decode cX7_name 26 = .ok (.invokevirtual 227, 3) := by decide +kernel
theorem dX7_name_29 : decode cX7_name 29 = .ok (.aload_n 0, 1) := by decide +kernel
theorem dX7_name_30 : decode cX7_name 30 = .ok (.getfield 19, 3) := by decide +kernel
theorem dX7_name_33 : decode cX7_name 33 = .ok (.iload_n 1, 1) := by decide +kernel
theorem dX7_name_34 : decode cX7_name 34 = .ok (.iaload, 1) := by decide +kernel
theorem dX7_name_35 : decode cX7_name 35 = .ok (.iconst 2, 1) := by decide +kernel
theorem dX7_name_36 : decode cX7_name 36 = .ok (.if_icmp .ne 8, 3) := by decide +kernel
theorem dX7_name_39 : decode cX7_name 39 = .ok (.bipush 70, 2) := by decide +kernel
theorem dX7_name_41 : decode cX7_name 41 = .ok (.goto 4, 3) := by decide +kernel
theorem dX7_name_44 : decode cX7_name 44 = .ok (.iload_n 1, 1) := by decide +kernel
theorem dX7_name_45 : decode cX7_name 45 = .ok (.ireturn, 1) := by decide +kernel
set_option maxRecDepth 20000 in
theorem ggX7_as_X7_noSubject : GoodIn wsX7_as wsX7_noSubject := goodIn_r _ [7, 8, 9, 10, 6, 11, 21, 22, 23, 24, 25, 26, 27, 28, 29, 30, 31, 32, 33, 34, 35, 36, 37, 38, 39, 40, 41, 42, 43, 44, 45, 46, 47, 48, 49, 50] (by decide +kernel) (by decide +kernel)
set_option maxRecDepth 20000 in
theorem gX7_as_X7_noSubject : GoodIn wsX7_as (wsV RX7 152 RX7 yX7_noSubject wsX7_noSubject) := goodIn_app (goodIn_of _ (by decide +kernel)) ggX7_as_X7_noSubject
set_option maxRecDepth 20000 in
theorem ggX7_as_X7_refused : GoodIn wsX7_as wsX7_refused := goodIn_r _ [15, 16, 21, 22, 23, 24, 25, 26, 27, 28, 29, 30, 31, 32, 33, 34, 35, 36, 37, 38, 39, 40, 41, 42, 43, 44, 45, 46, 47, 48, 49, 50] (by decide +kernel) (by decide +kernel)
set_option maxRecDepth 20000 in
theorem gX7_as_X7_refused : GoodIn wsX7_as (wsV RX7 125 RX7 yX7_refused wsX7_refused) := goodIn_app (goodIn_of _ (by decide +kernel)) ggX7_as_X7_refused
set_option maxRecDepth 20000 in
theorem ggX7_as_X7_in : GoodIn wsX7_as wsX7_in := goodIn_r _ [11] (by decide +kernel) (by decide +kernel)
set_option maxRecDepth 20000 in
theorem gX7_as_X7_in : GoodIn wsX7_as (va_wsS RX7 82 yX7_in wsX7_in) := goodIn_app (goodIn_of _ (by decide +kernel)) ggX7_as_X7_in
set_option maxRecDepth 20000 in
theorem ggX7_as_X7_failed : GoodIn wsX7_as wsX7_failed := goodIn_r _ [20, 16, 21, 22, 23, 24, 25, 26, 27, 28, 29, 30, 31, 32, 33, 34, 35, 36, 37, 38, 39, 40, 41, 42, 43, 44, 45, 46, 47, 48, 49, 50] (by decide +kernel) (by decide +kernel)
set_option maxRecDepth 20000 in
theorem gX7_as_X7_failed : GoodIn wsX7_as (wsV RX7 113 RX7 yX7_failed wsX7_failed) := goodIn_app (goodIn_of _ (by decide +kernel)) ggX7_as_X7_failed
theorem dX7_as_0 : decode cX7_as 0 = .ok (.aload_n 0, 1) := by decide +kernel
theorem dX7_as_1 : decode cX7_as 1 = .ok (.iload_n 1, 1) := by decide +kernel
theorem dX7_as_2 : decode cX7_as 2 = .ok (.invokevirtual 152, 3) := by decide +kernel
theorem dX7_as_5 : decode cX7_as 5 = .ok (.ifCond .eq 9, 3) := by decide +kernel
theorem dX7_as_8 : decode cX7_as 8 = .ok (.aload_n 0, 1) := by decide +kernel
theorem dX7_as_9 : decode cX7_as 9 = .ok (.iconst (-1), 1) := by decide +kernel
theorem dX7_as_10 : decode cX7_as 10 = .ok (.invokevirtual 125, 3) := by decide +kernel
theorem dX7_as_13 : decode cX7_as 13 = .ok (.ireturn, 1) := by decide +kernel
theorem dX7_as_14 : decode cX7_as 14 = .ok (.iload_n 2, 1) := by decide +kernel
theorem dX7_as_15 : decode cX7_as 15 = .ok (.i2l, 1) := by decide +kernel
theorem dX7_as_16 : decode cX7_as 16 = .ok (.lconst 0, 1) := by decide +kernel
theorem dX7_as_17 : decode cX7_as 17 = .ok (.ldc2_w 128, 3) := by decide +kernel
theorem dX7_as_20 : decode cX7_as 20 = .ok (.invokestatic 82, 3) := by decide +kernel
theorem dX7_as_23 : decode cX7_as 23 = .ok (.ifCond .ne 10, 3) := by decide +kernel
theorem dX7_as_26 : decode cX7_as 26 = .ok (.aload_n 0, 1) := by decide +kernel
theorem dX7_as_27 : decode cX7_as 27 = .ok (.bipush (-2), 2) := by decide +kernel
theorem dX7_as_29 : decode cX7_as 29 = .ok (.invokevirtual 125, 3) := by decide +kernel
theorem dX7_as_32 : decode cX7_as 32 = .ok (.ireturn, 1) := by decide +kernel
theorem dX7_as_33 : decode cX7_as 33 = .ok (.aload_n 0, 1) := by decide +kernel
theorem dX7_as_34 : decode cX7_as 34 = .ok (.getfield 19, 3) := by decide +kernel
theorem dX7_as_37 : decode cX7_as 37 = .ok (.iload_n 1, 1) := by decide +kernel
theorem dX7_as_38 : decode cX7_as 38 = .ok (.iaload, 1) := by decide +kernel
theorem dX7_as_39 : decode cX7_as 39 = .ok (.iload_n 2, 1) := by decide +kernel
theorem dX7_as_40 : decode cX7_as 40 = .ok (.if_icmp .lt 11, 3) := by decide +kernel
theorem dX7_as_43 : decode cX7_as 43 = .ok (.aload_n 0, 1) := by decide +kernel
theorem dX7_as_44 : decode cX7_as 44 = .ok (.iconst 1, 1) := by decide +kernel
theorem dX7_as_45 : decode cX7_as 45 = .ok (.invokevirtual 125, 3) := by decide +kernel
theorem dX7_as_48 : decode cX7_as 48 = .ok (.goto 8, 3) := by decide +kernel
theorem dX7_as_51 : decode cX7_as 51 = .ok (.aload_n 0, 1) := by decide +kernel
theorem dX7_as_52 : decode cX7_as 52 = .ok (.iconst 2, 1) := by decide +kernel
theorem dX7_as_53 : decode cX7_as 53 = .ok (.invokevirtual 113, 3) := by decide +kernel
theorem dX7_as_56 : decode cX7_as 56 = .ok (.ireturn, 1) := by decide +kernel
theorem dX7_trace_0 : decode cX7_trace 0 = .ok (.aload_n 0, 1) := by decide +kernel
theorem dX7_trace_1 : decode cX7_trace 1 = .ok (.getfield 224, 3) := by decide +kernel
theorem dX7_trace_4 : decode cX7_trace 4 = .ok (.ireturn, 1) := by decide +kernel
theorem dX7_fault_0 : decode cX7_fault 0 = .ok (.aload_n 0, 1) := by decide +kernel
theorem dX7_fault_1 : decode cX7_fault 1 = .ok (.getfield 71, 3) := by decide +kernel
theorem dX7_fault_4 : decode cX7_fault 4 = .ok (.ireturn, 1) := by decide +kernel
theorem dX7_papersNow_0 : decode cX7_papersNow 0 = .ok (.iconst 0, 1) := by decide +kernel
theorem dX7_papersNow_1 : decode cX7_papersNow 1 = .ok (.istore_n 1, 1) := by decide +kernel
theorem dX7_papersNow_2 : decode cX7_papersNow 2 = .ok (.iconst 0, 1) := by decide +kernel
theorem dX7_papersNow_3 : decode cX7_papersNow 3 = .ok (.istore_n 2, 1) := by decide +kernel
theorem dX7_papersNow_4 : decode cX7_papersNow 4 = .ok (.iload_n 2, 1) := by decide +kernel
theorem dX7_papersNow_5 : decode cX7_papersNow 5 = .ok (.aload_n 0, 1) := by decide +kernel
theorem dX7_papersNow_6 : decode cX7_papersNow 6 = .ok (.getfield 86, 3) := by decide +kernel
theorem dX7_papersNow_9 : decode cX7_papersNow 9 = .ok (.if_icmp .ge 18, 3) := by decide +kernel
theorem dX7_papersNow_12 : decode cX7_papersNow 12 = .ok (.iload_n 1, 1) := by decide +kernel
theorem dX7_papersNow_13 : decode cX7_papersNow 13 = .ok (.aload_n 0, 1) := by decide +kernel
theorem dX7_papersNow_14 : decode cX7_papersNow 14 = .ok (.getfield 22, 3) := by decide +kernel
theorem dX7_papersNow_17 : decode cX7_papersNow 17 = .ok (.iload_n 2, 1) := by decide +kernel
theorem dX7_papersNow_18 : decode cX7_papersNow 18 = .ok (.iaload, 1) := by decide +kernel
theorem dX7_papersNow_19 : decode cX7_papersNow 19 = .ok (.iadd, 1) := by decide +kernel
theorem dX7_papersNow_20 : decode cX7_papersNow 20 = .ok (.istore_n 1, 1) := by decide +kernel
theorem dX7_papersNow_21 : decode cX7_papersNow 21 = .ok (.iinc 2 1, 3) := by decide +kernel
theorem dX7_papersNow_24 : decode cX7_papersNow 24 = .ok (.goto (-20), 3) := by decide +kernel
theorem dX7_papersNow_27 : decode cX7_papersNow 27 = .ok (.iload_n 1, 1) := by decide +kernel
theorem dX7_papersNow_28 : decode cX7_papersNow 28 = .ok (.ireturn, 1) := by decide +kernel
set_option maxRecDepth 20000 in
theorem ggX7_many_X7_papersNow : GoodIn wsX7_many wsX7_papersNow := goodIn_r _ [8, 1, 9, 10, 11, 12, 13, 14, 15, 16, 17, 18, 19, 20, 21, 22, 23, 24, 25, 26, 27, 28, 29, 30, 31, 32, 33, 34, 35, 36, 37, 38, 39] (by decide +kernel) (by decide +kernel)
set_option maxRecDepth 20000 in
theorem gX7_many_X7_papersNow : GoodIn wsX7_many (wsV RX7 231 RX7 yX7_papersNow wsX7_papersNow) := goodIn_app (goodIn_of _ (by decide +kernel)) ggX7_many_X7_papersNow
theorem dX7_many_0 : decode cX7_many 0 = .ok (.iload_n 1, 1) := by decide +kernel
theorem dX7_many_1 : decode cX7_many 1 = .ok (.tableswitch 51 0 3 #[31, 36, 41, 46], 31) := by decide +kernel
theorem dX7_many_32 : decode cX7_many 32 = .ok (.aload_n 0, 1) := by decide +kernel
theorem dX7_many_33 : decode cX7_many 33 = .ok (.getfield 86, 3) := by decide +kernel
theorem dX7_many_36 : decode cX7_many 36 = .ok (.ireturn, 1) := by decide +kernel
theorem dX7_many_37 : decode cX7_many 37 = .ok (.aload_n 0, 1) := by decide +kernel
theorem dX7_many_38 : decode cX7_many 38 = .ok (.getfield 79, 3) := by decide +kernel
theorem dX7_many_41 : decode cX7_many 41 = .ok (.ireturn, 1) := by decide +kernel
theorem dX7_many_42 : decode cX7_many 42 = .ok (.aload_n 0, 1) := by decide +kernel
theorem dX7_many_43 : decode cX7_many 43 = .ok (.invokevirtual 231, 3) := by decide +kernel
theorem dX7_many_46 : decode cX7_many 46 = .ok (.ireturn, 1) := by decide +kernel
theorem dX7_many_47 : decode cX7_many 47 = .ok (.aload_n 0, 1) := by decide +kernel
theorem dX7_many_48 : decode cX7_many 48 = .ok (.getfield 137, 3) := by decide +kernel
theorem dX7_many_51 : decode cX7_many 51 = .ok (.ireturn, 1) := by decide +kernel
theorem dX7_many_52 : decode cX7_many 52 = .ok (.bipush (-2), 2) := by decide +kernel
theorem dX7_many_54 : decode cX7_many 54 = .ok (.ireturn, 1) := by decide +kernel
end
section
/-! numbered worlds: the cells 0 .. N-1 lie at the addresses ad and hold w -/
def wl (ad : Nat → Nat) (N : Nat) (w : Nat → va_E) : va_W := (List.range N).map (fun n => (ad n, w n))
theorem wl_get {ad : Nat → Nat} {N n : Nat} {w : Nat → va_E} (h : n < N) : (wl ad N w)[n]? = some (ad n, w n) := by
  simp [wl, h]
theorem wl_of {ad : Nat → Nat} {N n : Nat} {w : Nat → va_E} {q : Nat × va_E} (h : (wl ad N w)[n]? = some q) : n < N ∧ q = (ad n, w n) := by
  by_cases hn : n < N
  · rw [wl_get hn] at h
    exact ⟨hn, (Option.some.inj h).symm⟩
  · simp [wl, hn] at h
theorem wl_set {ad : Nat → Nat} {N n : Nat} {w : Nat → va_E} {e : va_E} (h : n < N) : (wl ad N w).set n (ad n, e) = wl ad N (va_up w n e) := by
  apply List.ext_getElem?
  intro j
  by_cases hj : j < N
  · by_cases e1 : j = n
    · subst e1
      rw [List.getElem?_set_self (by simp [wl, h]), wl_get hj]
      simp [va_up]
    · rw [List.getElem?_set_ne (fun z => e1 z.symm), wl_get hj, wl_get hj]
      simp [va_up, e1]
  · simp [wl, hj]
theorem wl_D {A : Nat → Prop} {ad : Nat → Nat} {N : Nat} {w : Nat → va_E} (h : va_D A (wl ad N w)) (w2 : Nat → va_E) : va_D A (wl ad N w2) := by
  refine ⟨fun i j p q hi hj hpq => ?_, fun k q hk => ?_⟩
  · obtain ⟨h1, rfl⟩ := wl_of hi
    obtain ⟨h2, rfl⟩ := wl_of hj
    exact h.1 i j _ _ (wl_get h1) (wl_get h2) hpq
  · obtain ⟨h1, rfl⟩ := wl_of hk
    exact h.2 k (ad k, w k) (wl_get h1)
/-- a cell's shape: an object (class, its fields: a fixed cell, or an int), or a row (kind, length, which cells it holds) -/
abbrev vSh : Type := (Nat × List (Option Nat)) ⊕ (Nat × Nat × (Nat → Nat))
def vFs (ad : Nat → Nat) (f : Nat → Int32) : Nat → List (Option Nat) → List Value
  | _, [] => []
  | j, some r :: t => .ref (ad r) :: vFs ad f (j + 1) t
  | j, none :: t => .int (f j) :: vFs ad f (j + 1) t
theorem vFs_len {ad : Nat → Nat} {f : Nat → Int32} : ∀ (fl : List (Option Nat)) (j : Nat), (vFs ad f j fl).length = fl.length
  | [], _ => rfl
  | some r :: t, j => by simp [vFs, vFs_len t (j + 1)]
  | none :: t, j => by simp [vFs, vFs_len t (j + 1)]
theorem vFs_r {ad : Nat → Nat} {f : Nat → Int32} : ∀ (fl : List (Option Nat)) (j k r : Nat), fl[k]? = some (some r) → (vFs ad f j fl)[k]? = some (.ref (ad r))
  | [], _, _, _, h => by simp at h
  | some r :: t, j, 0, r2, h => by simp at h; simp [vFs, h]
  | none :: t, j, 0, r2, h => by simp at h
  | some r :: t, j, k + 1, r2, h => by simp at h; simp [vFs, vFs_r t (j + 1) k r2 h]
  | none :: t, j, k + 1, r2, h => by simp at h; simp [vFs, vFs_r t (j + 1) k r2 h]
theorem vFs_i {ad : Nat → Nat} {f : Nat → Int32} : ∀ (fl : List (Option Nat)) (j k : Nat), fl[k]? = some none → (vFs ad f j fl)[k]? = some (.int (f (j + k)))
  | [], _, _, h => by simp at h
  | some r :: t, j, 0, h => by simp at h
  | none :: t, j, 0, h => by simp [vFs]
  | some r :: t, j, k + 1, h => by simp at h; simp [vFs, vFs_i t (j + 1) k h]; congr 1; omega
  | none :: t, j, k + 1, h => by simp at h; simp [vFs, vFs_i t (j + 1) k h]; congr 1; omega
theorem vFs_eq {ad : Nat → Nat} {f g : Nat → Int32} : ∀ (fl : List (Option Nat)) (j : Nat), (∀ k, j ≤ k → f k = g k) → vFs ad f j fl = vFs ad g j fl
  | [], _, _ => rfl
  | some r :: t, j, h => by simp only [vFs]; rw [vFs_eq t (j + 1) (fun k hk => h k (by omega))]
  | none :: t, j, h => by simp only [vFs]; rw [vFs_eq t (j + 1) (fun k hk => h k (by omega)), h j (Nat.le_refl j)]
theorem vFs_set {ad : Nat → Nat} {f : Nat → Int32} {v : Int32} : ∀ (fl : List (Option Nat)) (j k : Nat), fl[k]? = some none → (vFs ad f j fl).set k (.int v) = vFs ad (upd f (j + k) v) j fl
  | [], _, _, h => by simp at h
  | some r :: t, j, 0, h => by simp at h
  | none :: t, j, 0, h => by
    simp only [vFs, List.set_cons_zero, Nat.add_zero]
    rw [vFs_eq (f := upd f j v) (g := f) t (j + 1) (fun k hk => by simp [upd]; intro h9; omega)]
    simp [upd]
  | some r :: t, j, k + 1, h => by
    simp at h
    simp only [vFs, List.set_cons_succ]
    rw [vFs_set t (j + 1) k h, show j + 1 + k = j + (k + 1) by omega]
  | none :: t, j, k + 1, h => by
    simp at h
    simp only [vFs, List.set_cons_succ]
    rw [vFs_set t (j + 1) k h, show j + 1 + k = j + (k + 1) by omega]
    congr 2
    simp [upd]
abbrev vSg : Type := Nat → Nat → Int32
abbrev vTa : Type := Nat → Nat → Int64
def vE (cs : Nat → ClassId) (ad : Nat → Nat) (σ : vSg) (τ : vTa) (n : Nat) (sh : vSh) : va_E := match sh with
  | .inl (ci, fl) => .inr (ci, vFs ad (σ n) 0 fl)
  | .inr (k, len, g) => .inl (cs k, len, if k = 2 then .inr (.inl (τ n)) else if k < 2 then .inl (σ n) else .inr (.inr (.inr (.inr (fun i => if i < len then some (ad (g i)) else none)))))
def vW (cs : Nat → ClassId) (ad : Nat → Nat) (sh : Nat → vSh) (σ : vSg) (τ : vTa) : Nat → va_E := fun n => vE cs ad σ τ n (sh n)
def up2 {α : Type} (σ : Nat → Nat → α) (n j : Nat) (v : α) : Nat → Nat → α := fun a b => if a = n ∧ b = j then v else σ a b
/-- a row of the store, whole -/
def upR {α : Type} (σ : Nat → Nat → α) (n : Nat) (f : Nat → α) : Nat → Nat → α := fun a b => if a = n then f b else σ a b
theorem up2_self {α : Type} {σ : Nat → Nat → α} {n j : Nat} {v : α} : up2 σ n j v n j = v := by simp [up2]
theorem up2_ne {α : Type} {σ : Nat → Nat → α} {n j a b : Nat} {v : α} (h : ¬ (a = n ∧ b = j)) : up2 σ n j v a b = σ a b := by simp only [up2, if_neg h]
theorem up2_row {α : Type} {σ : Nat → Nat → α} {n j a : Nat} {v : α} (h : a ≠ n) : up2 σ n j v a = σ a := by funext b; simp [up2, h]
theorem up2_upd {σ : vSg} {n j : Nat} {v : Int32} : up2 σ n j v n = upd (σ n) j v := by funext b; simp [up2, upd]
theorem up2_updL {σ : vTa} {n j : Nat} {v : Int64} : up2 σ n j v n = vp_updL (σ n) j v := by funext b; simp [up2, vp_updL]
theorem vE_eq {cs : Nat → ClassId} {ad : Nat → Nat} {σ σ2 : vSg} {τ τ2 : vTa} {n : Nat} {sh : vSh} (h1 : σ2 n = σ n) (h2 : τ2 n = τ n) : vE cs ad σ2 τ2 n sh = vE cs ad σ τ n sh := by
  unfold vE; rw [h1, h2]
theorem vW_puti {cs : Nat → ClassId} {ad : Nat → Nat} {sh : Nat → vSh} {σ : vSg} {τ : vTa} {n ci j : Nat} {fl : List (Option Nat)} {v : Int32} (hs : sh n = .inl (ci, fl)) (hj : fl[j]? = some none) : va_up (vW cs ad sh σ τ) n (.inr (ci, (vFs ad (σ n) 0 fl).set j (.int v))) = vW cs ad sh (up2 σ n j v) τ := by
  funext a
  by_cases h : a = n
  · subst h
    simp only [va_up, if_true, vW, hs, vE]
    rw [vFs_set fl 0 j hj, Nat.zero_add, up2_upd]
  · simp only [va_up, if_neg h, vW]
    exact (vE_eq (up2_row h) rfl).symm
theorem vW_puta {cs : Nat → ClassId} {ad : Nat → Nat} {sh : Nat → vSh} {σ : vSg} {τ : vTa} {n k len : Nat} {g : Nat → Nat} {f : Nat → Int32} (hs : sh n = .inr (k, len, g)) (hk : k < 2) : va_up (vW cs ad sh σ τ) n (.inl (cs k, len, .inl f)) = vW cs ad sh (upR σ n f) τ := by
  funext a
  by_cases h : a = n
  · subst h
    simp only [va_up, if_true, vW, hs, vE, if_neg (show ¬ k = 2 by omega), if_pos hk]
    have : upR σ a f a = f := by funext b; simp [upR]
    rw [this]
  · simp only [va_up, if_neg h, vW]
    exact (vE_eq (by funext b; simp [upR, h]) rfl).symm
theorem upR_upd {σ : vSg} {n j : Nat} {v : Int32} : upR σ n (upd (σ n) j v) = up2 σ n j v := by
  funext a b
  by_cases h : a = n
  · subst h; simp [upR, up2, upd]
  · simp [upR, up2, h]
theorem vW_putl {cs : Nat → ClassId} {ad : Nat → Nat} {sh : Nat → vSh} {σ : vSg} {τ : vTa} {n len j : Nat} {g : Nat → Nat} {v : Int64} (hs : sh n = .inr (2, len, g)) : va_up (vW cs ad sh σ τ) n (.inl (cs 2, len, .inr (.inl (vp_updL (τ n) j v)))) = vW cs ad sh σ (up2 τ n j v) := by
  funext a
  by_cases h : a = n
  · subst h
    simp only [va_up, if_true, vW, hs, vE]
    rw [up2_updL]
  · simp only [va_up, if_neg h, vW]
    exact (vE_eq rfl (up2_row h)).symm
def vTy (cs : Nat → ClassId) : List (ClassId × FieldType) := [(cs 0, .int), (cs 1, .boolean), (cs 2, .long), (cs 3, .object "BlankPardons$Row"), (cs 4, .array .int), (cs 5, .array .long)]
abbrev vNs (U : State) : Prop := va_Nw (.methodLinkNest RX2 48 yX6_isBelow RX6) U ∧ va_Nw (.methodLinkNest RX4 39 yX6_isBelow RX6) U
def Cx (p : Program) (m : MethodId) (c : Code) (cc : ByteArray) (nL : Nat) (s : State) (args : Array Value) (Ts : List Cond) (own : String) (D : va_G) (cs : Nat → ClassId) (A : Nat → Prop) (ad : Nat → Nat) (N : Nat) : Prop :=
  CallFix p m c cc nL s args Ts own ∧ va_K D vwCl (vTy cs) s ∧ (∀ w, va_D A (wl ad N w)) ∧ (∀ q, s.heap.size ≤ q → A q) ∧ vNs s
/-- the machine stands at pc, with these locals and this stack, over a heap that holds the world of σ and τ: it comes to Q -/
def Go (p : Program) (l : Launch) (e : Env) (R : Room) (s : State) (m : MethodId) (args : Array Value) (below : List Frame) (meth : Method) (c : Code) (cells slots : Nat) (Q : State → Prop) (D : va_G) (cs : Nat → ClassId) (A : Nat → Prop) (ad : Nat → Nat) (N : Nat) (sh : Nat → vSh) (nL : Nat) (σ : vSg) (τ : vTa) (pc : Nat) (lv : List (Nat × Value)) (st : List Value) : Prop :=
  ∀ (H : Heap) (locs : List Loc) (ls : Array Slot), va_P D vwCl (wl ad N (vW cs ad sh σ τ)) H → va_S A s.heap H locs → lv_has ls nL lv → W p l e R s m args below meth c H locs cells slots Q (F0 m pc ls st)
section GO
variable {p : Program} {l : Launch} {e : Env} {R : Room} {s : State} {m : MethodId} {args : Array Value} {below : List Frame} {meth : Method} {c : Code} {cells slots : Nat} {Q : State → Prop} {D : va_G} {cs : Nat → ClassId} {A : Nat → Prop} {ad : Nat → Nat} {N : Nat} {sh : Nat → vSh} {nL : Nat} {σ : vSg} {τ : vTa} {cc : ByteArray} {Ts : List Cond} {own : String} {pc : Nat} {lv lv2 : List (Nat × Value)} {rest : List Value}

theorem go_iconst (X : Cx p m c cc nL s args Ts own D cs A ad N) {n : Int} {v : Int32} (hdg : decode cc pc = .ok (.iconst n, 1)) (hv : Int32.ofInt n = v) (kk : Go p l e R s m args below meth c cells slots Q D cs A ad N sh nL σ τ (pc + 1) lv (.int v :: rest)) : Go p l e R s m args below meth c cells slots Q D cs A ad N sh nL σ τ (pc) lv (rest) := fun H locs ls hP hS hl => lv_iconst X.1.1 X.1.2.1 hdg hv (kk H locs ls hP hS hl)
theorem go_bipush (X : Cx p m c cc nL s args Ts own D cs A ad N) {n : Int} {v : Int32} (hdg : decode cc pc = .ok (.bipush n, 2)) (hv : (Int8.ofInt n).toInt32 = v) (kk : Go p l e R s m args below meth c cells slots Q D cs A ad N sh nL σ τ (pc + 2) lv (.int v :: rest)) : Go p l e R s m args below meth c cells slots Q D cs A ad N sh nL σ τ (pc) lv (rest) := fun H locs ls hP hS hl => lv_bipush X.1.1 X.1.2.1 hdg hv (kk H locs ls hP hS hl)
theorem go_sipush (X : Cx p m c cc nL s args Ts own D cs A ad N) {n : Int} {v : Int32} (hdg : decode cc pc = .ok (.sipush n, 3)) (hv : (Int16.ofInt n).toInt32 = v) (kk : Go p l e R s m args below meth c cells slots Q D cs A ad N sh nL σ τ (pc + 3) lv (.int v :: rest)) : Go p l e R s m args below meth c cells slots Q D cs A ad N sh nL σ τ (pc) lv (rest) := fun H locs ls hP hS hl => lv_sipush X.1.1 X.1.2.1 hdg hv (kk H locs ls hP hS hl)
theorem go_lconst (X : Cx p m c cc nL s args Ts own D cs A ad N) {n : Fin 2} {v : Int64} (hdg : decode cc pc = .ok (.lconst n, 1)) (hv : Int64.ofNat (n : Nat) = v) (kk : Go p l e R s m args below meth c cells slots Q D cs A ad N sh nL σ τ (pc + 1) lv (.long v :: rest)) : Go p l e R s m args below meth c cells slots Q D cs A ad N sh nL σ τ (pc) lv (rest) := fun H locs ls hP hS hl => lv_lconst X.1.1 X.1.2.1 hdg hv (kk H locs ls hP hS hl)
theorem go_ldc (X : Cx p m c cc nL s args Ts own D cs A ad N) {i : Nat} {v : Int32} (hc : Jvm.Cond.constant own i v ∈ Ts) (hdg : decode cc pc = .ok (.ldc i, 2)) (kk : Go p l e R s m args below meth c cells slots Q D cs A ad N sh nL σ τ (pc + 2) lv (.int v :: rest)) : Go p l e R s m args below meth c cells slots Q D cs A ad N sh nL σ τ (pc) lv (rest) := fun H locs ls hP hS hl => lv_ldc X.1.1 X.1.2.1 X.1.2.2.2.1 (X.1.2.2.2.2 _ hc) hdg (kk H locs ls hP hS hl)
theorem go_ldc2 (X : Cx p m c cc nL s args Ts own D cs A ad N) {i : Nat} {v : Int64} (hc : Jvm.Cond.constantLong own i v ∈ Ts) (hdg : decode cc pc = .ok (.ldc2_w i, 3)) (kk : Go p l e R s m args below meth c cells slots Q D cs A ad N sh nL σ τ (pc + 3) lv (.long v :: rest)) : Go p l e R s m args below meth c cells slots Q D cs A ad N sh nL σ τ (pc) lv (rest) := fun H locs ls hP hS hl => lv_ldc2 X.1.1 X.1.2.1 X.1.2.2.2.1 (X.1.2.2.2.2 _ hc) hdg (kk H locs ls hP hS hl)
theorem go_iload_n (X : Cx p m c cc nL s args Ts own D cs A ad N) {k : Fin 4} {i : Nat} {x : Int32} (hdg : decode cc pc = .ok (.iload_n k, 1)) (q : Nat) (hi : (k : Nat) = i) (hq : lv[q]? = some (i, .int x)) (kk : Go p l e R s m args below meth c cells slots Q D cs A ad N sh nL σ τ (pc + 1) lv (.int x :: rest)) : Go p l e R s m args below meth c cells slots Q D cs A ad N sh nL σ τ (pc) lv (rest) := fun H locs ls hP hS hl => lv_iload_n X.1.1 X.1.2.1 hdg hi (lv_at hl q hq) (kk H locs ls hP hS hl)
theorem go_iload (X : Cx p m c cc nL s args Ts own D cs A ad N) {i : Nat} {x : Int32} (hdg : decode cc pc = .ok (.iload i, 2)) (q : Nat) (hq : lv[q]? = some (i, .int x)) (kk : Go p l e R s m args below meth c cells slots Q D cs A ad N sh nL σ τ (pc + 2) lv (.int x :: rest)) : Go p l e R s m args below meth c cells slots Q D cs A ad N sh nL σ τ (pc) lv (rest) := fun H locs ls hP hS hl => lv_iload X.1.1 X.1.2.1 hdg (lv_at hl q hq) (kk H locs ls hP hS hl)
theorem go_istore_n (X : Cx p m c cc nL s args Ts own D cs A ad N) {k : Fin 4} {i : Nat} {x : Int32} (hdg : decode cc pc = .ok (.istore_n k, 1)) (hi : (k : Nat) = i) (hn : i < nL) (hv : (i, Value.int x) :: lv.filter (fun q => !(q.1 == i) && !(q.1 + 1 == i && q.2.category == 2)) = lv2) (kk : Go p l e R s m args below meth c cells slots Q D cs A ad N sh nL σ τ (pc + 1) lv2 (rest)) : Go p l e R s m args below meth c cells slots Q D cs A ad N sh nL σ τ (pc) lv (.int x :: rest) := fun H locs ls hP hS hl => lv_istore_n X.1.1 X.1.2.1 hdg hi hl hn hv (fun ls2 hl2 => kk H locs ls2 hP hS hl2)
theorem go_istore (X : Cx p m c cc nL s args Ts own D cs A ad N) {i : Nat} {x : Int32} (hdg : decode cc pc = .ok (.istore i, 2)) (hn : i < nL) (hv : (i, Value.int x) :: lv.filter (fun q => !(q.1 == i) && !(q.1 + 1 == i && q.2.category == 2)) = lv2) (kk : Go p l e R s m args below meth c cells slots Q D cs A ad N sh nL σ τ (pc + 2) lv2 (rest)) : Go p l e R s m args below meth c cells slots Q D cs A ad N sh nL σ τ (pc) lv (.int x :: rest) := fun H locs ls hP hS hl => lv_istore X.1.1 X.1.2.1 hdg hl hn hv (fun ls2 hl2 => kk H locs ls2 hP hS hl2)
theorem go_lload_n (X : Cx p m c cc nL s args Ts own D cs A ad N) {k : Fin 4} {i : Nat} {x : Int64} (hdg : decode cc pc = .ok (.lload_n k, 1)) (q : Nat) (hi : (k : Nat) = i) (hq : lv[q]? = some (i, .long x)) (kk : Go p l e R s m args below meth c cells slots Q D cs A ad N sh nL σ τ (pc + 1) lv (.long x :: rest)) : Go p l e R s m args below meth c cells slots Q D cs A ad N sh nL σ τ (pc) lv (rest) := fun H locs ls hP hS hl => lv_lload_n X.1.1 X.1.2.1 hdg hi (lv_at hl q hq) (kk H locs ls hP hS hl)
theorem go_lload (X : Cx p m c cc nL s args Ts own D cs A ad N) {i : Nat} {x : Int64} (hdg : decode cc pc = .ok (.lload i, 2)) (q : Nat) (hq : lv[q]? = some (i, .long x)) (kk : Go p l e R s m args below meth c cells slots Q D cs A ad N sh nL σ τ (pc + 2) lv (.long x :: rest)) : Go p l e R s m args below meth c cells slots Q D cs A ad N sh nL σ τ (pc) lv (rest) := fun H locs ls hP hS hl => lv_lload X.1.1 X.1.2.1 hdg (lv_at hl q hq) (kk H locs ls hP hS hl)
theorem go_lstore_n (X : Cx p m c cc nL s args Ts own D cs A ad N) {k : Fin 4} {i : Nat} {x : Int64} (hdg : decode cc pc = .ok (.lstore_n k, 1)) (hi : (k : Nat) = i) (hn : i + 1 < nL) (hv : (i, Value.long x) :: lv.filter (fun q => !(q.1 == i) && (!(q.1 == i + 1) && !(q.1 + 1 == i && q.2.category == 2))) = lv2) (kk : Go p l e R s m args below meth c cells slots Q D cs A ad N sh nL σ τ (pc + 1) lv2 (rest)) : Go p l e R s m args below meth c cells slots Q D cs A ad N sh nL σ τ (pc) lv (.long x :: rest) := fun H locs ls hP hS hl => lv_lstore_n X.1.1 X.1.2.1 hdg hi hl hn hv (fun ls2 hl2 => kk H locs ls2 hP hS hl2)
theorem go_lstore (X : Cx p m c cc nL s args Ts own D cs A ad N) {i : Nat} {x : Int64} (hdg : decode cc pc = .ok (.lstore i, 2)) (hn : i + 1 < nL) (hv : (i, Value.long x) :: lv.filter (fun q => !(q.1 == i) && (!(q.1 == i + 1) && !(q.1 + 1 == i && q.2.category == 2))) = lv2) (kk : Go p l e R s m args below meth c cells slots Q D cs A ad N sh nL σ τ (pc + 2) lv2 (rest)) : Go p l e R s m args below meth c cells slots Q D cs A ad N sh nL σ τ (pc) lv (.long x :: rest) := fun H locs ls hP hS hl => lv_lstore X.1.1 X.1.2.1 hdg hl hn hv (fun ls2 hl2 => kk H locs ls2 hP hS hl2)
theorem go_aload_n (X : Cx p m c cc nL s args Ts own D cs A ad N) {k : Fin 4} {i : Nat} {x : Nat} (hdg : decode cc pc = .ok (.aload_n k, 1)) (q : Nat) (hi : (k : Nat) = i) (hq : lv[q]? = some (i, .ref x)) (kk : Go p l e R s m args below meth c cells slots Q D cs A ad N sh nL σ τ (pc + 1) lv (.ref x :: rest)) : Go p l e R s m args below meth c cells slots Q D cs A ad N sh nL σ τ (pc) lv (rest) := fun H locs ls hP hS hl => lv_aload_n X.1.1 X.1.2.1 hdg hi (lv_at hl q hq) (kk H locs ls hP hS hl)
theorem go_aload (X : Cx p m c cc nL s args Ts own D cs A ad N) {i : Nat} {x : Nat} (hdg : decode cc pc = .ok (.aload i, 2)) (q : Nat) (hq : lv[q]? = some (i, .ref x)) (kk : Go p l e R s m args below meth c cells slots Q D cs A ad N sh nL σ τ (pc + 2) lv (.ref x :: rest)) : Go p l e R s m args below meth c cells slots Q D cs A ad N sh nL σ τ (pc) lv (rest) := fun H locs ls hP hS hl => lv_aload X.1.1 X.1.2.1 hdg (lv_at hl q hq) (kk H locs ls hP hS hl)
theorem go_astore_n (X : Cx p m c cc nL s args Ts own D cs A ad N) {k : Fin 4} {i : Nat} {x : Nat} (hdg : decode cc pc = .ok (.astore_n k, 1)) (hi : (k : Nat) = i) (hn : i < nL) (hv : (i, Value.ref x) :: lv.filter (fun q => !(q.1 == i) && !(q.1 + 1 == i && q.2.category == 2)) = lv2) (kk : Go p l e R s m args below meth c cells slots Q D cs A ad N sh nL σ τ (pc + 1) lv2 (rest)) : Go p l e R s m args below meth c cells slots Q D cs A ad N sh nL σ τ (pc) lv (.ref x :: rest) := fun H locs ls hP hS hl => lv_astore_n X.1.1 X.1.2.1 hdg hi hl hn hv (fun ls2 hl2 => kk H locs ls2 hP hS hl2)
theorem go_astore (X : Cx p m c cc nL s args Ts own D cs A ad N) {i : Nat} {x : Nat} (hdg : decode cc pc = .ok (.astore i, 2)) (hn : i < nL) (hv : (i, Value.ref x) :: lv.filter (fun q => !(q.1 == i) && !(q.1 + 1 == i && q.2.category == 2)) = lv2) (kk : Go p l e R s m args below meth c cells slots Q D cs A ad N sh nL σ τ (pc + 2) lv2 (rest)) : Go p l e R s m args below meth c cells slots Q D cs A ad N sh nL σ τ (pc) lv (.ref x :: rest) := fun H locs ls hP hS hl => lv_astore X.1.1 X.1.2.1 hdg hl hn hv (fun ls2 hl2 => kk H locs ls2 hP hS hl2)
theorem go_iinc (X : Cx p m c cc nL s args Ts own D cs A ad N) {i k : Nat} {n : Int} {x v : Int32} (hdg : decode cc pc = .ok (.iinc i n, 3)) (hk : lv[k]? = some (i, .int x)) (hv : x + Int32.ofInt n = v) (hn : i < nL) (hl2 : (i, Value.int v) :: lv.filter (fun q => !(q.1 == i) && !(q.1 + 1 == i && q.2.category == 2)) = lv2) (kk : Go p l e R s m args below meth c cells slots Q D cs A ad N sh nL σ τ (pc + 3) lv2 (rest)) : Go p l e R s m args below meth c cells slots Q D cs A ad N sh nL σ τ (pc) lv (rest) := fun H locs ls hP hS hl => lv_iinc X.1.1 X.1.2.1 hdg hl hk hv hn hl2 (fun ls2 h2 => kk H locs ls2 hP hS h2)
theorem go_iadd (X : Cx p m c cc nL s args Ts own D cs A ad N) {x y : Int32} (hdg : decode cc pc = .ok (.iadd, 1)) (kk : Go p l e R s m args below meth c cells slots Q D cs A ad N sh nL σ τ (pc + 1) lv (.int (x + y) :: rest)) : Go p l e R s m args below meth c cells slots Q D cs A ad N sh nL σ τ (pc) lv (.int y :: .int x :: rest) := fun H locs ls hP hS hl => lv_iadd X.1.1 X.1.2.1 hdg (kk H locs ls hP hS hl)
theorem go_isub (X : Cx p m c cc nL s args Ts own D cs A ad N) {x y : Int32} (hdg : decode cc pc = .ok (.isub, 1)) (kk : Go p l e R s m args below meth c cells slots Q D cs A ad N sh nL σ τ (pc + 1) lv (.int (x - y) :: rest)) : Go p l e R s m args below meth c cells slots Q D cs A ad N sh nL σ τ (pc) lv (.int y :: .int x :: rest) := fun H locs ls hP hS hl => lv_isub X.1.1 X.1.2.1 hdg (kk H locs ls hP hS hl)
theorem go_imul (X : Cx p m c cc nL s args Ts own D cs A ad N) {x y : Int32} (hdg : decode cc pc = .ok (.imul, 1)) (kk : Go p l e R s m args below meth c cells slots Q D cs A ad N sh nL σ τ (pc + 1) lv (.int (x * y) :: rest)) : Go p l e R s m args below meth c cells slots Q D cs A ad N sh nL σ τ (pc) lv (.int y :: .int x :: rest) := fun H locs ls hP hS hl => lv_imul X.1.1 X.1.2.1 hdg (kk H locs ls hP hS hl)
theorem go_iand (X : Cx p m c cc nL s args Ts own D cs A ad N) {x y : Int32} (hdg : decode cc pc = .ok (.iand, 1)) (kk : Go p l e R s m args below meth c cells slots Q D cs A ad N sh nL σ τ (pc + 1) lv (.int (x &&& y) :: rest)) : Go p l e R s m args below meth c cells slots Q D cs A ad N sh nL σ τ (pc) lv (.int y :: .int x :: rest) := fun H locs ls hP hS hl => lv_iand X.1.1 X.1.2.1 hdg (kk H locs ls hP hS hl)
theorem go_ior (X : Cx p m c cc nL s args Ts own D cs A ad N) {x y : Int32} (hdg : decode cc pc = .ok (.ior, 1)) (kk : Go p l e R s m args below meth c cells slots Q D cs A ad N sh nL σ τ (pc + 1) lv (.int (x ||| y) :: rest)) : Go p l e R s m args below meth c cells slots Q D cs A ad N sh nL σ τ (pc) lv (.int y :: .int x :: rest) := fun H locs ls hP hS hl => lv_ior X.1.1 X.1.2.1 hdg (kk H locs ls hP hS hl)
theorem go_ladd (X : Cx p m c cc nL s args Ts own D cs A ad N) {x y : Int64} (hdg : decode cc pc = .ok (.ladd, 1)) (kk : Go p l e R s m args below meth c cells slots Q D cs A ad N sh nL σ τ (pc + 1) lv (.long (x + y) :: rest)) : Go p l e R s m args below meth c cells slots Q D cs A ad N sh nL σ τ (pc) lv (.long y :: .long x :: rest) := fun H locs ls hP hS hl => lv_ladd X.1.1 X.1.2.1 hdg (kk H locs ls hP hS hl)
theorem go_lsub (X : Cx p m c cc nL s args Ts own D cs A ad N) {x y : Int64} (hdg : decode cc pc = .ok (.lsub, 1)) (kk : Go p l e R s m args below meth c cells slots Q D cs A ad N sh nL σ τ (pc + 1) lv (.long (x - y) :: rest)) : Go p l e R s m args below meth c cells slots Q D cs A ad N sh nL σ τ (pc) lv (.long y :: .long x :: rest) := fun H locs ls hP hS hl => lv_lsub X.1.1 X.1.2.1 hdg (kk H locs ls hP hS hl)
theorem go_lmul (X : Cx p m c cc nL s args Ts own D cs A ad N) {x y : Int64} (hdg : decode cc pc = .ok (.lmul, 1)) (kk : Go p l e R s m args below meth c cells slots Q D cs A ad N sh nL σ τ (pc + 1) lv (.long (x * y) :: rest)) : Go p l e R s m args below meth c cells slots Q D cs A ad N sh nL σ τ (pc) lv (.long y :: .long x :: rest) := fun H locs ls hP hS hl => lv_lmul X.1.1 X.1.2.1 hdg (kk H locs ls hP hS hl)
theorem go_ishl (X : Cx p m c cc nL s args Ts own D cs A ad N) {x y : Int32} (hdg : decode cc pc = .ok (.ishl, 1)) (kk : Go p l e R s m args below meth c cells slots Q D cs A ad N sh nL σ τ (pc + 1) lv (.int (x <<< (y &&& 31)) :: rest)) : Go p l e R s m args below meth c cells slots Q D cs A ad N sh nL σ τ (pc) lv (.int y :: .int x :: rest) := fun H locs ls hP hS hl => lv_ishl X.1.1 X.1.2.1 hdg (kk H locs ls hP hS hl)
theorem go_ishr (X : Cx p m c cc nL s args Ts own D cs A ad N) {x y : Int32} (hdg : decode cc pc = .ok (.ishr, 1)) (kk : Go p l e R s m args below meth c cells slots Q D cs A ad N sh nL σ τ (pc + 1) lv (.int (x >>> (y &&& 31)) :: rest)) : Go p l e R s m args below meth c cells slots Q D cs A ad N sh nL σ τ (pc) lv (.int y :: .int x :: rest) := fun H locs ls hP hS hl => lv_ishr X.1.1 X.1.2.1 hdg (kk H locs ls hP hS hl)
theorem go_irem (X : Cx p m c cc nL s args Ts own D cs A ad N) {x y : Int32} (hdg : decode cc pc = .ok (.irem, 1)) (hne : ¬ y = 0) (kk : Go p l e R s m args below meth c cells slots Q D cs A ad N sh nL σ τ (pc + 1) lv (.int (x - x / y * y) :: rest)) : Go p l e R s m args below meth c cells slots Q D cs A ad N sh nL σ τ (pc) lv (.int y :: .int x :: rest) := fun H locs ls hP hS hl => lv_irem X.1.1 X.1.2.1 hdg hne (kk H locs ls hP hS hl)
theorem go_lrem (X : Cx p m c cc nL s args Ts own D cs A ad N) {x y : Int64} (hdg : decode cc pc = .ok (.lrem, 1)) (hne : ¬ y = 0) (kk : Go p l e R s m args below meth c cells slots Q D cs A ad N sh nL σ τ (pc + 1) lv (.long (x - x / y * y) :: rest)) : Go p l e R s m args below meth c cells slots Q D cs A ad N sh nL σ τ (pc) lv (.long y :: .long x :: rest) := fun H locs ls hP hS hl => lv_lrem X.1.1 X.1.2.1 hdg hne (kk H locs ls hP hS hl)
theorem go_ldiv (X : Cx p m c cc nL s args Ts own D cs A ad N) {x y : Int64} (hdg : decode cc pc = .ok (.ldiv, 1)) (hne : ¬ y = 0) (kk : Go p l e R s m args below meth c cells slots Q D cs A ad N sh nL σ τ (pc + 1) lv (.long (x / y) :: rest)) : Go p l e R s m args below meth c cells slots Q D cs A ad N sh nL σ τ (pc) lv (.long y :: .long x :: rest) := fun H locs ls hP hS hl => lv_ldiv X.1.1 X.1.2.1 hdg hne (kk H locs ls hP hS hl)
theorem go_iushr (X : Cx p m c cc nL s args Ts own D cs A ad N) {x y : Int32} {v : Int32} (hdg : decode cc pc = .ok (.iushr, 1)) (hv : (x.toUInt32 >>> (y.toUInt32 &&& Int32.toUInt32 31)).toInt32 = v) (kk : Go p l e R s m args below meth c cells slots Q D cs A ad N sh nL σ τ (pc + 1) lv (.int v :: rest)) : Go p l e R s m args below meth c cells slots Q D cs A ad N sh nL σ τ (pc) lv (.int y :: .int x :: rest) := fun H locs ls hP hS hl => lv_iushr X.1.1 X.1.2.1 hdg hv (kk H locs ls hP hS hl)
theorem go_lcmp (X : Cx p m c cc nL s args Ts own D cs A ad N) {x y : Int64} (hdg : decode cc pc = .ok (.lcmp, 1)) (kk : Go p l e R s m args below meth c cells slots Q D cs A ad N sh nL σ τ (pc + 1) lv (.int (lg_cmp x y) :: rest)) : Go p l e R s m args below meth c cells slots Q D cs A ad N sh nL σ τ (pc) lv (.long y :: .long x :: rest) := fun H locs ls hP hS hl => W.lcmp X.1.1 X.1.2.1 hdg (kk H locs ls hP hS hl)
theorem go_i2l (X : Cx p m c cc nL s args Ts own D cs A ad N) {x : Int32} {v : Int64} (hdg : decode cc pc = .ok (.i2l, 1)) (hv : x.toInt64 = v) (kk : Go p l e R s m args below meth c cells slots Q D cs A ad N sh nL σ τ (pc + 1) lv (.long v :: rest)) : Go p l e R s m args below meth c cells slots Q D cs A ad N sh nL σ τ (pc) lv (.int x :: rest) := fun H locs ls hP hS hl => lv_i2l X.1.1 X.1.2.1 hdg hv (kk H locs ls hP hS hl)
theorem go_i2b (X : Cx p m c cc nL s args Ts own D cs A ad N) {x v : Int32} (hdg : decode cc pc = .ok (.i2b, 1)) (hv : x.toInt8.toInt32 = v) (kk : Go p l e R s m args below meth c cells slots Q D cs A ad N sh nL σ τ (pc + 1) lv (.int v :: rest)) : Go p l e R s m args below meth c cells slots Q D cs A ad N sh nL σ τ (pc) lv (.int x :: rest) := fun H locs ls hP hS hl => lv_i2b X.1.1 X.1.2.1 hdg hv (kk H locs ls hP hS hl)
theorem go_i2s (X : Cx p m c cc nL s args Ts own D cs A ad N) {x v : Int32} (hdg : decode cc pc = .ok (.i2s, 1)) (hv : x.toInt16.toInt32 = v) (kk : Go p l e R s m args below meth c cells slots Q D cs A ad N sh nL σ τ (pc + 1) lv (.int v :: rest)) : Go p l e R s m args below meth c cells slots Q D cs A ad N sh nL σ τ (pc) lv (.int x :: rest) := fun H locs ls hP hS hl => lv_i2s X.1.1 X.1.2.1 hdg hv (kk H locs ls hP hS hl)
theorem go_dup (X : Cx p m c cc nL s args Ts own D cs A ad N) {va : Value} (hdg : decode cc pc = .ok (.dup, 1)) (hva : va.category = 1) (kk : Go p l e R s m args below meth c cells slots Q D cs A ad N sh nL σ τ (pc + 1) lv (va :: va :: rest)) : Go p l e R s m args below meth c cells slots Q D cs A ad N sh nL σ τ (pc) lv (va :: rest) := fun H locs ls hP hS hl => lv_dup X.1.1 X.1.2.1 hdg hva (kk H locs ls hP hS hl)
theorem go_dup2 (X : Cx p m c cc nL s args Ts own D cs A ad N) {va vb : Value} (hdg : decode cc pc = .ok (.dup2, 1)) (hva : va.category = 1) (hvb : vb.category = 1) (kk : Go p l e R s m args below meth c cells slots Q D cs A ad N sh nL σ τ (pc + 1) lv (va :: vb :: va :: vb :: rest)) : Go p l e R s m args below meth c cells slots Q D cs A ad N sh nL σ τ (pc) lv (va :: vb :: rest) := fun H locs ls hP hS hl => lv_dup2_11 X.1.1 X.1.2.1 hdg hva hvb (kk H locs ls hP hS hl)
theorem go_goto (X : Cx p m c cc nL s args Ts own D cs A ad N) {off : Int} {tgt : Nat} (hdg : decode cc pc = .ok (.goto off, 3)) (ht : (pc : Int) + off = (tgt : Int)) (kk : Go p l e R s m args below meth c cells slots Q D cs A ad N sh nL σ τ (tgt) lv (rest)) : Go p l e R s m args below meth c cells slots Q D cs A ad N sh nL σ τ (pc) lv (rest) := fun H locs ls hP hS hl => lv_goto X.1.1 X.1.2.1 hdg ht (kk H locs ls hP hS hl)
theorem go_if_eq (X : Cx p m c cc nL s args Ts own D cs A ad N) {x : Int32} {off : Int} {tgt : Nat} (hdg : decode cc pc = .ok (.ifCond .eq off, 3)) (ht : (pc : Int) + off = (tgt : Int)) (kt : x = 0 → Go p l e R s m args below meth c cells slots Q D cs A ad N sh nL σ τ (tgt) lv (rest)) (kf : ¬ x = 0 → Go p l e R s m args below meth c cells slots Q D cs A ad N sh nL σ τ (pc + 3) lv (rest)) : Go p l e R s m args below meth c cells slots Q D cs A ad N sh nL σ τ (pc) lv (.int x :: rest) := fun H locs ls hP hS hl => lv_if_eq X.1.1 X.1.2.1 hdg ht (fun h => kt h H locs ls hP hS hl) (fun h => kf h H locs ls hP hS hl)
theorem go_if_ne (X : Cx p m c cc nL s args Ts own D cs A ad N) {x : Int32} {off : Int} {tgt : Nat} (hdg : decode cc pc = .ok (.ifCond .ne off, 3)) (ht : (pc : Int) + off = (tgt : Int)) (kt : ¬ x = 0 → Go p l e R s m args below meth c cells slots Q D cs A ad N sh nL σ τ (tgt) lv (rest)) (kf : x = 0 → Go p l e R s m args below meth c cells slots Q D cs A ad N sh nL σ τ (pc + 3) lv (rest)) : Go p l e R s m args below meth c cells slots Q D cs A ad N sh nL σ τ (pc) lv (.int x :: rest) := fun H locs ls hP hS hl => lv_if_ne X.1.1 X.1.2.1 hdg ht (fun h => kt h H locs ls hP hS hl) (fun h => kf h H locs ls hP hS hl)
theorem go_if_lt (X : Cx p m c cc nL s args Ts own D cs A ad N) {x : Int32} {off : Int} {tgt : Nat} (hdg : decode cc pc = .ok (.ifCond .lt off, 3)) (ht : (pc : Int) + off = (tgt : Int)) (kt : x < 0 → Go p l e R s m args below meth c cells slots Q D cs A ad N sh nL σ τ (tgt) lv (rest)) (kf : ¬ x < 0 → Go p l e R s m args below meth c cells slots Q D cs A ad N sh nL σ τ (pc + 3) lv (rest)) : Go p l e R s m args below meth c cells slots Q D cs A ad N sh nL σ τ (pc) lv (.int x :: rest) := fun H locs ls hP hS hl => lv_if_lt X.1.1 X.1.2.1 hdg ht (fun h => kt h H locs ls hP hS hl) (fun h => kf h H locs ls hP hS hl)
theorem go_if_ge (X : Cx p m c cc nL s args Ts own D cs A ad N) {x : Int32} {off : Int} {tgt : Nat} (hdg : decode cc pc = .ok (.ifCond .ge off, 3)) (ht : (pc : Int) + off = (tgt : Int)) (kt : 0 ≤ x → Go p l e R s m args below meth c cells slots Q D cs A ad N sh nL σ τ (tgt) lv (rest)) (kf : ¬ 0 ≤ x → Go p l e R s m args below meth c cells slots Q D cs A ad N sh nL σ τ (pc + 3) lv (rest)) : Go p l e R s m args below meth c cells slots Q D cs A ad N sh nL σ τ (pc) lv (.int x :: rest) := fun H locs ls hP hS hl => lv_if_ge X.1.1 X.1.2.1 hdg ht (fun h => kt h H locs ls hP hS hl) (fun h => kf h H locs ls hP hS hl)
theorem go_if_gt (X : Cx p m c cc nL s args Ts own D cs A ad N) {x : Int32} {off : Int} {tgt : Nat} (hdg : decode cc pc = .ok (.ifCond .gt off, 3)) (ht : (pc : Int) + off = (tgt : Int)) (kt : 0 < x → Go p l e R s m args below meth c cells slots Q D cs A ad N sh nL σ τ (tgt) lv (rest)) (kf : ¬ 0 < x → Go p l e R s m args below meth c cells slots Q D cs A ad N sh nL σ τ (pc + 3) lv (rest)) : Go p l e R s m args below meth c cells slots Q D cs A ad N sh nL σ τ (pc) lv (.int x :: rest) := fun H locs ls hP hS hl => lv_if_gt X.1.1 X.1.2.1 hdg ht (fun h => kt h H locs ls hP hS hl) (fun h => kf h H locs ls hP hS hl)
theorem go_if_le (X : Cx p m c cc nL s args Ts own D cs A ad N) {x : Int32} {off : Int} {tgt : Nat} (hdg : decode cc pc = .ok (.ifCond .le off, 3)) (ht : (pc : Int) + off = (tgt : Int)) (kt : x ≤ 0 → Go p l e R s m args below meth c cells slots Q D cs A ad N sh nL σ τ (tgt) lv (rest)) (kf : ¬ x ≤ 0 → Go p l e R s m args below meth c cells slots Q D cs A ad N sh nL σ τ (pc + 3) lv (rest)) : Go p l e R s m args below meth c cells slots Q D cs A ad N sh nL σ τ (pc) lv (.int x :: rest) := fun H locs ls hP hS hl => lv_if_le X.1.1 X.1.2.1 hdg ht (fun h => kt h H locs ls hP hS hl) (fun h => kf h H locs ls hP hS hl)
theorem go_icmp_eq (X : Cx p m c cc nL s args Ts own D cs A ad N) {x y : Int32} {off : Int} {tgt : Nat} (hdg : decode cc pc = .ok (.if_icmp .eq off, 3)) (ht : (pc : Int) + off = (tgt : Int)) (kt : x = y → Go p l e R s m args below meth c cells slots Q D cs A ad N sh nL σ τ (tgt) lv (rest)) (kf : ¬ x = y → Go p l e R s m args below meth c cells slots Q D cs A ad N sh nL σ τ (pc + 3) lv (rest)) : Go p l e R s m args below meth c cells slots Q D cs A ad N sh nL σ τ (pc) lv (.int y :: .int x :: rest) := fun H locs ls hP hS hl => lv_icmp_eq X.1.1 X.1.2.1 hdg ht (fun h => kt h H locs ls hP hS hl) (fun h => kf h H locs ls hP hS hl)
theorem go_icmp_ne (X : Cx p m c cc nL s args Ts own D cs A ad N) {x y : Int32} {off : Int} {tgt : Nat} (hdg : decode cc pc = .ok (.if_icmp .ne off, 3)) (ht : (pc : Int) + off = (tgt : Int)) (kt : ¬ x = y → Go p l e R s m args below meth c cells slots Q D cs A ad N sh nL σ τ (tgt) lv (rest)) (kf : x = y → Go p l e R s m args below meth c cells slots Q D cs A ad N sh nL σ τ (pc + 3) lv (rest)) : Go p l e R s m args below meth c cells slots Q D cs A ad N sh nL σ τ (pc) lv (.int y :: .int x :: rest) := fun H locs ls hP hS hl => lv_icmp_ne X.1.1 X.1.2.1 hdg ht (fun h => kt h H locs ls hP hS hl) (fun h => kf h H locs ls hP hS hl)
theorem go_icmp_lt (X : Cx p m c cc nL s args Ts own D cs A ad N) {x y : Int32} {off : Int} {tgt : Nat} (hdg : decode cc pc = .ok (.if_icmp .lt off, 3)) (ht : (pc : Int) + off = (tgt : Int)) (kt : x < y → Go p l e R s m args below meth c cells slots Q D cs A ad N sh nL σ τ (tgt) lv (rest)) (kf : ¬ x < y → Go p l e R s m args below meth c cells slots Q D cs A ad N sh nL σ τ (pc + 3) lv (rest)) : Go p l e R s m args below meth c cells slots Q D cs A ad N sh nL σ τ (pc) lv (.int y :: .int x :: rest) := fun H locs ls hP hS hl => lv_icmp_lt X.1.1 X.1.2.1 hdg ht (fun h => kt h H locs ls hP hS hl) (fun h => kf h H locs ls hP hS hl)
theorem go_icmp_ge (X : Cx p m c cc nL s args Ts own D cs A ad N) {x y : Int32} {off : Int} {tgt : Nat} (hdg : decode cc pc = .ok (.if_icmp .ge off, 3)) (ht : (pc : Int) + off = (tgt : Int)) (kt : y ≤ x → Go p l e R s m args below meth c cells slots Q D cs A ad N sh nL σ τ (tgt) lv (rest)) (kf : ¬ y ≤ x → Go p l e R s m args below meth c cells slots Q D cs A ad N sh nL σ τ (pc + 3) lv (rest)) : Go p l e R s m args below meth c cells slots Q D cs A ad N sh nL σ τ (pc) lv (.int y :: .int x :: rest) := fun H locs ls hP hS hl => lv_icmp_ge X.1.1 X.1.2.1 hdg ht (fun h => kt h H locs ls hP hS hl) (fun h => kf h H locs ls hP hS hl)
theorem go_icmp_gt (X : Cx p m c cc nL s args Ts own D cs A ad N) {x y : Int32} {off : Int} {tgt : Nat} (hdg : decode cc pc = .ok (.if_icmp .gt off, 3)) (ht : (pc : Int) + off = (tgt : Int)) (kt : y < x → Go p l e R s m args below meth c cells slots Q D cs A ad N sh nL σ τ (tgt) lv (rest)) (kf : ¬ y < x → Go p l e R s m args below meth c cells slots Q D cs A ad N sh nL σ τ (pc + 3) lv (rest)) : Go p l e R s m args below meth c cells slots Q D cs A ad N sh nL σ τ (pc) lv (.int y :: .int x :: rest) := fun H locs ls hP hS hl => lv_icmp_gt X.1.1 X.1.2.1 hdg ht (fun h => kt h H locs ls hP hS hl) (fun h => kf h H locs ls hP hS hl)
theorem go_icmp_le (X : Cx p m c cc nL s args Ts own D cs A ad N) {x y : Int32} {off : Int} {tgt : Nat} (hdg : decode cc pc = .ok (.if_icmp .le off, 3)) (ht : (pc : Int) + off = (tgt : Int)) (kt : x ≤ y → Go p l e R s m args below meth c cells slots Q D cs A ad N sh nL σ τ (tgt) lv (rest)) (kf : ¬ x ≤ y → Go p l e R s m args below meth c cells slots Q D cs A ad N sh nL σ τ (pc + 3) lv (rest)) : Go p l e R s m args below meth c cells slots Q D cs A ad N sh nL σ τ (pc) lv (.int y :: .int x :: rest) := fun H locs ls hP hS hl => lv_icmp_le X.1.1 X.1.2.1 hdg ht (fun h => kt h H locs ls hP hS hl) (fun h => kf h H locs ls hP hS hl)
theorem go_lookup (X : Cx p m c cc nL s args Ts own D cs A ad N) {dflt : Int} {ps : Array (Int × Int)} {len : Nat} {x : Int32} {off : Int} {tgt : Nat} (hdg : decode cc pc = .ok (.lookupswitch dflt ps, len)) (hp : (ps.toList.zip (ps.toList.drop 1)).all (fun (a, next) => a.1 < next.1) = true) (ho : Op.lookupswitch.offset ps.toList dflt x.toInt = off) (ht : (pc : Int) + off = (tgt : Int)) (kk : Go p l e R s m args below meth c cells slots Q D cs A ad N sh nL σ τ (tgt) lv (rest)) : Go p l e R s m args below meth c cells slots Q D cs A ad N sh nL σ τ (pc) lv (.int x :: rest) := fun H locs ls hP hS hl => lv_lookup X.1.1 X.1.2.1 hdg hp ho ht (kk H locs ls hP hS hl)
theorem go_tableOut (X : Cx p m c cc nL s args Ts own D cs A ad N) {dflt lo hi : Int} {offs : Array Int} {len : Nat} {x : Int32} {tgt : Nat} (hdg : decode cc pc = .ok (.tableswitch dflt lo hi offs, len)) (h : x.toInt < lo ∨ hi < x.toInt) (ht : (pc : Int) + dflt = (tgt : Int)) (kk : Go p l e R s m args below meth c cells slots Q D cs A ad N sh nL σ τ (tgt) lv (rest)) : Go p l e R s m args below meth c cells slots Q D cs A ad N sh nL σ τ (pc) lv (.int x :: rest) := fun H locs ls hP hS hl => lv_tableOut X.1.1 X.1.2.1 hdg h ht (kk H locs ls hP hS hl)
theorem go_tableIn (X : Cx p m c cc nL s args Ts own D cs A ad N) {dflt lo hi : Int} {offs : Array Int} {len : Nat} {x : Int32} {off : Int} {tgt : Nat} (hdg : decode cc pc = .ok (.tableswitch dflt lo hi offs, len)) (h1 : ¬ x.toInt < lo) (h2 : ¬ hi < x.toInt) (ho : offs[(x.toInt - lo).toNat]? = some off) (ht : (pc : Int) + off = (tgt : Int)) (kk : Go p l e R s m args below meth c cells slots Q D cs A ad N sh nL σ τ (tgt) lv (rest)) : Go p l e R s m args below meth c cells slots Q D cs A ad N sh nL σ τ (pc) lv (.int x :: rest) := fun H locs ls hP hS hl => lv_tableIn X.1.1 X.1.2.1 hdg h1 h2 ho ht (kk H locs ls hP hS hl)
theorem go_getr (X : Cx p m c cc nL s args Ts own D cs A ad N) {n ci j idx M : Nat} {fl : List (Option Nat)} {C : String} {T : u_T} {r : Nat} (hn : n < N) (hs : sh n = .inl (ci, fl)) (hc : vwCl[ci]? = some (C, T, M)) (hin : ∀ w ∈ u_ws C T M, w ∈ Ts) (hj : j < M) (hlk : Cond.fieldLink own idx (T j).1 (T j).2.1 (T j).2.2.1 ∈ Ts) (hv : fl[j]? = some (some r)) (hdg : decode cc pc = .ok (.getfield idx, 3)) (kk : Go p l e R s m args below meth c cells slots Q D cs A ad N sh nL σ τ (pc + 3) lv (.ref (ad r) :: rest)) : Go p l e R s m args below meth c cells slots Q D cs A ad N sh nL σ τ (pc) lv (.ref (ad n) :: rest) := fun H locs ls hP hS hl =>
  va_get X.1.1 X.1.2.1 X.1.2.2.2.2 hin X.1.2.2.2.1 X.2.1 hP n (by rw [wl_get hn]; show some (_, vE cs ad σ τ n (sh n)) = _; rw [hs]; rfl) hc j hj (X.1.2.2.2.2 _ hlk) (fun _ h => h) (vFs_r fl 0 j r hv) hdg (kk H locs ls hP hS hl)
theorem go_geti (X : Cx p m c cc nL s args Ts own D cs A ad N) {n ci j idx M : Nat} {fl : List (Option Nat)} {C : String} {T : u_T} (hn : n < N) (hs : sh n = .inl (ci, fl)) (hc : vwCl[ci]? = some (C, T, M)) (hin : ∀ w ∈ u_ws C T M, w ∈ Ts) (hj : j < M) (hlk : Cond.fieldLink own idx (T j).1 (T j).2.1 (T j).2.2.1 ∈ Ts) (hv : fl[j]? = some none) (hdg : decode cc pc = .ok (.getfield idx, 3)) (kk : Go p l e R s m args below meth c cells slots Q D cs A ad N sh nL σ τ (pc + 3) lv (.int (σ n j) :: rest)) : Go p l e R s m args below meth c cells slots Q D cs A ad N sh nL σ τ (pc) lv (.ref (ad n) :: rest) := fun H locs ls hP hS hl =>
  va_get X.1.1 X.1.2.1 X.1.2.2.2.2 hin X.1.2.2.2.1 X.2.1 hP n (by rw [wl_get hn]; show some (_, vE cs ad σ τ n (sh n)) = _; rw [hs]; rfl) hc j hj (X.1.2.2.2.2 _ hlk) (fun _ h => h) (by rw [vFs_i fl 0 j hv, Nat.zero_add]) hdg (kk H locs ls hP hS hl)
theorem go_puti (X : Cx p m c cc nL s args Ts own D cs A ad N) {n ci j idx M : Nat} {fl : List (Option Nat)} {C : String} {T : u_T} {v : Int32} {ty : FieldType} (hn : n < N) (hs : sh n = .inl (ci, fl)) (hc : vwCl[ci]? = some (C, T, M)) (hin : ∀ w ∈ u_ws C T M, w ∈ Ts) (hj : j < M) (hlk : Cond.fieldLink own idx (T j).1 (T j).2.1 (T j).2.2.1 ∈ Ts) (hv : fl[j]? = some none) (ty0 : Nat → FieldType) (hty : ∀ k, k < M → parseFieldDescriptor (T k).2.2.1 = some (ty0 k)) (hnm : ∀ a, a < M → ∀ b, b < M → a ≠ b → (T a).2.1 ≠ (T b).2.1) (hfin : (T j).2.2.2 = false) (hd : parseFieldDescriptor (T j).2.2.1 = some ty) (hnar : narrow ty (.int v) = .int v) (hfit : fits ty (.int v) = true) (hdg : decode cc pc = .ok (.putfield idx, 3)) (kk : Go p l e R s m args below meth c cells slots Q D cs A ad N sh nL (up2 σ n j v) τ (pc + 3) lv (rest)) : Go p l e R s m args below meth c cells slots Q D cs A ad N sh nL σ τ (pc) lv (.int v :: .ref (ad n) :: rest) := fun H locs ls hP hS hl =>
  va_put X.1.1 X.1.2.1 X.1.2.2.2.2 hin ty0 hty hnm X.1.2.2.2.1 X.2.1 hP (X.2.2.1 _) hS n (by rw [wl_get hn]; show some (_, vE cs ad σ τ n (sh n)) = _; rw [hs]; rfl) hc j hj (X.1.2.2.2.2 _ hlk) (fun _ h => h) hfin hd hnar hfit (by rw [vFs_len]; exact (List.getElem?_eq_some_iff.mp hv).1) hdg (fun H1 locs1 hP1 _ hS1 => kk H1 locs1 ls (by rw [wl_set hn, vW_puti hs hv] at hP1; exact hP1) hS1 hl)
theorem go_iald (X : Cx p m c cc nL s args Ts own D cs A ad N) {n len k : Nat} {g : Nat → Nat} {i : Int32} (hn : n < N) (hs : sh n = .inr (0, len, g)) (hi : i = nI k) (hk : k < len) (hlen : len < 2 ^ 31) (hdg : decode cc pc = .ok (.iaload, 1)) (kk : Go p l e R s m args below meth c cells slots Q D cs A ad N sh nL σ τ (pc + 1) lv (.int (σ n k) :: rest)) : Go p l e R s m args below meth c cells slots Q D cs A ad N sh nL σ τ (pc) lv (.int i :: .ref (ad n) :: rest) := fun H locs ls hP hS hl => by
  subst hi
  refine va_iald X.1.1 X.1.2.1 X.2.1 hP n 0 (by rw [wl_get hn]; show some (_, vE cs ad σ τ n (sh n)) = _; rw [hs]; rfl) rfl (vp_in_nI hk hlen) hdg ?_
  rw [nI_clamp (by omega)]
  exact kk H locs ls hP hS hl
theorem go_zald (X : Cx p m c cc nL s args Ts own D cs A ad N) {n len k : Nat} {g : Nat → Nat} {i : Int32} (hn : n < N) (hs : sh n = .inr (1, len, g)) (hi : i = nI k) (hk : k < len) (hlen : len < 2 ^ 31) (hdg : decode cc pc = .ok (.baload, 1)) (kk : Go p l e R s m args below meth c cells slots Q D cs A ad N sh nL σ τ (pc + 1) lv (.int (σ n k) :: rest)) : Go p l e R s m args below meth c cells slots Q D cs A ad N sh nL σ τ (pc) lv (.int i :: .ref (ad n) :: rest) := fun H locs ls hP hS hl => by
  subst hi
  refine va_zald X.1.1 X.1.2.1 X.2.1 hP n 1 (by rw [wl_get hn]; show some (_, vE cs ad σ τ n (sh n)) = _; rw [hs]; rfl) rfl (vp_in_nI hk hlen) hdg ?_
  rw [nI_clamp (by omega)]
  exact kk H locs ls hP hS hl
theorem go_lald (X : Cx p m c cc nL s args Ts own D cs A ad N) {n len k : Nat} {g : Nat → Nat} {i : Int32} (hn : n < N) (hs : sh n = .inr (2, len, g)) (hi : i = nI k) (hk : k < len) (hlen : len < 2 ^ 31) (hdg : decode cc pc = .ok (.laload, 1)) (kk : Go p l e R s m args below meth c cells slots Q D cs A ad N sh nL σ τ (pc + 1) lv (.long (τ n k) :: rest)) : Go p l e R s m args below meth c cells slots Q D cs A ad N sh nL σ τ (pc) lv (.int i :: .ref (ad n) :: rest) := fun H locs ls hP hS hl => by
  subst hi
  refine va_lald X.1.1 X.1.2.1 X.2.1 hP n 2 (by rw [wl_get hn]; show some (_, vE cs ad σ τ n (sh n)) = _; rw [hs]; rfl) rfl (vp_in_nI hk hlen) hdg ?_
  rw [nI_clamp (by omega)]
  exact kk H locs ls hP hS hl
theorem go_aald3 (X : Cx p m c cc nL s args Ts own D cs A ad N) {n len k : Nat} {g : Nat → Nat} {i : Int32} (hn : n < N) (hs : sh n = .inr (3, len, g)) (hi : i = nI k) (hk : k < len) (hlen : len < 2 ^ 31) (hdg : decode cc pc = .ok (.aaload, 1)) (kk : Go p l e R s m args below meth c cells slots Q D cs A ad N sh nL σ τ (pc + 1) lv (.ref (ad (g k)) :: rest)) : Go p l e R s m args below meth c cells slots Q D cs A ad N sh nL σ τ (pc) lv (.int i :: .ref (ad n) :: rest) := fun H locs ls hP hS hl => by
  subst hi
  have ha : (wl ad N (vW cs ad sh σ τ))[n]? = some (ad n, .inl (cs 3, len, .inr (.inr (.inr (.inr (fun i => if i < len then some (ad (g i)) else none)))))) := by
    rw [wl_get hn]; show some (_, vE cs ad σ τ n (sh n)) = _; rw [hs]; rfl
  have hlt : (nI k).toNatClampNeg < len := by rw [nI_clamp (by omega)]; exact hk
  have hin := vp_in_nI hk hlen
  refine W.aald (v := va_rf (if (nI k).toNatClampNeg < len then some (ad (g (nI k).toNatClampNeg)) else none)) (ty := .object "BlankPardons$Row") X.1.1 X.1.2.1 (hP n _ ha) ((X.2.1.2 3 _ rfl).1 len (fun j => va_rf (if j < len then some (ad (g j)) else none))) rfl (fun q => by cases q) (by show ¬ (nI k < 0 ∨ (arrV _ _ _).slots.size ≤ _); rw [arrV_size]; exact hin) (by show (arrV _ _ _).slots[_]? = _; rw [arrV_read _ _ hlt]) rfl rfl hdg ?_
  rw [nI_clamp (by omega), if_pos hk]
  exact kk H locs ls hP hS hl
theorem go_aald4 (X : Cx p m c cc nL s args Ts own D cs A ad N) {n len k : Nat} {g : Nat → Nat} {i : Int32} (hn : n < N) (hs : sh n = .inr (4, len, g)) (hi : i = nI k) (hk : k < len) (hlen : len < 2 ^ 31) (hdg : decode cc pc = .ok (.aaload, 1)) (kk : Go p l e R s m args below meth c cells slots Q D cs A ad N sh nL σ τ (pc + 1) lv (.ref (ad (g k)) :: rest)) : Go p l e R s m args below meth c cells slots Q D cs A ad N sh nL σ τ (pc) lv (.int i :: .ref (ad n) :: rest) := fun H locs ls hP hS hl => by
  subst hi
  have ha : (wl ad N (vW cs ad sh σ τ))[n]? = some (ad n, .inl (cs 4, len, .inr (.inr (.inr (.inr (fun i => if i < len then some (ad (g i)) else none)))))) := by
    rw [wl_get hn]; show some (_, vE cs ad σ τ n (sh n)) = _; rw [hs]; rfl
  have hlt : (nI k).toNatClampNeg < len := by rw [nI_clamp (by omega)]; exact hk
  have hin := vp_in_nI hk hlen
  refine W.aald (v := va_rf (if (nI k).toNatClampNeg < len then some (ad (g (nI k).toNatClampNeg)) else none)) (ty := .array .int) X.1.1 X.1.2.1 (hP n _ ha) ((X.2.1.2 4 _ rfl).1 len (fun j => va_rf (if j < len then some (ad (g j)) else none))) rfl (fun q => by cases q) (by show ¬ (nI k < 0 ∨ (arrV _ _ _).slots.size ≤ _); rw [arrV_size]; exact hin) (by show (arrV _ _ _).slots[_]? = _; rw [arrV_read _ _ hlt]) rfl rfl hdg ?_
  rw [nI_clamp (by omega), if_pos hk]
  exact kk H locs ls hP hS hl
theorem go_aald5 (X : Cx p m c cc nL s args Ts own D cs A ad N) {n len k : Nat} {g : Nat → Nat} {i : Int32} (hn : n < N) (hs : sh n = .inr (5, len, g)) (hi : i = nI k) (hk : k < len) (hlen : len < 2 ^ 31) (hdg : decode cc pc = .ok (.aaload, 1)) (kk : Go p l e R s m args below meth c cells slots Q D cs A ad N sh nL σ τ (pc + 1) lv (.ref (ad (g k)) :: rest)) : Go p l e R s m args below meth c cells slots Q D cs A ad N sh nL σ τ (pc) lv (.int i :: .ref (ad n) :: rest) := fun H locs ls hP hS hl => by
  subst hi
  have ha : (wl ad N (vW cs ad sh σ τ))[n]? = some (ad n, .inl (cs 5, len, .inr (.inr (.inr (.inr (fun i => if i < len then some (ad (g i)) else none)))))) := by
    rw [wl_get hn]; show some (_, vE cs ad σ τ n (sh n)) = _; rw [hs]; rfl
  have hlt : (nI k).toNatClampNeg < len := by rw [nI_clamp (by omega)]; exact hk
  have hin := vp_in_nI hk hlen
  refine W.aald (v := va_rf (if (nI k).toNatClampNeg < len then some (ad (g (nI k).toNatClampNeg)) else none)) (ty := .array .long) X.1.1 X.1.2.1 (hP n _ ha) ((X.2.1.2 5 _ rfl).1 len (fun j => va_rf (if j < len then some (ad (g j)) else none))) rfl (fun q => by cases q) (by show ¬ (nI k < 0 ∨ (arrV _ _ _).slots.size ≤ _); rw [arrV_size]; exact hin) (by show (arrV _ _ _).slots[_]? = _; rw [arrV_read _ _ hlt]) rfl rfl hdg ?_
  rw [nI_clamp (by omega), if_pos hk]
  exact kk H locs ls hP hS hl
theorem go_iast (X : Cx p m c cc nL s args Ts own D cs A ad N) {n len k : Nat} {g : Nat → Nat} {i : Int32} {x : Int32} (hn : n < N) (hs : sh n = .inr (0, len, g)) (hi : i = nI k) (hk : k < len) (hlen : len < 2 ^ 31) (hdg : decode cc pc = .ok (.iastore, 1)) (kk : Go p l e R s m args below meth c cells slots Q D cs A ad N sh nL (up2 σ n k x) τ (pc + 1) lv (rest)) : Go p l e R s m args below meth c cells slots Q D cs A ad N sh nL σ τ (pc) lv (.int x :: .int i :: .ref (ad n) :: rest) := fun H locs ls hP hS hl => by
  subst hi
  refine va_iast X.1.1 X.1.2.1 X.2.1 hP (X.2.2.1 _) hS n 0 (by rw [wl_get hn]; show some (_, vE cs ad σ τ n (sh n)) = _; rw [hs]; rfl) rfl (vp_in_nI hk hlen) hdg (fun H1 locs1 hP1 _ hS1 => ?_)
  rw [nI_clamp (by omega), wl_set hn, vW_puta hs (by omega), upR_upd] at hP1
  exact kk H1 locs1 ls hP1 hS1 hl
theorem go_zast (X : Cx p m c cc nL s args Ts own D cs A ad N) {n len k : Nat} {g : Nat → Nat} {i : Int32} {x : Int32} (hn : n < N) (hs : sh n = .inr (1, len, g)) (hi : i = nI k) (hk : k < len) (hlen : len < 2 ^ 31) (hdg : decode cc pc = .ok (.bastore, 1)) (kk : Go p l e R s m args below meth c cells slots Q D cs A ad N sh nL (up2 σ n k (vp_nar .boolean x)) τ (pc + 1) lv (rest)) : Go p l e R s m args below meth c cells slots Q D cs A ad N sh nL σ τ (pc) lv (.int x :: .int i :: .ref (ad n) :: rest) := fun H locs ls hP hS hl => by
  subst hi
  refine va_zast X.1.1 X.1.2.1 X.2.1 hP (X.2.2.1 _) hS n 1 (by rw [wl_get hn]; show some (_, vE cs ad σ τ n (sh n)) = _; rw [hs]; rfl) rfl (vp_in_nI hk hlen) hdg (fun H1 locs1 hP1 _ hS1 => ?_)
  rw [nI_clamp (by omega), wl_set hn, vW_puta hs (by omega), upR_upd] at hP1
  exact kk H1 locs1 ls hP1 hS1 hl
theorem go_last (X : Cx p m c cc nL s args Ts own D cs A ad N) {n len k : Nat} {g : Nat → Nat} {i : Int32} {x : Int64} (hn : n < N) (hs : sh n = .inr (2, len, g)) (hi : i = nI k) (hk : k < len) (hlen : len < 2 ^ 31) (hdg : decode cc pc = .ok (.lastore, 1)) (kk : Go p l e R s m args below meth c cells slots Q D cs A ad N sh nL σ (up2 τ n k x) (pc + 1) lv (rest)) : Go p l e R s m args below meth c cells slots Q D cs A ad N sh nL σ τ (pc) lv (.long x :: .int i :: .ref (ad n) :: rest) := fun H locs ls hP hS hl => by
  subst hi
  refine va_last X.1.1 X.1.2.1 X.2.1 hP (X.2.2.1 _) hS n 2 (by rw [wl_get hn]; show some (_, vE cs ad σ τ n (sh n)) = _; rw [hs]; rfl) rfl (vp_in_nI hk hlen) hdg (fun H1 locs1 hP1 _ hS1 => ?_)
  rw [nI_clamp (by omega), wl_set hn, vW_putl hs] at hP1
  exact kk H1 locs1 ls hP1 hS1 hl
end GO
end
section
/-! contracts over numbered worlds -/
def vA (ad : Nat → Nat) (N sz : Nat) : Nat → Prop := fun q => (∃ n, n < N ∧ q = ad n) ∨ sz ≤ q
def Wd (D : va_G) (cs : Nat → ClassId) (ad : Nat → Nat) (N : Nat) (sh : Nat → vSh) (σ : vSg) (τ : vTa) (sz : Nat) : State → Prop := fun U => U.heap.size = sz ∧ va_P D vwCl (wl ad N (vW cs ad sh σ τ)) U.heap ∧ va_K D vwCl (vTy cs) U ∧ va_D (fun _ => True) (wl ad N (vW cs ad sh σ τ)) ∧ vNs U
def We (D : va_G) (cs : Nat → ClassId) (ad : Nat → Nat) (N : Nat) (sh : Nat → vSh) : vSg × vTa → State → Prop := fun u t => va_P D vwCl (wl ad N (vW cs ad sh u.1 u.2)) t.heap ∧ va_K D vwCl (vTy cs) t
theorem Wd_blind {D : va_G} {cs : Nat → ClassId} {ad : Nat → Nat} {N : Nat} {sh : Nat → vSh} {σ : vSg} {τ : vTa} {sz : Nat} {av : List Value} : FrameBlind (va_Pc av (Wd D cs ad N sh σ τ sz)) := fun a U g mk q => by
  obtain ⟨q0, q1, qP, qK, qD, qN⟩ := q
  exact ⟨q0, q1, qP, va_K.moved (u := U) (U := U.calling g mk a) (Vm.Alike.refl U.vm) qK, qD, va_Nw.same rfl (u := U) rfl qN.1, va_Nw.same rfl (u := U) rfl qN.2⟩
theorem vNs_warm {s U : State} (hW : s.WarmedH U.vm) (h : vNs s) : vNs U := ⟨va_Nw.warmM hW h.1, va_Nw.warmM hW h.2⟩
def CtI (l : Launch) (y : MethodName) (ws : List Cond) (rm : Room) (D : va_G) (cs : Nat → ClassId) (ad : Nat → Nat) (N : Nat) (sh : Nat → vSh) (av : List Value) (σ : vSg) (τ : vTa) (mc ms : Nat) (post : Int32 → vSg → vTa → Prop) : Prop := ∀ sz, Met l y ws rm (va_Pc av (Wd D cs ad N sh σ τ sz)) (va_Qi (fun r (u : vSg × vTa) => post r u.1 u.2) (We D cs ad N sh) (vA ad N sz)) mc ms (vA ad N sz)
def QI (below : List Frame) (args : Array Value) (s : State) (D : va_G) (cs : Nat → ClassId) (ad : Nat → Nat) (N : Nat) (sh : Nat → vSh) (A : Nat → Prop) (mc ms : Nat) (post : Int32 → vSg → vTa → Prop) : State → Prop := MQ below (va_Qi (fun r (u : vSg × vTa) => post r u.1 u.2) (We D cs ad N sh) A) args s mc ms A
def CtL (l : Launch) (y : MethodName) (ws : List Cond) (rm : Room) (D : va_G) (cs : Nat → ClassId) (ad : Nat → Nat) (N : Nat) (sh : Nat → vSh) (av : List Value) (σ : vSg) (τ : vTa) (mc ms : Nat) (post : Int64 → vSg → vTa → Prop) : Prop := ∀ sz, Met l y ws rm (va_Pc av (Wd D cs ad N sh σ τ sz)) (va_Ql (fun r (u : vSg × vTa) => post r u.1 u.2) (We D cs ad N sh) (vA ad N sz)) mc ms (vA ad N sz)
def QL (below : List Frame) (args : Array Value) (s : State) (D : va_G) (cs : Nat → ClassId) (ad : Nat → Nat) (N : Nat) (sh : Nat → vSh) (A : Nat → Prop) (mc ms : Nat) (post : Int64 → vSg → vTa → Prop) : State → Prop := MQ below (va_Ql (fun r (u : vSg × vTa) => post r u.1 u.2) (We D cs ad N sh) A) args s mc ms A
def CtV (l : Launch) (y : MethodName) (ws : List Cond) (rm : Room) (D : va_G) (cs : Nat → ClassId) (ad : Nat → Nat) (N : Nat) (sh : Nat → vSh) (av : List Value) (σ : vSg) (τ : vTa) (mc ms : Nat) (post : vSg → vTa → Prop) : Prop := ∀ sz, Met l y ws rm (va_Pc av (Wd D cs ad N sh σ τ sz)) (va_Qv (fun (u : vSg × vTa) => post u.1 u.2) (We D cs ad N sh) (vA ad N sz)) mc ms (vA ad N sz)
def QV (below : List Frame) (args : Array Value) (s : State) (D : va_G) (cs : Nat → ClassId) (ad : Nat → Nat) (N : Nat) (sh : Nat → vSh) (A : Nat → Prop) (mc ms : Nat) (post : vSg → vTa → Prop) : State → Prop := MQ below (va_Qv (fun (u : vSg × vTa) => post u.1 u.2) (We D cs ad N sh) A) args s mc ms A
theorem vA_D {ad : Nat → Nat} {N sz : Nat} {B : Nat → Prop} {w : Nat → va_E} (h : va_D B (wl ad N w)) (w2 : Nat → va_E) : va_D (vA ad N sz) (wl ad N w2) := by
  refine ⟨(wl_D h w2).1, fun k q hk => ?_⟩
  obtain ⟨h1, rfl⟩ := wl_of hk
  exact Or.inl ⟨k, h1, rfl⟩
theorem ct_I {l : Launch} {y : MethodName} {ws ws2 : List Cond} {rm : Room} {D : va_G} {cs : Nat → ClassId} {ad : Nat → Nat} {N : Nat} {sh : Nat → vSh} {av : List Value} {σ : vSg} {τ : vTa} {mc ms maxL : Nat} {cc : ByteArray} {tr : FieldType} {post : Int32 → vSg → vTa → Prop} {own : String} {lv : List (Nat × Value)} (hy : plainName y.cls = true) (hw : ws = Cond.code y cc maxL (some tr) :: ws2) (hlen : (lg_sl av).length ≤ maxL) (ho : y.cls = own) (hlv : lv_args 0 av = lv)
    (body : ∀ (p : Program) (e : Env) (s : State) (m : MethodId) (args : Array Value) (below : List Frame) (meth : Method) (c : Code) (A : Nat → Prop), Cx p m c cc maxL s args ws own D cs A ad N → meth.sig.returnType = (some tr) → meth.locks = false → Go p l e rm s m args below meth c 0 0 (QI below args s D cs ad N sh A mc ms post) D cs A ad N sh maxL σ τ 0 lv []) : CtI l y ws rm D cs ad N sh av σ τ mc ms post := by
  intro sz
  refine Met.ofW (cc := cc) (maxL := maxL) (ret := (some tr)) hy hw ?_
  intro p e s m args below meth c s₁ B hml hv
  obtain ⟨rfl, hsz, hP, hK, hD0, hN⟩ := hv
  subst ho
  subst hsz
  have hts := atoms_spec (ws := ws) B.pre
  have hown : s.vm.findClass y.cls = some m.cls := findClass_of_methodNamed B.named
  have hl := lv_entry av (n := maxL) hlen
  rw [lg_entry_eq]
  rw [hlv] at hl
  exact body p e s m av.toArray below meth c (vA ad N s.heap.size) ⟨⟨B.exec, B.bytes, hml, hown, hts⟩, hK, fun w => vA_D hD0 w, fun q h => Or.inr h, hN⟩ B.returns B.notSynchronized s.heap [] _ hP va_S.rf hl
theorem ct_L {l : Launch} {y : MethodName} {ws ws2 : List Cond} {rm : Room} {D : va_G} {cs : Nat → ClassId} {ad : Nat → Nat} {N : Nat} {sh : Nat → vSh} {av : List Value} {σ : vSg} {τ : vTa} {mc ms maxL : Nat} {cc : ByteArray} {tr : FieldType} {post : Int64 → vSg → vTa → Prop} {own : String} {lv : List (Nat × Value)} (hy : plainName y.cls = true) (hw : ws = Cond.code y cc maxL (some tr) :: ws2) (hlen : (lg_sl av).length ≤ maxL) (ho : y.cls = own) (hlv : lv_args 0 av = lv)
    (body : ∀ (p : Program) (e : Env) (s : State) (m : MethodId) (args : Array Value) (below : List Frame) (meth : Method) (c : Code) (A : Nat → Prop), Cx p m c cc maxL s args ws own D cs A ad N → meth.sig.returnType = (some tr) → meth.locks = false → Go p l e rm s m args below meth c 0 0 (QL below args s D cs ad N sh A mc ms post) D cs A ad N sh maxL σ τ 0 lv []) : CtL l y ws rm D cs ad N sh av σ τ mc ms post := by
  intro sz
  refine Met.ofW (cc := cc) (maxL := maxL) (ret := (some tr)) hy hw ?_
  intro p e s m args below meth c s₁ B hml hv
  obtain ⟨rfl, hsz, hP, hK, hD0, hN⟩ := hv
  subst ho
  subst hsz
  have hts := atoms_spec (ws := ws) B.pre
  have hown : s.vm.findClass y.cls = some m.cls := findClass_of_methodNamed B.named
  have hl := lv_entry av (n := maxL) hlen
  rw [lg_entry_eq]
  rw [hlv] at hl
  exact body p e s m av.toArray below meth c (vA ad N s.heap.size) ⟨⟨B.exec, B.bytes, hml, hown, hts⟩, hK, fun w => vA_D hD0 w, fun q h => Or.inr h, hN⟩ B.returns B.notSynchronized s.heap [] _ hP va_S.rf hl
theorem ct_V {l : Launch} {y : MethodName} {ws ws2 : List Cond} {rm : Room} {D : va_G} {cs : Nat → ClassId} {ad : Nat → Nat} {N : Nat} {sh : Nat → vSh} {av : List Value} {σ : vSg} {τ : vTa} {mc ms maxL : Nat} {cc : ByteArray} {post : vSg → vTa → Prop} {own : String} {lv : List (Nat × Value)} (hy : plainName y.cls = true) (hw : ws = Cond.code y cc maxL none :: ws2) (hlen : (lg_sl av).length ≤ maxL) (ho : y.cls = own) (hlv : lv_args 0 av = lv)
    (body : ∀ (p : Program) (e : Env) (s : State) (m : MethodId) (args : Array Value) (below : List Frame) (meth : Method) (c : Code) (A : Nat → Prop), Cx p m c cc maxL s args ws own D cs A ad N → meth.sig.returnType = none → meth.locks = false → Go p l e rm s m args below meth c 0 0 (QV below args s D cs ad N sh A mc ms post) D cs A ad N sh maxL σ τ 0 lv []) : CtV l y ws rm D cs ad N sh av σ τ mc ms post := by
  intro sz
  refine Met.ofW (cc := cc) (maxL := maxL) (ret := none) hy hw ?_
  intro p e s m args below meth c s₁ B hml hv
  obtain ⟨rfl, hsz, hP, hK, hD0, hN⟩ := hv
  subst ho
  subst hsz
  have hts := atoms_spec (ws := ws) B.pre
  have hown : s.vm.findClass y.cls = some m.cls := findClass_of_methodNamed B.named
  have hl := lv_entry av (n := maxL) hlen
  rw [lg_entry_eq]
  rw [hlv] at hl
  exact body p e s m av.toArray below meth c (vA ad N s.heap.size) ⟨⟨B.exec, B.bytes, hml, hown, hts⟩, hK, fun w => vA_D hD0 w, fun q h => Or.inr h, hN⟩ B.returns B.notSynchronized s.heap [] _ hP va_S.rf hl
section GC
variable {p : Program} {l : Launch} {e : Env} {R : Room} {s : State} {m : MethodId} {args : Array Value} {below : List Frame} {meth : Method} {c : Code} {cells slots : Nat} {Q : State → Prop} {D : va_G} {cs : Nat → ClassId} {A : Nat → Prop} {ad : Nat → Nat} {N : Nat} {sh : Nat → vSh} {nL : Nat} {σ : vSg} {τ : vTa} {cc : ByteArray} {Ts : List Cond} {own : String} {pc : Nat} {lv : List (Nat × Value)} {rest : List Value}

theorem go_ireturn (X : Cx p m c cc nL s args Ts own D cs A ad N) {v : Int32} {post : Int32 → vSg → vTa → Prop} (hr : meth.sig.returnType = some .int) (hlk : meth.locks = false) (hdg : decode cc pc = .ok (.ireturn, 1)) (hp : post v σ τ) : Go p l e R s m args below meth c (cells) (slots) (QI below args s D cs ad N sh A cells slots post) D cs A ad N sh nL σ τ (pc) lv ([.int v]) := fun H locs ls hP hS hl => W.iret (v := v) X.1.1 X.1.2.1 hr (fun t ht hW => ⟨⟨v, (σ, τ), rfl, hp, by rw [ht]; exact hP, va_K.moved hW.alike X.2.1⟩, hS.F ht⟩) hS.2.2 hdg hlk
theorem vz_nar {v : Int32} (h : v = 0 ∨ v = 1) : narrow .boolean (.int v) = .int v := by rcases h with rfl | rfl <;> rfl
theorem go_zreturn (X : Cx p m c cc nL s args Ts own D cs A ad N) {v : Int32} {post : Int32 → vSg → vTa → Prop} (hr : meth.sig.returnType = some .boolean) (hlk : meth.locks = false) (hdg : decode cc pc = .ok (.ireturn, 1)) (hz : v = 0 ∨ v = 1) (hp : post v σ τ) : Go p l e R s m args below meth c (cells) (slots) (QI below args s D cs ad N sh A cells slots post) D cs A ad N sh nL σ τ (pc) lv ([.int v]) := fun H locs ls hP hS hl => W.zret (v := v) (ty := .boolean) X.1.1 X.1.2.1 hr (vz_nar hz) (fun t ht hW => ⟨⟨v, (σ, τ), rfl, hp, by rw [ht]; exact hP, va_K.moved hW.alike X.2.1⟩, hS.F ht⟩) hS.2.2 hdg hlk
theorem go_lreturn (X : Cx p m c cc nL s args Ts own D cs A ad N) {v : Int64} {post : Int64 → vSg → vTa → Prop} (hr : meth.sig.returnType = some .long) (hlk : meth.locks = false) (hdg : decode cc pc = .ok (.lreturn, 1)) (hp : post v σ τ) : Go p l e R s m args below meth c (cells) (slots) (QL below args s D cs ad N sh A cells slots post) D cs A ad N sh nL σ τ (pc) lv ([.long v]) := fun H locs ls hP hS hl => W.lret (v := v) X.1.1 X.1.2.1 hr (fun t ht hW => ⟨⟨v, (σ, τ), rfl, hp, by rw [ht]; exact hP, va_K.moved hW.alike X.2.1⟩, hS.F ht⟩) hS.2.2 hdg hlk
theorem go_return (X : Cx p m c cc nL s args Ts own D cs A ad N) {post : vSg → vTa → Prop} (hr : meth.sig.returnType = none) (hlk : meth.locks = false) (hdg : decode cc pc = .ok (.return_, 1)) (hp : post σ τ) : Go p l e R s m args below meth c (cells) (slots) (QV below args s D cs ad N sh A cells slots post) D cs A ad N sh nL σ τ (pc) lv ([]) := fun H locs ls hP hS hl => W.vret X.1.1 X.1.2.1 hr (fun t ht hW => ⟨⟨(σ, τ), rfl, hp, by rw [ht]; exact hP, va_K.moved hW.alike X.2.1⟩, hS.F ht⟩) hS.2.2 hdg hlk
theorem go_widen {k n : Nat} (h1 : cells ≤ k) (h2 : slots ≤ n) (kk : Go p l e R s m args below meth c (k) (n) (Q) D cs A ad N sh nL σ τ (pc) lv (rest)) : Go p l e R s m args below meth c (cells) (slots) (Q) D cs A ad N sh nL σ τ (pc) lv (rest) := fun H locs ls hP hS hl => W.widen h1 h2 (kk H locs ls hP hS hl)
theorem go_lvsub {lv2 : List (Nat × Value)} (ks : List Nat) (h : lv_pick lv ks = lv2) (kk : Go p l e R s m args below meth c (cells) (slots) (Q) D cs A ad N sh nL σ τ (pc) lv2 (rest)) : Go p l e R s m args below meth c (cells) (slots) (Q) D cs A ad N sh nL σ τ (pc) lv (rest) := fun H locs ls hP hS hl => kk H locs ls hP hS (lv_sub hl ks h)
theorem go_lv {lv2 : List (Nat × Value)} (h : lv = lv2) (kk : Go p l e R s m args below meth c (cells) (slots) (Q) D cs A ad N sh nL σ τ (pc) lv2 (rest)) : Go p l e R s m args below meth c (cells) (slots) (Q) D cs A ad N sh nL σ τ (pc) lv (rest) := by subst h; exact kk
theorem go_st {a b : List Value} (h : a = b) (kk : Go p l e R s m args below meth c (cells) (slots) (Q) D cs A ad N sh nL σ τ (pc) lv (b)) : Go p l e R s m args below meth c (cells) (slots) (Q) D cs A ad N sh nL σ τ (pc) lv (a) := by subst h; exact kk
theorem go_topi {x : Int32} {v : Int32} (h : x = v) (kk : Go p l e R s m args below meth c (cells) (slots) (Q) D cs A ad N sh nL σ τ (pc) lv (.int v :: rest)) : Go p l e R s m args below meth c (cells) (slots) (Q) D cs A ad N sh nL σ τ (pc) lv (.int x :: rest) := by subst h; exact kk
theorem go_topl {x : Int64} {v : Int64} (h : x = v) (kk : Go p l e R s m args below meth c (cells) (slots) (Q) D cs A ad N sh nL σ τ (pc) lv (.long v :: rest)) : Go p l e R s m args below meth c (cells) (slots) (Q) D cs A ad N sh nL σ τ (pc) lv (.long x :: rest) := by subst h; exact kk
theorem go_sg {σ2 : vSg} (h : σ = σ2) (kk : Go p l e R s m args below meth c (cells) (slots) (Q) D cs A ad N sh nL σ2 τ (pc) lv (rest)) : Go p l e R s m args below meth c (cells) (slots) (Q) D cs A ad N sh nL σ τ (pc) lv (rest) := by subst h; exact kk
theorem vA_in (h : Cx p m c cc nL s args Ts own D cs A ad N) {H : Heap} {locs : List Loc} (hS : va_S A s.heap H locs) : ∀ q, vA ad N H.size q → A q := by
  intro q hq
  rcases hq with ⟨n, hn, rfl⟩ | hq
  · exact (h.2.2.1 (fun _ => .inr (0, []))).2 n _ (wl_get hn)
  · exact h.2.2.2.1 q (Nat.le_trans hS.1 hq)
theorem Wd_pre (h : Cx p m c cc nL s args Ts own D cs A ad N) {H : Heap} (hP : va_P D vwCl (wl ad N (vW cs ad sh σ τ)) H) {U : State} (hU : U.heap = H) (hW : s.WarmedH U.vm) : Wd D cs ad N sh σ τ H.size U :=
  ⟨by rw [hU], by rw [hU]; exact hP, va_K.moved hW.alike h.2.1, (h.2.2.1 _).weaken (fun _ _ _ _ => trivial), vNs_warm hW h.2.2.2.2⟩
theorem go_callVI (X : Cx p m c cc nL s args Ts own D cs A ad N) {y : MethodName} {ws ws2 : List Cond} {rm : Room} {bytes : ByteArray} {maxL idx mc ms k : Nat} {ret : Option FieldType} {As st : List Value} {post : Int32 → vSg → vTa → Prop} {C : String} {T : u_T} {M n ci : Nat} {fl : List (Option Nat)} (hM : CtI l y ws rm D cs ad N sh (.ref (ad n) :: As) σ τ mc ms post) (hG : GoodIn Ts (wsV own idx C y ws)) (hw : ws = Cond.code y bytes maxL ret :: ws2) (hd : y.cls = C ∧ y.cls ≠ "java/lang/invoke/MethodHandle" ∧ y.cls ≠ "java/lang/invoke/VarHandle" ∧ (parseMethodDescriptor y.desc).map (fun d => d.parameters.length) = some k) (hR : rm.cells = mc ∧ rm.slots = ms ∧ rm.frames + 1 ≤ R.frames ∧ 8 + (maxL + 11) + rm.locals ≤ R.locals ∧ cells + mc ≤ R.cells ∧ slots + ms ≤ R.slots) (hn : n < N) (hs : sh n = .inl (ci, fl)) (hc : vwCl[ci]? = some (C, T, M)) (hk : As.length = k) (hst : st = As.reverse ++ .ref (ad n) :: rest) (hroom : (rest.map fun v => v.category).sum ≤ 8) (hdg : decode cc pc = .ok (.invokevirtual idx, 3))
    (kk : ∀ (r : Int32) (σ2 : vSg) (τ2 : vTa), post r σ2 τ2 → Go p l e R s m args below meth c (cells + mc) (slots + ms) (Q) D cs A ad N sh nL σ2 τ2 (pc + 3) lv (.int r :: rest)) : Go p l e R s m args below meth c (cells) (slots) (Q) D cs A ad N sh nL σ τ (pc) lv (st) := fun H locs ls hP hS hl =>
  va_calli (va_runV (As := As) (rest := rest) X.1 (hM H.size) (cwV k X.1.2.2.2.2 hG hw hR.1 hR.2.1 hd ⟨hR.2.2.1, hR.2.2.2.1⟩) ⟨Wd_blind, va_recv X.2.1 hP hc (q0 := n) (fs := vFs ad (σ n) 0 fl) (by rw [wl_get hn]; show some (_, vE cs ad σ τ n (sh n)) = _; rw [hs]; rfl), fun U hU hW => ⟨rfl, Wd_pre X hP hU hW⟩⟩ rfl hk hl.1 hst (lv_room hroom) hdg hR.2.2.2.2) hS (fun q _ h => vA_in X hS q h) (vA_in X hS) (fun r u t H1 locs1 ht hvm hp hB hz hk hS1 => kk r u.1 u.2 hp H1 locs1 ls (by rw [← ht]; exact hB.1) hS1 hl)
theorem go_callSI (X : Cx p m c cc nL s args Ts own D cs A ad N) {y : MethodName} {ws ws2 : List Cond} {rm : Room} {bytes : ByteArray} {maxL idx mc ms k : Nat} {ret : Option FieldType} {As st : List Value} {post : Int32 → vSg → vTa → Prop} (hM : CtI l y ws rm D cs ad N sh As σ τ mc ms post) (hG : GoodIn Ts (va_wsS own idx y ws)) (hw : ws = Cond.code y bytes maxL ret :: ws2) (hd : y.cls ≠ "java/lang/invoke/MethodHandle" ∧ y.cls ≠ "java/lang/invoke/VarHandle" ∧ (parseMethodDescriptor y.desc).map (fun d => d.parameters.length) = some k) (hR : rm.cells = mc ∧ rm.slots = ms ∧ rm.frames + 1 ≤ R.frames ∧ 8 + (maxL + 11) + rm.locals ≤ R.locals ∧ cells + mc ≤ R.cells ∧ slots + ms ≤ R.slots) (hk : As.length = k) (hst : st = As.reverse ++ rest) (hroom : (rest.map fun v => v.category).sum ≤ 8) (hdg : decode cc pc = .ok (.invokestatic idx, 3))
    (kk : ∀ (r : Int32) (σ2 : vSg) (τ2 : vTa), post r σ2 τ2 → Go p l e R s m args below meth c (cells + mc) (slots + ms) (Q) D cs A ad N sh nL σ2 τ2 (pc + 3) lv (.int r :: rest)) : Go p l e R s m args below meth c (cells) (slots) (Q) D cs A ad N sh nL σ τ (pc) lv (st) := fun H locs ls hP hS hl =>
  va_calli (va_runS (As := As) (rest := rest) X.1 (hM H.size) (va_cwS k X.1.2.2.2.2 hG hw hR.1 hR.2.1 hd ⟨hR.2.2.1, hR.2.2.2.1⟩) ⟨Wd_blind, fun U hU hW => ⟨rfl, Wd_pre X hP hU hW⟩⟩ rfl hk hl.1 hst (lv_room hroom) hdg hR.2.2.2.2) hS (fun q _ h => vA_in X hS q h) (vA_in X hS) (fun r u t H1 locs1 ht hvm hp hB hz hk hS1 => kk r u.1 u.2 hp H1 locs1 ls (by rw [← ht]; exact hB.1) hS1 hl)
theorem go_callNI (X : Cx p m c cc nL s args Ts own D cs A ad N) {y : MethodName} {ws ws2 : List Cond} {rm : Room} {bytes : ByteArray} {maxL idx mc ms k : Nat} {ret : Option FieldType} {As st : List Value} {post : Int32 → vSg → vTa → Prop} {host : String} (hM : CtI l y ws rm D cs ad N sh As σ τ mc ms post) (hG : GoodIn Ts ws) (hw : ws = Cond.code y bytes maxL ret :: ws2) (hl0 : va_Nw (.methodLinkNest own idx y host) s) (hini : Cond.initialized y.cls ∈ Ts) (hstat : Cond.static y ∈ Ts) (hd : y.cls ≠ "java/lang/invoke/MethodHandle" ∧ y.cls ≠ "java/lang/invoke/VarHandle" ∧ (parseMethodDescriptor y.desc).map (fun d => d.parameters.length) = some k) (hR : rm.cells = mc ∧ rm.slots = ms ∧ rm.frames + 1 ≤ R.frames ∧ 8 + (maxL + 11) + rm.locals ≤ R.locals ∧ cells + mc ≤ R.cells ∧ slots + ms ≤ R.slots) (hk : As.length = k) (hst : st = As.reverse ++ rest) (hroom : (rest.map fun v => v.category).sum ≤ 8) (hdg : decode cc pc = .ok (.invokestatic idx, 3))
    (kk : ∀ (r : Int32) (σ2 : vSg) (τ2 : vTa), post r σ2 τ2 → Go p l e R s m args below meth c (cells + mc) (slots + ms) (Q) D cs A ad N sh nL σ2 τ2 (pc + 3) lv (.int r :: rest)) : Go p l e R s m args below meth c (cells) (slots) (Q) D cs A ad N sh nL σ τ (pc) lv (st) := fun H locs ls hP hS hl =>
  va_calli (va_runSN (As := As) (rest := rest) X.1 (hM H.size) ⟨va_cnB k X.1.2.2.2.2 hG hw hR.1 hR.2.1 hl0 (X.1.2.2.2.2 _ hini) hd ⟨hR.2.2.1, hR.2.2.2.1⟩, X.1.2.2.2.2 _ hstat, trivial⟩ ⟨Wd_blind, fun U hU hW => ⟨rfl, Wd_pre X hP hU hW⟩⟩ rfl hk hl.1 hst (lv_room hroom) hdg hR.2.2.2.2) hS (fun q _ h => vA_in X hS q h) (vA_in X hS) (fun r u t H1 locs1 ht hvm hp hB hz hk hS1 => kk r u.1 u.2 hp H1 locs1 ls (by rw [← ht]; exact hB.1) hS1 hl)
theorem go_callVL (X : Cx p m c cc nL s args Ts own D cs A ad N) {y : MethodName} {ws ws2 : List Cond} {rm : Room} {bytes : ByteArray} {maxL idx mc ms k : Nat} {ret : Option FieldType} {As st : List Value} {post : Int64 → vSg → vTa → Prop} {C : String} {T : u_T} {M n ci : Nat} {fl : List (Option Nat)} (hM : CtL l y ws rm D cs ad N sh (.ref (ad n) :: As) σ τ mc ms post) (hG : GoodIn Ts (wsV own idx C y ws)) (hw : ws = Cond.code y bytes maxL ret :: ws2) (hd : y.cls = C ∧ y.cls ≠ "java/lang/invoke/MethodHandle" ∧ y.cls ≠ "java/lang/invoke/VarHandle" ∧ (parseMethodDescriptor y.desc).map (fun d => d.parameters.length) = some k) (hR : rm.cells = mc ∧ rm.slots = ms ∧ rm.frames + 1 ≤ R.frames ∧ 8 + (maxL + 11) + rm.locals ≤ R.locals ∧ cells + mc ≤ R.cells ∧ slots + ms ≤ R.slots) (hn : n < N) (hs : sh n = .inl (ci, fl)) (hc : vwCl[ci]? = some (C, T, M)) (hk : As.length = k) (hst : st = As.reverse ++ .ref (ad n) :: rest) (hroom : (rest.map fun v => v.category).sum ≤ 8) (hdg : decode cc pc = .ok (.invokevirtual idx, 3))
    (kk : ∀ (r : Int64) (σ2 : vSg) (τ2 : vTa), post r σ2 τ2 → Go p l e R s m args below meth c (cells + mc) (slots + ms) (Q) D cs A ad N sh nL σ2 τ2 (pc + 3) lv (.long r :: rest)) : Go p l e R s m args below meth c (cells) (slots) (Q) D cs A ad N sh nL σ τ (pc) lv (st) := fun H locs ls hP hS hl =>
  va_calll (va_runV (As := As) (rest := rest) X.1 (hM H.size) (cwV k X.1.2.2.2.2 hG hw hR.1 hR.2.1 hd ⟨hR.2.2.1, hR.2.2.2.1⟩) ⟨Wd_blind, va_recv X.2.1 hP hc (q0 := n) (fs := vFs ad (σ n) 0 fl) (by rw [wl_get hn]; show some (_, vE cs ad σ τ n (sh n)) = _; rw [hs]; rfl), fun U hU hW => ⟨rfl, Wd_pre X hP hU hW⟩⟩ rfl hk hl.1 hst (lv_room hroom) hdg hR.2.2.2.2) hS (fun q _ h => vA_in X hS q h) (vA_in X hS) (fun r u t H1 locs1 ht hvm hp hB hz hk hS1 => kk r u.1 u.2 hp H1 locs1 ls (by rw [← ht]; exact hB.1) hS1 hl)
theorem go_callSL (X : Cx p m c cc nL s args Ts own D cs A ad N) {y : MethodName} {ws ws2 : List Cond} {rm : Room} {bytes : ByteArray} {maxL idx mc ms k : Nat} {ret : Option FieldType} {As st : List Value} {post : Int64 → vSg → vTa → Prop} (hM : CtL l y ws rm D cs ad N sh As σ τ mc ms post) (hG : GoodIn Ts (va_wsS own idx y ws)) (hw : ws = Cond.code y bytes maxL ret :: ws2) (hd : y.cls ≠ "java/lang/invoke/MethodHandle" ∧ y.cls ≠ "java/lang/invoke/VarHandle" ∧ (parseMethodDescriptor y.desc).map (fun d => d.parameters.length) = some k) (hR : rm.cells = mc ∧ rm.slots = ms ∧ rm.frames + 1 ≤ R.frames ∧ 8 + (maxL + 11) + rm.locals ≤ R.locals ∧ cells + mc ≤ R.cells ∧ slots + ms ≤ R.slots) (hk : As.length = k) (hst : st = As.reverse ++ rest) (hroom : (rest.map fun v => v.category).sum ≤ 8) (hdg : decode cc pc = .ok (.invokestatic idx, 3))
    (kk : ∀ (r : Int64) (σ2 : vSg) (τ2 : vTa), post r σ2 τ2 → Go p l e R s m args below meth c (cells + mc) (slots + ms) (Q) D cs A ad N sh nL σ2 τ2 (pc + 3) lv (.long r :: rest)) : Go p l e R s m args below meth c (cells) (slots) (Q) D cs A ad N sh nL σ τ (pc) lv (st) := fun H locs ls hP hS hl =>
  va_calll (va_runS (As := As) (rest := rest) X.1 (hM H.size) (va_cwS k X.1.2.2.2.2 hG hw hR.1 hR.2.1 hd ⟨hR.2.2.1, hR.2.2.2.1⟩) ⟨Wd_blind, fun U hU hW => ⟨rfl, Wd_pre X hP hU hW⟩⟩ rfl hk hl.1 hst (lv_room hroom) hdg hR.2.2.2.2) hS (fun q _ h => vA_in X hS q h) (vA_in X hS) (fun r u t H1 locs1 ht hvm hp hB hz hk hS1 => kk r u.1 u.2 hp H1 locs1 ls (by rw [← ht]; exact hB.1) hS1 hl)
theorem go_callVV (X : Cx p m c cc nL s args Ts own D cs A ad N) {y : MethodName} {ws ws2 : List Cond} {rm : Room} {bytes : ByteArray} {maxL idx mc ms k : Nat} {ret : Option FieldType} {As st : List Value} {post : vSg → vTa → Prop} {C : String} {T : u_T} {M n ci : Nat} {fl : List (Option Nat)} (hM : CtV l y ws rm D cs ad N sh (.ref (ad n) :: As) σ τ mc ms post) (hG : GoodIn Ts (wsV own idx C y ws)) (hw : ws = Cond.code y bytes maxL ret :: ws2) (hd : y.cls = C ∧ y.cls ≠ "java/lang/invoke/MethodHandle" ∧ y.cls ≠ "java/lang/invoke/VarHandle" ∧ (parseMethodDescriptor y.desc).map (fun d => d.parameters.length) = some k) (hR : rm.cells = mc ∧ rm.slots = ms ∧ rm.frames + 1 ≤ R.frames ∧ 8 + (maxL + 11) + rm.locals ≤ R.locals ∧ cells + mc ≤ R.cells ∧ slots + ms ≤ R.slots) (hn : n < N) (hs : sh n = .inl (ci, fl)) (hc : vwCl[ci]? = some (C, T, M)) (hk : As.length = k) (hst : st = As.reverse ++ .ref (ad n) :: rest) (hroom : (rest.map fun v => v.category).sum ≤ 8) (hdg : decode cc pc = .ok (.invokevirtual idx, 3))
    (kk : ∀ (σ2 : vSg) (τ2 : vTa), post σ2 τ2 → Go p l e R s m args below meth c (cells + mc) (slots + ms) (Q) D cs A ad N sh nL σ2 τ2 (pc + 3) lv (rest)) : Go p l e R s m args below meth c (cells) (slots) (Q) D cs A ad N sh nL σ τ (pc) lv (st) := fun H locs ls hP hS hl =>
  va_callv (va_runV (As := As) (rest := rest) X.1 (hM H.size) (cwV k X.1.2.2.2.2 hG hw hR.1 hR.2.1 hd ⟨hR.2.2.1, hR.2.2.2.1⟩) ⟨Wd_blind, va_recv X.2.1 hP hc (q0 := n) (fs := vFs ad (σ n) 0 fl) (by rw [wl_get hn]; show some (_, vE cs ad σ τ n (sh n)) = _; rw [hs]; rfl), fun U hU hW => ⟨rfl, Wd_pre X hP hU hW⟩⟩ rfl hk hl.1 hst (lv_room hroom) hdg hR.2.2.2.2) hS (fun q _ h => vA_in X hS q h) (vA_in X hS) (fun u t H1 locs1 ht hvm hp hB hz hk hS1 => kk u.1 u.2 hp H1 locs1 ls (by rw [← ht]; exact hB.1) hS1 hl)
theorem go_callSV (X : Cx p m c cc nL s args Ts own D cs A ad N) {y : MethodName} {ws ws2 : List Cond} {rm : Room} {bytes : ByteArray} {maxL idx mc ms k : Nat} {ret : Option FieldType} {As st : List Value} {post : vSg → vTa → Prop} (hM : CtV l y ws rm D cs ad N sh As σ τ mc ms post) (hG : GoodIn Ts (va_wsS own idx y ws)) (hw : ws = Cond.code y bytes maxL ret :: ws2) (hd : y.cls ≠ "java/lang/invoke/MethodHandle" ∧ y.cls ≠ "java/lang/invoke/VarHandle" ∧ (parseMethodDescriptor y.desc).map (fun d => d.parameters.length) = some k) (hR : rm.cells = mc ∧ rm.slots = ms ∧ rm.frames + 1 ≤ R.frames ∧ 8 + (maxL + 11) + rm.locals ≤ R.locals ∧ cells + mc ≤ R.cells ∧ slots + ms ≤ R.slots) (hk : As.length = k) (hst : st = As.reverse ++ rest) (hroom : (rest.map fun v => v.category).sum ≤ 8) (hdg : decode cc pc = .ok (.invokestatic idx, 3))
    (kk : ∀ (σ2 : vSg) (τ2 : vTa), post σ2 τ2 → Go p l e R s m args below meth c (cells + mc) (slots + ms) (Q) D cs A ad N sh nL σ2 τ2 (pc + 3) lv (rest)) : Go p l e R s m args below meth c (cells) (slots) (Q) D cs A ad N sh nL σ τ (pc) lv (st) := fun H locs ls hP hS hl =>
  va_callv (va_runS (As := As) (rest := rest) X.1 (hM H.size) (va_cwS k X.1.2.2.2.2 hG hw hR.1 hR.2.1 hd ⟨hR.2.2.1, hR.2.2.2.1⟩) ⟨Wd_blind, fun U hU hW => ⟨rfl, Wd_pre X hP hU hW⟩⟩ rfl hk hl.1 hst (lv_room hroom) hdg hR.2.2.2.2) hS (fun q _ h => vA_in X hS q h) (vA_in X hS) (fun u t H1 locs1 ht hvm hp hB hz hk hS1 => kk u.1 u.2 hp H1 locs1 ls (by rw [← ht]; exact hB.1) hS1 hl)
end GC
end
section
/-! the cells of the class (0 .. 37), of the reference (38 .. 57), a text (58) -/
def shA : List vSh := [.inl (6, [some 1, some 2, some 3, some 4, some 5, some 6, none, none]), .inr (3, 4, fun i => 12 + i), .inl (2, [some 7, some 8, some 9, none, none]), .inl (1, [some 10, some 11, some 34, none]), .inl (0, [some 35, some 36]), .inl (5, [some 37, none, none, none]), .inr (2, 4, fun _ => 0), .inr (4, 5, fun i => 20 + i), .inr (0, 4, fun _ => 0), .inr (0, 4, fun _ => 0), .inr (0, 8, fun _ => 0), .inr (0, 8, fun _ => 0), .inl (3, [some 16, none, none, none]), .inl (3, [some 17, none, none, none]), .inl (3, [some 18, none, none, none]), .inl (3, [some 19, none, none, none]), .inr (0, 60, fun _ => 0), .inr (0, 60, fun _ => 0), .inr (0, 60, fun _ => 0), .inr (0, 60, fun _ => 0), .inr (0, 3, fun _ => 0), .inr (0, 3, fun _ => 0), .inr (0, 3, fun _ => 0), .inr (0, 3, fun _ => 0), .inr (0, 3, fun _ => 0), .inr (2, 4, fun _ => 0), .inr (2, 4, fun _ => 0), .inr (2, 4, fun _ => 0), .inr (2, 4, fun _ => 0), .inr (2, 4, fun _ => 0), .inr (2, 4, fun _ => 0), .inr (2, 4, fun _ => 0), .inr (2, 4, fun _ => 0), .inr (2, 4, fun _ => 0), .inr (1, 8, fun _ => 0), .inr (5, 9, fun i => 25 + i), .inr (2, 9, fun _ => 0), .inr (0, 4, fun _ => 0), .inl (7, [none, none, some 39, some 40, some 41, none, some 42, some 43, none, none, none, some 44, some 45, some 46, some 47, some 48, none, none, none, some 49, some 50, none, some 51, some 52, some 53, some 54, some 55, some 56, some 57, none]), .inr (0, 5, fun _ => 0), .inr (0, 5, fun _ => 0), .inr (0, 5, fun _ => 0), .inr (0, 4, fun _ => 0), .inr (0, 4, fun _ => 0), .inr (0, 5, fun _ => 0), .inr (0, 5, fun _ => 0), .inr (0, 5, fun _ => 0), .inr (0, 4, fun _ => 0), .inr (0, 4, fun _ => 0), .inr (0, 4, fun _ => 0), .inr (2, 36, fun _ => 0), .inr (0, 8, fun _ => 0), .inr (0, 8, fun _ => 0), .inr (1, 8, fun _ => 0), .inr (0, 4, fun _ => 0), .inr (0, 4, fun _ => 0), .inr (0, 240, fun _ => 0), .inr (0, 60, fun _ => 0)]
def shL (kt : Nat) : List vSh := shA ++ [.inl (4, [some (12 + kt), none, none, none, none])]
def shP (kt : Nat) : Nat → vSh := fun n => (shL kt).getD n (.inr (0, 0, fun _ => 0))
theorem sh_row {kt k : Nat} (h : k < 4) : shP kt (12 + k) = .inl (3, [some (16 + k), none, none, none]) := match k, h with
  | 0, _ => rfl
  | 1, _ => rfl
  | 2, _ => rfl
  | 3, _ => rfl
  | n + 4, h => absurd h (by omega)
theorem sh_cells {kt k : Nat} (h : k < 4) : shP kt (16 + k) = .inr (0, 60, fun _ => 0) := match k, h with
  | 0, _ => rfl
  | 1, _ => rfl
  | 2, _ => rfl
  | 3, _ => rfl
  | n + 4, h => absurd h (by omega)
theorem sh_deed {kt k : Nat} (h : k < 5) : shP kt (20 + k) = .inr (0, 3, fun _ => 0) := match k, h with
  | 0, _ => rfl
  | 1, _ => rfl
  | 2, _ => rfl
  | 3, _ => rfl
  | 4, _ => rfl
  | n + 5, h => absurd h (by omega)
theorem sh_hope {kt k : Nat} (h : k < 9) : shP kt (25 + k) = .inr (2, 4, fun _ => 0) := match k, h with
  | 0, _ => rfl
  | 1, _ => rfl
  | 2, _ => rfl
  | 3, _ => rfl
  | 4, _ => rfl
  | 5, _ => rfl
  | 6, _ => rfl
  | 7, _ => rfl
  | 8, _ => rfl
  | n + 9, h => absurd h (by omega)
theorem shP_kt {kt k2 n : Nat} (h : n < 58) : shP kt n = shP k2 n := by
  have hl : shA.length = 58 := rfl
  simp only [shP, shL, List.getD_eq_getElem?_getD]
  rw [List.getElem?_append_left (by omega), List.getElem?_append_left (by omega)]
noncomputable def b2i (P : Prop) : Int32 := @ite _ P (Classical.propDecidable P) 1 0
theorem b2i_z (P : Prop) : b2i P = 0 ∨ b2i P = 1 := by unfold b2i; split <;> simp
theorem b2i_t {P : Prop} (h : P) : b2i P = 1 := if_pos h
theorem b2i_f {P : Prop} (h : ¬ P) : b2i P = 0 := if_neg h
theorem b2i_c {P Q : Prop} (h : P ↔ Q) : b2i P = b2i Q := by rw [propext h]
theorem b2i_1 {P : Prop} : b2i P = 1 ↔ P := ⟨fun h => Classical.byContradiction fun q => by rw [b2i_f q] at h; exact absurd h (by decide), b2i_t⟩
theorem b2i_0 {P : Prop} : b2i P = 0 ↔ ¬ P := ⟨fun h q => by rw [b2i_t q] at h; exact absurd h (by decide), b2i_f⟩
/-- 0 ≤ v < b -/
abbrev isB (v b : Int32) : Prop := 0 ≤ v ∧ v < b
theorem isB_nat {v : Int32} {b : Nat} (h : isB v (nI b)) (hb : b < 2 ^ 31) : ∃ k : Nat, k < b ∧ v = nI k := by
  have h0 : ¬ v < 0 := by
    intro h9
    have h1 := h.1
    rw [Int32.le_iff_toInt_le] at h1
    rw [Int32.lt_iff_toInt_lt] at h9
    omega
  obtain ⟨j, hj, rfl⟩ := nI_of h0
  exact ⟨j, (nI_ltI hj hb).mp h.2, rfl⟩
theorem isB_nI {k b : Nat} (h : k < b) (hb : b < 2 ^ 31) : isB (nI k) (nI b) := ⟨nI_pos' (by omega), nI_lt h hb⟩
theorem isB_iff {k b : Nat} (hk : k < 2 ^ 31) (hb : b < 2 ^ 31) : isB (nI k) (nI b) ↔ k < b := ⟨fun q => (nI_ltI hk hb).mp q.2, fun h => isB_nI h hb⟩
section GB
variable {p : Program} {l : Launch} {e : Env} {R : Room} {s : State} {m : MethodId} {args : Array Value} {below : List Frame} {meth : Method} {c : Code} {cells slots : Nat} {Q : State → Prop} {D : va_G} {cs : Nat → ClassId} {A : Nat → Prop} {ad : Nat → Nat} {N : Nat} {sh : Nat → vSh} {nL : Nat} {σ : vSg} {τ : vTa} {cc : ByteArray} {Ts : List Cond} {own : String} {pc : Nat} {lv lv2 : List (Nat × Value)} {rest : List Value}
theorem go_ifb_ne (X : Cx p m c cc nL s args Ts own D cs A ad N) {P : Prop} {off : Int} {tgt : Nat} (hdg : decode cc pc = .ok (.ifCond .ne off, 3)) (ht : (pc : Int) + off = (tgt : Int)) (kt : P → Go p l e R s m args below meth c cells slots Q D cs A ad N sh nL σ τ (tgt) lv (rest)) (kf : ¬ P → Go p l e R s m args below meth c cells slots Q D cs A ad N sh nL σ τ (pc + 3) lv (rest)) : Go p l e R s m args below meth c cells slots Q D cs A ad N sh nL σ τ (pc) lv (.int (b2i P) :: rest) := go_if_ne X hdg ht (fun h => kt (Classical.byContradiction fun q => h (b2i_f q))) (fun h => kf (fun q => by rw [b2i_t q] at h; exact absurd h (by decide)))
theorem go_ifb_eq (X : Cx p m c cc nL s args Ts own D cs A ad N) {P : Prop} {off : Int} {tgt : Nat} (hdg : decode cc pc = .ok (.ifCond .eq off, 3)) (ht : (pc : Int) + off = (tgt : Int)) (kt : ¬ P → Go p l e R s m args below meth c cells slots Q D cs A ad N sh nL σ τ (tgt) lv (rest)) (kf : P → Go p l e R s m args below meth c cells slots Q D cs A ad N sh nL σ τ (pc + 3) lv (rest)) : Go p l e R s m args below meth c cells slots Q D cs A ad N sh nL σ τ (pc) lv (.int (b2i P) :: rest) := go_if_eq X hdg ht (fun h => kt (fun q => by rw [b2i_t q] at h; exact absurd h (by decide))) (fun h => kf (Classical.byContradiction fun q => h (b2i_f q)))
theorem go_icmpn_eq (X : Cx p m c cc nL s args Ts own D cs A ad N) {x y : Int32} {a b : Nat} {off : Int} {tgt : Nat} (hdg : decode cc pc = .ok (.if_icmp .eq off, 3)) (ht : (pc : Int) + off = (tgt : Int)) (hx : x = nI a) (hy : y = nI b) (ha : a < 2 ^ 31) (hb : b < 2 ^ 31) (kt : a = b → Go p l e R s m args below meth c cells slots Q D cs A ad N sh nL σ τ (tgt) lv (rest)) (kf : ¬ a = b → Go p l e R s m args below meth c cells slots Q D cs A ad N sh nL σ τ (pc + 3) lv (rest)) : Go p l e R s m args below meth c cells slots Q D cs A ad N sh nL σ τ (pc) lv (.int y :: .int x :: rest) := by
  subst hx; subst hy
  exact go_icmp_eq X hdg ht (fun h => kt ((nI_eq ha hb).mp h)) (fun h => kf (fun q => h ((nI_eq ha hb).mpr q)))
theorem go_icmpn_ne (X : Cx p m c cc nL s args Ts own D cs A ad N) {x y : Int32} {a b : Nat} {off : Int} {tgt : Nat} (hdg : decode cc pc = .ok (.if_icmp .ne off, 3)) (ht : (pc : Int) + off = (tgt : Int)) (hx : x = nI a) (hy : y = nI b) (ha : a < 2 ^ 31) (hb : b < 2 ^ 31) (kt : ¬ a = b → Go p l e R s m args below meth c cells slots Q D cs A ad N sh nL σ τ (tgt) lv (rest)) (kf : a = b → Go p l e R s m args below meth c cells slots Q D cs A ad N sh nL σ τ (pc + 3) lv (rest)) : Go p l e R s m args below meth c cells slots Q D cs A ad N sh nL σ τ (pc) lv (.int y :: .int x :: rest) := by
  subst hx; subst hy
  exact go_icmp_ne X hdg ht (fun h => kt (fun q => h ((nI_eq ha hb).mpr q))) (fun h => kf ((nI_eq ha hb).mp h))
theorem go_icmpn_lt (X : Cx p m c cc nL s args Ts own D cs A ad N) {x y : Int32} {a b : Nat} {off : Int} {tgt : Nat} (hdg : decode cc pc = .ok (.if_icmp .lt off, 3)) (ht : (pc : Int) + off = (tgt : Int)) (hx : x = nI a) (hy : y = nI b) (ha : a < 2 ^ 31) (hb : b < 2 ^ 31) (kt : a < b → Go p l e R s m args below meth c cells slots Q D cs A ad N sh nL σ τ (tgt) lv (rest)) (kf : b ≤ a → Go p l e R s m args below meth c cells slots Q D cs A ad N sh nL σ τ (pc + 3) lv (rest)) : Go p l e R s m args below meth c cells slots Q D cs A ad N sh nL σ τ (pc) lv (.int y :: .int x :: rest) := by
  subst hx; subst hy
  exact go_icmp_lt X hdg ht (fun h => kt ((nI_ltI ha hb).mp h)) (fun h => kf (Nat.not_lt.mp (fun q => h ((nI_ltI ha hb).mpr q))))
theorem go_icmpn_ge (X : Cx p m c cc nL s args Ts own D cs A ad N) {x y : Int32} {a b : Nat} {off : Int} {tgt : Nat} (hdg : decode cc pc = .ok (.if_icmp .ge off, 3)) (ht : (pc : Int) + off = (tgt : Int)) (hx : x = nI a) (hy : y = nI b) (ha : a < 2 ^ 31) (hb : b < 2 ^ 31) (kt : b ≤ a → Go p l e R s m args below meth c cells slots Q D cs A ad N sh nL σ τ (tgt) lv (rest)) (kf : a < b → Go p l e R s m args below meth c cells slots Q D cs A ad N sh nL σ τ (pc + 3) lv (rest)) : Go p l e R s m args below meth c cells slots Q D cs A ad N sh nL σ τ (pc) lv (.int y :: .int x :: rest) := by
  subst hx; subst hy
  exact go_icmp_ge X hdg ht (fun h => kt ((nI_leI hb ha).mp h)) (fun h => kf (Nat.not_le.mp (fun q => h ((nI_leI hb ha).mpr q))))
theorem go_icmpn_gt (X : Cx p m c cc nL s args Ts own D cs A ad N) {x y : Int32} {a b : Nat} {off : Int} {tgt : Nat} (hdg : decode cc pc = .ok (.if_icmp .gt off, 3)) (ht : (pc : Int) + off = (tgt : Int)) (hx : x = nI a) (hy : y = nI b) (ha : a < 2 ^ 31) (hb : b < 2 ^ 31) (kt : b < a → Go p l e R s m args below meth c cells slots Q D cs A ad N sh nL σ τ (tgt) lv (rest)) (kf : a ≤ b → Go p l e R s m args below meth c cells slots Q D cs A ad N sh nL σ τ (pc + 3) lv (rest)) : Go p l e R s m args below meth c cells slots Q D cs A ad N sh nL σ τ (pc) lv (.int y :: .int x :: rest) := by
  subst hx; subst hy
  exact go_icmp_gt X hdg ht (fun h => kt ((nI_ltI hb ha).mp h)) (fun h => kf (Nat.not_lt.mp (fun q => h ((nI_ltI hb ha).mpr q))))
theorem go_icmpn_le (X : Cx p m c cc nL s args Ts own D cs A ad N) {x y : Int32} {a b : Nat} {off : Int} {tgt : Nat} (hdg : decode cc pc = .ok (.if_icmp .le off, 3)) (ht : (pc : Int) + off = (tgt : Int)) (hx : x = nI a) (hy : y = nI b) (ha : a < 2 ^ 31) (hb : b < 2 ^ 31) (kt : a ≤ b → Go p l e R s m args below meth c cells slots Q D cs A ad N sh nL σ τ (tgt) lv (rest)) (kf : b < a → Go p l e R s m args below meth c cells slots Q D cs A ad N sh nL σ τ (pc + 3) lv (rest)) : Go p l e R s m args below meth c cells slots Q D cs A ad N sh nL σ τ (pc) lv (.int y :: .int x :: rest) := by
  subst hx; subst hy
  exact go_icmp_le X hdg ht (fun h => kt ((nI_leI ha hb).mp h)) (fun h => kf (Nat.not_le.mp (fun q => h ((nI_leI ha hb).mpr q))))
theorem go_ifn_eq (X : Cx p m c cc nL s args Ts own D cs A ad N) {x : Int32} {a : Nat} {off : Int} {tgt : Nat} (hdg : decode cc pc = .ok (.ifCond .eq off, 3)) (ht : (pc : Int) + off = (tgt : Int)) (hx : x = nI a) (ha : a < 2 ^ 31) (kt : a = 0 → Go p l e R s m args below meth c cells slots Q D cs A ad N sh nL σ τ (tgt) lv (rest)) (kf : ¬ a = 0 → Go p l e R s m args below meth c cells slots Q D cs A ad N sh nL σ τ (pc + 3) lv (rest)) : Go p l e R s m args below meth c cells slots Q D cs A ad N sh nL σ τ (pc) lv (.int x :: rest) := by
  subst hx
  exact go_if_eq X hdg ht (fun h => kt ((nI_eq ha (by decide : 0 < 2 ^ 31)).mp h)) (fun h => kf (fun q => h ((nI_eq ha (by decide : 0 < 2 ^ 31)).mpr q)))
theorem go_ifn_ne (X : Cx p m c cc nL s args Ts own D cs A ad N) {x : Int32} {a : Nat} {off : Int} {tgt : Nat} (hdg : decode cc pc = .ok (.ifCond .ne off, 3)) (ht : (pc : Int) + off = (tgt : Int)) (hx : x = nI a) (ha : a < 2 ^ 31) (kt : ¬ a = 0 → Go p l e R s m args below meth c cells slots Q D cs A ad N sh nL σ τ (tgt) lv (rest)) (kf : a = 0 → Go p l e R s m args below meth c cells slots Q D cs A ad N sh nL σ τ (pc + 3) lv (rest)) : Go p l e R s m args below meth c cells slots Q D cs A ad N sh nL σ τ (pc) lv (.int x :: rest) := by
  subst hx
  exact go_if_ne X hdg ht (fun h => kt (fun q => h ((nI_eq ha (by decide : 0 < 2 ^ 31)).mpr q))) (fun h => kf ((nI_eq ha (by decide : 0 < 2 ^ 31)).mp h))
theorem go_ifn_le (X : Cx p m c cc nL s args Ts own D cs A ad N) {x : Int32} {a : Nat} {off : Int} {tgt : Nat} (hdg : decode cc pc = .ok (.ifCond .le off, 3)) (ht : (pc : Int) + off = (tgt : Int)) (hx : x = nI a) (ha : a < 2 ^ 31) (kt : a = 0 → Go p l e R s m args below meth c cells slots Q D cs A ad N sh nL σ τ (tgt) lv (rest)) (kf : 0 < a → Go p l e R s m args below meth c cells slots Q D cs A ad N sh nL σ τ (pc + 3) lv (rest)) : Go p l e R s m args below meth c cells slots Q D cs A ad N sh nL σ τ (pc) lv (.int x :: rest) := by
  subst hx
  exact go_if_le X hdg ht (fun h => kt (Nat.le_zero.mp ((nI_leI ha (by decide : 0 < 2 ^ 31)).mp h))) (fun h => kf (Nat.not_le.mp (fun q => h ((nI_leI ha (by decide : 0 < 2 ^ 31)).mpr q))))
theorem go_ifn_gt (X : Cx p m c cc nL s args Ts own D cs A ad N) {x : Int32} {a : Nat} {off : Int} {tgt : Nat} (hdg : decode cc pc = .ok (.ifCond .gt off, 3)) (ht : (pc : Int) + off = (tgt : Int)) (hx : x = nI a) (ha : a < 2 ^ 31) (kt : 0 < a → Go p l e R s m args below meth c cells slots Q D cs A ad N sh nL σ τ (tgt) lv (rest)) (kf : a = 0 → Go p l e R s m args below meth c cells slots Q D cs A ad N sh nL σ τ (pc + 3) lv (rest)) : Go p l e R s m args below meth c cells slots Q D cs A ad N sh nL σ τ (pc) lv (.int x :: rest) := by
  subst hx
  exact go_if_gt X hdg ht (fun h => kt ((nI_ltI (by decide : 0 < 2 ^ 31) ha).mp h)) (fun h => kf (Nat.le_zero.mp (Nat.not_lt.mp (fun q => h ((nI_ltI (by decide : 0 < 2 ^ 31) ha).mpr q)))))
theorem go_ifn_lt (X : Cx p m c cc nL s args Ts own D cs A ad N) {x : Int32} {a : Nat} {off : Int} {tgt : Nat} (hdg : decode cc pc = .ok (.ifCond .lt off, 3)) (ht : (pc : Int) + off = (tgt : Int)) (hx : x = nI a) (ha : a < 2 ^ 31) (kt : False → Go p l e R s m args below meth c cells slots Q D cs A ad N sh nL σ τ (tgt) lv (rest)) (kf : True → Go p l e R s m args below meth c cells slots Q D cs A ad N sh nL σ τ (pc + 3) lv (rest)) : Go p l e R s m args below meth c cells slots Q D cs A ad N sh nL σ τ (pc) lv (.int x :: rest) := by
  subst hx
  exact go_if_lt X hdg ht (fun h => kt (nI_pos ha h)) (fun h => kf trivial)
theorem go_ifn_ge (X : Cx p m c cc nL s args Ts own D cs A ad N) {x : Int32} {a : Nat} {off : Int} {tgt : Nat} (hdg : decode cc pc = .ok (.ifCond .ge off, 3)) (ht : (pc : Int) + off = (tgt : Int)) (hx : x = nI a) (ha : a < 2 ^ 31) (kt : True → Go p l e R s m args below meth c cells slots Q D cs A ad N sh nL σ τ (tgt) lv (rest)) (kf : False → Go p l e R s m args below meth c cells slots Q D cs A ad N sh nL σ τ (pc + 3) lv (rest)) : Go p l e R s m args below meth c cells slots Q D cs A ad N sh nL σ τ (pc) lv (.int x :: rest) := by
  subst hx
  exact go_if_ge X hdg ht (fun h => kt trivial) (fun h => kf (h (nI_pos' ha)))
theorem go_lcmp_eq (X : Cx p m c cc nL s args Ts own D cs A ad N) {x y : Int64} {off : Int} {tgt : Nat} (hdg : decode cc pc = .ok (.ifCond .eq off, 3)) (ht : (pc : Int) + off = (tgt : Int)) (kt : x = y → Go p l e R s m args below meth c cells slots Q D cs A ad N sh nL σ τ (tgt) lv (rest)) (kf : ¬ x = y → Go p l e R s m args below meth c cells slots Q D cs A ad N sh nL σ τ (pc + 3) lv (rest)) : Go p l e R s m args below meth c cells slots Q D cs A ad N sh nL σ τ (pc) lv (.int (lg_cmp x y) :: rest) := go_if_eq X hdg ht (fun h => kt ((lg_cmp_eq x y).mp h)) (fun h => kf (fun q => h ((lg_cmp_eq x y).mpr q)))
theorem go_lcmp_ne (X : Cx p m c cc nL s args Ts own D cs A ad N) {x y : Int64} {off : Int} {tgt : Nat} (hdg : decode cc pc = .ok (.ifCond .ne off, 3)) (ht : (pc : Int) + off = (tgt : Int)) (kt : ¬ x = y → Go p l e R s m args below meth c cells slots Q D cs A ad N sh nL σ τ (tgt) lv (rest)) (kf : x = y → Go p l e R s m args below meth c cells slots Q D cs A ad N sh nL σ τ (pc + 3) lv (rest)) : Go p l e R s m args below meth c cells slots Q D cs A ad N sh nL σ τ (pc) lv (.int (lg_cmp x y) :: rest) := go_if_ne X hdg ht (fun h => kt (fun q => h ((lg_cmp_eq x y).mpr q))) (fun h => kf ((lg_cmp_eq x y).mp h))
theorem go_lcmp_lt (X : Cx p m c cc nL s args Ts own D cs A ad N) {x y : Int64} {off : Int} {tgt : Nat} (hdg : decode cc pc = .ok (.ifCond .lt off, 3)) (ht : (pc : Int) + off = (tgt : Int)) (kt : x < y → Go p l e R s m args below meth c cells slots Q D cs A ad N sh nL σ τ (tgt) lv (rest)) (kf : ¬ x < y → Go p l e R s m args below meth c cells slots Q D cs A ad N sh nL σ τ (pc + 3) lv (rest)) : Go p l e R s m args below meth c cells slots Q D cs A ad N sh nL σ τ (pc) lv (.int (lg_cmp x y) :: rest) := go_if_lt X hdg ht (fun h => kt ((lg_cmp_lt x y).mp h)) (fun h => kf (fun q => h ((lg_cmp_lt x y).mpr q)))
theorem go_lcmp_ge (X : Cx p m c cc nL s args Ts own D cs A ad N) {x y : Int64} {off : Int} {tgt : Nat} (hdg : decode cc pc = .ok (.ifCond .ge off, 3)) (ht : (pc : Int) + off = (tgt : Int)) (kt : y ≤ x → Go p l e R s m args below meth c cells slots Q D cs A ad N sh nL σ τ (tgt) lv (rest)) (kf : ¬ y ≤ x → Go p l e R s m args below meth c cells slots Q D cs A ad N sh nL σ τ (pc + 3) lv (rest)) : Go p l e R s m args below meth c cells slots Q D cs A ad N sh nL σ τ (pc) lv (.int (lg_cmp x y) :: rest) := go_if_ge X hdg ht (fun h => kt ((lg_cmp_ge x y).mp h)) (fun h => kf (fun q => h ((lg_cmp_ge x y).mpr q)))
theorem go_lcmp_gt (X : Cx p m c cc nL s args Ts own D cs A ad N) {x y : Int64} {off : Int} {tgt : Nat} (hdg : decode cc pc = .ok (.ifCond .gt off, 3)) (ht : (pc : Int) + off = (tgt : Int)) (kt : y < x → Go p l e R s m args below meth c cells slots Q D cs A ad N sh nL σ τ (tgt) lv (rest)) (kf : ¬ y < x → Go p l e R s m args below meth c cells slots Q D cs A ad N sh nL σ τ (pc + 3) lv (rest)) : Go p l e R s m args below meth c cells slots Q D cs A ad N sh nL σ τ (pc) lv (.int (lg_cmp x y) :: rest) := go_if_gt X hdg ht (fun h => kt ((lg_cmp_gt x y).mp h)) (fun h => kf (fun q => h ((lg_cmp_gt x y).mpr q)))
theorem go_lcmp_le (X : Cx p m c cc nL s args Ts own D cs A ad N) {x y : Int64} {off : Int} {tgt : Nat} (hdg : decode cc pc = .ok (.ifCond .le off, 3)) (ht : (pc : Int) + off = (tgt : Int)) (kt : x ≤ y → Go p l e R s m args below meth c cells slots Q D cs A ad N sh nL σ τ (tgt) lv (rest)) (kf : ¬ x ≤ y → Go p l e R s m args below meth c cells slots Q D cs A ad N sh nL σ τ (pc + 3) lv (rest)) : Go p l e R s m args below meth c cells slots Q D cs A ad N sh nL σ τ (pc) lv (.int (lg_cmp x y) :: rest) := go_if_le X hdg ht (fun h => kt ((lg_cmp_le x y).mp h)) (fun h => kf (fun q => h ((lg_cmp_le x y).mpr q)))
theorem go_loop {ι : Type} (P : ι → Prop) (μ : ι → Nat) (Fs : ι → vSg) (Ft : ι → vTa) (Fl : ι → List (Nat × Value)) (Fr : ι → List Value) (i0 : ι) (h0 : P i0) (body : ∀ i, P i → (∀ j, P j → μ j < μ i → Go p l e R s m args below meth c cells slots Q D cs A ad N sh nL (Fs j) (Ft j) pc (Fl j) (Fr j)) → Go p l e R s m args below meth c cells slots Q D cs A ad N sh nL (Fs i) (Ft i) pc (Fl i) (Fr i)) : Go p l e R s m args below meth c cells slots Q D cs A ad N sh nL (Fs i0) (Ft i0) pc (Fl i0) (Fr i0) := by
  have key : ∀ (n : Nat) (i : ι), μ i < n → P i → Go p l e R s m args below meth c cells slots Q D cs A ad N sh nL (Fs i) (Ft i) pc (Fl i) (Fr i) := by
    intro n
    induction n with
    | zero => intro i h; exact absurd h (Nat.not_lt_zero _)
    | succ n ih => intro i h hi; exact body i hi (fun j hj hl => ih j (by omega) hj)
  exact key _ i0 (Nat.lt_succ_self _) h0
end GB
end
section
/-! numbers -/
theorem in_iff {v : Int32} {l h : Int64} {b : Int32} (hl : l.toInt = 0) (hh : h.toInt + 1 = b.toInt) : (l ≤ v.toInt64 ∧ v.toInt64 ≤ h) ↔ isB v b := by
  show _ ↔ (0 ≤ v ∧ v < b)
  rw [Int64.le_iff_toInt_le, Int64.le_iff_toInt_le, Int32.le_iff_toInt_le, Int32.lt_iff_toInt_lt, Int32.toInt_toInt64, hl]
  have h0 : (0 : Int32).toInt = 0 := rfl
  rw [h0]
  omega
theorem i64_sub1 (n : Int32) : (n.toInt64 - 1).toInt + 1 = n.toInt := by
  have h1 := Int32.toInt_lt n
  have h2 := Int32.le_toInt n
  rw [Int64.toInt_sub, Int32.toInt_toInt64, show (1 : Int64).toInt = 1 from rfl]
  rw [Int.bmod_eq_of_le (by omega) (by omega)]
  omega
/-- what is feared of a deed of this risk and hurt by one of kind k -/
def fearS (k r h : Int32) : Int32 := if k = 2 then 2 * (r * h + 10) else if k = 1 then r * h + 10 else r * h
def valS (k w r h : Int32) : Int32 := 10 * w - fearS k r h
def cutS (lane v : Int32) : Int32 := if lane = 0 then v.toInt8.toInt32 else if lane = 1 then v.toInt16.toInt32 else v

theorem hdX6_isBelow : yX6_isBelow.cls ≠ "java/lang/invoke/MethodHandle" ∧ yX6_isBelow.cls ≠ "java/lang/invoke/VarHandle" ∧ (parseMethodDescriptor yX6_isBelow.desc).map (fun d => d.parameters.length) = some 2 := by decide +kernel
set_option maxHeartbeats 4000000 in
set_option maxRecDepth 100000 in
theorem kX6_isBelow (l : Launch) (D : va_G) (cs : Nat → ClassId) (ad : Nat → Nat) (N kt : Nat) (hN : 58 ≤ N) (σ : vSg) (τ : vTa) (v : Int32) (b : Int32)    : CtI l yX6_isBelow wsX6_isBelow ({ frames := 0, cells := 0, slots := 0, locals := 0 }) D cs ad N (shP kt) [.int v, .int b] σ τ 0 0 (fun r9 σ9 τ9 => b2i (isB v b) = r9 ∧ σ = σ9 ∧ τ = τ9) := by
  refine ct_I (cc := cX6_isBelow) (maxL := 2) (by decide) rfl (Nat.le_of_ble_eq_true rfl) rfl rfl ?_
  intro p e s m args below meth c A X hr hlk
  refine go_iload_n X dX6_isBelow_0 0 rfl rfl ?_
  refine go_if_lt X (tgt := 13) dX6_isBelow_1 (by decide) (fun c1 => ?_) (fun c1 => ?_)
  · skip
    refine go_iconst X (v := 0) dX6_isBelow_13 (by decide) ?_
    exact go_zreturn X hr hlk dX6_isBelow_14 (by first | exact Or.inl rfl | exact Or.inr rfl) (⟨(b2i_f (fun q => absurd q.1 (Int32.not_le.mpr c1))), rfl, rfl⟩)
  · skip
    refine go_iload_n X dX6_isBelow_4 0 rfl rfl ?_
    refine go_iload_n X dX6_isBelow_5 1 rfl rfl ?_
    refine go_icmp_ge X (tgt := 13) dX6_isBelow_6 (by decide) (fun c6 => ?_) (fun c6 => ?_)
    · skip
      refine go_iconst X (v := 0) dX6_isBelow_13 (by decide) ?_
      exact go_zreturn X hr hlk dX6_isBelow_14 (by first | exact Or.inl rfl | exact Or.inr rfl) (⟨(b2i_f (fun q => absurd q.2 (Int32.not_lt.mpr c6))), rfl, rfl⟩)
    · skip
      refine go_iconst X (v := 1) dX6_isBelow_9 (by decide) ?_
      refine go_goto X (tgt := 14) dX6_isBelow_10 (by decide) ?_
      exact go_zreturn X hr hlk dX6_isBelow_14 (by first | exact Or.inl rfl | exact Or.inr rfl) (⟨(b2i_t ⟨Int32.not_lt.mp c1, Int32.not_le.mp c6⟩), rfl, rfl⟩)

theorem hdX6_isSheet : yX6_isSheet.cls ≠ "java/lang/invoke/MethodHandle" ∧ yX6_isSheet.cls ≠ "java/lang/invoke/VarHandle" ∧ (parseMethodDescriptor yX6_isSheet.desc).map (fun d => d.parameters.length) = some 1 := by decide +kernel
set_option maxHeartbeats 4000000 in
set_option maxRecDepth 100000 in
theorem kX6_isSheet (l : Launch) (D : va_G) (cs : Nat → ClassId) (ad : Nat → Nat) (N kt : Nat) (hN : 58 ≤ N) (σ : vSg) (τ : vTa) (k : Int32)    : CtI l yX6_isSheet wsX6_isSheet ({ frames := 1, cells := 0, slots := 0, locals := 21 }) D cs ad N (shP kt) [.int k] σ τ 0 0 (fun r9 σ9 τ9 => b2i (isB k 4) = r9 ∧ σ = σ9 ∧ τ = τ9) := by
  refine ct_I (cc := cX6_isSheet) (maxL := 1) (by decide) rfl (Nat.le_of_ble_eq_true rfl) rfl rfl ?_
  intro p e s m args below meth c A X hr hlk
  refine go_iload_n X dX6_isSheet_0 0 rfl rfl ?_
  refine go_iconst X (v := 4) dX6_isSheet_1 (by decide) ?_
  refine go_callSI X (As := [.int k, .int 4]) (rest := []) (kX6_isBelow l D cs ad N kt (by omega) σ τ k 4) gX6_isSheet_X6_isBelow rfl hdX6_isBelow ⟨rfl, rfl, by decide, by decide, by decide, by decide⟩ rfl rfl (Nat.le_of_ble_eq_true rfl) dX6_isSheet_2 (fun r9 σ9 τ9 h9 => ?_)
  obtain ⟨rfl, rfl, rfl⟩ := h9
  exact go_zreturn X hr hlk dX6_isSheet_5 (b2i_z _) (⟨rfl, rfl, rfl⟩)

theorem hdX6_failed : yX6_failed.cls = RX6 ∧ yX6_failed.cls ≠ "java/lang/invoke/MethodHandle" ∧ yX6_failed.cls ≠ "java/lang/invoke/VarHandle" ∧ (parseMethodDescriptor yX6_failed.desc).map (fun d => d.parameters.length) = some 1 := by decide +kernel
set_option maxHeartbeats 4000000 in
set_option maxRecDepth 100000 in
theorem kX6_failed (l : Launch) (D : va_G) (cs : Nat → ClassId) (ad : Nat → Nat) (N kt : Nat) (hN : 58 ≤ N) (σ : vSg) (τ : vTa) (f : Int32)    : CtI l yX6_failed wsX6_failed ({ frames := 0, cells := 0, slots := 0, locals := 0 }) D cs ad N (shP kt) [.ref (ad (0)), .int f] σ τ 0 0 (fun r9 σ9 τ9 => (-10) - f = r9 ∧ (up2 σ 0 7 f) = σ9 ∧ τ = τ9) := by
  refine ct_I (cc := cX6_failed) (maxL := 2) (by decide) rfl (Nat.le_of_ble_eq_true rfl) rfl rfl ?_
  intro p e s m args below meth c A X hr hlk
  refine go_aload_n X dX6_failed_0 0 rfl rfl ?_
  refine go_iload_n X dX6_failed_1 1 rfl rfl ?_
  refine go_puti X (n := 0) (j := 7) (ty := .int) (by omega) rfl rfl (fun _ h9 => List.mem_cons_of_mem _ (List.mem_append_right _ h9)) (by decide) (List.mem_cons_of_mem _ (List.mem_append_left _ (List.mem_of_getElem? (i := 0) rfl))) rfl tyX6 tyX6_ok nmX6 rfl (by decide +kernel) rfl rfl dX6_failed_2 ?_
  refine go_bipush X (v := (-10)) dX6_failed_5 (by decide) ?_
  refine go_iload_n X dX6_failed_7 1 rfl rfl ?_
  refine go_isub X dX6_failed_8 ?_
  exact go_ireturn X hr hlk dX6_failed_9 (⟨rfl, rfl, rfl⟩)

theorem hdX6_leave : yX6_leave.cls = RX6 ∧ yX6_leave.cls ≠ "java/lang/invoke/MethodHandle" ∧ yX6_leave.cls ≠ "java/lang/invoke/VarHandle" ∧ (parseMethodDescriptor yX6_leave.desc).map (fun d => d.parameters.length) = some 1 := by decide +kernel
set_option maxHeartbeats 4000000 in
set_option maxRecDepth 100000 in
theorem kX6_leave (l : Launch) (D : va_G) (cs : Nat → ClassId) (ad : Nat → Nat) (N kt : Nat) (hN : 58 ≤ N) (σ : vSg) (τ : vTa) (b : Int32) (tr : Int32) (h_tr : σ 0 6 = tr)   : CtV l yX6_leave wsX6_leave ({ frames := 0, cells := 0, slots := 0, locals := 0 }) D cs ad N (shP kt) [.ref (ad (0)), .int b] σ τ 0 0 (fun σ9 τ9 => (up2 σ 0 6 (31 * tr + b)) = σ9 ∧ τ = τ9) := by
  refine ct_V (cc := cX6_leave) (maxL := 2) (by decide) rfl (Nat.le_of_ble_eq_true rfl) rfl rfl ?_
  intro p e s m args below meth c A X hr hlk
  refine go_aload_n X dX6_leave_0 0 rfl rfl ?_
  refine go_bipush X (v := 31) dX6_leave_1 (by decide) ?_
  refine go_aload_n X dX6_leave_3 0 rfl rfl ?_
  refine go_geti X (n := 0) (j := 6) (by omega) rfl rfl (fun _ h9 => List.mem_cons_of_mem _ (List.mem_append_right _ h9)) (by decide) (List.mem_cons_of_mem _ (List.mem_append_left _ (List.mem_of_getElem? (i := 0) rfl))) rfl dX6_leave_4 ?_
  refine go_topi (v := tr) (h_tr) ?_
  refine go_imul X dX6_leave_7 ?_
  refine go_iload_n X dX6_leave_8 1 rfl rfl ?_
  refine go_iadd X dX6_leave_9 ?_
  refine go_puti X (n := 0) (j := 6) (ty := .int) (by omega) rfl rfl (fun _ h9 => List.mem_cons_of_mem _ (List.mem_append_right _ h9)) (by decide) (List.mem_cons_of_mem _ (List.mem_append_left _ (List.mem_of_getElem? (i := 0) rfl))) rfl tyX6 tyX6_ok nmX6 rfl (by decide +kernel) rfl rfl dX6_leave_10 ?_
  exact go_return X hr hlk dX6_leave_13 (⟨rfl, rfl⟩)

theorem hdX2_hasDeed : yX2_hasDeed.cls = RX2 ∧ yX2_hasDeed.cls ≠ "java/lang/invoke/MethodHandle" ∧ yX2_hasDeed.cls ≠ "java/lang/invoke/VarHandle" ∧ (parseMethodDescriptor yX2_hasDeed.desc).map (fun d => d.parameters.length) = some 1 := by decide +kernel
set_option maxHeartbeats 4000000 in
set_option maxRecDepth 100000 in
theorem kX2_hasDeed (l : Launch) (D : va_G) (cs : Nat → ClassId) (ad : Nat → Nat) (N kt : Nat) (hN : 58 ≤ N) (σ : vSg) (τ : vTa) (d : Int32) (nd : Int32) (h_nd : σ 2 3 = nd)   : CtI l yX2_hasDeed wsX2_hasDeed ({ frames := 1, cells := 0, slots := 0, locals := 21 }) D cs ad N (shP kt) [.ref (ad (2)), .int d] σ τ 0 0 (fun r9 σ9 τ9 => b2i (isB d nd) = r9 ∧ σ = σ9 ∧ τ = τ9) := by
  refine ct_I (cc := cX2_hasDeed) (maxL := 2) (by decide) rfl (Nat.le_of_ble_eq_true rfl) rfl rfl ?_
  intro p e s m args below meth c A X hr hlk
  refine go_iload_n X dX2_hasDeed_0 1 rfl rfl ?_
  refine go_aload_n X dX2_hasDeed_1 0 rfl rfl ?_
  refine go_geti X (n := 2) (j := 3) (by omega) rfl rfl (fun _ h9 => List.mem_cons_of_mem _ (List.mem_append_right _ h9)) (by decide) (List.mem_cons_of_mem _ (List.mem_append_left _ (List.mem_of_getElem? (i := 0) rfl))) rfl dX2_hasDeed_2 ?_
  refine go_topi (v := nd) (h_nd) ?_
  refine go_callNI X (As := [.int d, .int nd]) (rest := []) (kX6_isBelow l D cs ad N kt (by omega) σ τ d nd) gX2_hasDeed_X6_isBelow_n48 rfl X.2.2.2.2.1 (List.mem_cons_of_mem _ (List.mem_append_left _ (List.mem_of_getElem? (i := 2) rfl))) (List.mem_cons_of_mem _ (List.mem_append_left _ (List.mem_of_getElem? (i := 1) rfl))) hdX6_isBelow ⟨rfl, rfl, by decide, by decide, by decide, by decide⟩ rfl rfl (Nat.le_of_ble_eq_true rfl) dX2_hasDeed_5 (fun r9 σ9 τ9 h9 => ?_)
  obtain ⟨rfl, rfl, rfl⟩ := h9
  exact go_zreturn X hr hlk dX2_hasDeed_8 (b2i_z _) (⟨rfl, rfl, rfl⟩)

theorem hdX2_hasSubject : yX2_hasSubject.cls = RX2 ∧ yX2_hasSubject.cls ≠ "java/lang/invoke/MethodHandle" ∧ yX2_hasSubject.cls ≠ "java/lang/invoke/VarHandle" ∧ (parseMethodDescriptor yX2_hasSubject.desc).map (fun d => d.parameters.length) = some 1 := by decide +kernel
set_option maxHeartbeats 4000000 in
set_option maxRecDepth 100000 in
theorem kX2_hasSubject (l : Launch) (D : va_G) (cs : Nat → ClassId) (ad : Nat → Nat) (N kt : Nat) (hN : 58 ≤ N) (σ : vSg) (τ : vTa) (a : Int32) (ns : Int32) (h_ns : σ 2 4 = ns)   : CtI l yX2_hasSubject wsX2_hasSubject ({ frames := 1, cells := 0, slots := 0, locals := 21 }) D cs ad N (shP kt) [.ref (ad (2)), .int a] σ τ 0 0 (fun r9 σ9 τ9 => b2i (isB a ns) = r9 ∧ σ = σ9 ∧ τ = τ9) := by
  refine ct_I (cc := cX2_hasSubject) (maxL := 2) (by decide) rfl (Nat.le_of_ble_eq_true rfl) rfl rfl ?_
  intro p e s m args below meth c A X hr hlk
  refine go_iload_n X dX2_hasSubject_0 1 rfl rfl ?_
  refine go_aload_n X dX2_hasSubject_1 0 rfl rfl ?_
  refine go_geti X (n := 2) (j := 4) (by omega) rfl rfl (fun _ h9 => List.mem_cons_of_mem _ (List.mem_append_right _ h9)) (by decide) (List.mem_cons_of_mem _ (List.mem_append_left _ (List.mem_of_getElem? (i := 0) rfl))) rfl dX2_hasSubject_2 ?_
  refine go_topi (v := ns) (h_ns) ?_
  refine go_callNI X (As := [.int a, .int ns]) (rest := []) (kX6_isBelow l D cs ad N kt (by omega) σ τ a ns) gX2_hasSubject_X6_isBelow_n48 rfl X.2.2.2.2.1 (List.mem_cons_of_mem _ (List.mem_append_left _ (List.mem_of_getElem? (i := 2) rfl))) (List.mem_cons_of_mem _ (List.mem_append_left _ (List.mem_of_getElem? (i := 1) rfl))) hdX6_isBelow ⟨rfl, rfl, by decide, by decide, by decide, by decide⟩ rfl rfl (Nat.le_of_ble_eq_true rfl) dX2_hasSubject_5 (fun r9 σ9 τ9 h9 => ?_)
  obtain ⟨rfl, rfl, rfl⟩ := h9
  exact go_zreturn X hr hlk dX2_hasSubject_8 (b2i_z _) (⟨rfl, rfl, rfl⟩)

theorem hdX2_isThere : yX2_isThere.cls = RX2 ∧ yX2_isThere.cls ≠ "java/lang/invoke/MethodHandle" ∧ yX2_isThere.cls ≠ "java/lang/invoke/VarHandle" ∧ (parseMethodDescriptor yX2_isThere.desc).map (fun d => d.parameters.length) = some 0 := by decide +kernel
set_option maxHeartbeats 4000000 in
set_option maxRecDepth 100000 in
theorem kX2_isThere (l : Launch) (D : va_G) (cs : Nat → ClassId) (ad : Nat → Nat) (N kt : Nat) (hN : 58 ≤ N) (σ : vSg) (τ : vTa)  (ns : Int32) (h_ns : σ 2 4 = ns)   : CtI l yX2_isThere wsX2_isThere ({ frames := 0, cells := 0, slots := 0, locals := 0 }) D cs ad N (shP kt) [.ref (ad (2))] σ τ 0 0 (fun r9 σ9 τ9 => b2i (0 < ns) = r9 ∧ σ = σ9 ∧ τ = τ9) := by
  refine ct_I (cc := cX2_isThere) (maxL := 1) (by decide) rfl (Nat.le_of_ble_eq_true rfl) rfl rfl ?_
  intro p e s m args below meth c A X hr hlk
  refine go_aload_n X dX2_isThere_0 0 rfl rfl ?_
  refine go_geti X (n := 2) (j := 4) (by omega) rfl rfl (fun _ h9 => List.mem_cons_of_mem _ (List.mem_append_right _ h9)) (by decide) (List.mem_cons_of_mem _ (List.mem_append_left _ (List.mem_of_getElem? (i := 0) rfl))) rfl dX2_isThere_1 ?_
  refine go_topi (v := ns) (h_ns) ?_
  refine go_if_le X (tgt := 11) dX2_isThere_4 (by decide) (fun c4 => ?_) (fun c4 => ?_)
  · skip
    refine go_iconst X (v := 0) dX2_isThere_11 (by decide) ?_
    exact go_zreturn X hr hlk dX2_isThere_12 (by first | exact Or.inl rfl | exact Or.inr rfl) (⟨(b2i_f (Int32.not_lt.mpr c4)), rfl, rfl⟩)
  · skip
    refine go_iconst X (v := 1) dX2_isThere_7 (by decide) ?_
    refine go_goto X (tgt := 12) dX2_isThere_8 (by decide) ?_
    exact go_zreturn X hr hlk dX2_isThere_12 (by first | exact Or.inl rfl | exact Or.inr rfl) (⟨(b2i_t (Int32.not_le.mp c4)), rfl, rfl⟩)
end
section
/-- the deeds that are done, as a set: of the first n of those with these values -/
noncomputable def setS (P : Nat → Prop) : Nat → Int32
  | 0 => 0
  | n + 1 => @ite _ (P n) (Classical.propDecidable _) (setS P n ||| (1 <<< (nI n &&& 31))) (setS P n)
theorem setS_t {P : Nat → Prop} {n : Nat} (h : P n) : setS P (n + 1) = setS P n ||| (1 <<< (nI n &&& 31)) := if_pos h
theorem setS_f {P : Nat → Prop} {n : Nat} (h : ¬ P n) : setS P (n + 1) = setS P n := if_neg h
def sumS (f : Nat → Int32) : Nat → Int32
  | 0 => 0
  | n + 1 => sumS f n + f n
/-- is the value of deed d above 0 for subject a, by the class's cells -/
def doX (σ : vSg) (a d : Nat) : Prop := 0 < valS (σ 8 a) (σ (20 + d) 0) (σ (20 + d) 1) (σ (20 + d) 2)
def doM (σ : vSg) (a d : Nat) : Prop := 0 < valS (σ 42 a) (σ 39 d) (σ 40 d) (σ 41 d)
theorem hdX2_fearOf : yX2_fearOf.cls = RX2 ∧ yX2_fearOf.cls ≠ "java/lang/invoke/MethodHandle" ∧ yX2_fearOf.cls ≠ "java/lang/invoke/VarHandle" ∧ (parseMethodDescriptor yX2_fearOf.desc).map (fun d => d.parameters.length) = some 2 := by decide +kernel
set_option maxHeartbeats 4000000 in
set_option maxRecDepth 100000 in
theorem kX2_fearOf (l : Launch) (D : va_G) (cs : Nat → ClassId) (ad : Nat → Nat) (N kt : Nat) (hN : 58 ≤ N) (σ : vSg) (τ : vTa) (i : Nat) (j : Nat) (kd : Int32) (h_kd : σ 8 i = kd) (rk : Int32) (h_rk : σ (20 + j) 1 = rk) (hu : Int32) (h_hu : σ (20 + j) 2 = hu)  (hi : i < 4) (hj : j < 5) : CtI l yX2_fearOf wsX2_fearOf ({ frames := 0, cells := 0, slots := 0, locals := 0 }) D cs ad N (shP kt) [.ref (ad (2)), .int (nI i), .int (nI j)] σ τ 0 0 (fun r9 σ9 τ9 => fearS kd rk hu = r9 ∧ σ = σ9 ∧ τ = τ9) := by
  refine ct_I (cc := cX2_fearOf) (maxL := 4) (by decide) rfl (Nat.le_of_ble_eq_true rfl) rfl rfl ?_
  intro p e s m args below meth c A X hr hlk
  refine go_aload_n X dX2_fearOf_0 0 rfl rfl ?_
  refine go_getr X (n := 2) (j := 0) (by omega) rfl rfl (fun _ h9 => List.mem_cons_of_mem _ (List.mem_append_right _ h9)) (by decide) (List.mem_cons_of_mem _ (List.mem_append_left _ (List.mem_of_getElem? (i := 0) rfl))) rfl dX2_fearOf_1 ?_
  refine go_iload_n X dX2_fearOf_4 2 rfl rfl ?_
  refine go_aald4 X (n := 7) (k := j) (by omega) rfl rfl (by omega) (by omega) dX2_fearOf_5 ?_
  refine go_iconst X (v := 1) dX2_fearOf_6 (by decide) ?_
  refine go_iald X (n := 20 + j) (k := 1) (by omega) (sh_deed (by omega)) rfl (by omega) (by omega) dX2_fearOf_7 ?_
  refine go_topi (v := rk) (h_rk) ?_
  refine go_aload_n X dX2_fearOf_8 0 rfl rfl ?_
  refine go_getr X (n := 2) (j := 0) (by omega) rfl rfl (fun _ h9 => List.mem_cons_of_mem _ (List.mem_append_right _ h9)) (by decide) (List.mem_cons_of_mem _ (List.mem_append_left _ (List.mem_of_getElem? (i := 0) rfl))) rfl dX2_fearOf_9 ?_
  refine go_iload_n X dX2_fearOf_12 2 rfl rfl ?_
  refine go_aald4 X (n := 7) (k := j) (by omega) rfl rfl (by omega) (by omega) dX2_fearOf_13 ?_
  refine go_iconst X (v := 2) dX2_fearOf_14 (by decide) ?_
  refine go_iald X (n := 20 + j) (k := 2) (by omega) (sh_deed (by omega)) rfl (by omega) (by omega) dX2_fearOf_15 ?_
  refine go_topi (v := hu) (h_hu) ?_
  refine go_imul X dX2_fearOf_16 ?_
  refine go_istore_n X (lv2 := [(3, .int (rk * hu)), (0, .ref (ad (2))), (1, .int (nI i)), (2, .int (nI j))]) dX2_fearOf_17 rfl (by decide) rfl ?_
  refine go_aload_n X dX2_fearOf_18 1 rfl rfl ?_
  refine go_getr X (n := 2) (j := 1) (by omega) rfl rfl (fun _ h9 => List.mem_cons_of_mem _ (List.mem_append_right _ h9)) (by decide) (List.mem_cons_of_mem _ (List.mem_append_left _ (List.mem_of_getElem? (i := 1) rfl))) rfl dX2_fearOf_19 ?_
  refine go_iload_n X dX2_fearOf_22 2 rfl rfl ?_
  refine go_iald X (n := 8) (k := i) (by omega) rfl rfl (by omega) (by omega) dX2_fearOf_23 ?_
  refine go_topi (v := kd) (h_kd) ?_
  rcases Classical.em (kd = 1) with e24_1 | n24_1
  · skip
    refine go_lookup X (tgt := 59) (off := 35) dX2_fearOf_24 (by decide) (by rw [e24_1]; decide) (by decide) ?_
    refine go_iload_n X dX2_fearOf_59 0 rfl rfl ?_
    refine go_bipush X (v := 10) dX2_fearOf_60 (by decide) ?_
    refine go_iadd X dX2_fearOf_62 ?_
    exact go_ireturn X hr hlk dX2_fearOf_63 (⟨by rw [e24_1]; rfl, rfl, rfl⟩)
  · skip
    rcases Classical.em (kd = 2) with e24_2 | n24_2
    · skip
      refine go_lookup X (tgt := 52) (off := 28) dX2_fearOf_24 (by decide) (by rw [e24_2]; decide) (by decide) ?_
      refine go_iconst X (v := 2) dX2_fearOf_52 (by decide) ?_
      refine go_iload_n X dX2_fearOf_53 0 rfl rfl ?_
      refine go_bipush X (v := 10) dX2_fearOf_54 (by decide) ?_
      refine go_iadd X dX2_fearOf_56 ?_
      refine go_imul X dX2_fearOf_57 ?_
      exact go_ireturn X hr hlk dX2_fearOf_58 (⟨by rw [e24_2]; rfl, rfl, rfl⟩)
    · skip
      refine go_lookup X (tgt := 64) (off := 40) dX2_fearOf_24 (by decide) ((lv_osw n24_1 (by decide)).trans ((lv_osw n24_2 (by decide)).trans (rfl))) (by decide) ?_
      refine go_iload_n X dX2_fearOf_64 0 rfl rfl ?_
      exact go_ireturn X hr hlk dX2_fearOf_65 (⟨by unfold fearS; rw [if_neg n24_2, if_neg n24_1], rfl, rfl⟩)

theorem hdX2_pardonedValue : yX2_pardonedValue.cls = RX2 ∧ yX2_pardonedValue.cls ≠ "java/lang/invoke/MethodHandle" ∧ yX2_pardonedValue.cls ≠ "java/lang/invoke/VarHandle" ∧ (parseMethodDescriptor yX2_pardonedValue.desc).map (fun d => d.parameters.length) = some 1 := by decide +kernel
set_option maxHeartbeats 4000000 in
set_option maxRecDepth 100000 in
theorem kX2_pardonedValue (l : Launch) (D : va_G) (cs : Nat → ClassId) (ad : Nat → Nat) (N kt : Nat) (hN : 58 ≤ N) (σ : vSg) (τ : vTa) (j : Nat) (wo : Int32) (h_wo : σ (20 + j) 0 = wo)  (hj : j < 5) : CtI l yX2_pardonedValue wsX2_pardonedValue ({ frames := 0, cells := 0, slots := 0, locals := 0 }) D cs ad N (shP kt) [.ref (ad (2)), .int (nI j)] σ τ 0 0 (fun r9 σ9 τ9 => 10 * wo = r9 ∧ σ = σ9 ∧ τ = τ9) := by
  refine ct_I (cc := cX2_pardonedValue) (maxL := 2) (by decide) rfl (Nat.le_of_ble_eq_true rfl) rfl rfl ?_
  intro p e s m args below meth c A X hr hlk
  refine go_bipush X (v := 10) dX2_pardonedValue_0 (by decide) ?_
  refine go_aload_n X dX2_pardonedValue_2 0 rfl rfl ?_
  refine go_getr X (n := 2) (j := 0) (by omega) rfl rfl (fun _ h9 => List.mem_cons_of_mem _ (List.mem_append_right _ h9)) (by decide) (List.mem_cons_of_mem _ (List.mem_append_left _ (List.mem_of_getElem? (i := 0) rfl))) rfl dX2_pardonedValue_3 ?_
  refine go_iload_n X dX2_pardonedValue_6 1 rfl rfl ?_
  refine go_aald4 X (n := 7) (k := j) (by omega) rfl rfl (by omega) (by omega) dX2_pardonedValue_7 ?_
  refine go_iconst X (v := 0) dX2_pardonedValue_8 (by decide) ?_
  refine go_iald X (n := 20 + j) (k := 0) (by omega) (sh_deed (by omega)) rfl (by omega) (by omega) dX2_pardonedValue_9 ?_
  refine go_topi (v := wo) (h_wo) ?_
  refine go_imul X dX2_pardonedValue_10 ?_
  exact go_ireturn X hr hlk dX2_pardonedValue_11 (⟨rfl, rfl, rfl⟩)

theorem hdX2_unpardonedValue : yX2_unpardonedValue.cls = RX2 ∧ yX2_unpardonedValue.cls ≠ "java/lang/invoke/MethodHandle" ∧ yX2_unpardonedValue.cls ≠ "java/lang/invoke/VarHandle" ∧ (parseMethodDescriptor yX2_unpardonedValue.desc).map (fun d => d.parameters.length) = some 2 := by decide +kernel
set_option maxHeartbeats 4000000 in
set_option maxRecDepth 100000 in
theorem kX2_unpardonedValue (l : Launch) (D : va_G) (cs : Nat → ClassId) (ad : Nat → Nat) (N kt : Nat) (hN : 58 ≤ N) (σ : vSg) (τ : vTa) (i : Nat) (j : Nat) (kd : Int32) (h_kd : σ 8 i = kd) (wo : Int32) (h_wo : σ (20 + j) 0 = wo) (rk : Int32) (h_rk : σ (20 + j) 1 = rk) (hu : Int32) (h_hu : σ (20 + j) 2 = hu)  (hi : i < 4) (hj : j < 5) : CtI l yX2_unpardonedValue wsX2_unpardonedValue ({ frames := 1, cells := 0, slots := 0, locals := 23 }) D cs ad N (shP kt) [.ref (ad (2)), .int (nI i), .int (nI j)] σ τ 0 0 (fun r9 σ9 τ9 => valS kd wo rk hu = r9 ∧ σ = σ9 ∧ τ = τ9) := by
  refine ct_I (cc := cX2_unpardonedValue) (maxL := 3) (by decide) rfl (Nat.le_of_ble_eq_true rfl) rfl rfl ?_
  intro p e s m args below meth c A X hr hlk
  refine go_aload_n X dX2_unpardonedValue_0 0 rfl rfl ?_
  refine go_iload_n X dX2_unpardonedValue_1 2 rfl rfl ?_
  refine go_callVI X (n := 2) (As := [.int (nI j)]) (rest := []) (kX2_pardonedValue l D cs ad N kt (by omega) σ τ j wo (h_wo) (by omega)) gX2_unpardonedValue_X2_pardonedValue rfl hdX2_pardonedValue ⟨rfl, rfl, by decide, by decide, by decide, by decide⟩ (by omega) rfl rfl rfl rfl (Nat.le_of_ble_eq_true rfl) dX2_unpardonedValue_2 (fun r9 σ9 τ9 h9 => ?_)
  obtain ⟨rfl, rfl, rfl⟩ := h9
  refine go_aload_n X dX2_unpardonedValue_5 0 rfl rfl ?_
  refine go_iload_n X dX2_unpardonedValue_6 1 rfl rfl ?_
  refine go_iload_n X dX2_unpardonedValue_7 2 rfl rfl ?_
  refine go_callVI X (n := 2) (As := [.int (nI i), .int (nI j)]) (rest := [.int (10 * wo)]) (kX2_fearOf l D cs ad N kt (by omega) σ τ i j kd (h_kd) rk (h_rk) hu (h_hu) (by omega) (by omega)) gX2_unpardonedValue_X2_fearOf rfl hdX2_fearOf ⟨rfl, rfl, by decide, by decide, by decide, by decide⟩ (by omega) rfl rfl rfl rfl (Nat.le_of_ble_eq_true rfl) dX2_unpardonedValue_8 (fun r9 σ9 τ9 h9 => ?_)
  obtain ⟨rfl, rfl, rfl⟩ := h9
  refine go_isub X dX2_unpardonedValue_11 ?_
  exact go_ireturn X hr hlk dX2_unpardonedValue_12 (⟨rfl, rfl, rfl⟩)

theorem hdX2_wouldDo : yX2_wouldDo.cls = RX2 ∧ yX2_wouldDo.cls ≠ "java/lang/invoke/MethodHandle" ∧ yX2_wouldDo.cls ≠ "java/lang/invoke/VarHandle" ∧ (parseMethodDescriptor yX2_wouldDo.desc).map (fun d => d.parameters.length) = some 2 := by decide +kernel
set_option maxHeartbeats 4000000 in
set_option maxRecDepth 100000 in
theorem kX2_wouldDo (l : Launch) (D : va_G) (cs : Nat → ClassId) (ad : Nat → Nat) (N kt : Nat) (hN : 58 ≤ N) (σ : vSg) (τ : vTa) (i : Nat) (j : Nat) (kd : Int32) (h_kd : σ 8 i = kd) (wo : Int32) (h_wo : σ (20 + j) 0 = wo) (rk : Int32) (h_rk : σ (20 + j) 1 = rk) (hu : Int32) (h_hu : σ (20 + j) 2 = hu)  (hi : i < 4) (hj : j < 5) : CtI l yX2_wouldDo wsX2_wouldDo ({ frames := 2, cells := 0, slots := 0, locals := 45 }) D cs ad N (shP kt) [.ref (ad (2)), .int (nI i), .int (nI j)] σ τ 0 0 (fun r9 σ9 τ9 => b2i (0 < valS kd wo rk hu) = r9 ∧ σ = σ9 ∧ τ = τ9) := by
  refine ct_I (cc := cX2_wouldDo) (maxL := 3) (by decide) rfl (Nat.le_of_ble_eq_true rfl) rfl rfl ?_
  intro p e s m args below meth c A X hr hlk
  refine go_aload_n X dX2_wouldDo_0 0 rfl rfl ?_
  refine go_iload_n X dX2_wouldDo_1 1 rfl rfl ?_
  refine go_iload_n X dX2_wouldDo_2 2 rfl rfl ?_
  refine go_callVI X (n := 2) (As := [.int (nI i), .int (nI j)]) (rest := []) (kX2_unpardonedValue l D cs ad N kt (by omega) σ τ i j kd (h_kd) wo (h_wo) rk (h_rk) hu (h_hu) (by omega) (by omega)) gX2_wouldDo_X2_unpardonedValue rfl hdX2_unpardonedValue ⟨rfl, rfl, by decide, by decide, by decide, by decide⟩ (by omega) rfl rfl rfl rfl (Nat.le_of_ble_eq_true rfl) dX2_wouldDo_3 (fun r9 σ9 τ9 h9 => ?_)
  obtain ⟨rfl, rfl, rfl⟩ := h9
  refine go_if_le X (tgt := 13) dX2_wouldDo_6 (by decide) (fun c6 => ?_) (fun c6 => ?_)
  · skip
    refine go_iconst X (v := 0) dX2_wouldDo_13 (by decide) ?_
    exact go_zreturn X hr hlk dX2_wouldDo_14 (by first | exact Or.inl rfl | exact Or.inr rfl) (⟨(b2i_f (Int32.not_lt.mpr c6)), rfl, rfl⟩)
  · skip
    refine go_iconst X (v := 1) dX2_wouldDo_9 (by decide) ?_
    refine go_goto X (tgt := 14) dX2_wouldDo_10 (by decide) ?_
    exact go_zreturn X hr hlk dX2_wouldDo_14 (by first | exact Or.inl rfl | exact Or.inr rfl) (⟨(b2i_t (Int32.not_le.mp c6)), rfl, rfl⟩)

theorem hdX2_doneBy : yX2_doneBy.cls = RX2 ∧ yX2_doneBy.cls ≠ "java/lang/invoke/MethodHandle" ∧ yX2_doneBy.cls ≠ "java/lang/invoke/VarHandle" ∧ (parseMethodDescriptor yX2_doneBy.desc).map (fun d => d.parameters.length) = some 1 := by decide +kernel
set_option maxHeartbeats 4000000 in
set_option maxRecDepth 100000 in
theorem kX2_doneBy (l : Launch) (D : va_G) (cs : Nat → ClassId) (ad : Nat → Nat) (N kt : Nat) (hN : 58 ≤ N) (σ : vSg) (τ : vTa) (i : Nat) (nd : Nat)   (hnd : σ 2 3 = nI nd) (hle : nd ≤ 5) (hi : i < 4) : CtI l yX2_doneBy wsX2_doneBy ({ frames := 3, cells := 0, slots := 0, locals := 67 }) D cs ad N (shP kt) [.ref (ad (2)), .int (nI i)] σ τ 0 0 (fun r9 σ9 τ9 => setS (doX σ i) nd = r9 ∧ σ = σ9 ∧ τ = τ9) := by
  refine ct_I (cc := cX2_doneBy) (maxL := 4) (by decide) rfl (Nat.le_of_ble_eq_true rfl) rfl rfl ?_
  intro p e s m args below meth c A X hr hlk
  refine go_iconst X (v := 0) dX2_doneBy_0 (by decide) ?_
  refine go_istore_n X (lv2 := [(2, .int 0), (0, .ref (ad (2))), (1, .int (nI i))]) dX2_doneBy_1 rfl (by decide) rfl ?_
  refine go_iconst X (v := 0) dX2_doneBy_2 (by decide) ?_
  refine go_istore_n X (lv2 := [(3, .int 0), (2, .int 0), (0, .ref (ad (2))), (1, .int (nI i))]) dX2_doneBy_3 rfl (by decide) rfl ?_
  refine go_loop (ι := Nat) (fun i9 => (i9 ≤ nd)) (fun i9 => nd - i9) (fun i9 => σ) (fun i9 => τ) (fun i9 => [(3, .int (nI i9)), (2, .int (setS (doX σ i) i9)), (0, .ref (ad (2))), (1, .int (nI i))]) (fun i9 => []) 0 (by (try dsimp only); exact (Nat.zero_le _)) ?_
  intro i9 hi9 ih4
  obtain ⟨d, hv9⟩ : ∃ z, z = i9 := ⟨_, rfl⟩; subst hv9
  (try dsimp only at hi9); (try dsimp only at ih4); (try dsimp only)
  have hd := hi9
  refine go_iload_n X dX2_doneBy_4 0 rfl rfl ?_
  refine go_aload_n X dX2_doneBy_5 2 rfl rfl ?_
  refine go_geti X (n := 2) (j := 3) (by omega) rfl rfl (fun _ h9 => List.mem_cons_of_mem _ (List.mem_append_right _ h9)) (by decide) (List.mem_cons_of_mem _ (List.mem_append_left _ (List.mem_of_getElem? (i := 0) rfl))) rfl dX2_doneBy_6 ?_
  refine go_topi (v := nI nd) (hnd) ?_
  refine go_icmpn_ge X (tgt := 33) dX2_doneBy_9 (by decide) (a := d) (b := nd) rfl rfl (by omega) (by omega) (fun c9 => ?_) (fun c9 => ?_)
  · skip
    refine go_iload_n X dX2_doneBy_33 1 rfl rfl ?_
    exact go_ireturn X hr hlk dX2_doneBy_34 (⟨by rw [show d = nd by omega], rfl, rfl⟩)
  · skip
    refine go_aload_n X dX2_doneBy_12 2 rfl rfl ?_
    refine go_iload_n X dX2_doneBy_13 3 rfl rfl ?_
    refine go_iload_n X dX2_doneBy_14 0 rfl rfl ?_
    refine go_callVI X (n := 2) (As := [.int (nI i), .int (nI d)]) (rest := []) (kX2_wouldDo l D cs ad N kt (by omega) σ τ i d (σ 8 i) (rfl) (σ (20 + d) 0) (rfl) (σ (20 + d) 1) (rfl) (σ (20 + d) 2) (rfl) (by omega) (by omega)) gX2_doneBy_X2_wouldDo rfl hdX2_wouldDo ⟨rfl, rfl, by decide, by decide, by decide, by decide⟩ (by omega) rfl rfl rfl rfl (Nat.le_of_ble_eq_true rfl) dX2_doneBy_15 (fun r9 σ9 τ9 h9 => ?_)
    obtain ⟨rfl, rfl, rfl⟩ := h9
    refine go_ifb_eq X (tgt := 27) dX2_doneBy_18 (by decide) (fun c18 => ?_) (fun c18 => ?_)
    · skip
      refine go_lv (lv2 := [(3, .int (nI d)), (2, .int (setS (doX σ i) (d + 1))), (0, .ref (ad (2))), (1, .int (nI i))]) (by rw [setS_f c18]) ?_
      refine go_iinc X (v := nI (d + 1)) (lv2 := [(3, .int (nI (d + 1))), (2, .int (setS (doX σ i) (d + 1))), (0, .ref (ad (2))), (1, .int (nI i))]) dX2_doneBy_27 (k := 0) rfl (nI_add d 1) (by decide) rfl ?_
      refine go_goto X (tgt := 4) dX2_doneBy_30 (by decide) ?_
      exact ih4 (d + 1) (by (try dsimp only); exact (by omega)) (by (try dsimp only); omega)
    · skip
      refine go_iload_n X dX2_doneBy_21 1 rfl rfl ?_
      refine go_iconst X (v := 1) dX2_doneBy_22 (by decide) ?_
      refine go_iload_n X dX2_doneBy_23 0 rfl rfl ?_
      refine go_ishl X dX2_doneBy_24 ?_
      refine go_ior X dX2_doneBy_25 ?_
      refine go_istore_n X (lv2 := [(2, .int ((setS (doX σ i) d) ||| (1 <<< ((nI d) &&& 31)))), (3, .int (nI d)), (0, .ref (ad (2))), (1, .int (nI i))]) dX2_doneBy_26 rfl (by decide) rfl ?_
      refine go_lv (lv2 := [(2, .int (setS (doX σ i) (d + 1))), (3, .int (nI d)), (0, .ref (ad (2))), (1, .int (nI i))]) (by rw [setS_t c18]) ?_
      refine go_iinc X (v := nI (d + 1)) (lv2 := [(3, .int (nI (d + 1))), (2, .int (setS (doX σ i) (d + 1))), (0, .ref (ad (2))), (1, .int (nI i))]) dX2_doneBy_27 (k := 1) rfl (nI_add d 1) (by decide) rfl ?_
      refine go_goto X (tgt := 4) dX2_doneBy_30 (by decide) ?_
      exact ih4 (d + 1) (by (try dsimp only); exact (by omega)) (by (try dsimp only); omega)
end
section
theorem up2_id {α : Type} {σ : Nat → Nat → α} {n j : Nat} : up2 σ n j (σ n j) = σ := by
  funext a b
  by_cases h : a = n ∧ b = j
  · rw [h.1, h.2, up2_self]
  · rw [up2_ne h]
theorem up2_id2 {α : Type} {σ : Nat → Nat → α} {n j : Nat} {v : α} (h : σ n j = v) : up2 σ n j v = σ := by rw [← h]; exact up2_id
theorem up2_up2 {α : Type} {σ : Nat → Nat → α} {n j : Nat} {v w : α} : up2 (up2 σ n j v) n j w = up2 σ n j w := by
  funext a b
  by_cases h : a = n ∧ b = j
  · rw [h.1, h.2, up2_self, up2_self]
  · rw [up2_ne h, up2_ne h, up2_ne h]
theorem vz_n {v : Int32} (h : v = 0 ∨ v = 1) : vp_nar .boolean v = v := by rcases h with rfl | rfl <;> rfl
/-- all the first n readings are so, by the class's cells: who (ra), which deed (rd) -/
def allX (σ : vSg) (ra rd : Nat → Nat) (n : Nat) : Prop := ∀ r, r < n → b2i (doX σ (ra r) (rd r)) = σ 34 r
def allM (σ : vSg) (ra rd : Nat → Nat) (n : Nat) : Prop := ∀ r, r < n → b2i (doM σ (ra r) (rd r)) = σ 53 r
theorem hdX1_note : yX1_note.cls = RX1 ∧ yX1_note.cls ≠ "java/lang/invoke/MethodHandle" ∧ yX1_note.cls ≠ "java/lang/invoke/VarHandle" ∧ (parseMethodDescriptor yX1_note.desc).map (fun d => d.parameters.length) = some 3 := by decide +kernel
set_option maxHeartbeats 4000000 in
set_option maxRecDepth 100000 in
theorem kX1_note (l : Launch) (D : va_G) (cs : Nat → ClassId) (ad : Nat → Nat) (N kt : Nat) (hN : 58 ≤ N) (σ : vSg) (τ : vTa) (a : Int32) (d : Int32) (bo : Int32) (nr : Nat)   (hnr : σ 3 3 = nI nr) (hle : nr < 8) (hz : bo = 0 ∨ bo = 1) : CtI l yX1_note wsX1_note ({ frames := 0, cells := 0, slots := 0, locals := 0 }) D cs ad N (shP kt) [.ref (ad (3)), .int a, .int d, .int bo] σ τ 0 0 (fun r9 σ9 τ9 => nI nr = r9 ∧ (up2 (up2 (up2 (up2 σ 10 nr a) 11 nr d) 34 nr bo) 3 3 (nI (nr + 1))) = σ9 ∧ τ = τ9) := by
  refine ct_I (cc := cX1_note) (maxL := 4) (by decide) rfl (Nat.le_of_ble_eq_true rfl) rfl rfl ?_
  intro p e s m args below meth c A X hr hlk
  refine go_aload_n X dX1_note_0 0 rfl rfl ?_
  refine go_getr X (n := 3) (j := 0) (by omega) rfl rfl (fun _ h9 => List.mem_cons_of_mem _ (List.mem_append_right _ h9)) (by decide) (List.mem_cons_of_mem _ (List.mem_append_left _ (List.mem_of_getElem? (i := 0) rfl))) rfl dX1_note_1 ?_
  refine go_aload_n X dX1_note_4 0 rfl rfl ?_
  refine go_geti X (n := 3) (j := 3) (by omega) rfl rfl (fun _ h9 => List.mem_cons_of_mem _ (List.mem_append_right _ h9)) (by decide) (List.mem_cons_of_mem _ (List.mem_append_left _ (List.mem_of_getElem? (i := 1) rfl))) rfl dX1_note_5 ?_
  refine go_topi (v := nI nr) (hnr) ?_
  refine go_iload_n X dX1_note_8 1 rfl rfl ?_
  refine go_iast X (n := 10) (k := nr) (by omega) rfl rfl (by omega) (by omega) dX1_note_9 ?_
  refine go_aload_n X dX1_note_10 0 rfl rfl ?_
  refine go_getr X (n := 3) (j := 1) (by omega) rfl rfl (fun _ h9 => List.mem_cons_of_mem _ (List.mem_append_right _ h9)) (by decide) (List.mem_cons_of_mem _ (List.mem_append_left _ (List.mem_of_getElem? (i := 2) rfl))) rfl dX1_note_11 ?_
  refine go_aload_n X dX1_note_14 0 rfl rfl ?_
  refine go_geti X (n := 3) (j := 3) (by omega) rfl rfl (fun _ h9 => List.mem_cons_of_mem _ (List.mem_append_right _ h9)) (by decide) (List.mem_cons_of_mem _ (List.mem_append_left _ (List.mem_of_getElem? (i := 1) rfl))) rfl dX1_note_15 ?_
  refine go_topi (v := nI nr) ((up2_ne (by omega)).trans hnr) ?_
  refine go_iload_n X dX1_note_18 2 rfl rfl ?_
  refine go_iast X (n := 11) (k := nr) (by omega) rfl rfl (by omega) (by omega) dX1_note_19 ?_
  refine go_aload_n X dX1_note_20 0 rfl rfl ?_
  refine go_getr X (n := 3) (j := 2) (by omega) rfl rfl (fun _ h9 => List.mem_cons_of_mem _ (List.mem_append_right _ h9)) (by decide) (List.mem_cons_of_mem _ (List.mem_append_left _ (List.mem_of_getElem? (i := 3) rfl))) rfl dX1_note_21 ?_
  refine go_aload_n X dX1_note_24 0 rfl rfl ?_
  refine go_geti X (n := 3) (j := 3) (by omega) rfl rfl (fun _ h9 => List.mem_cons_of_mem _ (List.mem_append_right _ h9)) (by decide) (List.mem_cons_of_mem _ (List.mem_append_left _ (List.mem_of_getElem? (i := 1) rfl))) rfl dX1_note_25 ?_
  refine go_topi (v := nI nr) ((up2_ne (by omega)).trans ((up2_ne (by omega)).trans hnr)) ?_
  refine go_iload_n X dX1_note_28 3 rfl rfl ?_
  refine go_zast X (n := 34) (k := nr) (by omega) rfl rfl (by omega) (by omega) dX1_note_29 ?_
  refine go_sg (σ2 := (up2 (up2 (up2 σ 10 nr a) 11 nr d) 34 nr bo)) (by rw [vz_n hz]) ?_
  refine go_aload_n X dX1_note_30 0 rfl rfl ?_
  refine go_dup X dX1_note_31 rfl ?_
  refine go_geti X (n := 3) (j := 3) (by omega) rfl rfl (fun _ h9 => List.mem_cons_of_mem _ (List.mem_append_right _ h9)) (by decide) (List.mem_cons_of_mem _ (List.mem_append_left _ (List.mem_of_getElem? (i := 1) rfl))) rfl dX1_note_32 ?_
  refine go_topi (v := nI nr) ((up2_ne (by omega)).trans ((up2_ne (by omega)).trans ((up2_ne (by omega)).trans hnr))) ?_
  refine go_iconst X (v := 1) dX1_note_35 (by decide) ?_
  refine go_iadd X dX1_note_36 ?_
  refine go_topi (v := nI (nr + 1)) (nI_add nr 1) ?_
  refine go_puti X (n := 3) (j := 3) (ty := .int) (by omega) rfl rfl (fun _ h9 => List.mem_cons_of_mem _ (List.mem_append_right _ h9)) (by decide) (List.mem_cons_of_mem _ (List.mem_append_left _ (List.mem_of_getElem? (i := 1) rfl))) rfl tyX1 tyX1_ok nmX1 rfl (by decide +kernel) rfl rfl dX1_note_37 ?_
  refine go_aload_n X dX1_note_40 0 rfl rfl ?_
  refine go_geti X (n := 3) (j := 3) (by omega) rfl rfl (fun _ h9 => List.mem_cons_of_mem _ (List.mem_append_right _ h9)) (by decide) (List.mem_cons_of_mem _ (List.mem_append_left _ (List.mem_of_getElem? (i := 1) rfl))) rfl dX1_note_41 ?_
  refine go_topi (v := nI (nr + 1)) (up2_self) ?_
  refine go_iconst X (v := 1) dX1_note_44 (by decide) ?_
  refine go_isub X dX1_note_45 ?_
  refine go_topi (v := nI nr) (nI_pred nr) ?_
  exact go_ireturn X hr hlk dX1_note_46 (⟨rfl, rfl, rfl⟩)

theorem hdX1_allAreSo : yX1_allAreSo.cls = RX1 ∧ yX1_allAreSo.cls ≠ "java/lang/invoke/MethodHandle" ∧ yX1_allAreSo.cls ≠ "java/lang/invoke/VarHandle" ∧ (parseMethodDescriptor yX1_allAreSo.desc).map (fun d => d.parameters.length) = some 1 := by decide +kernel
set_option maxHeartbeats 4000000 in
set_option maxRecDepth 100000 in
theorem kX1_allAreSo (l : Launch) (D : va_G) (cs : Nat → ClassId) (ad : Nat → Nat) (N kt : Nat) (hN : 58 ≤ N) (σ : vSg) (τ : vTa) (nr : Nat) (ra : Nat → Nat) (rd : Nat → Nat)   (hnr : σ 3 3 = nI nr) (hle : nr ≤ 8) (hR : ∀ r, r < nr → σ 10 r = nI (ra r) ∧ ra r < 4 ∧ σ 11 r = nI (rd r) ∧ rd r < 5) : CtI l yX1_allAreSo wsX1_allAreSo ({ frames := 3, cells := 0, slots := 0, locals := 67 }) D cs ad N (shP kt) [.ref (ad (3)), .ref (ad (2))] σ τ 0 0 (fun r9 σ9 τ9 => b2i (allX σ ra rd nr) = r9 ∧ σ = σ9 ∧ τ = τ9) := by
  refine ct_I (cc := cX1_allAreSo) (maxL := 3) (by decide) rfl (Nat.le_of_ble_eq_true rfl) rfl rfl ?_
  intro p e s m args below meth c A X hr hlk
  refine go_iconst X (v := 0) dX1_allAreSo_0 (by decide) ?_
  refine go_istore_n X (lv2 := [(2, .int 0), (0, .ref (ad (3))), (1, .ref (ad (2)))]) dX1_allAreSo_1 rfl (by decide) rfl ?_
  refine go_loop (ι := Nat) (fun i9 => (i9 ≤ nr) ∧ (allX σ ra rd i9)) (fun i9 => nr - i9) (fun i9 => σ) (fun i9 => τ) (fun i9 => [(2, .int (nI i9)), (0, .ref (ad (3))), (1, .ref (ad (2)))]) (fun i9 => []) 0 (by (try dsimp only); exact ⟨Nat.zero_le _, fun _ h => absurd h (Nat.not_lt_zero _)⟩) ?_
  intro i9 hi9 ih2
  obtain ⟨r, hv9⟩ : ∃ z, z = i9 := ⟨_, rfl⟩; subst hv9
  (try dsimp only at hi9); (try dsimp only at ih2); (try dsimp only)
  obtain ⟨hr0, hal⟩ := hi9
  refine go_iload_n X dX1_allAreSo_2 0 rfl rfl ?_
  refine go_aload_n X dX1_allAreSo_3 1 rfl rfl ?_
  refine go_geti X (n := 3) (j := 3) (by omega) rfl rfl (fun _ h9 => List.mem_cons_of_mem _ (List.mem_append_left _ (List.mem_append_right _ h9))) (by decide) (List.mem_cons_of_mem _ (List.mem_append_left _ (List.mem_append_left _ (List.mem_of_getElem? (i := 0) rfl)))) rfl dX1_allAreSo_4 ?_
  refine go_topi (v := nI nr) (hnr) ?_
  refine go_icmpn_ge X (tgt := 43) dX1_allAreSo_7 (by decide) (a := r) (b := nr) rfl rfl (by omega) (by omega) (fun c7 => ?_) (fun c7 => ?_)
  · skip
    refine go_iconst X (v := 1) dX1_allAreSo_43 (by decide) ?_
    exact go_zreturn X hr hlk dX1_allAreSo_44 (by first | exact Or.inl rfl | exact Or.inr rfl) (⟨b2i_t (by rw [show nr = r by omega]; exact hal), rfl, rfl⟩)
  · skip
    refine go_aload_n X dX1_allAreSo_10 2 rfl rfl ?_
    refine go_aload_n X dX1_allAreSo_11 1 rfl rfl ?_
    refine go_getr X (n := 3) (j := 0) (by omega) rfl rfl (fun _ h9 => List.mem_cons_of_mem _ (List.mem_append_left _ (List.mem_append_right _ h9))) (by decide) (List.mem_cons_of_mem _ (List.mem_append_left _ (List.mem_append_left _ (List.mem_of_getElem? (i := 1) rfl)))) rfl dX1_allAreSo_12 ?_
    refine go_iload_n X dX1_allAreSo_15 0 rfl rfl ?_
    refine go_iald X (n := 10) (k := r) (by omega) rfl rfl (by omega) (by omega) dX1_allAreSo_16 ?_
    obtain ⟨ha1, ha2, hd1, hd2⟩ := hR r (by omega)
    refine go_topi (v := nI (ra r)) ha1 ?_
    refine go_aload_n X dX1_allAreSo_17 1 rfl rfl ?_
    refine go_getr X (n := 3) (j := 1) (by omega) rfl rfl (fun _ h9 => List.mem_cons_of_mem _ (List.mem_append_left _ (List.mem_append_right _ h9))) (by decide) (List.mem_cons_of_mem _ (List.mem_append_left _ (List.mem_append_left _ (List.mem_of_getElem? (i := 2) rfl)))) rfl dX1_allAreSo_18 ?_
    refine go_iload_n X dX1_allAreSo_21 0 rfl rfl ?_
    refine go_iald X (n := 11) (k := r) (by omega) rfl rfl (by omega) (by omega) dX1_allAreSo_22 ?_
    refine go_topi (v := nI (rd r)) hd1 ?_
    refine go_callVI X (n := 2) (As := [.int (nI (ra r)), .int (nI (rd r))]) (rest := []) (kX2_wouldDo l D cs ad N kt (by omega) σ τ (ra r) (rd r) (σ 8 (ra r)) (rfl) (σ (20 + (rd r)) 0) (rfl) (σ (20 + (rd r)) 1) (rfl) (σ (20 + (rd r)) 2) (rfl) (by omega) (by omega)) gX1_allAreSo_X2_wouldDo rfl hdX2_wouldDo ⟨rfl, rfl, by decide, by decide, by decide, by decide⟩ (by omega) rfl rfl rfl rfl (Nat.le_of_ble_eq_true rfl) dX1_allAreSo_23 (fun r9 σ9 τ9 h9 => ?_)
    obtain ⟨rfl, rfl, rfl⟩ := h9
    refine go_aload_n X dX1_allAreSo_26 1 rfl rfl ?_
    refine go_getr X (n := 3) (j := 2) (by omega) rfl rfl (fun _ h9 => List.mem_cons_of_mem _ (List.mem_append_left _ (List.mem_append_right _ h9))) (by decide) (List.mem_cons_of_mem _ (List.mem_append_left _ (List.mem_append_left _ (List.mem_of_getElem? (i := 3) rfl)))) rfl dX1_allAreSo_27 ?_
    refine go_iload_n X dX1_allAreSo_30 0 rfl rfl ?_
    refine go_zald X (n := 34) (k := r) (by omega) rfl rfl (by omega) (by omega) dX1_allAreSo_31 ?_
    refine go_icmp_eq X (tgt := 37) dX1_allAreSo_32 (by decide) (fun c32 => ?_) (fun c32 => ?_)
    · skip
      refine go_iinc X (v := nI (r + 1)) (lv2 := [(2, .int (nI (r + 1))), (0, .ref (ad (3))), (1, .ref (ad (2)))]) dX1_allAreSo_37 (k := 0) rfl (nI_add r 1) (by decide) rfl ?_
      refine go_goto X (tgt := 2) dX1_allAreSo_40 (by decide) ?_
      exact ih2 (r + 1) (by (try dsimp only); exact ⟨by omega, fun q hq => by rcases Nat.lt_succ_iff_lt_or_eq.mp hq with h | h; exact hal q h; rw [h]; exact c32⟩) (by (try dsimp only); omega)
    · skip
      refine go_iconst X (v := 0) dX1_allAreSo_35 (by decide) ?_
      exact go_zreturn X hr hlk dX1_allAreSo_36 (by first | exact Or.inl rfl | exact Or.inr rfl) (⟨b2i_f (fun q => c32 (q r (by omega))), rfl, rfl⟩)

theorem hdX1_fitting : yX1_fitting.cls = RX1 ∧ yX1_fitting.cls ≠ "java/lang/invoke/MethodHandle" ∧ yX1_fitting.cls ≠ "java/lang/invoke/VarHandle" ∧ (parseMethodDescriptor yX1_fitting.desc).map (fun d => d.parameters.length) = some 4 := by decide +kernel
set_option maxHeartbeats 4000000 in
set_option maxRecDepth 100000 in
theorem kX1_fitting (l : Launch) (D : va_G) (cs : Nat → ClassId) (ad : Nat → Nat) (N kt : Nat) (hN : 58 ≤ N) (σ : vSg) (τ : vTa) (rc : Nat) (ix : Nat) (bd : Nat) (len : Nat) (g : Nat → Nat) (nr : Nat) (ra : Nat → Nat) (rd : Nat → Nat)   (hrs : shP kt rc = .inr (0, len, g)) (hix : ix < len) (hlen : len < 2 ^ 31) (hrc : rc = 8 ∨ (20 ≤ rc ∧ rc < 25)) (hbd : bd ≤ 10) (hnr : σ 3 3 = nI nr) (hle : nr ≤ 8) (hR : ∀ r, r < nr → σ 10 r = nI (ra r) ∧ ra r < 4 ∧ σ 11 r = nI (rd r) ∧ rd r < 5) : CtI l yX1_fitting wsX1_fitting ({ frames := 4, cells := 0, slots := 0, locals := 89 }) D cs ad N (shP kt) [.ref (ad (3)), .ref (ad (2)), .ref (ad (rc)), .int (nI ix), .int (nI bd)] σ τ 0 0 (fun r9 σ9 τ9 => setS (fun z9 => allX (up2 σ rc ix (nI z9)) ra rd nr) bd = r9 ∧ σ = σ9 ∧ τ = τ9) := by
  refine ct_I (cc := cX1_fitting) (maxL := 8) (by decide) rfl (Nat.le_of_ble_eq_true rfl) rfl rfl ?_
  intro p e s m args below meth c A X hr hlk
  refine go_aload_n X dX1_fitting_0 2 rfl rfl ?_
  refine go_iload_n X dX1_fitting_1 3 rfl rfl ?_
  refine go_iald X (n := rc) (k := ix) (by omega) hrs rfl (by omega) (by omega) dX1_fitting_2 ?_
  refine go_istore X (lv2 := [(5, .int (σ rc ix)), (0, .ref (ad (3))), (1, .ref (ad (2))), (2, .ref (ad (rc))), (3, .int (nI ix)), (4, .int (nI bd))]) dX1_fitting_3 (by decide) rfl ?_
  refine go_iconst X (v := 0) dX1_fitting_5 (by decide) ?_
  refine go_istore X (lv2 := [(6, .int 0), (5, .int (σ rc ix)), (0, .ref (ad (3))), (1, .ref (ad (2))), (2, .ref (ad (rc))), (3, .int (nI ix)), (4, .int (nI bd))]) dX1_fitting_6 (by decide) rfl ?_
  refine go_iconst X (v := 0) dX1_fitting_8 (by decide) ?_
  refine go_sg (σ2 := (up2 σ rc ix (σ rc ix))) up2_id.symm ?_
  refine go_istore X (lv2 := [(7, .int 0), (6, .int 0), (5, .int (σ rc ix)), (0, .ref (ad (3))), (1, .ref (ad (2))), (2, .ref (ad (rc))), (3, .int (nI ix)), (4, .int (nI bd))]) dX1_fitting_9 (by decide) rfl ?_
  refine go_loop (ι := Nat × Int32) (fun i9 => (i9.1 ≤ bd)) (fun i9 => bd - i9.1) (fun i9 => (up2 σ rc ix i9.2)) (fun i9 => τ) (fun i9 => [(7, .int (nI i9.1)), (6, .int (setS (fun z9 => allX (up2 σ rc ix (nI z9)) ra rd nr) i9.1)), (5, .int (σ rc ix)), (0, .ref (ad (3))), (1, .ref (ad (2))), (2, .ref (ad (rc))), (3, .int (nI ix)), (4, .int (nI bd))]) (fun i9 => []) (0, σ rc ix) (by (try dsimp only); exact (Nat.zero_le _)) ?_
  intro i9 hi9 ih11
  obtain ⟨v, x⟩ := i9
  (try dsimp only at hi9); (try dsimp only at ih11); (try dsimp only)
  have hv := hi9
  refine go_iload X dX1_fitting_11 0 rfl ?_
  refine go_iload X dX1_fitting_13 7 rfl ?_
  refine go_icmpn_ge X (tgt := 46) dX1_fitting_15 (by decide) (a := v) (b := bd) rfl rfl (by omega) (by omega) (fun c15 => ?_) (fun c15 => ?_)
  · skip
    refine go_aload_n X dX1_fitting_46 5 rfl rfl ?_
    refine go_iload_n X dX1_fitting_47 6 rfl rfl ?_
    refine go_iload X dX1_fitting_48 2 rfl ?_
    refine go_iast X (n := rc) (k := ix) (by omega) hrs rfl (by omega) (by omega) dX1_fitting_50 ?_
    refine go_sg (σ2 := σ) (by rw [up2_up2]; exact up2_id) ?_
    refine go_iload X dX1_fitting_51 1 rfl ?_
    exact go_ireturn X hr hlk dX1_fitting_53 (⟨by rw [show v = bd by omega], rfl, rfl⟩)
  · skip
    refine go_aload_n X dX1_fitting_18 5 rfl rfl ?_
    refine go_iload_n X dX1_fitting_19 6 rfl rfl ?_
    refine go_iload X dX1_fitting_20 0 rfl ?_
    refine go_iast X (n := rc) (k := ix) (by omega) hrs rfl (by omega) (by omega) dX1_fitting_22 ?_
    refine go_sg (σ2 := (up2 σ rc ix (nI v))) up2_up2 ?_
    refine go_aload_n X dX1_fitting_23 3 rfl rfl ?_
    refine go_aload_n X dX1_fitting_24 4 rfl rfl ?_
    refine go_callVI X (n := 3) (As := [.ref (ad (2))]) (rest := []) (kX1_allAreSo l D cs ad N kt (by omega) (up2 σ rc ix (nI v)) τ nr ra rd ((up2_ne (by omega)).trans hnr) (by omega) (fun r h => by rw [up2_ne (by omega), up2_ne (by omega)]; exact hR r h)) gX1_fitting_X1_allAreSo rfl hdX1_allAreSo ⟨rfl, rfl, by decide, by decide, by decide, by decide⟩ (by omega) rfl rfl rfl rfl (Nat.le_of_ble_eq_true rfl) dX1_fitting_25 (fun r9 σ9 τ9 h9 => ?_)
    obtain ⟨rfl, rfl, rfl⟩ := h9
    refine go_ifb_eq X (tgt := 40) dX1_fitting_28 (by decide) (fun c28 => ?_) (fun c28 => ?_)
    · skip
      refine go_lv (lv2 := [(7, .int (nI v)), (6, .int (setS (fun z9 => allX (up2 σ rc ix (nI z9)) ra rd nr) (v + 1))), (5, .int (σ rc ix)), (0, .ref (ad (3))), (1, .ref (ad (2))), (2, .ref (ad (rc))), (3, .int (nI ix)), (4, .int (nI bd))]) (by rw [setS_f (P := fun z9 => allX (up2 σ rc ix (nI z9)) ra rd nr) (n := v) c28]) ?_
      refine go_iinc X (v := nI (v + 1)) (lv2 := [(7, .int (nI (v + 1))), (6, .int (setS (fun z9 => allX (up2 σ rc ix (nI z9)) ra rd nr) (v + 1))), (5, .int (σ rc ix)), (0, .ref (ad (3))), (1, .ref (ad (2))), (2, .ref (ad (rc))), (3, .int (nI ix)), (4, .int (nI bd))]) dX1_fitting_40 (k := 0) rfl (nI_add v 1) (by decide) rfl ?_
      refine go_goto X (tgt := 11) dX1_fitting_43 (by decide) ?_
      exact ih11 (v + 1, nI v) (by (try dsimp only); exact (by omega)) (by (try dsimp only); omega)
    · skip
      refine go_iload X dX1_fitting_31 1 rfl ?_
      refine go_iconst X (v := 1) dX1_fitting_33 (by decide) ?_
      refine go_iload X dX1_fitting_34 0 rfl ?_
      refine go_ishl X dX1_fitting_36 ?_
      refine go_ior X dX1_fitting_37 ?_
      refine go_istore X (lv2 := [(6, .int ((setS (fun z9 => allX (up2 σ rc ix (nI z9)) ra rd nr) v) ||| (1 <<< ((nI v) &&& 31)))), (7, .int (nI v)), (5, .int (σ rc ix)), (0, .ref (ad (3))), (1, .ref (ad (2))), (2, .ref (ad (rc))), (3, .int (nI ix)), (4, .int (nI bd))]) dX1_fitting_38 (by decide) rfl ?_
      refine go_lv (lv2 := [(6, .int (setS (fun z9 => allX (up2 σ rc ix (nI z9)) ra rd nr) (v + 1))), (7, .int (nI v)), (5, .int (σ rc ix)), (0, .ref (ad (3))), (1, .ref (ad (2))), (2, .ref (ad (rc))), (3, .int (nI ix)), (4, .int (nI bd))]) (by rw [setS_t (P := fun z9 => allX (up2 σ rc ix (nI z9)) ra rd nr) (n := v) c28]) ?_
      refine go_iinc X (v := nI (v + 1)) (lv2 := [(7, .int (nI (v + 1))), (6, .int (setS (fun z9 => allX (up2 σ rc ix (nI z9)) ra rd nr) (v + 1))), (5, .int (σ rc ix)), (0, .ref (ad (3))), (1, .ref (ad (2))), (2, .ref (ad (rc))), (3, .int (nI ix)), (4, .int (nI bd))]) dX1_fitting_40 (k := 1) rfl (nI_add v 1) (by decide) rfl ?_
      refine go_goto X (tgt := 11) dX1_fitting_43 (by decide) ?_
      exact ih11 (v + 1, nI v) (by (try dsimp only); exact (by omega)) (by (try dsimp only); omega)
end
section
theorem pk_lf {lf : Nat} (hl : lf < 2 ^ 30) : nI lf - 1 < 0 ↔ lf = 0 := by
  rw [Int32.lt_iff_toInt_lt, show (1 : Int32) = nI 1 from rfl, pk_sub_toInt hl (by decide), show (0 : Int32).toInt = 0 from rfl]
  omega
def uvX (σ : vSg) (a d : Nat) : Int32 := valS (σ 8 a) (σ (20 + d) 0) (σ (20 + d) 1) (σ (20 + d) 2)
def pvX (σ : vSg) (d : Nat) : Int32 := 10 * σ (20 + d) 0
/-! a year: ta, td, tc: subject, deed, act of each triple; pa: papers; uv, pv: values unpardoned and pardoned -/
def yLf (pa ta tc : Nat → Nat) : Nat → Nat → Nat
  | 0 => pa
  | t + 1 => fun a => if tc t = 2 ∧ a = ta t then yLf pa ta tc t a - 1 else yLf pa ta tc t a
def ySum (ta td tc : Nat → Nat) (uv : Nat → Nat → Int32) (pv : Nat → Int32) : Nat → Int32
  | 0 => 0
  | t + 1 => ySum ta td tc uv pv t + (if tc t = 2 then pv (td t) else if tc t = 1 then uv (ta t) (td t) else 0)
def yPd (tc : Nat → Nat) : Nat → Nat
  | 0 => 0
  | t + 1 => if tc t = 2 then yPd tc t + 1 else yPd tc t
def yBad (pa ta td tc : Nat → Nat) (uv : Nat → Nat → Int32) (t : Nat) : Prop := (tc t = 2 ∧ yLf pa ta tc t (ta t) = 0) ∨ (tc t = 1 ∧ ¬ 0 < uv (ta t) (td t))
noncomputable def yFw (pa ta td tc : Nat → Nat) (uv : Nat → Nat → Int32) : Nat → Int32
  | 0 => -9
  | t + 1 => if yFw pa ta td tc uv t = -9 then @ite _ (yBad pa ta td tc uv t) (Classical.propDecidable _) (nI t) (-9) else yFw pa ta td tc uv t
theorem yLf_le (pa ta tc : Nat → Nat) (t a : Nat) : yLf pa ta tc t a ≤ pa a := by
  induction t with
  | zero => exact Nat.le_refl _
  | succ t ih => simp only [yLf]; split <;> omega
noncomputable def goR (c lf : Nat) (v : Int32) : Int32 := if c = 2 then b2i (0 < lf) else if c = 1 then b2i (0 < v) else 1
def goS (σ : vSg) (c a lf : Nat) (w v vs pd : Int32) : vSg := if c = 2 then up2 (up2 (up2 σ 37 a (nI lf - 1)) 5 2 (pd + 1)) 5 1 (vs + 10 * w) else if c = 1 then up2 σ 5 1 (vs + v) else σ
theorem goR_z (c lf : Nat) (v : Int32) : goR c lf v = 0 ∨ goR c lf v = 1 := by
  unfold goR
  split
  · exact b2i_z _
  · split
    · exact b2i_z _
    · exact Or.inr rfl
theorem hdX5_goesOn : yX5_goesOn.cls = RX5 ∧ yX5_goesOn.cls ≠ "java/lang/invoke/MethodHandle" ∧ yX5_goesOn.cls ≠ "java/lang/invoke/VarHandle" ∧ (parseMethodDescriptor yX5_goesOn.desc).map (fun d => d.parameters.length) = some 4 := by decide +kernel
set_option maxHeartbeats 4000000 in
set_option maxRecDepth 100000 in
theorem kX5_goesOn (l : Launch) (D : va_G) (cs : Nat → ClassId) (ad : Nat → Nat) (N kt : Nat) (hN : 58 ≤ N) (σ : vSg) (τ : vTa) (i : Nat) (j : Nat) (ac : Nat) (lf : Nat) (kd : Int32) (h_kd : σ 8 i = kd) (wo : Int32) (h_wo : σ (20 + j) 0 = wo) (rk : Int32) (h_rk : σ (20 + j) 1 = rk) (hu : Int32) (h_hu : σ (20 + j) 2 = hu) (vs : Int32) (h_vs : σ 5 1 = vs) (pd : Int32) (h_pd : σ 5 2 = pd)  (hi : i < 4) (hj : j < 5) (hac : ac ≤ 2) (hlf : σ 37 i = nI lf) (hl3 : lf ≤ 3) : CtI l yX5_goesOn wsX5_goesOn ({ frames := 3, cells := 0, slots := 0, locals := 67 }) D cs ad N (shP kt) [.ref (ad (5)), .ref (ad (2)), .int (nI i), .int (nI j), .int (nI ac)] σ τ 0 0 (fun r9 σ9 τ9 => goR ac lf (valS kd wo rk hu) = r9 ∧ goS σ ac i lf wo (valS kd wo rk hu) vs pd = σ9 ∧ τ = τ9) := by
  refine ct_I (cc := cX5_goesOn) (maxL := 5) (by decide) rfl (Nat.le_of_ble_eq_true rfl) rfl rfl ?_
  intro p e s m args below meth c A X hr hlk
  refine go_iload X dX5_goesOn_0 4 rfl ?_
  refine go_iconst X (v := 2) dX5_goesOn_2 (by decide) ?_
  refine go_icmpn_ne X (tgt := 55) dX5_goesOn_3 (by decide) (a := ac) (b := 2) rfl rfl (by omega) (by omega) (fun c3 => ?_) (fun c3 => ?_)
  · skip
    refine go_iload X dX5_goesOn_55 4 rfl ?_
    refine go_iconst X (v := 1) dX5_goesOn_57 (by decide) ?_
    refine go_icmpn_ne X (tgt := 83) dX5_goesOn_58 (by decide) (a := ac) (b := 1) rfl rfl (by omega) (by omega) (fun c58 => ?_) (fun c58 => ?_)
    · skip
      refine go_iconst X (v := 1) dX5_goesOn_83 (by decide) ?_
      exact go_zreturn X hr hlk dX5_goesOn_84 (by first | exact Or.inl rfl | exact Or.inr rfl) (⟨by simp only [goR, if_neg c3, if_neg c58], by simp only [goS, if_neg c3, if_neg c58], rfl⟩)
    · skip
      refine go_aload_n X dX5_goesOn_61 0 rfl rfl ?_
      refine go_dup X dX5_goesOn_62 rfl ?_
      refine go_geti X (n := 5) (j := 1) (by omega) rfl rfl (fun _ h9 => List.mem_cons_of_mem _ (List.mem_append_left _ (List.mem_append_right _ h9))) (by decide) (List.mem_cons_of_mem _ (List.mem_append_left _ (List.mem_append_left _ (List.mem_of_getElem? (i := 2) rfl)))) rfl dX5_goesOn_63 ?_
      refine go_topi (v := vs) (h_vs) ?_
      refine go_aload_n X dX5_goesOn_66 1 rfl rfl ?_
      refine go_iload_n X dX5_goesOn_67 2 rfl rfl ?_
      refine go_iload_n X dX5_goesOn_68 3 rfl rfl ?_
      refine go_callVI X (n := 2) (As := [.int (nI i), .int (nI j)]) (rest := [.int vs, .ref (ad (5))]) (kX2_unpardonedValue l D cs ad N kt (by omega) σ τ i j kd (h_kd) wo (h_wo) rk (h_rk) hu (h_hu) (by omega) (by omega)) gX5_goesOn_X2_unpardonedValue rfl hdX2_unpardonedValue ⟨rfl, rfl, by decide, by decide, by decide, by decide⟩ (by omega) rfl rfl rfl rfl (Nat.le_of_ble_eq_true rfl) dX5_goesOn_69 (fun r9 σ9 τ9 h9 => ?_)
      obtain ⟨rfl, rfl, rfl⟩ := h9
      refine go_iadd X dX5_goesOn_72 ?_
      refine go_puti X (n := 5) (j := 1) (ty := .int) (by omega) rfl rfl (fun _ h9 => List.mem_cons_of_mem _ (List.mem_append_left _ (List.mem_append_right _ h9))) (by decide) (List.mem_cons_of_mem _ (List.mem_append_left _ (List.mem_append_left _ (List.mem_of_getElem? (i := 2) rfl)))) rfl tyX5 tyX5_ok nmX5 rfl (by decide +kernel) rfl rfl dX5_goesOn_73 ?_
      refine go_aload_n X dX5_goesOn_76 1 rfl rfl ?_
      refine go_iload_n X dX5_goesOn_77 2 rfl rfl ?_
      refine go_iload_n X dX5_goesOn_78 3 rfl rfl ?_
      refine go_callVI X (n := 2) (As := [.int (nI i), .int (nI j)]) (rest := []) (kX2_wouldDo l D cs ad N kt (by omega) (up2 σ 5 1 (vs + (valS kd wo rk hu))) τ i j kd ((up2_ne (by omega)).trans h_kd) wo ((up2_ne (by omega)).trans h_wo) rk ((up2_ne (by omega)).trans h_rk) hu ((up2_ne (by omega)).trans h_hu) (by omega) (by omega)) gX5_goesOn_X2_wouldDo rfl hdX2_wouldDo ⟨rfl, rfl, by decide, by decide, by decide, by decide⟩ (by omega) rfl rfl rfl rfl (Nat.le_of_ble_eq_true rfl) dX5_goesOn_79 (fun r9 σ9 τ9 h9 => ?_)
      obtain ⟨rfl, rfl, rfl⟩ := h9
      exact go_zreturn X hr hlk dX5_goesOn_82 (b2i_z _) (⟨by rw [c58]; rfl, by rw [c58]; rfl, rfl⟩)
  · skip
    refine go_aload_n X dX5_goesOn_6 0 rfl rfl ?_
    refine go_getr X (n := 5) (j := 0) (by omega) rfl rfl (fun _ h9 => List.mem_cons_of_mem _ (List.mem_append_left _ (List.mem_append_right _ h9))) (by decide) (List.mem_cons_of_mem _ (List.mem_append_left _ (List.mem_append_left _ (List.mem_of_getElem? (i := 0) rfl)))) rfl dX5_goesOn_7 ?_
    refine go_iload_n X dX5_goesOn_10 2 rfl rfl ?_
    refine go_dup2 X dX5_goesOn_11 rfl rfl ?_
    refine go_iald X (n := 37) (k := i) (by omega) rfl rfl (by omega) (by omega) dX5_goesOn_12 ?_
    refine go_topi (v := nI lf) (hlf) ?_
    refine go_iconst X (v := 1) dX5_goesOn_13 (by decide) ?_
    refine go_isub X dX5_goesOn_14 ?_
    refine go_iast X (n := 37) (k := i) (by omega) rfl rfl (by omega) (by omega) dX5_goesOn_15 ?_
    refine go_aload_n X dX5_goesOn_16 0 rfl rfl ?_
    refine go_dup X dX5_goesOn_17 rfl ?_
    refine go_geti X (n := 5) (j := 2) (by omega) rfl rfl (fun _ h9 => List.mem_cons_of_mem _ (List.mem_append_left _ (List.mem_append_right _ h9))) (by decide) (List.mem_cons_of_mem _ (List.mem_append_left _ (List.mem_append_left _ (List.mem_of_getElem? (i := 1) rfl)))) rfl dX5_goesOn_18 ?_
    refine go_topi (v := pd) ((up2_ne (by omega)).trans h_pd) ?_
    refine go_iconst X (v := 1) dX5_goesOn_21 (by decide) ?_
    refine go_iadd X dX5_goesOn_22 ?_
    refine go_puti X (n := 5) (j := 2) (ty := .int) (by omega) rfl rfl (fun _ h9 => List.mem_cons_of_mem _ (List.mem_append_left _ (List.mem_append_right _ h9))) (by decide) (List.mem_cons_of_mem _ (List.mem_append_left _ (List.mem_append_left _ (List.mem_of_getElem? (i := 1) rfl)))) rfl tyX5 tyX5_ok nmX5 rfl (by decide +kernel) rfl rfl dX5_goesOn_23 ?_
    refine go_aload_n X dX5_goesOn_26 0 rfl rfl ?_
    refine go_dup X dX5_goesOn_27 rfl ?_
    refine go_geti X (n := 5) (j := 1) (by omega) rfl rfl (fun _ h9 => List.mem_cons_of_mem _ (List.mem_append_left _ (List.mem_append_right _ h9))) (by decide) (List.mem_cons_of_mem _ (List.mem_append_left _ (List.mem_append_left _ (List.mem_of_getElem? (i := 2) rfl)))) rfl dX5_goesOn_28 ?_
    refine go_topi (v := vs) ((up2_ne (by omega)).trans ((up2_ne (by omega)).trans h_vs)) ?_
    refine go_aload_n X dX5_goesOn_31 1 rfl rfl ?_
    refine go_iload_n X dX5_goesOn_32 3 rfl rfl ?_
    refine go_callVI X (n := 2) (As := [.int (nI j)]) (rest := [.int vs, .ref (ad (5))]) (kX2_pardonedValue l D cs ad N kt (by omega) (up2 (up2 σ 37 i ((nI lf) - 1)) 5 2 (pd + 1)) τ j wo ((up2_ne (by omega)).trans ((up2_ne (by omega)).trans h_wo)) (by omega)) gX5_goesOn_X2_pardonedValue rfl hdX2_pardonedValue ⟨rfl, rfl, by decide, by decide, by decide, by decide⟩ (by omega) rfl rfl rfl rfl (Nat.le_of_ble_eq_true rfl) dX5_goesOn_33 (fun r9 σ9 τ9 h9 => ?_)
    obtain ⟨rfl, rfl, rfl⟩ := h9
    refine go_iadd X dX5_goesOn_36 ?_
    refine go_puti X (n := 5) (j := 1) (ty := .int) (by omega) rfl rfl (fun _ h9 => List.mem_cons_of_mem _ (List.mem_append_left _ (List.mem_append_right _ h9))) (by decide) (List.mem_cons_of_mem _ (List.mem_append_left _ (List.mem_append_left _ (List.mem_of_getElem? (i := 2) rfl)))) rfl tyX5 tyX5_ok nmX5 rfl (by decide +kernel) rfl rfl dX5_goesOn_37 ?_
    refine go_aload_n X dX5_goesOn_40 0 rfl rfl ?_
    refine go_getr X (n := 5) (j := 0) (by omega) rfl rfl (fun _ h9 => List.mem_cons_of_mem _ (List.mem_append_left _ (List.mem_append_right _ h9))) (by decide) (List.mem_cons_of_mem _ (List.mem_append_left _ (List.mem_append_left _ (List.mem_of_getElem? (i := 0) rfl)))) rfl dX5_goesOn_41 ?_
    refine go_iload_n X dX5_goesOn_44 2 rfl rfl ?_
    refine go_iald X (n := 37) (k := i) (by omega) rfl rfl (by omega) (by omega) dX5_goesOn_45 ?_
    refine go_topi (v := (nI lf) - 1) ((up2_ne (by omega)).trans ((up2_ne (by omega)).trans up2_self)) ?_
    refine go_if_lt X (tgt := 53) dX5_goesOn_46 (by decide) (fun c46 => ?_) (fun c46 => ?_)
    · skip
      refine go_iconst X (v := 0) dX5_goesOn_53 (by decide) ?_
      exact go_zreturn X hr hlk dX5_goesOn_54 (by first | exact Or.inl rfl | exact Or.inr rfl) (⟨by rw [c3]; simp only [goR, if_true]; exact b2i_f (fun q => by have := (pk_lf (by omega)).mp c46; omega), by rw [c3]; rfl, rfl⟩)
    · skip
      refine go_iconst X (v := 1) dX5_goesOn_49 (by decide) ?_
      refine go_goto X (tgt := 54) dX5_goesOn_50 (by decide) ?_
      exact go_zreturn X hr hlk dX5_goesOn_54 (by first | exact Or.inl rfl | exact Or.inr rfl) (⟨by rw [c3]; simp only [goR, if_true]; exact b2i_t (Nat.pos_of_ne_zero (fun h => c46 ((pk_lf (by omega)).mpr h))), by rw [c3]; rfl, rfl⟩)


/-- behind live: nothing but the year's own cells has changed, and they say the year -/
def liveP (σ : vSg) (ns : Nat) (pa ta td tc : Nat → Nat) (t : Nat) (ρ : vSg) : Prop := (∀ q, q ≠ 5 → q ≠ 37 → ρ q = σ q) ∧ ρ 5 3 = yFw pa ta td tc (uvX σ) t ∧ (yFw pa ta td tc (uvX σ) t = -9 → ρ 5 1 = ySum ta td tc (uvX σ) (pvX σ) t ∧ ρ 5 2 = nI (yPd tc t) ∧ ∀ a, a < ns → ρ 37 a = nI (yLf pa ta tc t a))

theorem yFw_go {pa ta td tc : Nat → Nat} {uv : Nat → Nat → Int32} {t : Nat} (h : yFw pa ta td tc uv t = -9) (hb : ¬ yBad pa ta td tc uv t) : yFw pa ta td tc uv (t + 1) = -9 := by
  simp only [yFw, if_pos h]; exact if_neg hb
theorem yFw_bad {pa ta td tc : Nat → Nat} {uv : Nat → Nat → Int32} {t : Nat} (h : yFw pa ta td tc uv t = -9) (hb : yBad pa ta td tc uv t) : yFw pa ta td tc uv (t + 1) = nI t := by
  simp only [yFw, if_pos h]; exact if_pos hb
theorem yFw_stay {pa ta td tc : Nat → Nat} {uv : Nat → Nat → Int32} {t : Nat} (h : ¬ yFw pa ta td tc uv t = -9) : ∀ k, yFw pa ta td tc uv (t + k) = yFw pa ta td tc uv t := by
  intro k
  induction k with
  | zero => rfl
  | succ k ih => show yFw pa ta td tc uv ((t + k) + 1) = _; simp only [yFw]; rw [ih, if_neg h]
theorem nI_ne9 {t : Nat} (h : t < 2 ^ 31) : ¬ nI t = -9 := fun q => by
  have := congrArg Int32.toInt q
  rw [nI_toInt h, show (-9 : Int32).toInt = -9 from rfl] at this
  omega
theorem goR_ok {ac lf : Nat} {v : Int32} (h : ac ≤ 2) : goR ac lf v = b2i (¬ ((ac = 2 ∧ lf = 0) ∨ (ac = 1 ∧ ¬ 0 < v))) := by
  unfold goR
  split
  · apply b2i_c; omega
  · split
    · apply b2i_c
      constructor
      · rintro q (⟨h1, -⟩ | ⟨-, h2⟩); omega; exact h2 q
      · intro q; exact Classical.byContradiction fun h2 => q (Or.inr ⟨by assumption, h2⟩)
    · exact (b2i_t (by rintro (⟨h1, -⟩ | ⟨h1, -⟩) <;> omega)).symm
/-- one triple more that isn't wrong -/
theorem liveP_go {σ ρ : vSg} {ns : Nat} {pa ta td tc : Nat → Nat} {t : Nat} (h : liveP σ ns pa ta td tc t ρ) (hf : yFw pa ta td tc (uvX σ) t = -9) (hc : tc t ≤ 2) (ha : ta t < ns) (hb : ¬ yBad pa ta td tc (uvX σ) t) {w v : Int32} (hw : 10 * w = pvX σ (td t)) (hv : v = uvX σ (ta t) (td t)) : liveP σ ns pa ta td tc (t + 1) (goS ρ (tc t) (ta t) (yLf pa ta tc t (ta t)) w v (ρ 5 1) (ρ 5 2)) := by
  obtain ⟨h1, h2, h3⟩ := h
  obtain ⟨h4, h5, h6⟩ := h3 hf
  have hf2 := yFw_go hf hb
  rcases (show tc t = 2 ∨ tc t = 1 ∨ tc t = 0 by omega) with e | e | e
  · have hl : 0 < yLf pa ta tc t (ta t) := by
      rcases Nat.eq_zero_or_pos (yLf pa ta tc t (ta t)) with q | q
      · exact absurd (Or.inl ⟨e, q⟩) hb
      · exact q
    simp only [goS, e, if_true]
    refine ⟨fun q h5 h37 => by rw [up2_row h5, up2_row h5, up2_row h37]; exact h1 q h5 h37, ?_, fun _ => ⟨?_, ?_, fun a hA => ?_⟩⟩
    · rw [up2_ne (by omega), up2_ne (by omega), up2_ne (by omega), h2, hf, hf2]
    · rw [up2_self, h4]; simp only [ySum, e, if_true]; rw [hw]
    · rw [up2_ne (by omega), up2_self, h5]; simp only [yPd, e, if_true]; exact nI_1 _
    · rw [up2_ne (by omega), up2_ne (by omega)]
      simp only [yLf, e, true_and]
      by_cases ea : a = ta t
      · rw [ea, up2_self, if_pos rfl]
        obtain ⟨z, hz⟩ : ∃ z, yLf pa ta tc t (ta t) = z + 1 := ⟨yLf pa ta tc t (ta t) - 1, by omega⟩
        rw [hz, nI_pred, Nat.add_sub_cancel]
      · rw [up2_ne (by omega), if_neg ea]; exact h6 a hA
  · have hg : goS ρ (tc t) (ta t) (yLf pa ta tc t (ta t)) w v (ρ 5 1) (ρ 5 2) = up2 ρ 5 1 (ρ 5 1 + v) := by
      unfold goS; rw [if_neg (by omega), if_pos e]
    rw [hg]
    refine ⟨fun q h5 h37 => ?_, ?_, fun _ => ⟨?_, ?_, fun a hA => ?_⟩⟩
    · rw [up2_row h5]; exact h1 q h5 h37
    · rw [up2_ne (by omega), h2, hf, hf2]
    · rw [up2_self, h4]; simp only [ySum]; rw [if_neg (by omega), if_pos e, hv]
    · rw [up2_ne (by omega), h5]; simp only [yPd]; rw [if_neg (by omega)]
    · rw [up2_ne (by omega), h6 a hA]; simp only [yLf]; rw [if_neg (by omega)]
  · have hg : goS ρ (tc t) (ta t) (yLf pa ta tc t (ta t)) w v (ρ 5 1) (ρ 5 2) = ρ := by
      unfold goS; rw [if_neg (by omega), if_neg (by omega)]
    rw [hg]
    refine ⟨h1, ?_, fun _ => ⟨?_, ?_, fun a hA => ?_⟩⟩
    · rw [h2, hf, hf2]
    · rw [h4]; simp only [ySum]; rw [if_neg (by omega), if_neg (by omega), Int32.add_zero]
    · rw [h5]; simp only [yPd]; rw [if_neg (by omega)]
    · rw [h6 a hA]; simp only [yLf]; rw [if_neg (by omega)]
theorem goS_off {ρ : vSg} {ac a lf : Nat} {w v x y : Int32} {q : Nat} (h5 : q ≠ 5) (h37 : q ≠ 37) : goS ρ ac a lf w v x y q = ρ q := by
  unfold goS
  split
  · rw [up2_row h5, up2_row h5, up2_row h37]
  · split
    · rw [up2_row h5]
    · rfl
theorem liveP_bad {σ ρ : vSg} {ns : Nat} {pa ta td tc : Nat → Nat} {t : Nat} {ac a lf : Nat} {w v x y : Int32} (h : liveP σ ns pa ta td tc t ρ) (hf : yFw pa ta td tc (uvX σ) t = -9) (ht : t < 2 ^ 31) (hb : yBad pa ta td tc (uvX σ) t) : liveP σ ns pa ta td tc (t + 1) (up2 (goS ρ ac a lf w v x y) 5 3 (nI t)) := by
  have hf2 := yFw_bad hf hb
  refine ⟨fun q h5 h37 => by rw [up2_row h5, goS_off h5 h37]; exact h.1 q h5 h37, by rw [up2_self, hf2], fun q => ?_⟩
  rw [hf2] at q
  exact absurd q (nI_ne9 ht)
theorem liveP_end {σ ρ : vSg} {ns : Nat} {pa ta td tc : Nat → Nat} {t n : Nat} (h : liveP σ ns pa ta td tc t ρ) (hf : ¬ yFw pa ta td tc (uvX σ) t = -9) (ht : t ≤ n) : liveP σ ns pa ta td tc n ρ := by
  have e : yFw pa ta td tc (uvX σ) n = yFw pa ta td tc (uvX σ) t := by
    have := yFw_stay hf (n - t)
    rw [show t + (n - t) = n by omega] at this
    exact this
  exact ⟨h.1, by rw [e]; exact h.2.1, fun q => absurd (by rw [← e]; exact q) hf⟩
theorem uvX_off {σ ρ : vSg} (h : ∀ q, q ≠ 5 → q ≠ 37 → ρ q = σ q) {i j : Nat} (hj : j < 5) : valS (ρ 8 i) (ρ (20 + j) 0) (ρ (20 + j) 1) (ρ (20 + j) 2) = uvX σ i j := by
  rw [h 8 (by omega) (by omega), h (20 + j) (by omega) (by omega)]; rfl
theorem hdX5_live : yX5_live.cls = RX5 ∧ yX5_live.cls ≠ "java/lang/invoke/MethodHandle" ∧ yX5_live.cls ≠ "java/lang/invoke/VarHandle" ∧ (parseMethodDescriptor yX5_live.desc).map (fun d => d.parameters.length) = some 4 := by decide +kernel
set_option maxHeartbeats 4000000 in
set_option maxRecDepth 100000 in
theorem kX5_live (l : Launch) (D : va_G) (cs : Nat → ClassId) (ad : Nat → Nat) (N kt : Nat) (hN : 58 ≤ N) (σ : vSg) (τ : vTa) (k : Nat) (fr : Nat) (n : Nat) (ns : Nat) (pa : Nat → Nat) (ta : Nat → Nat) (td : Nat → Nat) (tc : Nat → Nat)  (hk : k < 4) (hfr : fr + 3 * n ≤ 60) (hns : σ 2 4 = nI ns) (hn4 : ns ≤ 4) (hpa : ∀ a, a < ns → σ 9 a = nI (pa a) ∧ pa a ≤ 3) (hT : ∀ t, t < n → σ (16 + k) (fr + 3 * t) = nI (ta t) ∧ ta t < ns ∧ σ (16 + k) (fr + 3 * t + 1) = nI (td t) ∧ td t < 5 ∧ σ (16 + k) (fr + 3 * t + 2) = nI (tc t) ∧ tc t ≤ 2) : CtV l yX5_live wsX5_live ({ frames := 4, cells := 0, slots := 0, locals := 91 }) D cs ad N (shP kt) [.ref (ad (5)), .ref (ad (2)), .ref (ad (12 + k)), .int (nI fr), .int (nI n)] σ τ 0 0 (fun σ9 τ9 => τ = τ9 ∧ liveP σ ns pa ta td tc n σ9) := by
  refine ct_V (cc := cX5_live) (maxL := 7) (by decide) rfl (Nat.le_of_ble_eq_true rfl) rfl rfl ?_
  intro p e s m args below meth c A X hr hlk
  refine go_aload_n X dX5_live_0 0 rfl rfl ?_
  refine go_iconst X (v := 0) dX5_live_1 (by decide) ?_
  refine go_puti X (n := 5) (j := 1) (ty := .int) (by omega) rfl rfl (fun _ h9 => List.mem_cons_of_mem _ (List.mem_append_left _ (List.mem_append_left _ (List.mem_append_right _ h9)))) (by decide) (List.mem_cons_of_mem _ (List.mem_append_left _ (List.mem_append_left _ (List.mem_append_left _ (List.mem_append_left _ (List.mem_of_getElem? (i := 0) rfl)))))) rfl tyX5 tyX5_ok nmX5 rfl (by decide +kernel) rfl rfl dX5_live_2 ?_
  refine go_aload_n X dX5_live_5 0 rfl rfl ?_
  refine go_iconst X (v := 0) dX5_live_6 (by decide) ?_
  refine go_puti X (n := 5) (j := 2) (ty := .int) (by omega) rfl rfl (fun _ h9 => List.mem_cons_of_mem _ (List.mem_append_left _ (List.mem_append_left _ (List.mem_append_right _ h9)))) (by decide) (List.mem_cons_of_mem _ (List.mem_append_left _ (List.mem_append_left _ (List.mem_append_left _ (List.mem_append_left _ (List.mem_of_getElem? (i := 1) rfl)))))) rfl tyX5 tyX5_ok nmX5 rfl (by decide +kernel) rfl rfl dX5_live_7 ?_
  refine go_aload_n X dX5_live_10 0 rfl rfl ?_
  refine go_bipush X (v := (-9)) dX5_live_11 (by decide) ?_
  refine go_puti X (n := 5) (j := 3) (ty := .int) (by omega) rfl rfl (fun _ h9 => List.mem_cons_of_mem _ (List.mem_append_left _ (List.mem_append_left _ (List.mem_append_right _ h9)))) (by decide) (List.mem_cons_of_mem _ (List.mem_append_left _ (List.mem_append_left _ (List.mem_append_left _ (List.mem_append_left _ (List.mem_of_getElem? (i := 2) rfl)))))) rfl tyX5 tyX5_ok nmX5 rfl (by decide +kernel) rfl rfl dX5_live_13 ?_
  refine go_iconst X (v := 0) dX5_live_16 (by decide) ?_
  refine go_istore X (lv2 := [(5, .int 0), (0, .ref (ad (5))), (1, .ref (ad (2))), (2, .ref (ad (12 + k))), (3, .int (nI fr)), (4, .int (nI n))]) dX5_live_17 (by decide) rfl ?_
  refine go_loop (ι := Nat × vSg) (fun i9 => (i9.1 ≤ ns) ∧ (∀ q, q ≠ 5 → q ≠ 37 → i9.2 q = σ q) ∧ (i9.2 5 1 = 0) ∧ (i9.2 5 2 = 0) ∧ (i9.2 5 3 = -9) ∧ (∀ b, b < i9.1 → i9.2 37 b = nI (pa b))) (fun i9 => ns - i9.1) (fun i9 => i9.2) (fun i9 => τ) (fun i9 => [(5, .int (nI i9.1)), (0, .ref (ad (5))), (1, .ref (ad (2))), (2, .ref (ad (12 + k))), (3, .int (nI fr)), (4, .int (nI n))]) (fun i9 => []) (0, (up2 (up2 (up2 σ 5 1 0) 5 2 0) 5 3 (-9))) (by (try dsimp only); exact ⟨Nat.zero_le _, fun q h5 _ => by rw [up2_row h5, up2_row h5, up2_row h5], by rw [up2_ne (by omega), up2_ne (by omega), up2_self], by rw [up2_ne (by omega), up2_self], up2_self, fun _ h => absurd h (Nat.not_lt_zero _)⟩) ?_
  intro i9 hi9 ih19
  obtain ⟨a, ρ⟩ := i9
  (try dsimp only at hi9); (try dsimp only at ih19); (try dsimp only)
  obtain ⟨ha, hag, h51, h52, h53, hlf⟩ := hi9
  refine go_iload X dX5_live_19 0 rfl ?_
  refine go_aload_n X dX5_live_21 2 rfl rfl ?_
  refine go_geti X (n := 2) (j := 4) (by omega) rfl rfl (fun _ h9 => List.mem_cons_of_mem _ (List.mem_append_left _ (List.mem_append_right _ h9))) (by decide) (List.mem_cons_of_mem _ (List.mem_append_left _ (List.mem_append_left _ (List.mem_append_left _ (List.mem_append_left _ (List.mem_of_getElem? (i := 3) rfl)))))) rfl dX5_live_22 ?_
  refine go_topi (v := nI ns) (((congrFun (hag 2 (by omega) (by omega)) 4).trans hns)) ?_
  refine go_icmpn_ge X (tgt := 48) dX5_live_25 (by decide) (a := a) (b := ns) rfl rfl (by omega) (by omega) (fun c25 => ?_) (fun c25 => ?_)
  · skip
    refine go_iconst X (v := 0) dX5_live_48 (by decide) ?_
    refine go_istore X (lv2 := [(5, .int 0), (0, .ref (ad (5))), (1, .ref (ad (2))), (2, .ref (ad (12 + k))), (3, .int (nI fr)), (4, .int (nI n))]) dX5_live_49 (by decide) rfl ?_
    refine go_loop (ι := Nat × vSg) (fun i9 => (i9.1 ≤ n) ∧ (liveP σ ns pa ta td tc i9.1 i9.2)) (fun i9 => n - i9.1) (fun i9 => i9.2) (fun i9 => τ) (fun i9 => [(5, .int (nI i9.1)), (0, .ref (ad (5))), (1, .ref (ad (2))), (2, .ref (ad (12 + k))), (3, .int (nI fr)), (4, .int (nI n))]) (fun i9 => []) (0, ρ) (by (try dsimp only); exact ⟨Nat.zero_le _, hag, by rw [h53]; rfl, fun _ => ⟨by rw [h51]; rfl, by rw [h52]; rfl, fun b hb => by rw [hlf b (by omega)]; rfl⟩⟩) ?_
    intro i9 hi9 ih51
    obtain ⟨t, ρ⟩ := i9
    (try dsimp only at hi9); (try dsimp only at ih51); (try dsimp only)
    obtain ⟨ht, hP⟩ := hi9
    refine go_iload X dX5_live_51 0 rfl ?_
    refine go_iload X dX5_live_53 5 rfl ?_
    refine go_icmpn_ge X (tgt := 120) dX5_live_55 (by decide) (a := t) (b := n) rfl rfl (by omega) (by omega) (fun c55 => ?_) (fun c55 => ?_)
    · skip
      exact go_return X hr hlk dX5_live_120 (⟨rfl, by rw [show n = t by omega]; exact hP⟩)
    · skip
      refine go_aload_n X dX5_live_58 1 rfl rfl ?_
      refine go_geti X (n := 5) (j := 3) (by omega) rfl rfl (fun _ h9 => List.mem_cons_of_mem _ (List.mem_append_left _ (List.mem_append_left _ (List.mem_append_right _ h9)))) (by decide) (List.mem_cons_of_mem _ (List.mem_append_left _ (List.mem_append_left _ (List.mem_append_left _ (List.mem_append_left _ (List.mem_of_getElem? (i := 2) rfl)))))) rfl dX5_live_59 ?_
      refine go_topi (v := yFw pa ta td tc (uvX σ) t) hP.2.1 ?_
      refine go_bipush X (v := (-9)) dX5_live_62 (by decide) ?_
      refine go_icmp_ne X (tgt := 120) dX5_live_64 (by decide) (fun c64 => ?_) (fun c64 => ?_)
      · skip
        exact go_return X hr hlk dX5_live_120 (⟨rfl, liveP_end hP c64 ht⟩)
      · skip
        refine go_iload_n X dX5_live_67 4 rfl rfl ?_
        refine go_iconst X (v := 3) dX5_live_68 (by decide) ?_
        refine go_iload X dX5_live_69 0 rfl ?_
        refine go_imul X dX5_live_71 ?_
        refine go_topi (v := nI (3 * t)) (pk_mul 3 t) ?_
        refine go_iadd X dX5_live_72 ?_
        refine go_topi (v := nI (fr + (3 * t))) (nI_add fr (3 * t)) ?_
        refine go_istore X (lv2 := [(6, .int (nI (fr + (3 * t)))), (5, .int (nI t)), (0, .ref (ad (5))), (1, .ref (ad (2))), (2, .ref (ad (12 + k))), (3, .int (nI fr)), (4, .int (nI n))]) dX5_live_73 (by decide) rfl ?_
        refine go_aload_n X dX5_live_75 2 rfl rfl ?_
        refine go_aload_n X dX5_live_76 3 rfl rfl ?_
        refine go_aload_n X dX5_live_77 4 rfl rfl ?_
        refine go_getr X (n := 12 + k) (j := 0) (by omega) (sh_row (by omega)) rfl (fun _ h9 => List.mem_cons_of_mem _ (List.mem_append_right _ h9)) (by decide) (List.mem_cons_of_mem _ (List.mem_append_left _ (List.mem_append_left _ (List.mem_append_left _ (List.mem_append_left _ (List.mem_of_getElem? (i := 6) rfl)))))) rfl dX5_live_78 ?_
        refine go_iload X dX5_live_81 0 rfl ?_
        refine go_iald X (n := 16 + k) (k := fr + (3 * t)) (by omega) (sh_cells (by omega)) rfl (by omega) (by omega) dX5_live_83 ?_
        obtain ⟨ta1, ta2, td1, td2, tc1, tc2⟩ := hT t (by omega)
        refine go_topi (v := nI (ta t)) ((congrFun (hP.1 (16 + k) (by omega) (by omega)) _).trans ta1) ?_
        refine go_aload_n X dX5_live_84 4 rfl rfl ?_
        refine go_getr X (n := 12 + k) (j := 0) (by omega) (sh_row (by omega)) rfl (fun _ h9 => List.mem_cons_of_mem _ (List.mem_append_right _ h9)) (by decide) (List.mem_cons_of_mem _ (List.mem_append_left _ (List.mem_append_left _ (List.mem_append_left _ (List.mem_append_left _ (List.mem_of_getElem? (i := 6) rfl)))))) rfl dX5_live_85 ?_
        refine go_iload X dX5_live_88 0 rfl ?_
        refine go_iconst X (v := 1) dX5_live_90 (by decide) ?_
        refine go_iadd X dX5_live_91 ?_
        refine go_topi (v := nI ((fr + (3 * t)) + 1)) (nI_add (fr + (3 * t)) 1) ?_
        refine go_iald X (n := 16 + k) (k := (fr + (3 * t)) + 1) (by omega) (sh_cells (by omega)) rfl (by omega) (by omega) dX5_live_92 ?_
        refine go_topi (v := nI (td t)) ((congrFun (hP.1 (16 + k) (by omega) (by omega)) _).trans td1) ?_
        refine go_aload_n X dX5_live_93 4 rfl rfl ?_
        refine go_getr X (n := 12 + k) (j := 0) (by omega) (sh_row (by omega)) rfl (fun _ h9 => List.mem_cons_of_mem _ (List.mem_append_right _ h9)) (by decide) (List.mem_cons_of_mem _ (List.mem_append_left _ (List.mem_append_left _ (List.mem_append_left _ (List.mem_append_left _ (List.mem_of_getElem? (i := 6) rfl)))))) rfl dX5_live_94 ?_
        refine go_iload X dX5_live_97 0 rfl ?_
        refine go_iconst X (v := 2) dX5_live_99 (by decide) ?_
        refine go_iadd X dX5_live_100 ?_
        refine go_topi (v := nI ((fr + (3 * t)) + 2)) (nI_add (fr + (3 * t)) 2) ?_
        refine go_iald X (n := 16 + k) (k := (fr + (3 * t)) + 2) (by omega) (sh_cells (by omega)) rfl (by omega) (by omega) dX5_live_101 ?_
        refine go_topi (v := nI (tc t)) ((congrFun (hP.1 (16 + k) (by omega) (by omega)) _).trans tc1) ?_
        refine go_callVI X (n := 5) (As := [.ref (ad (2)), .int (nI (ta t)), .int (nI (td t)), .int (nI (tc t))]) (rest := []) (kX5_goesOn l D cs ad N kt (by omega) ρ τ (ta t) (td t) (tc t) (yLf pa ta tc t (ta t)) (ρ 8 (ta t)) (rfl) (ρ (20 + (td t)) 0) (rfl) (ρ (20 + (td t)) 1) (rfl) (ρ (20 + (td t)) 2) (rfl) (ρ 5 1) (rfl) (ρ 5 2) (rfl) (by omega) (by omega) (by omega) ((hP.2.2 c64).2.2 _ ta2) (Nat.le_trans (yLf_le _ _ _ _ _) (hpa _ ta2).2)) gX5_live_X5_goesOn rfl hdX5_goesOn ⟨rfl, rfl, by decide, by decide, by decide, by decide⟩ (by omega) rfl rfl rfl rfl (Nat.le_of_ble_eq_true rfl) dX5_live_102 (fun r9 σ9 τ9 h9 => ?_)
        obtain ⟨rfl, rfl, rfl⟩ := h9
        refine go_topi (v := b2i (¬ yBad pa ta td tc (uvX σ) t)) (by rw [uvX_off hP.1 td2]; exact goR_ok tc2) ?_
        refine go_ifb_ne X (tgt := 114) dX5_live_105 (by decide) (fun c105 => ?_) (fun c105 => ?_)
        · skip
          refine go_iinc X (v := nI (t + 1)) (lv2 := [(5, .int (nI (t + 1))), (6, .int (nI (fr + (3 * t)))), (0, .ref (ad (5))), (1, .ref (ad (2))), (2, .ref (ad (12 + k))), (3, .int (nI fr)), (4, .int (nI n))]) dX5_live_114 (k := 1) rfl (nI_add t 1) (by decide) rfl ?_
          refine go_goto X (tgt := 51) dX5_live_117 (by decide) ?_
          refine go_lvsub [0, 2, 3, 4, 5, 6] rfl ?_
          exact ih51 (t + 1, (goS ρ (tc t) (ta t) (yLf pa ta tc t (ta t)) (ρ (20 + (td t)) 0) (valS (ρ 8 (ta t)) (ρ (20 + (td t)) 0) (ρ (20 + (td t)) 1) (ρ (20 + (td t)) 2)) (ρ 5 1) (ρ 5 2))) (by (try dsimp only); exact ⟨by omega, liveP_go hP c64 tc2 ta2 c105 (by show 10 * ρ (20 + td t) 0 = 10 * σ (20 + td t) 0; rw [hP.1 (20 + td t) (by omega) (by omega)]) (uvX_off hP.1 td2)⟩) (by (try dsimp only); omega)
        · skip
          refine go_aload_n X dX5_live_108 2 rfl rfl ?_
          refine go_iload X dX5_live_109 1 rfl ?_
          refine go_puti X (n := 5) (j := 3) (ty := .int) (by omega) rfl rfl (fun _ h9 => List.mem_cons_of_mem _ (List.mem_append_left _ (List.mem_append_left _ (List.mem_append_right _ h9)))) (by decide) (List.mem_cons_of_mem _ (List.mem_append_left _ (List.mem_append_left _ (List.mem_append_left _ (List.mem_append_left _ (List.mem_of_getElem? (i := 2) rfl)))))) rfl tyX5 tyX5_ok nmX5 rfl (by decide +kernel) rfl rfl dX5_live_111 ?_
          refine go_iinc X (v := nI (t + 1)) (lv2 := [(5, .int (nI (t + 1))), (6, .int (nI (fr + (3 * t)))), (0, .ref (ad (5))), (1, .ref (ad (2))), (2, .ref (ad (12 + k))), (3, .int (nI fr)), (4, .int (nI n))]) dX5_live_114 (k := 1) rfl (nI_add t 1) (by decide) rfl ?_
          refine go_goto X (tgt := 51) dX5_live_117 (by decide) ?_
          refine go_lvsub [0, 2, 3, 4, 5, 6] rfl ?_
          exact ih51 (t + 1, (up2 (goS ρ (tc t) (ta t) (yLf pa ta tc t (ta t)) (ρ (20 + (td t)) 0) (valS (ρ 8 (ta t)) (ρ (20 + (td t)) 0) (ρ (20 + (td t)) 1) (ρ (20 + (td t)) 2)) (ρ 5 1) (ρ 5 2)) 5 3 (nI t))) (by (try dsimp only); exact ⟨by omega, liveP_bad hP c64 (by omega) (Classical.byContradiction c105)⟩) (by (try dsimp only); omega)
  · skip
    refine go_aload_n X dX5_live_28 1 rfl rfl ?_
    refine go_getr X (n := 5) (j := 0) (by omega) rfl rfl (fun _ h9 => List.mem_cons_of_mem _ (List.mem_append_left _ (List.mem_append_left _ (List.mem_append_right _ h9)))) (by decide) (List.mem_cons_of_mem _ (List.mem_append_left _ (List.mem_append_left _ (List.mem_append_left _ (List.mem_append_left _ (List.mem_of_getElem? (i := 4) rfl)))))) rfl dX5_live_29 ?_
    refine go_iload X dX5_live_32 0 rfl ?_
    refine go_aload_n X dX5_live_34 2 rfl rfl ?_
    refine go_getr X (n := 2) (j := 2) (by omega) rfl rfl (fun _ h9 => List.mem_cons_of_mem _ (List.mem_append_left _ (List.mem_append_right _ h9))) (by decide) (List.mem_cons_of_mem _ (List.mem_append_left _ (List.mem_append_left _ (List.mem_append_left _ (List.mem_append_left _ (List.mem_of_getElem? (i := 5) rfl)))))) rfl dX5_live_35 ?_
    refine go_iload X dX5_live_38 0 rfl ?_
    refine go_iald X (n := 9) (k := a) (by omega) rfl rfl (by omega) (by omega) dX5_live_40 ?_
    refine go_topi (v := nI (pa a)) ((congrFun (hag 9 (by omega) (by omega)) a).trans (hpa a (by omega)).1) ?_
    refine go_iast X (n := 37) (k := a) (by omega) rfl rfl (by omega) (by omega) dX5_live_41 ?_
    refine go_iinc X (v := nI (a + 1)) (lv2 := [(5, .int (nI (a + 1))), (0, .ref (ad (5))), (1, .ref (ad (2))), (2, .ref (ad (12 + k))), (3, .int (nI fr)), (4, .int (nI n))]) dX5_live_42 (k := 0) rfl (nI_add a 1) (by decide) rfl ?_
    refine go_goto X (tgt := 19) dX5_live_45 (by decide) ?_
    exact ih19 (a + 1, (up2 ρ 37 a (nI (pa a)))) (by (try dsimp only); exact ⟨by omega, fun q h5 h37 => by rw [up2_row h37]; exact hag q h5 h37, by rw [up2_ne (by omega)]; exact h51, by rw [up2_ne (by omega)]; exact h52, by rw [up2_ne (by omega)]; exact h53, fun b hb => by rcases Nat.lt_succ_iff_lt_or_eq.mp hb with h | h; rw [up2_ne (by omega)]; exact hlf b h; rw [h, up2_self]⟩) (by (try dsimp only); omega)
end
section
section GM
variable {p : Program} {l : Launch} {e : Env} {R : Room} {s : State} {m : MethodId} {args : Array Value} {below : List Frame} {meth : Method} {c : Code} {cells slots : Nat} {Q : State → Prop} {D : va_G} {cs : Nat → ClassId} {A : Nat → Prop} {ad : Nat → Nat} {N : Nat} {sh : Nat → vSh} {nL : Nat} {σ : vSg} {τ : vTa} {cc : ByteArray} {Ts : List Cond} {own : String} {pc : Nat} {lv : List (Nat × Value)} {rest : List Value}
theorem go_mmax (X : Cx p m c cc nL s args Ts own D cs A ad N) {idx : Nat} {x y : Int32} (hlink : Cond.methodLink own idx Lib.Math.max.name ∈ Ts) (hstat : Cond.static Lib.Math.max.name ∈ Ts) (hini : Cond.initialized "java/lang/Math" ∈ Ts) (hcode : Cond.code Lib.Math.max.name Lib.Math.max.code 2 (some .int) ∈ Ts) (hR : 1 ≤ R.frames ∧ (rest.map fun v => v.category).sum + 13 ≤ R.locals ∧ cells ≤ R.cells ∧ slots ≤ R.slots) (hdg : decode cc pc = .ok (.invokestatic idx, 3)) (kk : Go p l e R s m args below meth c cells slots Q D cs A ad N sh nL σ τ (pc + 3) lv (.int (if x < y then y else x) :: rest)) : Go p l e R s m args below meth c cells slots Q D cs A ad N sh nL σ τ (pc) lv (.int y :: .int x :: rest) := fun H locs ls hP hS hl => va_mmax X.1.1 X.1.2.1 (X.1.2.2.1.trans hl.1.symm) X.1.2.2.2.1 (X.1.2.2.2.2 _ hlink) (X.1.2.2.2.2 _ hstat) (X.1.2.2.2.2 _ hini) (X.1.2.2.2.2 _ hcode) hR.1 hR.2.1 hR.2.2.1 hR.2.2.2 hdg (kk H locs ls hP hS hl)
theorem go_mmaxl (X : Cx p m c cc nL s args Ts own D cs A ad N) {idx : Nat} {x y : Int64} (hlink : Cond.methodLink own idx Lib.MathLoose.max_long.x ∈ Ts) (hstat : Cond.static Lib.MathLoose.max_long.x ∈ Ts) (hini : Cond.initialized "java/lang/Math" ∈ Ts) (hcode : Cond.code Lib.MathLoose.max_long.x Lib.MathLoose.max_long.code 4 (some .long) ∈ Ts) (hR : 1 ≤ R.frames ∧ (rest.map fun v => v.category).sum + 15 ≤ R.locals ∧ cells ≤ R.cells ∧ slots ≤ R.slots) (hdg : decode cc pc = .ok (.invokestatic idx, 3)) (kk : Go p l e R s m args below meth c cells slots Q D cs A ad N sh nL σ τ (pc + 3) lv (.long (if y < x then x else y) :: rest)) : Go p l e R s m args below meth c cells slots Q D cs A ad N sh nL σ τ (pc) lv (.long y :: .long x :: rest) := fun H locs ls hP hS hl => va_mmax_long X.1.1 X.1.2.1 (X.1.2.2.1.trans hl.1.symm) X.1.2.2.2.1 (X.1.2.2.2.2 _ hlink) (X.1.2.2.2.2 _ hstat) (X.1.2.2.2.2 _ hini) (X.1.2.2.2.2 _ hcode) hR.1 hR.2.1 hR.2.2.1 hR.2.2.2 hdg (kk H locs ls hP hS hl)
end GM
def scS (nd : Nat) : Nat → Int64
  | 0 => 1
  | k + 1 => scS nd k * lN nd
def sumL (f : Nat → Int64) : Nat → Int64
  | 0 => 0
  | n + 1 => sumL f n + f n
def maxL (x y : Int64) : Int64 := if y < x then x else y
def bnS (sc hp : Int64) (u : Int32) : Int64 := (if 0 < u then u else 0).toInt64 * sc + hp
def bpS (sc hp : Int64) (v : Int32) : Int64 := v.toInt64 * sc + hp
def bestS (sc hp hp1 : Int64) (pp : Nat) (u v : Int32) : Int64 := if 0 < pp then maxL (bnS sc hp u) (bpS sc hp1 v) else bnS sc hp u
theorem bestS_p {sc hp hp1 : Int64} {pp : Nat} {u v : Int32} (h : 0 < pp) : bestS sc hp hp1 pp u v = maxL (bnS sc hp u) (bpS sc hp1 v) := if_pos h
theorem bestS_0 {sc hp hp1 : Int64} {pp : Nat} {u v : Int32} (h : pp = 0) : bestS sc hp hp1 pp u v = bnS sc hp u := if_neg (by omega)
def hpS (nd : Nat) (u v : Nat → Int32) : Nat → Nat → Int64
  | 0 => fun _ => 0
  | k + 1 => fun pp => sumL (fun d => bestS (scS nd k) (hpS nd u v k pp) (hpS nd u v k (pp - 1)) pp (u d) (v d)) nd
theorem sumL_1 {f : Nat → Int64} {n : Nat} : sumL f (n + 1) = sumL f n + f n := rfl
/-- the hopes of the first days stand in the outlook's cells, nothing else has changed -/
def lookP (τ : vTa) (nd : Nat) (u v : Nat → Int32) (day : Nat) (ω : vTa) : Prop := (∀ q, q < 25 ∨ 34 ≤ q → q ≠ 36 → ω q = τ q) ∧ ∀ k, k < day → ω 36 k = scS nd k ∧ ∀ pp, pp < 4 → ω (25 + k) pp = hpS nd u v k pp
theorem hdX0_byPaper : yX0_byPaper.cls = RX0 ∧ yX0_byPaper.cls ≠ "java/lang/invoke/MethodHandle" ∧ yX0_byPaper.cls ≠ "java/lang/invoke/VarHandle" ∧ (parseMethodDescriptor yX0_byPaper.desc).map (fun d => d.parameters.length) = some 4 := by decide +kernel
set_option maxHeartbeats 4000000 in
set_option maxRecDepth 100000 in
theorem kX0_byPaper (l : Launch) (D : va_G) (cs : Nat → ClassId) (ad : Nat → Nat) (N kt : Nat) (hN : 58 ≤ N) (σ : vSg) (τ : vTa) (j : Nat) (lt : Nat) (pp : Nat) (wo : Int32) (h_wo : σ (20 + j) 0 = wo) (sc : Int64) (h_sc : τ 36 lt = sc) (hp : Int64) (h_hp : τ (25 + lt) (pp - 1) = hp) (hj : j < 5) (hlt : lt < 9) (hpp : 1 ≤ pp) (hp4 : pp < 4) : CtL l yX0_byPaper wsX0_byPaper ({ frames := 1, cells := 0, slots := 0, locals := 21 }) D cs ad N (shP kt) [.ref (ad (4)), .ref (ad (2)), .int (nI j), .int (nI lt), .int (nI pp)] σ τ 0 0 (fun r9 σ9 τ9 => bpS sc hp (10 * wo) = r9 ∧ σ = σ9 ∧ τ = τ9) := by
  refine ct_L (cc := cX0_byPaper) (maxL := 5) (by decide) rfl (Nat.le_of_ble_eq_true rfl) rfl rfl ?_
  intro p e s m args below meth c A X hr hlk
  refine go_aload_n X dX0_byPaper_0 1 rfl rfl ?_
  refine go_iload_n X dX0_byPaper_1 2 rfl rfl ?_
  refine go_callVI X (n := 2) (As := [.int (nI j)]) (rest := []) (kX2_pardonedValue l D cs ad N kt (by omega) σ τ j wo (h_wo) (by omega)) gX0_byPaper_X2_pardonedValue rfl hdX2_pardonedValue ⟨rfl, rfl, by decide, by decide, by decide, by decide⟩ (by omega) rfl rfl rfl rfl (Nat.le_of_ble_eq_true rfl) dX0_byPaper_2 (fun r9 σ9 τ9 h9 => ?_)
  obtain ⟨rfl, rfl, rfl⟩ := h9
  refine go_i2l X (v := (10 * wo).toInt64) dX0_byPaper_5 rfl ?_
  refine go_aload_n X dX0_byPaper_6 0 rfl rfl ?_
  refine go_getr X (n := 4) (j := 1) (by omega) rfl rfl (fun _ h9 => List.mem_cons_of_mem _ (List.mem_append_left _ (List.mem_append_right _ h9))) (by decide) (List.mem_cons_of_mem _ (List.mem_append_left _ (List.mem_append_left _ (List.mem_of_getElem? (i := 0) rfl)))) rfl dX0_byPaper_7 ?_
  refine go_iload_n X dX0_byPaper_10 3 rfl rfl ?_
  refine go_lald X (n := 36) (k := lt) (by omega) rfl rfl (by omega) (by omega) dX0_byPaper_11 ?_
  refine go_topl (v := sc) (h_sc) ?_
  refine go_lmul X dX0_byPaper_12 ?_
  refine go_aload_n X dX0_byPaper_13 0 rfl rfl ?_
  refine go_getr X (n := 4) (j := 0) (by omega) rfl rfl (fun _ h9 => List.mem_cons_of_mem _ (List.mem_append_left _ (List.mem_append_right _ h9))) (by decide) (List.mem_cons_of_mem _ (List.mem_append_left _ (List.mem_append_left _ (List.mem_of_getElem? (i := 1) rfl)))) rfl dX0_byPaper_14 ?_
  refine go_iload_n X dX0_byPaper_17 3 rfl rfl ?_
  refine go_aald5 X (n := 35) (k := lt) (by omega) rfl rfl (by omega) (by omega) dX0_byPaper_18 ?_
  refine go_iload X dX0_byPaper_19 4 rfl ?_
  refine go_iconst X (v := 1) dX0_byPaper_21 (by decide) ?_
  refine go_isub X dX0_byPaper_22 ?_
  refine go_lald X (n := 25 + lt) (k := pp - 1) (by omega) (sh_hope (by omega)) (pk_sub (by omega)) (by omega) (by omega) dX0_byPaper_23 ?_
  refine go_topl (v := hp) (h_hp) ?_
  refine go_ladd X dX0_byPaper_24 ?_
  exact go_lreturn X hr hlk dX0_byPaper_25 (⟨rfl, rfl, rfl⟩)

theorem hdX0_byNone : yX0_byNone.cls = RX0 ∧ yX0_byNone.cls ≠ "java/lang/invoke/MethodHandle" ∧ yX0_byNone.cls ≠ "java/lang/invoke/VarHandle" ∧ (parseMethodDescriptor yX0_byNone.desc).map (fun d => d.parameters.length) = some 5 := by decide +kernel
set_option maxHeartbeats 4000000 in
set_option maxRecDepth 100000 in
theorem kX0_byNone (l : Launch) (D : va_G) (cs : Nat → ClassId) (ad : Nat → Nat) (N kt : Nat) (hN : 58 ≤ N) (σ : vSg) (τ : vTa) (i : Nat) (j : Nat) (lt : Nat) (pp : Nat) (kd : Int32) (h_kd : σ 8 i = kd) (wo : Int32) (h_wo : σ (20 + j) 0 = wo) (rk : Int32) (h_rk : σ (20 + j) 1 = rk) (hu : Int32) (h_hu : σ (20 + j) 2 = hu) (sc : Int64) (h_sc : τ 36 lt = sc) (hp : Int64) (h_hp : τ (25 + lt) pp = hp) (hi : i < 4) (hj : j < 5) (hlt : lt < 9) (hp4 : pp < 4) : CtL l yX0_byNone wsX0_byNone ({ frames := 2, cells := 0, slots := 0, locals := 45 }) D cs ad N (shP kt) [.ref (ad (4)), .ref (ad (2)), .int (nI i), .int (nI j), .int (nI lt), .int (nI pp)] σ τ 0 0 (fun r9 σ9 τ9 => bnS sc hp (valS kd wo rk hu) = r9 ∧ σ = σ9 ∧ τ = τ9) := by
  refine ct_L (cc := cX0_byNone) (maxL := 6) (by decide) rfl (Nat.le_of_ble_eq_true rfl) rfl rfl ?_
  intro p e s m args below meth c A X hr hlk
  refine go_iconst X (v := 0) dX0_byNone_0 (by decide) ?_
  refine go_aload_n X dX0_byNone_1 1 rfl rfl ?_
  refine go_iload_n X dX0_byNone_2 2 rfl rfl ?_
  refine go_iload_n X dX0_byNone_3 3 rfl rfl ?_
  refine go_callVI X (n := 2) (As := [.int (nI i), .int (nI j)]) (rest := [.int 0]) (kX2_unpardonedValue l D cs ad N kt (by omega) σ τ i j kd (h_kd) wo (h_wo) rk (h_rk) hu (h_hu) (by omega) (by omega)) gX0_byNone_X2_unpardonedValue rfl hdX2_unpardonedValue ⟨rfl, rfl, by decide, by decide, by decide, by decide⟩ (by omega) rfl rfl rfl rfl (Nat.le_of_ble_eq_true rfl) dX0_byNone_4 (fun r9 σ9 τ9 h9 => ?_)
  obtain ⟨rfl, rfl, rfl⟩ := h9
  refine go_mmax X (List.mem_cons_of_mem _ (List.mem_append_left _ (List.mem_append_left _ (List.mem_of_getElem? (i := 0) rfl)))) (List.mem_cons_of_mem _ (List.mem_append_left _ (List.mem_append_left _ (List.mem_of_getElem? (i := 1) rfl)))) (List.mem_cons_of_mem _ (List.mem_append_left _ (List.mem_append_left _ (List.mem_of_getElem? (i := 2) rfl)))) (List.mem_cons_of_mem _ (List.mem_append_left _ (List.mem_append_left _ (List.mem_of_getElem? (i := 3) rfl)))) ⟨Nat.le_of_ble_eq_true rfl, Nat.le_of_ble_eq_true rfl, Nat.le_of_ble_eq_true rfl, Nat.le_of_ble_eq_true rfl⟩ dX0_byNone_7 ?_
  refine go_i2l X (v := (if 0 < (valS kd wo rk hu) then valS kd wo rk hu else 0).toInt64) dX0_byNone_10 rfl ?_
  refine go_aload_n X dX0_byNone_11 0 rfl rfl ?_
  refine go_getr X (n := 4) (j := 1) (by omega) rfl rfl (fun _ h9 => List.mem_cons_of_mem _ (List.mem_append_left _ (List.mem_append_right _ h9))) (by decide) (List.mem_cons_of_mem _ (List.mem_append_left _ (List.mem_append_left _ (List.mem_of_getElem? (i := 4) rfl)))) rfl dX0_byNone_12 ?_
  refine go_iload X dX0_byNone_15 4 rfl ?_
  refine go_lald X (n := 36) (k := lt) (by omega) rfl rfl (by omega) (by omega) dX0_byNone_17 ?_
  refine go_topl (v := sc) (h_sc) ?_
  refine go_lmul X dX0_byNone_18 ?_
  refine go_aload_n X dX0_byNone_19 0 rfl rfl ?_
  refine go_getr X (n := 4) (j := 0) (by omega) rfl rfl (fun _ h9 => List.mem_cons_of_mem _ (List.mem_append_left _ (List.mem_append_right _ h9))) (by decide) (List.mem_cons_of_mem _ (List.mem_append_left _ (List.mem_append_left _ (List.mem_of_getElem? (i := 5) rfl)))) rfl dX0_byNone_20 ?_
  refine go_iload X dX0_byNone_23 4 rfl ?_
  refine go_aald5 X (n := 35) (k := lt) (by omega) rfl rfl (by omega) (by omega) dX0_byNone_25 ?_
  refine go_iload X dX0_byNone_26 5 rfl ?_
  refine go_lald X (n := 25 + lt) (k := pp) (by omega) (sh_hope (by omega)) rfl (by omega) (by omega) dX0_byNone_28 ?_
  refine go_topl (v := hp) (h_hp) ?_
  refine go_ladd X dX0_byNone_29 ?_
  exact go_lreturn X hr hlk dX0_byNone_30 (⟨rfl, rfl, rfl⟩)

theorem hdX0_sumOfBest : yX0_sumOfBest.cls = RX0 ∧ yX0_sumOfBest.cls ≠ "java/lang/invoke/MethodHandle" ∧ yX0_sumOfBest.cls ≠ "java/lang/invoke/VarHandle" ∧ (parseMethodDescriptor yX0_sumOfBest.desc).map (fun d => d.parameters.length) = some 4 := by decide +kernel
set_option maxHeartbeats 4000000 in
set_option maxRecDepth 100000 in
theorem kX0_sumOfBest (l : Launch) (D : va_G) (cs : Nat → ClassId) (ad : Nat → Nat) (N kt : Nat) (hN : 58 ≤ N) (σ : vSg) (τ : vTa) (i : Nat) (lt : Nat) (pp : Nat) (nd : Nat)  (sc : Int64) (h_sc : τ 36 lt = sc) (hp : Int64) (h_hp : τ (25 + lt) pp = hp) (hp1 : Int64) (h_hp1 : τ (25 + lt) (pp - 1) = hp1) (hnd : σ 2 3 = nI nd) (hle : nd ≤ 5) (hi : i < 4) (hlt : lt < 9) (hp4 : pp < 4) : CtL l yX0_sumOfBest wsX0_sumOfBest ({ frames := 3, cells := 0, slots := 0, locals := 70 }) D cs ad N (shP kt) [.ref (ad (4)), .ref (ad (2)), .int (nI i), .int (nI lt), .int (nI pp)] σ τ 0 0 (fun r9 σ9 τ9 => sumL (fun z9 => bestS sc hp hp1 pp (uvX σ i z9) (pvX σ z9)) nd = r9 ∧ σ = σ9 ∧ τ = τ9) := by
  refine ct_L (cc := cX0_sumOfBest) (maxL := 10) (by decide) rfl (Nat.le_of_ble_eq_true rfl) rfl rfl ?_
  intro p e s m args below meth c A X hr hlk
  refine go_lconst X (v := 0) dX0_sumOfBest_0 (by decide) ?_
  refine go_lstore X (lv2 := [(5, .long 0), (0, .ref (ad (4))), (1, .ref (ad (2))), (2, .int (nI i)), (3, .int (nI lt)), (4, .int (nI pp))]) dX0_sumOfBest_1 (by decide) rfl ?_
  refine go_iconst X (v := 0) dX0_sumOfBest_3 (by decide) ?_
  refine go_istore X (lv2 := [(7, .int 0), (5, .long 0), (0, .ref (ad (4))), (1, .ref (ad (2))), (2, .int (nI i)), (3, .int (nI lt)), (4, .int (nI pp))]) dX0_sumOfBest_4 (by decide) rfl ?_
  refine go_loop (ι := Nat) (fun i9 => (i9 ≤ nd)) (fun i9 => nd - i9) (fun i9 => σ) (fun i9 => τ) (fun i9 => [(7, .int (nI i9)), (5, .long (sumL (fun z9 => bestS sc hp hp1 pp (uvX σ i z9) (pvX σ z9)) i9)), (0, .ref (ad (4))), (1, .ref (ad (2))), (2, .int (nI i)), (3, .int (nI lt)), (4, .int (nI pp))]) (fun i9 => []) 0 (by (try dsimp only); exact (Nat.zero_le _)) ?_
  intro i9 hi9 ih6
  obtain ⟨d, hv9⟩ : ∃ z, z = i9 := ⟨_, rfl⟩; subst hv9
  (try dsimp only at hi9); (try dsimp only at ih6); (try dsimp only)
  have hd := hi9
  refine go_iload X dX0_sumOfBest_6 0 rfl ?_
  refine go_aload_n X dX0_sumOfBest_8 3 rfl rfl ?_
  refine go_geti X (n := 2) (j := 3) (by omega) rfl rfl (fun _ h9 => List.mem_cons_of_mem _ (List.mem_append_left _ (List.mem_append_right _ h9))) (by decide) (List.mem_cons_of_mem _ (List.mem_append_left _ (List.mem_append_left _ (List.mem_append_left _ (List.mem_of_getElem? (i := 0) rfl))))) rfl dX0_sumOfBest_9 ?_
  refine go_topi (v := nI nd) (hnd) ?_
  refine go_icmpn_ge X (tgt := 63) dX0_sumOfBest_12 (by decide) (a := d) (b := nd) rfl rfl (by omega) (by omega) (fun c12 => ?_) (fun c12 => ?_)
  · skip
    refine go_lload X dX0_sumOfBest_63 1 rfl ?_
    exact go_lreturn X hr hlk dX0_sumOfBest_65 (⟨by rw [show d = nd by omega], rfl, rfl⟩)
  · skip
    refine go_aload_n X dX0_sumOfBest_15 2 rfl rfl ?_
    refine go_aload_n X dX0_sumOfBest_16 3 rfl rfl ?_
    refine go_iload_n X dX0_sumOfBest_17 4 rfl rfl ?_
    refine go_iload X dX0_sumOfBest_18 0 rfl ?_
    refine go_iload_n X dX0_sumOfBest_20 5 rfl rfl ?_
    refine go_iload X dX0_sumOfBest_21 6 rfl ?_
    refine go_callVL X (n := 4) (As := [.ref (ad (2)), .int (nI i), .int (nI d), .int (nI lt), .int (nI pp)]) (rest := []) (kX0_byNone l D cs ad N kt (by omega) σ τ i d lt pp (σ 8 i) (rfl) (σ (20 + d) 0) (rfl) (σ (20 + d) 1) (rfl) (σ (20 + d) 2) (rfl) sc (h_sc) hp (h_hp) (by omega) (by omega) (by omega) (by omega)) gX0_sumOfBest_X0_byNone rfl hdX0_byNone ⟨rfl, rfl, by decide, by decide, by decide, by decide⟩ (by omega) rfl rfl rfl rfl (Nat.le_of_ble_eq_true rfl) dX0_sumOfBest_23 (fun r9 σ9 τ9 h9 => ?_)
    obtain ⟨rfl, rfl, rfl⟩ := h9
    refine go_lstore X (lv2 := [(8, .long (bnS sc hp (valS (σ 8 i) (σ (20 + d) 0) (σ (20 + d) 1) (σ (20 + d) 2)))), (7, .int (nI d)), (5, .long (sumL (fun z9 => bestS sc hp hp1 pp (uvX σ i z9) (pvX σ z9)) d)), (0, .ref (ad (4))), (1, .ref (ad (2))), (2, .int (nI i)), (3, .int (nI lt)), (4, .int (nI pp))]) dX0_sumOfBest_26 (by decide) rfl ?_
    refine go_iload X dX0_sumOfBest_28 7 rfl ?_
    refine go_ifn_le X (tgt := 50) dX0_sumOfBest_30 (by decide) (a := pp) rfl (by omega) (fun c30 => ?_) (fun c30 => ?_)
    · skip
      refine go_lload X dX0_sumOfBest_50 2 rfl ?_
      refine go_lload X dX0_sumOfBest_52 0 rfl ?_
      refine go_ladd X dX0_sumOfBest_54 ?_
      refine go_topl (v := sumL (fun z9 => bestS sc hp hp1 pp (uvX σ i z9) (pvX σ z9)) (d + 1)) (by rw [sumL_1]; show _ = _ + bestS sc hp hp1 pp (uvX σ i d) (pvX σ d); rw [bestS_0 c30]; rfl) ?_
      refine go_lstore X (lv2 := [(5, .long (sumL (fun z9 => bestS sc hp hp1 pp (uvX σ i z9) (pvX σ z9)) (d + 1))), (8, .long (bnS sc hp (valS (σ 8 i) (σ (20 + d) 0) (σ (20 + d) 1) (σ (20 + d) 2)))), (7, .int (nI d)), (0, .ref (ad (4))), (1, .ref (ad (2))), (2, .int (nI i)), (3, .int (nI lt)), (4, .int (nI pp))]) dX0_sumOfBest_55 (by decide) rfl ?_
      refine go_iinc X (v := nI (d + 1)) (lv2 := [(7, .int (nI (d + 1))), (5, .long (sumL (fun z9 => bestS sc hp hp1 pp (uvX σ i z9) (pvX σ z9)) (d + 1))), (8, .long (bnS sc hp (valS (σ 8 i) (σ (20 + d) 0) (σ (20 + d) 1) (σ (20 + d) 2)))), (0, .ref (ad (4))), (1, .ref (ad (2))), (2, .int (nI i)), (3, .int (nI lt)), (4, .int (nI pp))]) dX0_sumOfBest_57 (k := 2) rfl (nI_add d 1) (by decide) rfl ?_
      refine go_goto X (tgt := 6) dX0_sumOfBest_60 (by decide) ?_
      refine go_lvsub [0, 1, 3, 4, 5, 6, 7] rfl ?_
      exact ih6 (d + 1) (by (try dsimp only); exact (by omega)) (by (try dsimp only); omega)
    · skip
      refine go_lload X dX0_sumOfBest_33 0 rfl ?_
      refine go_aload_n X dX0_sumOfBest_35 3 rfl rfl ?_
      refine go_aload_n X dX0_sumOfBest_36 4 rfl rfl ?_
      refine go_iload X dX0_sumOfBest_37 1 rfl ?_
      refine go_iload_n X dX0_sumOfBest_39 6 rfl rfl ?_
      refine go_iload X dX0_sumOfBest_40 7 rfl ?_
      refine go_callVL X (n := 4) (As := [.ref (ad (2)), .int (nI d), .int (nI lt), .int (nI pp)]) (rest := [.long (bnS sc hp (valS (σ 8 i) (σ (20 + d) 0) (σ (20 + d) 1) (σ (20 + d) 2)))]) (kX0_byPaper l D cs ad N kt (by omega) σ τ d lt pp (σ (20 + d) 0) (rfl) sc (h_sc) hp1 (h_hp1) (by omega) (by omega) (by omega) (by omega)) gX0_sumOfBest_X0_byPaper rfl hdX0_byPaper ⟨rfl, rfl, by decide, by decide, by decide, by decide⟩ (by omega) rfl rfl rfl rfl (Nat.le_of_ble_eq_true rfl) dX0_sumOfBest_42 (fun r9 σ9 τ9 h9 => ?_)
      obtain ⟨rfl, rfl, rfl⟩ := h9
      refine go_mmaxl X (List.mem_cons_of_mem _ (List.mem_append_left _ (List.mem_append_left _ (List.mem_append_left _ (List.mem_of_getElem? (i := 1) rfl))))) (List.mem_cons_of_mem _ (List.mem_append_left _ (List.mem_append_left _ (List.mem_append_left _ (List.mem_of_getElem? (i := 2) rfl))))) (List.mem_cons_of_mem _ (List.mem_append_left _ (List.mem_append_left _ (List.mem_append_left _ (List.mem_of_getElem? (i := 3) rfl))))) (List.mem_cons_of_mem _ (List.mem_append_left _ (List.mem_append_left _ (List.mem_append_left _ (List.mem_of_getElem? (i := 4) rfl))))) ⟨Nat.le_of_ble_eq_true rfl, Nat.le_of_ble_eq_true rfl, Nat.le_of_ble_eq_true rfl, Nat.le_of_ble_eq_true rfl⟩ dX0_sumOfBest_45 ?_
      refine go_lstore X (lv2 := [(8, .long (if bpS sc hp1 (10 * (σ (20 + d) 0)) < bnS sc hp (valS (σ 8 i) (σ (20 + d) 0) (σ (20 + d) 1) (σ (20 + d) 2)) then bnS sc hp (valS (σ 8 i) (σ (20 + d) 0) (σ (20 + d) 1) (σ (20 + d) 2)) else bpS sc hp1 (10 * (σ (20 + d) 0)))), (7, .int (nI d)), (5, .long (sumL (fun z9 => bestS sc hp hp1 pp (uvX σ i z9) (pvX σ z9)) d)), (0, .ref (ad (4))), (1, .ref (ad (2))), (2, .int (nI i)), (3, .int (nI lt)), (4, .int (nI pp))]) dX0_sumOfBest_48 (by decide) rfl ?_
      refine go_lload X dX0_sumOfBest_50 2 rfl ?_
      refine go_lload X dX0_sumOfBest_52 0 rfl ?_
      refine go_ladd X dX0_sumOfBest_54 ?_
      refine go_topl (v := sumL (fun z9 => bestS sc hp hp1 pp (uvX σ i z9) (pvX σ z9)) (d + 1)) (by rw [sumL_1]; show _ = _ + bestS sc hp hp1 pp (uvX σ i d) (pvX σ d); rw [bestS_p c30]; rfl) ?_
      refine go_lstore X (lv2 := [(5, .long (sumL (fun z9 => bestS sc hp hp1 pp (uvX σ i z9) (pvX σ z9)) (d + 1))), (8, .long (if bpS sc hp1 (10 * (σ (20 + d) 0)) < bnS sc hp (valS (σ 8 i) (σ (20 + d) 0) (σ (20 + d) 1) (σ (20 + d) 2)) then bnS sc hp (valS (σ 8 i) (σ (20 + d) 0) (σ (20 + d) 1) (σ (20 + d) 2)) else bpS sc hp1 (10 * (σ (20 + d) 0)))), (7, .int (nI d)), (0, .ref (ad (4))), (1, .ref (ad (2))), (2, .int (nI i)), (3, .int (nI lt)), (4, .int (nI pp))]) dX0_sumOfBest_55 (by decide) rfl ?_
      refine go_iinc X (v := nI (d + 1)) (lv2 := [(7, .int (nI (d + 1))), (5, .long (sumL (fun z9 => bestS sc hp hp1 pp (uvX σ i z9) (pvX σ z9)) (d + 1))), (8, .long (if bpS sc hp1 (10 * (σ (20 + d) 0)) < bnS sc hp (valS (σ 8 i) (σ (20 + d) 0) (σ (20 + d) 1) (σ (20 + d) 2)) then bnS sc hp (valS (σ 8 i) (σ (20 + d) 0) (σ (20 + d) 1) (σ (20 + d) 2)) else bpS sc hp1 (10 * (σ (20 + d) 0)))), (0, .ref (ad (4))), (1, .ref (ad (2))), (2, .int (nI i)), (3, .int (nI lt)), (4, .int (nI pp))]) dX0_sumOfBest_57 (k := 2) rfl (nI_add d 1) (by decide) rfl ?_
      refine go_goto X (tgt := 6) dX0_sumOfBest_60 (by decide) ?_
      refine go_lvsub [0, 1, 3, 4, 5, 6, 7] rfl ?_
      exact ih6 (d + 1) (by (try dsimp only); exact (by omega)) (by (try dsimp only); omega)

theorem scS_1 {nd day : Nat} (h : 1 ≤ day) : scS nd (day - 1) * lN nd = scS nd day := by
  obtain ⟨k, rfl⟩ : ∃ k, day = k + 1 := ⟨day - 1, by omega⟩
  rfl
theorem hpS_1 {nd day pp : Nat} {u v : Nat → Int32} (h : 1 ≤ day) : sumL (fun z9 => bestS (scS nd (day - 1)) (hpS nd u v (day - 1) pp) (hpS nd u v (day - 1) (pp - 1)) pp (u z9) (v z9)) nd = hpS nd u v day pp := by
  obtain ⟨k, rfl⟩ : ∃ k, day = k + 1 := ⟨day - 1, by omega⟩
  rfl
theorem hdX0_lookAhead : yX0_lookAhead.cls = RX0 ∧ yX0_lookAhead.cls ≠ "java/lang/invoke/MethodHandle" ∧ yX0_lookAhead.cls ≠ "java/lang/invoke/VarHandle" ∧ (parseMethodDescriptor yX0_lookAhead.desc).map (fun d => d.parameters.length) = some 3 := by decide +kernel
set_option maxHeartbeats 4000000 in
set_option maxRecDepth 100000 in
theorem kX0_lookAhead (l : Launch) (D : va_G) (cs : Nat → ClassId) (ad : Nat → Nat) (N kt : Nat) (hN : 58 ≤ N) (σ : vSg) (τ : vTa) (i : Nat) (n : Nat) (nd : Nat)  (hnd : σ 2 3 = nI nd) (hle : nd ≤ 5) (hi : i < 4) (hn : n < 9) : CtV l yX0_lookAhead wsX0_lookAhead ({ frames := 4, cells := 0, slots := 0, locals := 99 }) D cs ad N (shP kt) [.ref (ad (4)), .ref (ad (2)), .int (nI i), .int (nI n)] σ τ 0 0 (fun σ9 τ9 => σ = σ9 ∧ lookP τ nd (uvX σ i) (pvX σ) (n + 1) τ9) := by
  refine ct_V (cc := cX0_lookAhead) (maxL := 6) (by decide) rfl (Nat.le_of_ble_eq_true rfl) rfl rfl ?_
  intro p e s m args below meth c A X hr hlk
  refine go_aload_n X dX0_lookAhead_0 0 rfl rfl ?_
  refine go_getr X (n := 4) (j := 1) (by omega) rfl rfl (fun _ h9 => List.mem_cons_of_mem _ (List.mem_append_left _ (List.mem_append_right _ h9))) (by decide) (List.mem_cons_of_mem _ (List.mem_append_left _ (List.mem_append_left _ (List.mem_append_left _ (List.mem_of_getElem? (i := 0) rfl))))) rfl dX0_lookAhead_1 ?_
  refine go_iconst X (v := 0) dX0_lookAhead_4 (by decide) ?_
  refine go_lconst X (v := 1) dX0_lookAhead_5 (by decide) ?_
  refine go_last X (n := 36) (k := 0) (by omega) rfl rfl (by omega) (by omega) dX0_lookAhead_6 ?_
  refine go_iconst X (v := 0) dX0_lookAhead_7 (by decide) ?_
  refine go_istore X (lv2 := [(4, .int 0), (0, .ref (ad (4))), (1, .ref (ad (2))), (2, .int (nI i)), (3, .int (nI n))]) dX0_lookAhead_8 (by decide) rfl ?_
  refine go_loop (ι := Nat × vTa) (fun i9 => (i9.1 ≤ 4) ∧ (∀ q, q < 25 ∨ 34 ≤ q → q ≠ 36 → i9.2 q = τ q) ∧ (i9.2 36 0 = 1) ∧ (∀ b, b < i9.1 → i9.2 (25 + 0) b = 0)) (fun i9 => 4 - i9.1) (fun i9 => σ) (fun i9 => i9.2) (fun i9 => [(4, .int (nI i9.1)), (0, .ref (ad (4))), (1, .ref (ad (2))), (2, .int (nI i)), (3, .int (nI n))]) (fun i9 => []) (0, (up2 τ 36 0 1)) (by (try dsimp only); exact ⟨Nat.zero_le _, fun q _ h => up2_row h, up2_self, fun _ h => absurd h (Nat.not_lt_zero _)⟩) ?_
  intro i9 hi9 ih10
  obtain ⟨pp, ω⟩ := i9
  (try dsimp only at hi9); (try dsimp only at ih10); (try dsimp only)
  obtain ⟨hpp, hoff, h1, h0⟩ := hi9
  refine go_iload X dX0_lookAhead_10 0 rfl ?_
  refine go_iconst X (v := 3) dX0_lookAhead_12 (by decide) ?_
  refine go_icmpn_gt X (tgt := 32) dX0_lookAhead_13 (by decide) (a := pp) (b := 3) rfl rfl (by omega) (by omega) (fun c13 => ?_) (fun c13 => ?_)
  · skip
    refine go_iconst X (v := 1) dX0_lookAhead_32 (by decide) ?_
    refine go_istore X (lv2 := [(4, .int 1), (0, .ref (ad (4))), (1, .ref (ad (2))), (2, .int (nI i)), (3, .int (nI n))]) dX0_lookAhead_33 (by decide) rfl ?_
    refine go_loop (ι := Nat × vTa) (fun i9 => (1 ≤ i9.1) ∧ (i9.1 ≤ n + 1) ∧ (lookP τ nd (uvX σ i) (pvX σ) i9.1 i9.2)) (fun i9 => n + 1 - i9.1) (fun i9 => σ) (fun i9 => i9.2) (fun i9 => [(4, .int (nI i9.1)), (0, .ref (ad (4))), (1, .ref (ad (2))), (2, .int (nI i)), (3, .int (nI n))]) (fun i9 => []) (1, ω) (by (try dsimp only); exact ⟨by omega, by omega, hoff, fun q hq => by rw [show q = 0 by omega]; exact ⟨h1, fun b hb => h0 b (by omega)⟩⟩) ?_
    intro i9 hi9 ih35
    obtain ⟨day, ω⟩ := i9
    (try dsimp only at hi9); (try dsimp only at ih35); (try dsimp only)
    obtain ⟨hd1, hd2, hP⟩ := hi9
    refine go_iload X dX0_lookAhead_35 0 rfl ?_
    refine go_iload_n X dX0_lookAhead_37 4 rfl rfl ?_
    refine go_icmpn_gt X (tgt := 106) dX0_lookAhead_38 (by decide) (a := day) (b := n) rfl rfl (by omega) (by omega) (fun c38 => ?_) (fun c38 => ?_)
    · skip
      exact go_return X hr hlk dX0_lookAhead_106 (⟨rfl, by rw [show n + 1 = day by omega]; exact hP⟩)
    · skip
      refine go_aload_n X dX0_lookAhead_41 1 rfl rfl ?_
      refine go_getr X (n := 4) (j := 1) (by omega) rfl rfl (fun _ h9 => List.mem_cons_of_mem _ (List.mem_append_left _ (List.mem_append_right _ h9))) (by decide) (List.mem_cons_of_mem _ (List.mem_append_left _ (List.mem_append_left _ (List.mem_append_left _ (List.mem_of_getElem? (i := 0) rfl))))) rfl dX0_lookAhead_42 ?_
      refine go_iload X dX0_lookAhead_45 0 rfl ?_
      refine go_aload_n X dX0_lookAhead_47 1 rfl rfl ?_
      refine go_getr X (n := 4) (j := 1) (by omega) rfl rfl (fun _ h9 => List.mem_cons_of_mem _ (List.mem_append_left _ (List.mem_append_right _ h9))) (by decide) (List.mem_cons_of_mem _ (List.mem_append_left _ (List.mem_append_left _ (List.mem_append_left _ (List.mem_of_getElem? (i := 0) rfl))))) rfl dX0_lookAhead_48 ?_
      refine go_iload X dX0_lookAhead_51 0 rfl ?_
      refine go_iconst X (v := 1) dX0_lookAhead_53 (by decide) ?_
      refine go_isub X dX0_lookAhead_54 ?_
      refine go_topi (v := nI (day - 1)) (pk_sub (by omega)) ?_
      refine go_lald X (n := 36) (k := day - 1) (by omega) rfl rfl (by omega) (by omega) dX0_lookAhead_55 ?_
      refine go_aload_n X dX0_lookAhead_56 2 rfl rfl ?_
      refine go_geti X (n := 2) (j := 3) (by omega) rfl rfl (fun _ h9 => List.mem_cons_of_mem _ (List.mem_append_right _ h9)) (by decide) (List.mem_cons_of_mem _ (List.mem_append_left _ (List.mem_append_left _ (List.mem_append_left _ (List.mem_of_getElem? (i := 2) rfl))))) rfl dX0_lookAhead_57 ?_
      refine go_topi (v := nI nd) (hnd) ?_
      refine go_i2l X (v := lN nd) dX0_lookAhead_60 (nI_l (by omega)) ?_
      refine go_lmul X dX0_lookAhead_61 ?_
      refine go_last X (n := 36) (k := day) (by omega) rfl rfl (by omega) (by omega) dX0_lookAhead_62 ?_
      refine go_iconst X (v := 0) dX0_lookAhead_63 (by decide) ?_
      refine go_istore X (lv2 := [(5, .int 0), (4, .int (nI day)), (0, .ref (ad (4))), (1, .ref (ad (2))), (2, .int (nI i)), (3, .int (nI n))]) dX0_lookAhead_64 (by decide) rfl ?_
      refine go_loop (ι := Nat × vTa) (fun i9 => (i9.1 ≤ 4) ∧ (lookP τ nd (uvX σ i) (pvX σ) day i9.2) ∧ (i9.2 36 day = scS nd day) ∧ (∀ b, b < i9.1 → i9.2 (25 + day) b = hpS nd (uvX σ i) (pvX σ) day b)) (fun i9 => 4 - i9.1) (fun i9 => σ) (fun i9 => i9.2) (fun i9 => [(5, .int (nI i9.1)), (4, .int (nI day)), (0, .ref (ad (4))), (1, .ref (ad (2))), (2, .int (nI i)), (3, .int (nI n))]) (fun i9 => []) (0, (up2 ω 36 day ((ω 36 (day - 1)) * (lN nd)))) (by (try dsimp only); exact ⟨Nat.zero_le _, ⟨fun q h1 h2 => by rw [up2_row h2]; exact hP.1 q h1 h2, fun q hq => ⟨by rw [up2_ne (by omega)]; exact (hP.2 q hq).1, fun b hb => by rw [up2_ne (by omega)]; exact (hP.2 q hq).2 b hb⟩⟩, by rw [up2_self, (hP.2 (day - 1) (by omega)).1]; exact scS_1 hd1, fun _ h => absurd h (Nat.not_lt_zero _)⟩) ?_
      intro i9 hi9 ih66
      obtain ⟨pp, ω2⟩ := i9
      (try dsimp only at hi9); (try dsimp only at ih66); (try dsimp only)
      obtain ⟨hpp, hQ, hs, hrow⟩ := hi9
      refine go_iload X dX0_lookAhead_66 0 rfl ?_
      refine go_iconst X (v := 3) dX0_lookAhead_68 (by decide) ?_
      refine go_icmpn_gt X (tgt := 100) dX0_lookAhead_69 (by decide) (a := pp) (b := 3) rfl rfl (by omega) (by omega) (fun c69 => ?_) (fun c69 => ?_)
      · skip
        refine go_iinc X (v := nI (day + 1)) (lv2 := [(4, .int (nI (day + 1))), (5, .int (nI pp)), (0, .ref (ad (4))), (1, .ref (ad (2))), (2, .int (nI i)), (3, .int (nI n))]) dX0_lookAhead_100 (k := 1) rfl (nI_add day 1) (by decide) rfl ?_
        refine go_goto X (tgt := 35) dX0_lookAhead_103 (by decide) ?_
        refine go_lvsub [0, 2, 3, 4, 5] rfl ?_
        exact ih35 (day + 1, ω2) (by (try dsimp only); exact ⟨by omega, by omega, hQ.1, fun q hq => by rcases Nat.lt_succ_iff_lt_or_eq.mp hq with h | h; exact hQ.2 q h; rw [h]; exact ⟨hs, fun b hb => hrow b (by omega)⟩⟩) (by (try dsimp only); omega)
      · skip
        refine go_aload_n X dX0_lookAhead_72 2 rfl rfl ?_
        refine go_getr X (n := 4) (j := 0) (by omega) rfl rfl (fun _ h9 => List.mem_cons_of_mem _ (List.mem_append_left _ (List.mem_append_right _ h9))) (by decide) (List.mem_cons_of_mem _ (List.mem_append_left _ (List.mem_append_left _ (List.mem_append_left _ (List.mem_of_getElem? (i := 1) rfl))))) rfl dX0_lookAhead_73 ?_
        refine go_iload X dX0_lookAhead_76 1 rfl ?_
        refine go_aald5 X (n := 35) (k := day) (by omega) rfl rfl (by omega) (by omega) dX0_lookAhead_78 ?_
        refine go_iload X dX0_lookAhead_79 0 rfl ?_
        refine go_aload_n X dX0_lookAhead_81 2 rfl rfl ?_
        refine go_aload_n X dX0_lookAhead_82 3 rfl rfl ?_
        refine go_iload_n X dX0_lookAhead_83 4 rfl rfl ?_
        refine go_iload X dX0_lookAhead_84 1 rfl ?_
        refine go_iconst X (v := 1) dX0_lookAhead_86 (by decide) ?_
        refine go_isub X dX0_lookAhead_87 ?_
        refine go_topi (v := nI (day - 1)) (pk_sub (by omega)) ?_
        refine go_iload X dX0_lookAhead_88 0 rfl ?_
        refine go_callVL X (n := 4) (As := [.ref (ad (2)), .int (nI i), .int (nI (day - 1)), .int (nI pp)]) (rest := [.int (nI pp), .ref (ad (25 + day))]) (kX0_sumOfBest l D cs ad N kt (by omega) σ ω2 i (day - 1) pp nd (ω2 36 (day - 1)) (rfl) (ω2 (25 + (day - 1)) pp) (rfl) (ω2 (25 + (day - 1)) (pp - 1)) (rfl) (by omega) (by omega) (by omega) (by omega) (by omega)) gX0_lookAhead_X0_sumOfBest rfl hdX0_sumOfBest ⟨rfl, rfl, by decide, by decide, by decide, by decide⟩ (by omega) rfl rfl rfl rfl (Nat.le_of_ble_eq_true rfl) dX0_lookAhead_90 (fun r9 σ9 τ9 h9 => ?_)
        obtain ⟨rfl, rfl, rfl⟩ := h9
        refine go_last X (n := 25 + day) (k := pp) (by omega) (sh_hope (by omega)) rfl (by omega) (by omega) dX0_lookAhead_93 ?_
        refine go_iinc X (v := nI (pp + 1)) (lv2 := [(5, .int (nI (pp + 1))), (4, .int (nI day)), (0, .ref (ad (4))), (1, .ref (ad (2))), (2, .int (nI i)), (3, .int (nI n))]) dX0_lookAhead_94 (k := 0) rfl (nI_add pp 1) (by decide) rfl ?_
        refine go_goto X (tgt := 66) dX0_lookAhead_97 (by decide) ?_
        exact ih66 (pp + 1, (up2 ω2 (25 + day) pp (sumL (fun z9 => bestS (ω2 36 (day - 1)) (ω2 (25 + (day - 1)) pp) (ω2 (25 + (day - 1)) (pp - 1)) pp (uvX σ i z9) (pvX σ z9)) nd))) (by (try dsimp only); exact ⟨by omega, ⟨fun q h1 h2 => by rw [up2_row (by omega)]; exact hQ.1 q h1 h2, fun q hq => ⟨by rw [up2_ne (by omega)]; exact (hQ.2 q hq).1, fun b hb => by rw [up2_ne (by omega)]; exact (hQ.2 q hq).2 b hb⟩⟩, by rw [up2_ne (by omega)]; exact hs, fun b hb => by rcases Nat.lt_succ_iff_lt_or_eq.mp hb with h | h; rw [up2_ne (by omega)]; exact hrow b h; rw [h, up2_self, (hQ.2 (day - 1) (by omega)).1, (hQ.2 (day - 1) (by omega)).2 pp (by omega), (hQ.2 (day - 1) (by omega)).2 (pp - 1) (by omega)]; exact hpS_1 hd1⟩) (by (try dsimp only); omega)
  · skip
    refine go_aload_n X dX0_lookAhead_16 1 rfl rfl ?_
    refine go_getr X (n := 4) (j := 0) (by omega) rfl rfl (fun _ h9 => List.mem_cons_of_mem _ (List.mem_append_left _ (List.mem_append_right _ h9))) (by decide) (List.mem_cons_of_mem _ (List.mem_append_left _ (List.mem_append_left _ (List.mem_append_left _ (List.mem_of_getElem? (i := 1) rfl))))) rfl dX0_lookAhead_17 ?_
    refine go_iconst X (v := 0) dX0_lookAhead_20 (by decide) ?_
    refine go_aald5 X (n := 35) (k := 0) (by omega) rfl rfl (by omega) (by omega) dX0_lookAhead_21 ?_
    refine go_iload X dX0_lookAhead_22 0 rfl ?_
    refine go_lconst X (v := 0) dX0_lookAhead_24 (by decide) ?_
    refine go_last X (n := 25 + 0) (k := pp) (by omega) (sh_hope (by omega)) rfl (by omega) (by omega) dX0_lookAhead_25 ?_
    refine go_iinc X (v := nI (pp + 1)) (lv2 := [(4, .int (nI (pp + 1))), (0, .ref (ad (4))), (1, .ref (ad (2))), (2, .int (nI i)), (3, .int (nI n))]) dX0_lookAhead_26 (k := 0) rfl (nI_add pp 1) (by decide) rfl ?_
    refine go_goto X (tgt := 10) dX0_lookAhead_29 (by decide) ?_
    exact ih10 (pp + 1, (up2 ω (25 + 0) pp 0)) (by (try dsimp only); exact ⟨by omega, fun q h1 h2 => by rw [up2_row (by omega)]; exact hoff q h1 h2, by rw [up2_ne (by omega)]; exact h1, fun b hb => by rcases Nat.lt_succ_iff_lt_or_eq.mp hb with h | h; rw [up2_ne (by omega)]; exact h0 b h; rw [h, up2_self]⟩) (by (try dsimp only); omega)
end
section
/-! words of the specs -/
noncomputable def cif {α : Type} (P : Prop) (a b : α) : α := @ite _ P (Classical.propDecidable P) a b
theorem cif_t {α : Type} {P : Prop} {a b : α} (h : P) : cif P a b = a := if_pos h
theorem cif_f {α : Type} {P : Prop} {a b : α} (h : ¬ P) : cif P a b = b := if_neg h
theorem cif_c {α : Type} {P : Prop} {a a2 b b2 : α} (h : P → a = a2) (h2 : ¬ P → b = b2) : cif P a b = cif P a2 b2 := by
  by_cases q : P
  · rw [cif_t q, cif_t q, h q]
  · rw [cif_f q, cif_f q, h2 q]
theorem cif_p {α : Type} {P Q : Prop} {a a2 b b2 : α} (e : P ↔ Q) (h : P → a = a2) (h2 : ¬ P → b = b2) : cif P a b = cif Q a2 b2 := by
  rw [propext e.symm]; exact cif_c h h2
abbrev toN (v : Int32) : Nat := v.toNatClampNeg
theorem toN_nI {k : Nat} (h : k < 2 ^ 31) : toN (nI k) = k := nI_clamp h
theorem isB_toN {v : Int32} {b : Nat} (h : isB v (nI b)) (hb : b < 2 ^ 31) : toN v < b ∧ v = nI (toN v) := by
  obtain ⟨k, hk, rfl⟩ := isB_nat h hb
  rw [toN_nI (by omega)]
  exact ⟨hk, rfl⟩
/-- what the class's cells always hold: so many deeds, subjects, readings; numbers in their bounds -/
def IX (σ : vSg) (nd ns nr : Nat) : Prop := (σ 2 3 = nI nd ∧ nd ≤ 5) ∧ (σ 2 4 = nI ns ∧ ns ≤ 4) ∧ (∀ d, d < nd → ∀ j, j < 3 → isB (σ (20 + d) j) 10) ∧ (∀ a, a < ns → isB (σ 8 a) 3 ∧ isB (σ 9 a) 4) ∧ (σ 3 3 = nI nr ∧ nr ≤ 8) ∧ (∀ r, r < nr → isB (σ 10 r) (nI ns) ∧ isB (σ 11 r) (nI nd) ∧ (σ 34 r = 0 ∨ σ 34 r = 1)) ∧ (∀ k, k < 4 → (σ (12 + k) 1 = 0 ∨ σ (12 + k) 1 = 1) ∧ isB (σ (12 + k) 3) 61)
theorem IX_off {σ ρ : vSg} {nd ns nr : Nat} (h : IX σ nd ns nr) (e : ∀ q, q ≠ 0 → q ≠ 5 → q ≠ 37 → ρ q = σ q) : IX ρ nd ns nr := by
  obtain ⟨h1, h2, h3, h4, h5, h6, h7⟩ := h
  refine ⟨?_, ?_, ?_, ?_, ?_, ?_, ?_⟩
  · rw [e 2 (by omega) (by omega) (by omega)]; exact h1
  · rw [e 2 (by omega) (by omega) (by omega)]; exact h2
  · by_cases hd : nd ≤ 5
    · intro d hd j hj; rw [e (20 + d) (by omega) (by omega) (by omega)]; exact h3 d hd j hj
    · exact absurd h1.2 hd
  · rw [e 8 (by omega) (by omega) (by omega), e 9 (by omega) (by omega) (by omega)]; exact h4
  · rw [e 3 (by omega) (by omega) (by omega)]; exact h5
  · rw [e 10 (by omega) (by omega) (by omega), e 11 (by omega) (by omega) (by omega), e 34 (by omega) (by omega) (by omega)]; exact h6
  · intro k hk; rw [e (12 + k) (by omega) (by omega) (by omega)]; exact h7 k hk
theorem IX_f {σ : vSg} {nd ns nr j : Nat} {v : Int32} (h : IX σ nd ns nr) : IX (up2 σ 0 j v) nd ns nr := IX_off h (fun _ h0 _ _ => up2_row h0)
def spanS (len i n : Int32) : Prop := 0 ≤ i ∧ i ≤ len ∧ 0 ≤ n ∧ n ≤ len - i
noncomputable def fAsS (th la lane : Int32) : Int32 := cif (th = 0) 1 (cif (la = lane) 0 2)
noncomputable def ofDeedS (nd : Int32) (dd : Nat → Nat → Int32) (d what : Int32) : Int32 := cif (isB d nd) (cif (isB what 3) (dd (toN d) (toN what)) (-2)) (-1)
noncomputable def ofSubjS (ns : Int32) (kd pa dn : Nat → Int32) (a what : Int32) : Int32 := cif (isB a ns) (cif (what = 0) (kd (toN a)) (cif (what = 1) (pa (toN a)) (cif (what = 2) (dn (toN a)) (-2)))) (-1)
noncomputable def fearOS (ns nd : Int32) (f : Nat → Nat → Int32) (a d : Int32) : Int32 := cif (isB a ns) (cif (isB d nd) (f (toN a) (toN d)) (-1)) (-1)
noncomputable def alterS (nd : Int32) (dd : Nat → Nat → Int32) (d what v : Int32) : Int32 := cif (isB d nd) (cif (isB what 3) (cif (isB v 10) (dd (toN d) (toN what)) (-2)) (-2)) (-1)
noncomputable def grantS (ns : Int32) (pa : Nat → Int32) (a v : Int32) : Int32 := cif (isB a ns) (cif (isB v 4) (pa (toN a)) (-2)) (-1)
end
section
theorem hdX3_spans : yX3_spans.cls = RX3 ∧ yX3_spans.cls ≠ "java/lang/invoke/MethodHandle" ∧ yX3_spans.cls ≠ "java/lang/invoke/VarHandle" ∧ (parseMethodDescriptor yX3_spans.desc).map (fun d => d.parameters.length) = some 2 := by decide +kernel
set_option maxHeartbeats 4000000 in
set_option maxRecDepth 100000 in
theorem kX3_spans (l : Launch) (D : va_G) (cs : Nat → ClassId) (ad : Nat → Nat) (N kt : Nat) (hN : 58 ≤ N) (σ : vSg) (τ : vTa) (k : Nat) (i : Int32) (n : Int32) (len : Int32) (h_len : σ (12 + k) 3 = len)  (hk : k < 4) : CtI l yX3_spans wsX3_spans ({ frames := 0, cells := 0, slots := 0, locals := 0 }) D cs ad N (shP kt) [.ref (ad (12 + k)), .int i, .int n] σ τ 0 0 (fun r9 σ9 τ9 => b2i (spanS len i n) = r9 ∧ σ = σ9 ∧ τ = τ9) := by
  refine ct_I (cc := cX3_spans) (maxL := 3) (by decide) rfl (Nat.le_of_ble_eq_true rfl) rfl rfl ?_
  intro p e s m args below meth c A X hr hlk
  refine go_iload_n X dX3_spans_0 1 rfl rfl ?_
  refine go_if_lt X (tgt := 30) dX3_spans_1 (by decide) (fun c1 => ?_) (fun c1 => ?_)
  · skip
    refine go_iconst X (v := 0) dX3_spans_30 (by decide) ?_
    exact go_zreturn X hr hlk dX3_spans_31 (by first | exact Or.inl rfl | exact Or.inr rfl) (⟨b2i_f (fun q => absurd q.1 (Int32.not_le.mpr c1)), rfl, rfl⟩)
  · skip
    refine go_iload_n X dX3_spans_4 1 rfl rfl ?_
    refine go_aload_n X dX3_spans_5 0 rfl rfl ?_
    refine go_geti X (n := 12 + k) (j := 3) (by omega) (sh_row (by omega)) rfl (fun _ h9 => List.mem_cons_of_mem _ (List.mem_append_right _ h9)) (by decide) (List.mem_cons_of_mem _ (List.mem_append_left _ (List.mem_of_getElem? (i := 0) rfl))) rfl dX3_spans_6 ?_
    refine go_topi (v := len) (h_len) ?_
    refine go_icmp_gt X (tgt := 30) dX3_spans_9 (by decide) (fun c9 => ?_) (fun c9 => ?_)
    · skip
      refine go_iconst X (v := 0) dX3_spans_30 (by decide) ?_
      exact go_zreturn X hr hlk dX3_spans_31 (by first | exact Or.inl rfl | exact Or.inr rfl) (⟨b2i_f (fun q => absurd q.2.1 (Int32.not_le.mpr c9)), rfl, rfl⟩)
    · skip
      refine go_iload_n X dX3_spans_12 2 rfl rfl ?_
      refine go_if_lt X (tgt := 30) dX3_spans_13 (by decide) (fun c13 => ?_) (fun c13 => ?_)
      · skip
        refine go_iconst X (v := 0) dX3_spans_30 (by decide) ?_
        exact go_zreturn X hr hlk dX3_spans_31 (by first | exact Or.inl rfl | exact Or.inr rfl) (⟨b2i_f (fun q => absurd q.2.2.1 (Int32.not_le.mpr c13)), rfl, rfl⟩)
      · skip
        refine go_iload_n X dX3_spans_16 2 rfl rfl ?_
        refine go_aload_n X dX3_spans_17 0 rfl rfl ?_
        refine go_geti X (n := 12 + k) (j := 3) (by omega) (sh_row (by omega)) rfl (fun _ h9 => List.mem_cons_of_mem _ (List.mem_append_right _ h9)) (by decide) (List.mem_cons_of_mem _ (List.mem_append_left _ (List.mem_of_getElem? (i := 0) rfl))) rfl dX3_spans_18 ?_
        refine go_topi (v := len) (h_len) ?_
        refine go_iload_n X dX3_spans_21 1 rfl rfl ?_
        refine go_isub X dX3_spans_22 ?_
        refine go_icmp_gt X (tgt := 30) dX3_spans_23 (by decide) (fun c23 => ?_) (fun c23 => ?_)
        · skip
          refine go_iconst X (v := 0) dX3_spans_30 (by decide) ?_
          exact go_zreturn X hr hlk dX3_spans_31 (by first | exact Or.inl rfl | exact Or.inr rfl) (⟨b2i_f (fun q => absurd q.2.2.2 (Int32.not_le.mpr c23)), rfl, rfl⟩)
        · skip
          refine go_iconst X (v := 1) dX3_spans_26 (by decide) ?_
          refine go_goto X (tgt := 31) dX3_spans_27 (by decide) ?_
          exact go_zreturn X hr hlk dX3_spans_31 (by first | exact Or.inl rfl | exact Or.inr rfl) (⟨b2i_t ⟨Int32.not_lt.mp c1, Int32.not_lt.mp c9, Int32.not_lt.mp c13, Int32.not_lt.mp c23⟩, rfl, rfl⟩)

theorem hdX3_cut : yX3_cut.cls = RX3 ∧ yX3_cut.cls ≠ "java/lang/invoke/MethodHandle" ∧ yX3_cut.cls ≠ "java/lang/invoke/VarHandle" ∧ (parseMethodDescriptor yX3_cut.desc).map (fun d => d.parameters.length) = some 1 := by decide +kernel
set_option maxHeartbeats 4000000 in
set_option maxRecDepth 100000 in
theorem kX3_cut (l : Launch) (D : va_G) (cs : Nat → ClassId) (ad : Nat → Nat) (N kt : Nat) (hN : 58 ≤ N) (σ : vSg) (τ : vTa) (k : Nat) (v : Int32) (lane : Int32) (h_lane : σ (12 + k) 2 = lane)  (hk : k < 4) : CtI l yX3_cut wsX3_cut ({ frames := 0, cells := 0, slots := 0, locals := 0 }) D cs ad N (shP kt) [.ref (ad (12 + k)), .int v] σ τ 0 0 (fun r9 σ9 τ9 => cutS lane v = r9 ∧ σ = σ9 ∧ τ = τ9) := by
  refine ct_I (cc := cX3_cut) (maxL := 2) (by decide) rfl (Nat.le_of_ble_eq_true rfl) rfl rfl ?_
  intro p e s m args below meth c A X hr hlk
  refine go_aload_n X dX3_cut_0 0 rfl rfl ?_
  refine go_geti X (n := 12 + k) (j := 2) (by omega) (sh_row (by omega)) rfl (fun _ h9 => List.mem_cons_of_mem _ (List.mem_append_right _ h9)) (by decide) (List.mem_cons_of_mem _ (List.mem_append_left _ (List.mem_of_getElem? (i := 0) rfl))) rfl dX3_cut_1 ?_
  refine go_topi (v := lane) (h_lane) ?_
  rcases Classical.em (lane = 0) with e4_0 | n4_0
  · skip
    refine go_lookup X (tgt := 32) (off := 28) dX3_cut_4 (by decide) (by rw [e4_0]; decide) (by decide) ?_
    refine go_iload_n X dX3_cut_32 1 rfl rfl ?_
    refine go_i2b X dX3_cut_33 rfl ?_
    exact go_ireturn X hr hlk dX3_cut_34 (⟨by rw [e4_0]; rfl, rfl, rfl⟩)
  · skip
    rcases Classical.em (lane = 1) with e4_1 | n4_1
    · skip
      refine go_lookup X (tgt := 35) (off := 31) dX3_cut_4 (by decide) (by rw [e4_1]; decide) (by decide) ?_
      refine go_iload_n X dX3_cut_35 1 rfl rfl ?_
      refine go_i2s X dX3_cut_36 rfl ?_
      exact go_ireturn X hr hlk dX3_cut_37 (⟨by rw [e4_1]; rfl, rfl, rfl⟩)
    · skip
      refine go_lookup X (tgt := 38) (off := 34) dX3_cut_4 (by decide) ((lv_osw n4_0 (by decide)).trans ((lv_osw n4_1 (by decide)).trans (rfl))) (by decide) ?_
      refine go_iload_n X dX3_cut_38 1 rfl rfl ?_
      exact go_ireturn X hr hlk dX3_cut_39 (⟨by unfold cutS; rw [if_neg n4_0, if_neg n4_1], rfl, rfl⟩)

def zeroR (σ : vSg) (n c : Nat) : vSg := fun a b => if a = n ∧ b < c then 0 else σ a b
theorem zeroR_0 {σ : vSg} {n : Nat} : zeroR σ n 0 = σ := by funext a b; simp [zeroR]
theorem zeroR_1 {σ : vSg} {n c : Nat} : up2 (zeroR σ n c) n c 0 = zeroR σ n (c + 1) := by
  funext a b
  simp only [up2, zeroR]
  by_cases ha : a = n
  · by_cases hb : b = c
    · subst hb; simp [ha]
    · by_cases hl : b < c
      · simp [ha, hb, hl, Nat.lt_succ_of_lt hl]
      · simp [ha, hb, hl, show ¬ b < c + 1 by omega]
  · simp [ha]
theorem hdX3_renew : yX3_renew.cls = RX3 ∧ yX3_renew.cls ≠ "java/lang/invoke/MethodHandle" ∧ yX3_renew.cls ≠ "java/lang/invoke/VarHandle" ∧ (parseMethodDescriptor yX3_renew.desc).map (fun d => d.parameters.length) = some 2 := by decide +kernel
set_option maxHeartbeats 4000000 in
set_option maxRecDepth 100000 in
theorem kX3_renew (l : Launch) (D : va_G) (cs : Nat → ClassId) (ad : Nat → Nat) (N kt : Nat) (hN : 58 ≤ N) (σ : vSg) (τ : vTa) (k : Nat) (ln : Int32) (n : Int32)   (hk : k < 4) : CtV l yX3_renew wsX3_renew ({ frames := 0, cells := 0, slots := 0, locals := 0 }) D cs ad N (shP kt) [.ref (ad (12 + k)), .int ln, .int n] σ τ 0 0 (fun σ9 τ9 => zeroR (up2 (up2 (up2 σ (12 + k) 1 1) (12 + k) 2 ln) (12 + k) 3 n) (16 + k) 60 = σ9 ∧ τ = τ9) := by
  refine ct_V (cc := cX3_renew) (maxL := 4) (by decide) rfl (Nat.le_of_ble_eq_true rfl) rfl rfl ?_
  intro p e s m args below meth c A X hr hlk
  refine go_aload_n X dX3_renew_0 0 rfl rfl ?_
  refine go_iconst X (v := 1) dX3_renew_1 (by decide) ?_
  refine go_puti X (n := 12 + k) (j := 1) (ty := .boolean) (by omega) (sh_row (by omega)) rfl (fun _ h9 => List.mem_cons_of_mem _ (List.mem_append_right _ h9)) (by decide) (List.mem_cons_of_mem _ (List.mem_append_left _ (List.mem_of_getElem? (i := 0) rfl))) rfl tyX3 tyX3_ok nmX3 rfl (by decide +kernel) rfl rfl dX3_renew_2 ?_
  refine go_aload_n X dX3_renew_5 0 rfl rfl ?_
  refine go_iload_n X dX3_renew_6 1 rfl rfl ?_
  refine go_puti X (n := 12 + k) (j := 2) (ty := .int) (by omega) (sh_row (by omega)) rfl (fun _ h9 => List.mem_cons_of_mem _ (List.mem_append_right _ h9)) (by decide) (List.mem_cons_of_mem _ (List.mem_append_left _ (List.mem_of_getElem? (i := 1) rfl))) rfl tyX3 tyX3_ok nmX3 rfl (by decide +kernel) rfl rfl dX3_renew_7 ?_
  refine go_aload_n X dX3_renew_10 0 rfl rfl ?_
  refine go_iload_n X dX3_renew_11 2 rfl rfl ?_
  refine go_puti X (n := 12 + k) (j := 3) (ty := .int) (by omega) (sh_row (by omega)) rfl (fun _ h9 => List.mem_cons_of_mem _ (List.mem_append_right _ h9)) (by decide) (List.mem_cons_of_mem _ (List.mem_append_left _ (List.mem_of_getElem? (i := 2) rfl))) rfl tyX3 tyX3_ok nmX3 rfl (by decide +kernel) rfl rfl dX3_renew_12 ?_
  refine go_sg (σ2 := (zeroR (up2 (up2 (up2 σ (12 + k) 1 1) (12 + k) 2 ln) (12 + k) 3 n) (16 + k) 0)) zeroR_0.symm ?_
  refine go_iconst X (v := 0) dX3_renew_15 (by decide) ?_
  refine go_istore_n X (lv2 := [(3, .int 0), (0, .ref (ad (12 + k))), (1, .int ln), (2, .int n)]) dX3_renew_16 rfl (by decide) rfl ?_
  refine go_loop (ι := Nat) (fun i9 => (i9 ≤ 60)) (fun i9 => 60 - i9) (fun i9 => (zeroR (up2 (up2 (up2 σ (12 + k) 1 1) (12 + k) 2 ln) (12 + k) 3 n) (16 + k) i9)) (fun i9 => τ) (fun i9 => [(3, .int (nI i9)), (0, .ref (ad (12 + k))), (1, .int ln), (2, .int n)]) (fun i9 => []) 0 (by (try dsimp only); exact (Nat.zero_le _)) ?_
  intro i9 hi9 ih17
  obtain ⟨c9, hv9⟩ : ∃ z, z = i9 := ⟨_, rfl⟩; subst hv9
  (try dsimp only at hi9); (try dsimp only at ih17); (try dsimp only)
  have hc9 := hi9
  refine go_iload_n X dX3_renew_17 0 rfl rfl ?_
  refine go_bipush X (v := 60) dX3_renew_18 (by decide) ?_
  refine go_icmpn_ge X (tgt := 36) dX3_renew_20 (by decide) (a := c9) (b := 60) rfl rfl (by omega) (by omega) (fun c20 => ?_) (fun c20 => ?_)
  · skip
    exact go_return X hr hlk dX3_renew_36 (⟨by rw [show c9 = 60 by omega], rfl⟩)
  · skip
    refine go_aload_n X dX3_renew_23 1 rfl rfl ?_
    refine go_getr X (n := 12 + k) (j := 0) (by omega) (sh_row (by omega)) rfl (fun _ h9 => List.mem_cons_of_mem _ (List.mem_append_right _ h9)) (by decide) (List.mem_cons_of_mem _ (List.mem_append_left _ (List.mem_of_getElem? (i := 3) rfl))) rfl dX3_renew_24 ?_
    refine go_iload_n X dX3_renew_27 0 rfl rfl ?_
    refine go_iconst X (v := 0) dX3_renew_28 (by decide) ?_
    refine go_iast X (n := 16 + k) (k := c9) (by omega) (sh_cells (by omega)) rfl (by omega) (by omega) dX3_renew_29 ?_
    refine go_sg (σ2 := (zeroR (up2 (up2 (up2 σ (12 + k) 1 1) (12 + k) 2 ln) (12 + k) 3 n) (16 + k) (c9 + 1))) zeroR_1 ?_
    refine go_iinc X (v := nI (c9 + 1)) (lv2 := [(3, .int (nI (c9 + 1))), (0, .ref (ad (12 + k))), (1, .int ln), (2, .int n)]) dX3_renew_30 (k := 0) rfl (nI_add c9 1) (by decide) rfl ?_
    refine go_goto X (tgt := 17) dX3_renew_33 (by decide) ?_
    exact ih17 (c9 + 1) (by (try dsimp only); exact (by omega)) (by (try dsimp only); omega)

theorem hdX6_faultAs : yX6_faultAs.cls ≠ "java/lang/invoke/MethodHandle" ∧ yX6_faultAs.cls ≠ "java/lang/invoke/VarHandle" ∧ (parseMethodDescriptor yX6_faultAs.desc).map (fun d => d.parameters.length) = some 2 := by decide +kernel
set_option maxHeartbeats 4000000 in
set_option maxRecDepth 100000 in
theorem kX6_faultAs (l : Launch) (D : va_G) (cs : Nat → ClassId) (ad : Nat → Nat) (N kt : Nat) (hN : 58 ≤ N) (σ : vSg) (τ : vTa) (k : Nat) (lane : Int32) (th : Int32) (h_th : σ (12 + k) 1 = th) (la : Int32) (h_la : σ (12 + k) 2 = la)  (hk : k < 4) : CtI l yX6_faultAs wsX6_faultAs ({ frames := 0, cells := 0, slots := 0, locals := 0 }) D cs ad N (shP kt) [.ref (ad (12 + k)), .int lane] σ τ 0 0 (fun r9 σ9 τ9 => fAsS th la lane = r9 ∧ σ = σ9 ∧ τ = τ9) := by
  refine ct_I (cc := cX6_faultAs) (maxL := 2) (by decide) rfl (Nat.le_of_ble_eq_true rfl) rfl rfl ?_
  intro p e s m args below meth c A X hr hlk
  refine go_aload_n X dX6_faultAs_0 0 rfl rfl ?_
  refine go_geti X (n := 12 + k) (j := 1) (by omega) (sh_row (by omega)) rfl (fun _ h9 => List.mem_cons_of_mem _ (List.mem_append_right _ h9)) (by decide) (List.mem_cons_of_mem _ (List.mem_append_left _ (List.mem_of_getElem? (i := 0) rfl))) rfl dX6_faultAs_1 ?_
  refine go_topi (v := th) (h_th) ?_
  refine go_if_ne X (tgt := 9) dX6_faultAs_4 (by decide) (fun c4 => ?_) (fun c4 => ?_)
  · skip
    refine go_aload_n X dX6_faultAs_9 0 rfl rfl ?_
    refine go_geti X (n := 12 + k) (j := 2) (by omega) (sh_row (by omega)) rfl (fun _ h9 => List.mem_cons_of_mem _ (List.mem_append_right _ h9)) (by decide) (List.mem_cons_of_mem _ (List.mem_append_left _ (List.mem_of_getElem? (i := 1) rfl))) rfl dX6_faultAs_10 ?_
    refine go_topi (v := la) (h_la) ?_
    refine go_iload_n X dX6_faultAs_13 1 rfl rfl ?_
    refine go_icmp_ne X (tgt := 21) dX6_faultAs_14 (by decide) (fun c14 => ?_) (fun c14 => ?_)
    · skip
      refine go_iconst X (v := 2) dX6_faultAs_21 (by decide) ?_
      exact go_ireturn X hr hlk dX6_faultAs_22 ((have hE : fAsS th la lane = 2 := (by unfold fAsS; (try dsimp only); exact (cif_f c4).trans ((cif_f c14).trans (rfl))); ⟨hE, rfl, rfl⟩))
    · skip
      refine go_iconst X (v := 0) dX6_faultAs_17 (by decide) ?_
      refine go_goto X (tgt := 22) dX6_faultAs_18 (by decide) ?_
      exact go_ireturn X hr hlk dX6_faultAs_22 ((have hE : fAsS th la lane = 0 := (by unfold fAsS; (try dsimp only); exact (cif_f c4).trans ((cif_t c14).trans (rfl))); ⟨hE, rfl, rfl⟩))
  · skip
    refine go_iconst X (v := 1) dX6_faultAs_7 (by decide) ?_
    exact go_ireturn X hr hlk dX6_faultAs_8 ((have hE : fAsS th la lane = 1 := (by unfold fAsS; (try dsimp only); exact (cif_t c4).trans (rfl)); ⟨hE, rfl, rfl⟩))

theorem hdX6_ofDeed : yX6_ofDeed.cls = RX6 ∧ yX6_ofDeed.cls ≠ "java/lang/invoke/MethodHandle" ∧ yX6_ofDeed.cls ≠ "java/lang/invoke/VarHandle" ∧ (parseMethodDescriptor yX6_ofDeed.desc).map (fun d => d.parameters.length) = some 2 := by decide +kernel
set_option maxHeartbeats 4000000 in
set_option maxRecDepth 100000 in
theorem kX6_ofDeed (l : Launch) (D : va_G) (cs : Nat → ClassId) (ad : Nat → Nat) (N kt : Nat) (hN : 58 ≤ N) (σ : vSg) (τ : vTa) (d : Int32) (what : Int32) (nd : Nat) (ns : Nat) (nr : Nat)   (hI : IX σ nd ns nr) : CtI l yX6_ofDeed wsX6_ofDeed ({ frames := 2, cells := 0, slots := 0, locals := 42 }) D cs ad N (shP kt) [.ref (ad (0)), .int d, .int what] σ τ 0 0 (fun r9 σ9 τ9 => ofDeedS (nI nd) (fun z9 y9 => σ (20 + z9) y9) d what = r9 ∧ σ = σ9 ∧ τ = τ9) := by
  refine ct_I (cc := cX6_ofDeed) (maxL := 3) (by decide) rfl (Nat.le_of_ble_eq_true rfl) rfl rfl ?_
  intro p e s m args below meth c A X hr hlk
  obtain ⟨⟨hnd, hnd5⟩, ⟨hns, hns4⟩, hdd, hkp, ⟨hnr, hnr8⟩, hrd, hrw⟩ := id hI
  refine go_aload_n X dX6_ofDeed_0 0 rfl rfl ?_
  refine go_getr X (n := 0) (j := 1) (by omega) rfl rfl (fun _ h9 => List.mem_cons_of_mem _ (List.mem_append_left _ (List.mem_append_right _ h9))) (by decide) (List.mem_cons_of_mem _ (List.mem_append_left _ (List.mem_append_left _ (List.mem_of_getElem? (i := 0) rfl)))) rfl dX6_ofDeed_1 ?_
  refine go_iload_n X dX6_ofDeed_4 1 rfl rfl ?_
  refine go_callVI X (n := 2) (As := [.int d]) (rest := []) (kX2_hasDeed l D cs ad N kt (by omega) σ τ d (nI nd) (hnd)) gX6_ofDeed_X2_hasDeed rfl hdX2_hasDeed ⟨rfl, rfl, by decide, by decide, by decide, by decide⟩ (by omega) rfl rfl rfl rfl (Nat.le_of_ble_eq_true rfl) dX6_ofDeed_5 (fun r9 σ9 τ9 h9 => ?_)
  obtain ⟨rfl, rfl, rfl⟩ := h9
  refine go_ifb_ne X (tgt := 13) dX6_ofDeed_8 (by decide) (fun c8 => ?_) (fun c8 => ?_)
  · skip
    obtain ⟨i, hi, rfl⟩ := isB_nat c8 (by omega)
    refine go_iload_n X dX6_ofDeed_13 2 rfl rfl ?_
    refine go_iconst X (v := 3) dX6_ofDeed_14 (by decide) ?_
    refine go_callSI X (As := [.int what, .int 3]) (rest := []) (kX6_isBelow l D cs ad N kt (by omega) σ τ what 3) gX6_ofDeed_X6_isBelow rfl hdX6_isBelow ⟨rfl, rfl, by decide, by decide, by decide, by decide⟩ rfl rfl (Nat.le_of_ble_eq_true rfl) dX6_ofDeed_15 (fun r9 σ9 τ9 h9 => ?_)
    obtain ⟨rfl, rfl, rfl⟩ := h9
    refine go_ifb_ne X (tgt := 24) dX6_ofDeed_18 (by decide) (fun c18 => ?_) (fun c18 => ?_)
    · skip
      obtain ⟨j, hj, rfl⟩ := isB_nat (b := 3) c18 (by omega)
      refine go_aload_n X dX6_ofDeed_24 0 rfl rfl ?_
      refine go_getr X (n := 0) (j := 1) (by omega) rfl rfl (fun _ h9 => List.mem_cons_of_mem _ (List.mem_append_left _ (List.mem_append_right _ h9))) (by decide) (List.mem_cons_of_mem _ (List.mem_append_left _ (List.mem_append_left _ (List.mem_of_getElem? (i := 0) rfl)))) rfl dX6_ofDeed_25 ?_
      refine go_getr X (n := 2) (j := 0) (by omega) rfl rfl (fun _ h9 => List.mem_cons_of_mem _ (List.mem_append_right _ h9)) (by decide) (List.mem_cons_of_mem _ (List.mem_append_left _ (List.mem_append_left _ (List.mem_of_getElem? (i := 1) rfl)))) rfl dX6_ofDeed_28 ?_
      refine go_iload_n X dX6_ofDeed_31 1 rfl rfl ?_
      refine go_aald4 X (n := 7) (k := i) (by omega) rfl rfl (by omega) (by omega) dX6_ofDeed_32 ?_
      refine go_iload_n X dX6_ofDeed_33 2 rfl rfl ?_
      refine go_iald X (n := 20 + i) (k := j) (by omega) (sh_deed (by omega)) rfl (by omega) (by omega) dX6_ofDeed_34 ?_
      exact go_ireturn X hr hlk dX6_ofDeed_35 ((have hE : ofDeedS (nI nd) (fun z9 y9 => σ (20 + z9) y9) (nI i) (nI j) = σ (20 + i) j := (by unfold ofDeedS; (try dsimp only); (try rw [toN_nI (k := i) (by omega)]); (try rw [toN_nI (k := j) (by omega)]); exact (cif_t c8).trans ((cif_t c18).trans (rfl))); ⟨hE, rfl, rfl⟩))
    · skip
      refine go_bipush X (v := (-2)) dX6_ofDeed_21 (by decide) ?_
      exact go_ireturn X hr hlk dX6_ofDeed_23 ((have hE : ofDeedS (nI nd) (fun z9 y9 => σ (20 + z9) y9) (nI i) what = (-2) := (by unfold ofDeedS; (try dsimp only); (try rw [toN_nI (k := i) (by omega)]); exact (cif_t c8).trans ((cif_f c18).trans (rfl))); ⟨hE, rfl, rfl⟩))
  · skip
    refine go_iconst X (v := (-1)) dX6_ofDeed_11 (by decide) ?_
    exact go_ireturn X hr hlk dX6_ofDeed_12 ((have hE : ofDeedS (nI nd) (fun z9 y9 => σ (20 + z9) y9) d what = (-1) := (by unfold ofDeedS; (try dsimp only); exact (cif_f c8).trans (rfl)); ⟨hE, rfl, rfl⟩))

theorem hdX6_ofSubject : yX6_ofSubject.cls = RX6 ∧ yX6_ofSubject.cls ≠ "java/lang/invoke/MethodHandle" ∧ yX6_ofSubject.cls ≠ "java/lang/invoke/VarHandle" ∧ (parseMethodDescriptor yX6_ofSubject.desc).map (fun d => d.parameters.length) = some 2 := by decide +kernel
set_option maxHeartbeats 4000000 in
set_option maxRecDepth 100000 in
theorem kX6_ofSubject (l : Launch) (D : va_G) (cs : Nat → ClassId) (ad : Nat → Nat) (N kt : Nat) (hN : 58 ≤ N) (σ : vSg) (τ : vTa) (a : Int32) (what : Int32) (nd : Nat) (ns : Nat) (nr : Nat)   (hI : IX σ nd ns nr) : CtI l yX6_ofSubject wsX6_ofSubject ({ frames := 4, cells := 0, slots := 0, locals := 90 }) D cs ad N (shP kt) [.ref (ad (0)), .int a, .int what] σ τ 0 0 (fun r9 σ9 τ9 => ofSubjS (nI ns) (σ 8) (σ 9) (fun z9 => setS (doX σ z9) nd) a what = r9 ∧ σ = σ9 ∧ τ = τ9) := by
  refine ct_I (cc := cX6_ofSubject) (maxL := 3) (by decide) rfl (Nat.le_of_ble_eq_true rfl) rfl rfl ?_
  intro p e s m args below meth c A X hr hlk
  obtain ⟨⟨hnd, hnd5⟩, ⟨hns, hns4⟩, hdd, hkp, ⟨hnr, hnr8⟩, hrd, hrw⟩ := id hI
  refine go_aload_n X dX6_ofSubject_0 0 rfl rfl ?_
  refine go_getr X (n := 0) (j := 1) (by omega) rfl rfl (fun _ h9 => List.mem_cons_of_mem _ (List.mem_append_left _ (List.mem_append_right _ h9))) (by decide) (List.mem_cons_of_mem _ (List.mem_append_left _ (List.mem_append_left _ (List.mem_append_left _ (List.mem_of_getElem? (i := 0) rfl))))) rfl dX6_ofSubject_1 ?_
  refine go_iload_n X dX6_ofSubject_4 1 rfl rfl ?_
  refine go_callVI X (n := 2) (As := [.int a]) (rest := []) (kX2_hasSubject l D cs ad N kt (by omega) σ τ a (nI ns) (hns)) gX6_ofSubject_X2_hasSubject rfl hdX2_hasSubject ⟨rfl, rfl, by decide, by decide, by decide, by decide⟩ (by omega) rfl rfl rfl rfl (Nat.le_of_ble_eq_true rfl) dX6_ofSubject_5 (fun r9 σ9 τ9 h9 => ?_)
  obtain ⟨rfl, rfl, rfl⟩ := h9
  refine go_ifb_ne X (tgt := 13) dX6_ofSubject_8 (by decide) (fun c8 => ?_) (fun c8 => ?_)
  · skip
    obtain ⟨i, hi, rfl⟩ := isB_nat c8 (by omega)
    refine go_iload_n X dX6_ofSubject_13 2 rfl rfl ?_
    rcases Classical.em (what = 0) with e14_0 | n14_0
    · skip
      refine go_tableIn X (tgt := 40) (off := 26) dX6_ofSubject_14 (by rw [e14_0]; decide) (by rw [e14_0]; decide) (by rw [e14_0]; decide) (by decide) ?_
      refine go_aload_n X dX6_ofSubject_40 0 rfl rfl ?_
      refine go_getr X (n := 0) (j := 1) (by omega) rfl rfl (fun _ h9 => List.mem_cons_of_mem _ (List.mem_append_left _ (List.mem_append_right _ h9))) (by decide) (List.mem_cons_of_mem _ (List.mem_append_left _ (List.mem_append_left _ (List.mem_append_left _ (List.mem_of_getElem? (i := 0) rfl))))) rfl dX6_ofSubject_41 ?_
      refine go_getr X (n := 2) (j := 1) (by omega) rfl rfl (fun _ h9 => List.mem_cons_of_mem _ (List.mem_append_right _ h9)) (by decide) (List.mem_cons_of_mem _ (List.mem_append_left _ (List.mem_append_left _ (List.mem_append_left _ (List.mem_of_getElem? (i := 1) rfl))))) rfl dX6_ofSubject_44 ?_
      refine go_iload_n X dX6_ofSubject_47 1 rfl rfl ?_
      refine go_iald X (n := 8) (k := i) (by omega) rfl rfl (by omega) (by omega) dX6_ofSubject_48 ?_
      exact go_ireturn X hr hlk dX6_ofSubject_49 ((have hE : ofSubjS (nI ns) (σ 8) (σ 9) (fun z9 => setS (doX σ z9) nd) (nI i) what = σ 8 i := (by unfold ofSubjS; (try dsimp only); (try rw [toN_nI (k := i) (by omega)]); exact (cif_t c8).trans ((cif_t e14_0).trans (rfl))); ⟨hE, rfl, rfl⟩))
    · skip
      rcases Classical.em (what = 1) with e14_1 | n14_1
      · skip
        refine go_tableIn X (tgt := 50) (off := 36) dX6_ofSubject_14 (by rw [e14_1]; decide) (by rw [e14_1]; decide) (by rw [e14_1]; decide) (by decide) ?_
        refine go_aload_n X dX6_ofSubject_50 0 rfl rfl ?_
        refine go_getr X (n := 0) (j := 1) (by omega) rfl rfl (fun _ h9 => List.mem_cons_of_mem _ (List.mem_append_left _ (List.mem_append_right _ h9))) (by decide) (List.mem_cons_of_mem _ (List.mem_append_left _ (List.mem_append_left _ (List.mem_append_left _ (List.mem_of_getElem? (i := 0) rfl))))) rfl dX6_ofSubject_51 ?_
        refine go_getr X (n := 2) (j := 2) (by omega) rfl rfl (fun _ h9 => List.mem_cons_of_mem _ (List.mem_append_right _ h9)) (by decide) (List.mem_cons_of_mem _ (List.mem_append_left _ (List.mem_append_left _ (List.mem_append_left _ (List.mem_of_getElem? (i := 2) rfl))))) rfl dX6_ofSubject_54 ?_
        refine go_iload_n X dX6_ofSubject_57 1 rfl rfl ?_
        refine go_iald X (n := 9) (k := i) (by omega) rfl rfl (by omega) (by omega) dX6_ofSubject_58 ?_
        exact go_ireturn X hr hlk dX6_ofSubject_59 ((have hE : ofSubjS (nI ns) (σ 8) (σ 9) (fun z9 => setS (doX σ z9) nd) (nI i) what = σ 9 i := (by unfold ofSubjS; (try dsimp only); (try rw [toN_nI (k := i) (by omega)]); exact (cif_t c8).trans ((cif_f n14_0).trans ((cif_t e14_1).trans (rfl)))); ⟨hE, rfl, rfl⟩))
      · skip
        rcases Classical.em (what = 2) with e14_2 | n14_2
        · skip
          refine go_tableIn X (tgt := 60) (off := 46) dX6_ofSubject_14 (by rw [e14_2]; decide) (by rw [e14_2]; decide) (by rw [e14_2]; decide) (by decide) ?_
          refine go_aload_n X dX6_ofSubject_60 0 rfl rfl ?_
          refine go_getr X (n := 0) (j := 1) (by omega) rfl rfl (fun _ h9 => List.mem_cons_of_mem _ (List.mem_append_left _ (List.mem_append_right _ h9))) (by decide) (List.mem_cons_of_mem _ (List.mem_append_left _ (List.mem_append_left _ (List.mem_append_left _ (List.mem_of_getElem? (i := 0) rfl))))) rfl dX6_ofSubject_61 ?_
          refine go_iload_n X dX6_ofSubject_64 1 rfl rfl ?_
          refine go_callVI X (n := 2) (As := [.int (nI i)]) (rest := []) (kX2_doneBy l D cs ad N kt (by omega) σ τ i nd (by omega) (by omega) (by omega)) gX6_ofSubject_X2_doneBy rfl hdX2_doneBy ⟨rfl, rfl, by decide, by decide, by decide, by decide⟩ (by omega) rfl rfl rfl rfl (Nat.le_of_ble_eq_true rfl) dX6_ofSubject_65 (fun r9 σ9 τ9 h9 => ?_)
          obtain ⟨rfl, rfl, rfl⟩ := h9
          exact go_ireturn X hr hlk dX6_ofSubject_68 ((have hE : ofSubjS (nI ns) (σ 8) (σ 9) (fun z9 => setS (doX σ z9) nd) (nI i) what = setS (doX σ i) nd := (by unfold ofSubjS; (try dsimp only); (try rw [toN_nI (k := i) (by omega)]); exact (cif_t c8).trans ((cif_f n14_0).trans ((cif_f n14_1).trans ((cif_t e14_2).trans (rfl))))); ⟨hE, rfl, rfl⟩))
        · skip
          refine go_tableOut X (tgt := 69) dX6_ofSubject_14 (by have k0 := lv_neT (a := 0) n14_0 (by decide); have k1 := lv_neT (a := 1) n14_1 (by decide); have k2 := lv_neT (a := 2) n14_2 (by decide); omega) (by decide) ?_
          refine go_bipush X (v := (-2)) dX6_ofSubject_69 (by decide) ?_
          exact go_ireturn X hr hlk dX6_ofSubject_71 ((have hE : ofSubjS (nI ns) (σ 8) (σ 9) (fun z9 => setS (doX σ z9) nd) (nI i) what = (-2) := (by unfold ofSubjS; (try dsimp only); (try rw [toN_nI (k := i) (by omega)]); exact (cif_t c8).trans ((cif_f n14_0).trans ((cif_f n14_1).trans ((cif_f n14_2).trans (rfl))))); ⟨hE, rfl, rfl⟩))
  · skip
    refine go_iconst X (v := (-1)) dX6_ofSubject_11 (by decide) ?_
    exact go_ireturn X hr hlk dX6_ofSubject_12 ((have hE : ofSubjS (nI ns) (σ 8) (σ 9) (fun z9 => setS (doX σ z9) nd) a what = (-1) := (by unfold ofSubjS; (try dsimp only); exact (cif_f c8).trans (rfl)); ⟨hE, rfl, rfl⟩))

theorem hdX6_fear : yX6_fear.cls = RX6 ∧ yX6_fear.cls ≠ "java/lang/invoke/MethodHandle" ∧ yX6_fear.cls ≠ "java/lang/invoke/VarHandle" ∧ (parseMethodDescriptor yX6_fear.desc).map (fun d => d.parameters.length) = some 2 := by decide +kernel
set_option maxHeartbeats 4000000 in
set_option maxRecDepth 100000 in
theorem kX6_fear (l : Launch) (D : va_G) (cs : Nat → ClassId) (ad : Nat → Nat) (N kt : Nat) (hN : 58 ≤ N) (σ : vSg) (τ : vTa) (a : Int32) (d : Int32) (nd : Nat) (ns : Nat) (nr : Nat)   (hI : IX σ nd ns nr) : CtI l yX6_fear wsX6_fear ({ frames := 2, cells := 0, slots := 0, locals := 42 }) D cs ad N (shP kt) [.ref (ad (0)), .int a, .int d] σ τ 0 0 (fun r9 σ9 τ9 => fearOS (nI ns) (nI nd) (fun z9 y9 => fearS (σ 8 z9) (σ (20 + y9) 1) (σ (20 + y9) 2)) a d = r9 ∧ σ = σ9 ∧ τ = τ9) := by
  refine ct_I (cc := cX6_fear) (maxL := 3) (by decide) rfl (Nat.le_of_ble_eq_true rfl) rfl rfl ?_
  intro p e s m args below meth c A X hr hlk
  obtain ⟨⟨hnd, hnd5⟩, ⟨hns, hns4⟩, hdd, hkp, ⟨hnr, hnr8⟩, hrd, hrw⟩ := id hI
  refine go_aload_n X dX6_fear_0 0 rfl rfl ?_
  refine go_getr X (n := 0) (j := 1) (by omega) rfl rfl (fun _ h9 => List.mem_cons_of_mem _ (List.mem_append_left _ (List.mem_append_right _ h9))) (by decide) (List.mem_cons_of_mem _ (List.mem_append_left _ (List.mem_append_left _ (List.mem_of_getElem? (i := 0) rfl)))) rfl dX6_fear_1 ?_
  refine go_iload_n X dX6_fear_4 1 rfl rfl ?_
  refine go_callVI X (n := 2) (As := [.int a]) (rest := []) (kX2_hasSubject l D cs ad N kt (by omega) σ τ a (nI ns) (hns)) gX6_fear_X2_hasSubject rfl hdX2_hasSubject ⟨rfl, rfl, by decide, by decide, by decide, by decide⟩ (by omega) rfl rfl rfl rfl (Nat.le_of_ble_eq_true rfl) dX6_fear_5 (fun r9 σ9 τ9 h9 => ?_)
  obtain ⟨rfl, rfl, rfl⟩ := h9
  refine go_ifb_eq X (tgt := 22) dX6_fear_8 (by decide) (fun c8 => ?_) (fun c8 => ?_)
  · skip
    refine go_iconst X (v := (-1)) dX6_fear_22 (by decide) ?_
    exact go_ireturn X hr hlk dX6_fear_23 ((have hE : fearOS (nI ns) (nI nd) (fun z9 y9 => fearS (σ 8 z9) (σ (20 + y9) 1) (σ (20 + y9) 2)) a d = (-1) := (by unfold fearOS; (try dsimp only); exact (cif_f c8).trans (rfl)); ⟨hE, rfl, rfl⟩))
  · skip
    obtain ⟨i, hi, rfl⟩ := isB_nat c8 (by omega)
    refine go_aload_n X dX6_fear_11 0 rfl rfl ?_
    refine go_getr X (n := 0) (j := 1) (by omega) rfl rfl (fun _ h9 => List.mem_cons_of_mem _ (List.mem_append_left _ (List.mem_append_right _ h9))) (by decide) (List.mem_cons_of_mem _ (List.mem_append_left _ (List.mem_append_left _ (List.mem_of_getElem? (i := 0) rfl)))) rfl dX6_fear_12 ?_
    refine go_iload_n X dX6_fear_15 2 rfl rfl ?_
    refine go_callVI X (n := 2) (As := [.int d]) (rest := []) (kX2_hasDeed l D cs ad N kt (by omega) σ τ d (nI nd) (hnd)) gX6_fear_X2_hasDeed rfl hdX2_hasDeed ⟨rfl, rfl, by decide, by decide, by decide, by decide⟩ (by omega) rfl rfl rfl rfl (Nat.le_of_ble_eq_true rfl) dX6_fear_16 (fun r9 σ9 τ9 h9 => ?_)
    obtain ⟨rfl, rfl, rfl⟩ := h9
    refine go_ifb_ne X (tgt := 24) dX6_fear_19 (by decide) (fun c19 => ?_) (fun c19 => ?_)
    · skip
      obtain ⟨j, hj, rfl⟩ := isB_nat c19 (by omega)
      refine go_aload_n X dX6_fear_24 0 rfl rfl ?_
      refine go_getr X (n := 0) (j := 1) (by omega) rfl rfl (fun _ h9 => List.mem_cons_of_mem _ (List.mem_append_left _ (List.mem_append_right _ h9))) (by decide) (List.mem_cons_of_mem _ (List.mem_append_left _ (List.mem_append_left _ (List.mem_of_getElem? (i := 0) rfl)))) rfl dX6_fear_25 ?_
      refine go_iload_n X dX6_fear_28 1 rfl rfl ?_
      refine go_iload_n X dX6_fear_29 2 rfl rfl ?_
      refine go_callVI X (n := 2) (As := [.int (nI i), .int (nI j)]) (rest := []) (kX2_fearOf l D cs ad N kt (by omega) σ τ i j (σ 8 i) (rfl) (σ (20 + j) 1) (rfl) (σ (20 + j) 2) (rfl) (by omega) (by omega)) gX6_fear_X2_fearOf rfl hdX2_fearOf ⟨rfl, rfl, by decide, by decide, by decide, by decide⟩ (by omega) rfl rfl rfl rfl (Nat.le_of_ble_eq_true rfl) dX6_fear_30 (fun r9 σ9 τ9 h9 => ?_)
      obtain ⟨rfl, rfl, rfl⟩ := h9
      exact go_ireturn X hr hlk dX6_fear_33 ((have hE : fearOS (nI ns) (nI nd) (fun z9 y9 => fearS (σ 8 z9) (σ (20 + y9) 1) (σ (20 + y9) 2)) (nI i) (nI j) = fearS (σ 8 i) (σ (20 + j) 1) (σ (20 + j) 2) := (by unfold fearOS; (try dsimp only); (try rw [toN_nI (k := i) (by omega)]); (try rw [toN_nI (k := j) (by omega)]); exact (cif_t c8).trans ((cif_t c19).trans (rfl))); ⟨hE, rfl, rfl⟩))
    · skip
      refine go_iconst X (v := (-1)) dX6_fear_22 (by decide) ?_
      exact go_ireturn X hr hlk dX6_fear_23 ((have hE : fearOS (nI ns) (nI nd) (fun z9 y9 => fearS (σ 8 z9) (σ (20 + y9) 1) (σ (20 + y9) 2)) (nI i) d = (-1) := (by unfold fearOS; (try dsimp only); (try rw [toN_nI (k := i) (by omega)]); exact (cif_t c8).trans ((cif_f c19).trans (rfl))); ⟨hE, rfl, rfl⟩))

theorem hdX6_alter : yX6_alter.cls = RX6 ∧ yX6_alter.cls ≠ "java/lang/invoke/MethodHandle" ∧ yX6_alter.cls ≠ "java/lang/invoke/VarHandle" ∧ (parseMethodDescriptor yX6_alter.desc).map (fun d => d.parameters.length) = some 3 := by decide +kernel
set_option maxHeartbeats 4000000 in
set_option maxRecDepth 100000 in
theorem kX6_alter (l : Launch) (D : va_G) (cs : Nat → ClassId) (ad : Nat → Nat) (N kt : Nat) (hN : 58 ≤ N) (σ : vSg) (τ : vTa) (d : Int32) (what : Int32) (v : Int32) (nd : Nat) (ns : Nat) (nr : Nat)   (hI : IX σ nd ns nr) : CtI l yX6_alter wsX6_alter ({ frames := 2, cells := 0, slots := 0, locals := 42 }) D cs ad N (shP kt) [.ref (ad (0)), .int d, .int what, .int v] σ τ 0 0 (fun r9 σ9 τ9 => alterS (nI nd) (fun z9 y9 => σ (20 + z9) y9) d what v = r9 ∧ cif (isB d (nI nd) ∧ isB what 3 ∧ isB v 10) (up2 σ (20 + toN d) (toN what) v) σ = σ9 ∧ τ = τ9) := by
  refine ct_I (cc := cX6_alter) (maxL := 5) (by decide) rfl (Nat.le_of_ble_eq_true rfl) rfl rfl ?_
  intro p e s m args below meth c A X hr hlk
  obtain ⟨⟨hnd, hnd5⟩, ⟨hns, hns4⟩, hdd, hkp, ⟨hnr, hnr8⟩, hrd, hrw⟩ := id hI
  refine go_aload_n X dX6_alter_0 0 rfl rfl ?_
  refine go_getr X (n := 0) (j := 1) (by omega) rfl rfl (fun _ h9 => List.mem_cons_of_mem _ (List.mem_append_left _ (List.mem_append_right _ h9))) (by decide) (List.mem_cons_of_mem _ (List.mem_append_left _ (List.mem_append_left _ (List.mem_of_getElem? (i := 0) rfl)))) rfl dX6_alter_1 ?_
  refine go_iload_n X dX6_alter_4 1 rfl rfl ?_
  refine go_callVI X (n := 2) (As := [.int d]) (rest := []) (kX2_hasDeed l D cs ad N kt (by omega) σ τ d (nI nd) (hnd)) gX6_alter_X2_hasDeed rfl hdX2_hasDeed ⟨rfl, rfl, by decide, by decide, by decide, by decide⟩ (by omega) rfl rfl rfl rfl (Nat.le_of_ble_eq_true rfl) dX6_alter_5 (fun r9 σ9 τ9 h9 => ?_)
  obtain ⟨rfl, rfl, rfl⟩ := h9
  refine go_ifb_ne X (tgt := 13) dX6_alter_8 (by decide) (fun c8 => ?_) (fun c8 => ?_)
  · skip
    obtain ⟨i, hi, rfl⟩ := isB_nat c8 (by omega)
    refine go_iload_n X dX6_alter_13 2 rfl rfl ?_
    refine go_iconst X (v := 3) dX6_alter_14 (by decide) ?_
    refine go_callSI X (As := [.int what, .int 3]) (rest := []) (kX6_isBelow l D cs ad N kt (by omega) σ τ what 3) gX6_alter_X6_isBelow rfl hdX6_isBelow ⟨rfl, rfl, by decide, by decide, by decide, by decide⟩ rfl rfl (Nat.le_of_ble_eq_true rfl) dX6_alter_15 (fun r9 σ9 τ9 h9 => ?_)
    obtain ⟨rfl, rfl, rfl⟩ := h9
    refine go_ifb_eq X (tgt := 30) dX6_alter_18 (by decide) (fun c18 => ?_) (fun c18 => ?_)
    · skip
      refine go_bipush X (v := (-2)) dX6_alter_30 (by decide) ?_
      exact go_ireturn X hr hlk dX6_alter_32 ((have hE : alterS (nI nd) (fun z9 y9 => σ (20 + z9) y9) (nI i) what v = (-2) := (by unfold alterS; (try dsimp only); (try rw [toN_nI (k := i) (by omega)]); exact (cif_t c8).trans ((cif_f c18).trans (rfl))); ⟨hE, cif_f (fun q => c18 q.2.1), rfl⟩))
    · skip
      obtain ⟨j, hj, rfl⟩ := isB_nat (b := 3) c18 (by omega)
      refine go_iload_n X dX6_alter_21 3 rfl rfl ?_
      refine go_bipush X (v := 10) dX6_alter_22 (by decide) ?_
      refine go_callSI X (As := [.int v, .int 10]) (rest := []) (kX6_isBelow l D cs ad N kt (by omega) σ τ v 10) gX6_alter_X6_isBelow rfl hdX6_isBelow ⟨rfl, rfl, by decide, by decide, by decide, by decide⟩ rfl rfl (Nat.le_of_ble_eq_true rfl) dX6_alter_24 (fun r9 σ9 τ9 h9 => ?_)
      obtain ⟨rfl, rfl, rfl⟩ := h9
      refine go_ifb_ne X (tgt := 33) dX6_alter_27 (by decide) (fun c27 => ?_) (fun c27 => ?_)
      · skip
        refine go_aload_n X dX6_alter_33 0 rfl rfl ?_
        refine go_getr X (n := 0) (j := 1) (by omega) rfl rfl (fun _ h9 => List.mem_cons_of_mem _ (List.mem_append_left _ (List.mem_append_right _ h9))) (by decide) (List.mem_cons_of_mem _ (List.mem_append_left _ (List.mem_append_left _ (List.mem_of_getElem? (i := 0) rfl)))) rfl dX6_alter_34 ?_
        refine go_getr X (n := 2) (j := 0) (by omega) rfl rfl (fun _ h9 => List.mem_cons_of_mem _ (List.mem_append_right _ h9)) (by decide) (List.mem_cons_of_mem _ (List.mem_append_left _ (List.mem_append_left _ (List.mem_of_getElem? (i := 1) rfl)))) rfl dX6_alter_37 ?_
        refine go_iload_n X dX6_alter_40 1 rfl rfl ?_
        refine go_aald4 X (n := 7) (k := i) (by omega) rfl rfl (by omega) (by omega) dX6_alter_41 ?_
        refine go_iload_n X dX6_alter_42 2 rfl rfl ?_
        refine go_iald X (n := 20 + i) (k := j) (by omega) (sh_deed (by omega)) rfl (by omega) (by omega) dX6_alter_43 ?_
        refine go_istore X (lv2 := [(4, .int (σ (20 + i) j)), (0, .ref (ad (0))), (1, .int (nI i)), (2, .int (nI j)), (3, .int v)]) dX6_alter_44 (by decide) rfl ?_
        refine go_aload_n X dX6_alter_46 1 rfl rfl ?_
        refine go_getr X (n := 0) (j := 1) (by omega) rfl rfl (fun _ h9 => List.mem_cons_of_mem _ (List.mem_append_left _ (List.mem_append_right _ h9))) (by decide) (List.mem_cons_of_mem _ (List.mem_append_left _ (List.mem_append_left _ (List.mem_of_getElem? (i := 0) rfl)))) rfl dX6_alter_47 ?_
        refine go_getr X (n := 2) (j := 0) (by omega) rfl rfl (fun _ h9 => List.mem_cons_of_mem _ (List.mem_append_right _ h9)) (by decide) (List.mem_cons_of_mem _ (List.mem_append_left _ (List.mem_append_left _ (List.mem_of_getElem? (i := 1) rfl)))) rfl dX6_alter_50 ?_
        refine go_iload_n X dX6_alter_53 2 rfl rfl ?_
        refine go_aald4 X (n := 7) (k := i) (by omega) rfl rfl (by omega) (by omega) dX6_alter_54 ?_
        refine go_iload_n X dX6_alter_55 3 rfl rfl ?_
        refine go_iload_n X dX6_alter_56 4 rfl rfl ?_
        refine go_iast X (n := 20 + i) (k := j) (by omega) (sh_deed (by omega)) rfl (by omega) (by omega) dX6_alter_57 ?_
        refine go_iload X dX6_alter_58 0 rfl ?_
        exact go_ireturn X hr hlk dX6_alter_60 ((have hE : alterS (nI nd) (fun z9 y9 => σ (20 + z9) y9) (nI i) (nI j) v = σ (20 + i) j := (by unfold alterS; (try dsimp only); (try rw [toN_nI (k := i) (by omega)]); (try rw [toN_nI (k := j) (by omega)]); exact (cif_t c8).trans ((cif_t c18).trans ((cif_t c27).trans (rfl)))); ⟨hE, (cif_t ⟨c8, c18, c27⟩).trans (by rw [toN_nI (k := i) (by omega), toN_nI (k := j) (by omega)]), rfl⟩))
      · skip
        refine go_bipush X (v := (-2)) dX6_alter_30 (by decide) ?_
        exact go_ireturn X hr hlk dX6_alter_32 ((have hE : alterS (nI nd) (fun z9 y9 => σ (20 + z9) y9) (nI i) (nI j) v = (-2) := (by unfold alterS; (try dsimp only); (try rw [toN_nI (k := i) (by omega)]); (try rw [toN_nI (k := j) (by omega)]); exact (cif_t c8).trans ((cif_t c18).trans ((cif_f c27).trans (rfl)))); ⟨hE, cif_f (fun q => c27 q.2.2), rfl⟩))
  · skip
    refine go_iconst X (v := (-1)) dX6_alter_11 (by decide) ?_
    exact go_ireturn X hr hlk dX6_alter_12 ((have hE : alterS (nI nd) (fun z9 y9 => σ (20 + z9) y9) d what v = (-1) := (by unfold alterS; (try dsimp only); exact (cif_f c8).trans (rfl)); ⟨hE, cif_f (fun q => c8 q.1), rfl⟩))

theorem hdX6_grant : yX6_grant.cls = RX6 ∧ yX6_grant.cls ≠ "java/lang/invoke/MethodHandle" ∧ yX6_grant.cls ≠ "java/lang/invoke/VarHandle" ∧ (parseMethodDescriptor yX6_grant.desc).map (fun d => d.parameters.length) = some 2 := by decide +kernel
set_option maxHeartbeats 4000000 in
set_option maxRecDepth 100000 in
theorem kX6_grant (l : Launch) (D : va_G) (cs : Nat → ClassId) (ad : Nat → Nat) (N kt : Nat) (hN : 58 ≤ N) (σ : vSg) (τ : vTa) (a : Int32) (v : Int32) (nd : Nat) (ns : Nat) (nr : Nat)   (hI : IX σ nd ns nr) : CtI l yX6_grant wsX6_grant ({ frames := 2, cells := 0, slots := 0, locals := 42 }) D cs ad N (shP kt) [.ref (ad (0)), .int a, .int v] σ τ 0 0 (fun r9 σ9 τ9 => grantS (nI ns) (σ 9) a v = r9 ∧ cif (isB a (nI ns) ∧ isB v 4) (up2 σ 9 (toN a) v) σ = σ9 ∧ τ = τ9) := by
  refine ct_I (cc := cX6_grant) (maxL := 4) (by decide) rfl (Nat.le_of_ble_eq_true rfl) rfl rfl ?_
  intro p e s m args below meth c A X hr hlk
  obtain ⟨⟨hnd, hnd5⟩, ⟨hns, hns4⟩, hdd, hkp, ⟨hnr, hnr8⟩, hrd, hrw⟩ := id hI
  refine go_aload_n X dX6_grant_0 0 rfl rfl ?_
  refine go_getr X (n := 0) (j := 1) (by omega) rfl rfl (fun _ h9 => List.mem_cons_of_mem _ (List.mem_append_left _ (List.mem_append_right _ h9))) (by decide) (List.mem_cons_of_mem _ (List.mem_append_left _ (List.mem_append_left _ (List.mem_of_getElem? (i := 0) rfl)))) rfl dX6_grant_1 ?_
  refine go_iload_n X dX6_grant_4 1 rfl rfl ?_
  refine go_callVI X (n := 2) (As := [.int a]) (rest := []) (kX2_hasSubject l D cs ad N kt (by omega) σ τ a (nI ns) (hns)) gX6_grant_X2_hasSubject rfl hdX2_hasSubject ⟨rfl, rfl, by decide, by decide, by decide, by decide⟩ (by omega) rfl rfl rfl rfl (Nat.le_of_ble_eq_true rfl) dX6_grant_5 (fun r9 σ9 τ9 h9 => ?_)
  obtain ⟨rfl, rfl, rfl⟩ := h9
  refine go_ifb_ne X (tgt := 13) dX6_grant_8 (by decide) (fun c8 => ?_) (fun c8 => ?_)
  · skip
    obtain ⟨i, hi, rfl⟩ := isB_nat c8 (by omega)
    refine go_iload_n X dX6_grant_13 2 rfl rfl ?_
    refine go_iconst X (v := 4) dX6_grant_14 (by decide) ?_
    refine go_callSI X (As := [.int v, .int 4]) (rest := []) (kX6_isBelow l D cs ad N kt (by omega) σ τ v 4) gX6_grant_X6_isBelow rfl hdX6_isBelow ⟨rfl, rfl, by decide, by decide, by decide, by decide⟩ rfl rfl (Nat.le_of_ble_eq_true rfl) dX6_grant_15 (fun r9 σ9 τ9 h9 => ?_)
    obtain ⟨rfl, rfl, rfl⟩ := h9
    refine go_ifb_ne X (tgt := 24) dX6_grant_18 (by decide) (fun c18 => ?_) (fun c18 => ?_)
    · skip
      refine go_aload_n X dX6_grant_24 0 rfl rfl ?_
      refine go_getr X (n := 0) (j := 1) (by omega) rfl rfl (fun _ h9 => List.mem_cons_of_mem _ (List.mem_append_left _ (List.mem_append_right _ h9))) (by decide) (List.mem_cons_of_mem _ (List.mem_append_left _ (List.mem_append_left _ (List.mem_of_getElem? (i := 0) rfl)))) rfl dX6_grant_25 ?_
      refine go_getr X (n := 2) (j := 2) (by omega) rfl rfl (fun _ h9 => List.mem_cons_of_mem _ (List.mem_append_right _ h9)) (by decide) (List.mem_cons_of_mem _ (List.mem_append_left _ (List.mem_append_left _ (List.mem_of_getElem? (i := 1) rfl)))) rfl dX6_grant_28 ?_
      refine go_iload_n X dX6_grant_31 1 rfl rfl ?_
      refine go_iald X (n := 9) (k := i) (by omega) rfl rfl (by omega) (by omega) dX6_grant_32 ?_
      refine go_istore_n X (lv2 := [(3, .int (σ 9 i)), (0, .ref (ad (0))), (1, .int (nI i)), (2, .int v)]) dX6_grant_33 rfl (by decide) rfl ?_
      refine go_aload_n X dX6_grant_34 1 rfl rfl ?_
      refine go_getr X (n := 0) (j := 1) (by omega) rfl rfl (fun _ h9 => List.mem_cons_of_mem _ (List.mem_append_left _ (List.mem_append_right _ h9))) (by decide) (List.mem_cons_of_mem _ (List.mem_append_left _ (List.mem_append_left _ (List.mem_of_getElem? (i := 0) rfl)))) rfl dX6_grant_35 ?_
      refine go_getr X (n := 2) (j := 2) (by omega) rfl rfl (fun _ h9 => List.mem_cons_of_mem _ (List.mem_append_right _ h9)) (by decide) (List.mem_cons_of_mem _ (List.mem_append_left _ (List.mem_append_left _ (List.mem_of_getElem? (i := 1) rfl)))) rfl dX6_grant_38 ?_
      refine go_iload_n X dX6_grant_41 2 rfl rfl ?_
      refine go_iload_n X dX6_grant_42 3 rfl rfl ?_
      refine go_iast X (n := 9) (k := i) (by omega) rfl rfl (by omega) (by omega) dX6_grant_43 ?_
      refine go_iload_n X dX6_grant_44 0 rfl rfl ?_
      exact go_ireturn X hr hlk dX6_grant_45 ((have hE : grantS (nI ns) (σ 9) (nI i) v = σ 9 i := (by unfold grantS; (try dsimp only); (try rw [toN_nI (k := i) (by omega)]); exact (cif_t c8).trans ((cif_t c18).trans (rfl))); ⟨hE, (cif_t ⟨c8, c18⟩).trans (by rw [toN_nI (k := i) (by omega)]), rfl⟩))
    · skip
      refine go_bipush X (v := (-2)) dX6_grant_21 (by decide) ?_
      exact go_ireturn X hr hlk dX6_grant_23 ((have hE : grantS (nI ns) (σ 9) (nI i) v = (-2) := (by unfold grantS; (try dsimp only); (try rw [toN_nI (k := i) (by omega)]); exact (cif_t c8).trans ((cif_f c18).trans (rfl))); ⟨hE, cif_f (fun q => c18 q.2), rfl⟩))
  · skip
    refine go_iconst X (v := (-1)) dX6_grant_11 (by decide) ?_
    exact go_ireturn X hr hlk dX6_grant_12 ((have hE : grantS (nI ns) (σ 9) a v = (-1) := (by unfold grantS; (try dsimp only); exact (cif_f c8).trans (rfl)); ⟨hE, cif_f (fun q => c8 q.1), rfl⟩))
end
