section
-- ===== PART A: goes FIRST, ahead of the names: the tables' words, and 'selects' of the private methods out of them =====
/-- a private method of a class that the tables say can be made, by its rows of tables_1 -/
def lw_okq (q : MethodName × Nat) : Prop := (q.1.cls ≠ "java/lang/invoke/MethodHandle" ∧ q.1.cls ≠ "java/lang/invoke/VarHandle") ∧ Cond.instantiable q.1.cls q.2 ∈ tables_1 ∧ Cond.privateMethod q.1 ∈ tables_1 ∧ Cond.instanceMethod q.1 ∈ tables_1
theorem lw_p0 : lw_okq (⟨"FlagChips", "endOfAll", "()I"⟩, 3) := ⟨⟨by decide +kernel, by decide +kernel⟩, List.mem_of_getElem? (i := 23) (by decide +kernel), List.mem_of_getElem? (i := 101) (by decide +kernel), List.mem_of_getElem? (i := 102) (by decide +kernel)⟩
theorem lw_p1 : lw_okq (⟨"FlagChips", "allWords", "()I"⟩, 3) := ⟨⟨by decide +kernel, by decide +kernel⟩, List.mem_of_getElem? (i := 23) (by decide +kernel), List.mem_of_getElem? (i := 153) (by decide +kernel), List.mem_of_getElem? (i := 154) (by decide +kernel)⟩
theorem lw_p2 : lw_okq (⟨"FlagChips", "allWrongWords", "()I"⟩, 3) := ⟨⟨by decide +kernel, by decide +kernel⟩, List.mem_of_getElem? (i := 23) (by decide +kernel), List.mem_of_getElem? (i := 157) (by decide +kernel), List.mem_of_getElem? (i := 158) (by decide +kernel)⟩
theorem lw_p3 : lw_okq (⟨"FlagChips", "freeCodes", "()I"⟩, 3) := ⟨⟨by decide +kernel, by decide +kernel⟩, List.mem_of_getElem? (i := 23) (by decide +kernel), List.mem_of_getElem? (i := 200) (by decide +kernel), List.mem_of_getElem? (i := 201) (by decide +kernel)⟩
theorem lw_p4 : lw_okq (⟨"FlagChips", "isTaken", "(I)Z"⟩, 3) := ⟨⟨by decide +kernel, by decide +kernel⟩, List.mem_of_getElem? (i := 23) (by decide +kernel), List.mem_of_getElem? (i := 204) (by decide +kernel), List.mem_of_getElem? (i := 205) (by decide +kernel)⟩
theorem lw_p5 : lw_okq (⟨"java/lang/Throwable", "fillInStackTrace", "(I)Ljava/lang/Throwable;"⟩, 6) := ⟨⟨by decide +kernel, by decide +kernel⟩, List.mem_of_getElem? (i := 246) (by decide +kernel), List.mem_of_getElem? (i := 244) (by decide +kernel), List.mem_of_getElem? (i := 245) (by decide +kernel)⟩
theorem lw_p6 : lw_okq (⟨"FlagChips", "digestHill", "(JI)J"⟩, 3) := ⟨⟨by decide +kernel, by decide +kernel⟩, List.mem_of_getElem? (i := 23) (by decide +kernel), List.mem_of_getElem? (i := 276) (by decide +kernel), List.mem_of_getElem? (i := 277) (by decide +kernel)⟩
theorem lw_p7 : lw_okq (⟨"FlagChips", "hillAt", "(I)LFlagChips$Hill;"⟩, 3) := ⟨⟨by decide +kernel, by decide +kernel⟩, List.mem_of_getElem? (i := 23) (by decide +kernel), List.mem_of_getElem? (i := 284) (by decide +kernel), List.mem_of_getElem? (i := 285) (by decide +kernel)⟩
theorem lw_p8 : lw_okq (⟨"FlagChips", "checkCode", "(I)V"⟩, 3) := ⟨⟨by decide +kernel, by decide +kernel⟩, List.mem_of_getElem? (i := 23) (by decide +kernel), List.mem_of_getElem? (i := 346) (by decide +kernel), List.mem_of_getElem? (i := 347) (by decide +kernel)⟩
theorem lw_p9 : lw_okq (⟨"FlagChips", "checkStrength", "(I)V"⟩, 3) := ⟨⟨by decide +kernel, by decide +kernel⟩, List.mem_of_getElem? (i := 23) (by decide +kernel), List.mem_of_getElem? (i := 355) (by decide +kernel), List.mem_of_getElem? (i := 356) (by decide +kernel)⟩
theorem lw_p10 : lw_okq (⟨"java/util/ArrayList", "add", "(Ljava/lang/Object;[Ljava/lang/Object;I)V"⟩, 3) := ⟨⟨by decide +kernel, by decide +kernel⟩, List.mem_of_getElem? (i := 61) (by decide +kernel), List.mem_of_getElem? (i := 407) (by decide +kernel), List.mem_of_getElem? (i := 408) (by decide +kernel)⟩
theorem lw_p11 : lw_okq (⟨"java/util/ArrayList", "grow", "()[Ljava/lang/Object;"⟩, 3) := ⟨⟨by decide +kernel, by decide +kernel⟩, List.mem_of_getElem? (i := 61) (by decide +kernel), List.mem_of_getElem? (i := 411) (by decide +kernel), List.mem_of_getElem? (i := 412) (by decide +kernel)⟩
theorem lw_p12 : lw_okq (⟨"java/util/ArrayList", "grow", "(I)[Ljava/lang/Object;"⟩, 3) := ⟨⟨by decide +kernel, by decide +kernel⟩, List.mem_of_getElem? (i := 61) (by decide +kernel), List.mem_of_getElem? (i := 415) (by decide +kernel), List.mem_of_getElem? (i := 416) (by decide +kernel)⟩
theorem lw_p13 : lw_okq (⟨"FlagChips", "checkDelay", "(I)V"⟩, 3) := ⟨⟨by decide +kernel, by decide +kernel⟩, List.mem_of_getElem? (i := 23) (by decide +kernel), List.mem_of_getElem? (i := 498) (by decide +kernel), List.mem_of_getElem? (i := 499) (by decide +kernel)⟩
theorem lw_p14 : lw_okq (⟨"FlagChips", "checkTime", "(I)V"⟩, 3) := ⟨⟨by decide +kernel, by decide +kernel⟩, List.mem_of_getElem? (i := 23) (by decide +kernel), List.mem_of_getElem? (i := 535) (by decide +kernel), List.mem_of_getElem? (i := 536) (by decide +kernel)⟩
theorem lw_p15 : lw_okq (⟨"FlagChips", "likenessToAll", "(II)I"⟩, 3) := ⟨⟨by decide +kernel, by decide +kernel⟩, List.mem_of_getElem? (i := 23) (by decide +kernel), List.mem_of_getElem? (i := 589) (by decide +kernel), List.mem_of_getElem? (i := 590) (by decide +kernel)⟩
def lw_privs_1 : List (MethodName × Nat) := [(⟨"FlagChips", "endOfAll", "()I"⟩, 3), (⟨"FlagChips", "allWords", "()I"⟩, 3), (⟨"FlagChips", "allWrongWords", "()I"⟩, 3), (⟨"FlagChips", "freeCodes", "()I"⟩, 3), (⟨"FlagChips", "isTaken", "(I)Z"⟩, 3), (⟨"java/lang/Throwable", "fillInStackTrace", "(I)Ljava/lang/Throwable;"⟩, 6), (⟨"FlagChips", "digestHill", "(JI)J"⟩, 3), (⟨"FlagChips", "hillAt", "(I)LFlagChips$Hill;"⟩, 3), (⟨"FlagChips", "checkCode", "(I)V"⟩, 3), (⟨"FlagChips", "checkStrength", "(I)V"⟩, 3), (⟨"java/util/ArrayList", "add", "(Ljava/lang/Object;[Ljava/lang/Object;I)V"⟩, 3), (⟨"java/util/ArrayList", "grow", "()[Ljava/lang/Object;"⟩, 3), (⟨"java/util/ArrayList", "grow", "(I)[Ljava/lang/Object;"⟩, 3), (⟨"FlagChips", "checkDelay", "(I)V"⟩, 3), (⟨"FlagChips", "checkTime", "(I)V"⟩, 3), (⟨"FlagChips", "likenessToAll", "(II)I"⟩, 3)]
theorem lw_r1 : ∀ q ∈ lw_privs_1, lw_okq q := List.forall_mem_cons.mpr ⟨lw_p0, List.forall_mem_cons.mpr ⟨lw_p1, List.forall_mem_cons.mpr ⟨lw_p2, List.forall_mem_cons.mpr ⟨lw_p3, List.forall_mem_cons.mpr ⟨lw_p4, List.forall_mem_cons.mpr ⟨lw_p5, List.forall_mem_cons.mpr ⟨lw_p6, List.forall_mem_cons.mpr ⟨lw_p7, List.forall_mem_cons.mpr ⟨lw_p8, List.forall_mem_cons.mpr ⟨lw_p9, List.forall_mem_cons.mpr ⟨lw_p10, List.forall_mem_cons.mpr ⟨lw_p11, List.forall_mem_cons.mpr ⟨lw_p12, List.forall_mem_cons.mpr ⟨lw_p13, List.forall_mem_cons.mpr ⟨lw_p14, List.forall_mem_cons.mpr ⟨lw_p15, fun _ h => absurd h List.not_mem_nil⟩⟩⟩⟩⟩⟩⟩⟩⟩⟩⟩⟩⟩⟩⟩⟩
theorem lw_p16 : lw_okq (⟨"FlagChips", "wrongWordsWith", "(LFlagChips$Hill;I)I"⟩, 3) := ⟨⟨by decide +kernel, by decide +kernel⟩, List.mem_of_getElem? (i := 23) (by decide +kernel), List.mem_of_getElem? (i := 600) (by decide +kernel), List.mem_of_getElem? (i := 601) (by decide +kernel)⟩
theorem lw_p17 : lw_okq (⟨"FlagChipsModel", "no", "(I)I"⟩, 9) := ⟨⟨by decide +kernel, by decide +kernel⟩, List.mem_of_getElem? (i := 611) (by decide +kernel), List.mem_of_getElem? (i := 656) (by decide +kernel), List.mem_of_getElem? (i := 657) (by decide +kernel)⟩
theorem lw_p18 : lw_okq (⟨"FlagChipsModel", "isCode", "(I)Z"⟩, 9) := ⟨⟨by decide +kernel, by decide +kernel⟩, List.mem_of_getElem? (i := 611) (by decide +kernel), List.mem_of_getElem? (i := 664) (by decide +kernel), List.mem_of_getElem? (i := 665) (by decide +kernel)⟩
theorem lw_p19 : lw_okq (⟨"FlagChipsModel", "isHill", "(I)Z"⟩, 9) := ⟨⟨by decide +kernel, by decide +kernel⟩, List.mem_of_getElem? (i := 611) (by decide +kernel), List.mem_of_getElem? (i := 675) (by decide +kernel), List.mem_of_getElem? (i := 676) (by decide +kernel)⟩
theorem lw_p20 : lw_okq (⟨"FlagChipsModel", "skyAt", "(I)I"⟩, 9) := ⟨⟨by decide +kernel, by decide +kernel⟩, List.mem_of_getElem? (i := 611) (by decide +kernel), List.mem_of_getElem? (i := 710) (by decide +kernel), List.mem_of_getElem? (i := 711) (by decide +kernel)⟩
theorem lw_p21 : lw_okq (⟨"FlagChipsModel", "signal", "(II)I"⟩, 9) := ⟨⟨by decide +kernel, by decide +kernel⟩, List.mem_of_getElem? (i := 611) (by decide +kernel), List.mem_of_getElem? (i := 714) (by decide +kernel), List.mem_of_getElem? (i := 715) (by decide +kernel)⟩
theorem lw_p22 : lw_okq (⟨"FlagChipsModel", "heard", "(II)I"⟩, 9) := ⟨⟨by decide +kernel, by decide +kernel⟩, List.mem_of_getElem? (i := 611) (by decide +kernel), List.mem_of_getElem? (i := 722) (by decide +kernel), List.mem_of_getElem? (i := 723) (by decide +kernel)⟩
theorem lw_p23 : lw_okq (⟨"FlagChipsModel", "wordTold", "(III)I"⟩, 9) := ⟨⟨by decide +kernel, by decide +kernel⟩, List.mem_of_getElem? (i := 611) (by decide +kernel), List.mem_of_getElem? (i := 730) (by decide +kernel), List.mem_of_getElem? (i := 731) (by decide +kernel)⟩
theorem lw_p24 : lw_okq (⟨"FlagChipsModel", "heardOf", "(II)I"⟩, 9) := ⟨⟨by decide +kernel, by decide +kernel⟩, List.mem_of_getElem? (i := 611) (by decide +kernel), List.mem_of_getElem? (i := 734) (by decide +kernel), List.mem_of_getElem? (i := 735) (by decide +kernel)⟩
theorem lw_p25 : lw_okq (⟨"FlagChipsModel", "beginOf", "(II)I"⟩, 9) := ⟨⟨by decide +kernel, by decide +kernel⟩, List.mem_of_getElem? (i := 611) (by decide +kernel), List.mem_of_getElem? (i := 738) (by decide +kernel), List.mem_of_getElem? (i := 739) (by decide +kernel)⟩
theorem lw_p26 : lw_okq (⟨"FlagChipsModel", "isWrong", "(II)I"⟩, 9) := ⟨⟨by decide +kernel, by decide +kernel⟩, List.mem_of_getElem? (i := 611) (by decide +kernel), List.mem_of_getElem? (i := 742) (by decide +kernel), List.mem_of_getElem? (i := 743) (by decide +kernel)⟩
theorem lw_p27 : lw_okq (⟨"FlagChipsModel", "hillTold", "(II)I"⟩, 9) := ⟨⟨by decide +kernel, by decide +kernel⟩, List.mem_of_getElem? (i := 611) (by decide +kernel), List.mem_of_getElem? (i := 753) (by decide +kernel), List.mem_of_getElem? (i := 754) (by decide +kernel)⟩
theorem lw_p28 : lw_okq (⟨"FlagChipsModel", "wrongOf", "(I)I"⟩, 9) := ⟨⟨by decide +kernel, by decide +kernel⟩, List.mem_of_getElem? (i := 611) (by decide +kernel), List.mem_of_getElem? (i := 757) (by decide +kernel), List.mem_of_getElem? (i := 758) (by decide +kernel)⟩
theorem lw_p29 : lw_okq (⟨"FlagChipsModel", "endOf", "(I)I"⟩, 9) := ⟨⟨by decide +kernel, by decide +kernel⟩, List.mem_of_getElem? (i := 611) (by decide +kernel), List.mem_of_getElem? (i := 761) (by decide +kernel), List.mem_of_getElem? (i := 762) (by decide +kernel)⟩
theorem lw_p30 : lw_okq (⟨"FlagChipsModel", "faintest", "(I)I"⟩, 9) := ⟨⟨by decide +kernel, by decide +kernel⟩, List.mem_of_getElem? (i := 611) (by decide +kernel), List.mem_of_getElem? (i := 765) (by decide +kernel), List.mem_of_getElem? (i := 766) (by decide +kernel)⟩
theorem lw_p31 : lw_okq (⟨"FlagChipsModel", "counted", "(I)I"⟩, 9) := ⟨⟨by decide +kernel, by decide +kernel⟩, List.mem_of_getElem? (i := 611) (by decide +kernel), List.mem_of_getElem? (i := 775) (by decide +kernel), List.mem_of_getElem? (i := 776) (by decide +kernel)⟩
def lw_privs_2 : List (MethodName × Nat) := [(⟨"FlagChips", "wrongWordsWith", "(LFlagChips$Hill;I)I"⟩, 3), (⟨"FlagChipsModel", "no", "(I)I"⟩, 9), (⟨"FlagChipsModel", "isCode", "(I)Z"⟩, 9), (⟨"FlagChipsModel", "isHill", "(I)Z"⟩, 9), (⟨"FlagChipsModel", "skyAt", "(I)I"⟩, 9), (⟨"FlagChipsModel", "signal", "(II)I"⟩, 9), (⟨"FlagChipsModel", "heard", "(II)I"⟩, 9), (⟨"FlagChipsModel", "wordTold", "(III)I"⟩, 9), (⟨"FlagChipsModel", "heardOf", "(II)I"⟩, 9), (⟨"FlagChipsModel", "beginOf", "(II)I"⟩, 9), (⟨"FlagChipsModel", "isWrong", "(II)I"⟩, 9), (⟨"FlagChipsModel", "hillTold", "(II)I"⟩, 9), (⟨"FlagChipsModel", "wrongOf", "(I)I"⟩, 9), (⟨"FlagChipsModel", "endOf", "(I)I"⟩, 9), (⟨"FlagChipsModel", "faintest", "(I)I"⟩, 9), (⟨"FlagChipsModel", "counted", "(I)I"⟩, 9)]
theorem lw_r2 : ∀ q ∈ lw_privs_2, lw_okq q := List.forall_mem_cons.mpr ⟨lw_p16, List.forall_mem_cons.mpr ⟨lw_p17, List.forall_mem_cons.mpr ⟨lw_p18, List.forall_mem_cons.mpr ⟨lw_p19, List.forall_mem_cons.mpr ⟨lw_p20, List.forall_mem_cons.mpr ⟨lw_p21, List.forall_mem_cons.mpr ⟨lw_p22, List.forall_mem_cons.mpr ⟨lw_p23, List.forall_mem_cons.mpr ⟨lw_p24, List.forall_mem_cons.mpr ⟨lw_p25, List.forall_mem_cons.mpr ⟨lw_p26, List.forall_mem_cons.mpr ⟨lw_p27, List.forall_mem_cons.mpr ⟨lw_p28, List.forall_mem_cons.mpr ⟨lw_p29, List.forall_mem_cons.mpr ⟨lw_p30, List.forall_mem_cons.mpr ⟨lw_p31, fun _ h => absurd h List.not_mem_nil⟩⟩⟩⟩⟩⟩⟩⟩⟩⟩⟩⟩⟩⟩⟩⟩
theorem lw_p32 : lw_okq (⟨"FlagChipsModel", "allWrong", "()I"⟩, 9) := ⟨⟨by decide +kernel, by decide +kernel⟩, List.mem_of_getElem? (i := 611) (by decide +kernel), List.mem_of_getElem? (i := 779) (by decide +kernel), List.mem_of_getElem? (i := 780) (by decide +kernel)⟩
theorem lw_p33 : lw_okq (⟨"FlagChipsModel", "end", "()I"⟩, 9) := ⟨⟨by decide +kernel, by decide +kernel⟩, List.mem_of_getElem? (i := 611) (by decide +kernel), List.mem_of_getElem? (i := 783) (by decide +kernel), List.mem_of_getElem? (i := 784) (by decide +kernel)⟩
theorem lw_p34 : lw_okq (⟨"FlagChipsModel", "highest", "()I"⟩, 9) := ⟨⟨by decide +kernel, by decide +kernel⟩, List.mem_of_getElem? (i := 611) (by decide +kernel), List.mem_of_getElem? (i := 788) (by decide +kernel), List.mem_of_getElem? (i := 789) (by decide +kernel)⟩
theorem lw_p35 : lw_okq (⟨"FlagChipsModel", "isTaken", "(I)Z"⟩, 9) := ⟨⟨by decide +kernel, by decide +kernel⟩, List.mem_of_getElem? (i := 611) (by decide +kernel), List.mem_of_getElem? (i := 792) (by decide +kernel), List.mem_of_getElem? (i := 793) (by decide +kernel)⟩
theorem lw_p36 : lw_okq (⟨"FlagChipsModel", "likeness", "(III)I"⟩, 9) := ⟨⟨by decide +kernel, by decide +kernel⟩, List.mem_of_getElem? (i := 611) (by decide +kernel), List.mem_of_getElem? (i := 800) (by decide +kernel), List.mem_of_getElem? (i := 801) (by decide +kernel)⟩
theorem lw_p37 : lw_okq (⟨"FlagChipsModel", "disturbed", "(II)I"⟩, 9) := ⟨⟨by decide +kernel, by decide +kernel⟩, List.mem_of_getElem? (i := 611) (by decide +kernel), List.mem_of_getElem? (i := 812) (by decide +kernel), List.mem_of_getElem? (i := 813) (by decide +kernel)⟩
theorem lw_p38 : lw_okq (⟨"FlagChipsModel", "wrongWith", "(II)I"⟩, 9) := ⟨⟨by decide +kernel, by decide +kernel⟩, List.mem_of_getElem? (i := 611) (by decide +kernel), List.mem_of_getElem? (i := 820) (by decide +kernel), List.mem_of_getElem? (i := 821) (by decide +kernel)⟩
def lw_privs_3 : List (MethodName × Nat) := [(⟨"FlagChipsModel", "allWrong", "()I"⟩, 9), (⟨"FlagChipsModel", "end", "()I"⟩, 9), (⟨"FlagChipsModel", "highest", "()I"⟩, 9), (⟨"FlagChipsModel", "isTaken", "(I)Z"⟩, 9), (⟨"FlagChipsModel", "likeness", "(III)I"⟩, 9), (⟨"FlagChipsModel", "disturbed", "(II)I"⟩, 9), (⟨"FlagChipsModel", "wrongWith", "(II)I"⟩, 9)]
theorem lw_r3 : ∀ q ∈ lw_privs_3, lw_okq q := List.forall_mem_cons.mpr ⟨lw_p32, List.forall_mem_cons.mpr ⟨lw_p33, List.forall_mem_cons.mpr ⟨lw_p34, List.forall_mem_cons.mpr ⟨lw_p35, List.forall_mem_cons.mpr ⟨lw_p36, List.forall_mem_cons.mpr ⟨lw_p37, List.forall_mem_cons.mpr ⟨lw_p38, fun _ h => absurd h List.not_mem_nil⟩⟩⟩⟩⟩⟩⟩
def lw_privs : List (MethodName × Nat) := lw_privs_1 ++ (lw_privs_2 ++ (lw_privs_3))
def lw_tbl : List Cond := k2_sels lw_privs ++ tables_1
theorem lw_privs_ok : ∀ q ∈ lw_privs, lw_okq q := by
  show ∀ q ∈ lw_privs_1 ++ (lw_privs_2 ++ (lw_privs_3)), lw_okq q
  exact List.forall_mem_append.mpr ⟨lw_r1, List.forall_mem_append.mpr ⟨lw_r2, lw_r3⟩⟩
/-- the streams that the claim lets the run draw from -/
abbrev lw_cs : List Choice := [Jvm.Choice.named "NaN.bits"]
theorem lw_bits : nanBits ∈ lw_cs := by first | decide | exact List.mem_cons_self | simp [lw_cs, nanBits]
end
section
/-! ===== BEGIN words of one list among another's, by their places ===== -/
theorem goodIn_r {big : List Cond} (ws : List Cond) (ps : List Nat) (hp : ws = ps.filterMap (fun i => big[i]?)) (h : ws.all goodWord = true) : GoodIn big ws := by
  intro w hw
  have h1 := List.all_eq_true.mp h w hw
  rw [hp] at hw
  obtain ⟨i, -, hi⟩ := List.mem_filterMap.mp hw
  have hm : w ∈ big := by first | exact List.mem_of_getElem? hi | exact List.getElem?_mem hi
  exact ⟨hm, good_of_word h1⟩
theorem goodIn_app {big a b : List Cond} (ha : GoodIn big a) (hb : GoodIn big b) : GoodIn big (a ++ b) := fun w h => (List.mem_append.mp h).elim (ha w) (hb w)
theorem goodIn_ca {big a b : List Cond} {c : Cond} (ha : GoodIn big (c :: a)) (hb : GoodIn big b) : GoodIn big (c :: (a ++ b)) := fun w h => (List.mem_cons.mp h).elim (fun e => ha w (List.mem_cons.mpr (Or.inl e))) (fun h => (List.mem_append.mp h).elim (fun h => ha w (List.mem_cons.mpr (Or.inr h))) (hb w))
theorem goodIn_sub {big ws : List Cond} (hm : ∀ w ∈ ws, w ∈ big) (h : ws.all goodWord = true) : GoodIn big ws := fun w hw => ⟨hm w hw, good_of_word (List.all_eq_true.mp h w hw)⟩
/-! ===== END ===== -/

/-! ===== BEGIN exceptions that leave a method, and their catching by the caller (launches without stack traces) ===== -/
section VXA
/-! The laws vx_back, vx_callV, vx_callS, vx_callSW, vx_throw0, vx_throwS follow proofs of the library, with one case more: JvmDerived/Free/Laws.lean (Back.of_free), Shelf42/LK1.lean (callV, callS), Shelf/KitTraced.lean (throwNew0V, throwNewS). -/
/-- where a method has thrown q: the class by its name, the cell, what was written, the world -/
def vx_T (XC : String → State → State → Prop) (st : State) (q : Addr) (t : State) (mc ms : Nat) (free : Addr → Prop) : Prop :=
  ∃ (E : String) (ce : Cell) (L : List Loc), XC E st t ∧ t.heap[q]? = some ce ∧ ce.vm = .none ∧ st.vm.findClass E = some ce.cls ∧ st.WarmedH t.vm ∧ st.sameButNew ({ t with vm := st.vm } : State) L mc ms ∧ ∀ z ∈ L, free z.base
def vx_Q (Qc : Array Value → State → Outcome → State → Prop) (XC : String → State → State → Prop) (mc ms : Nat) (free : Addr → Prop) : Array Value → State → Outcome → State → Prop := fun a st o t =>
  (Qc a st o t ∧ ∃ L, FrameEnd st o t L mc ms ∧ ∀ q ∈ L, free q.base) ∨ ∃ q, o = .threw q ∧ vx_T XC st q t mc ms free
/-- a callee that returns or throws -/
def vx_Met (l : Launch) (y : MethodName) (ws : List Cond) (rm : Room) (Pc : Array Value → State → Prop) (Qc : Array Value → State → Outcome → State → Prop) (XC : String → State → State → Prop) (mc ms : Nat) (free : Addr → Prop) : Prop :=
  MetFree l y (headSpec ws rm) Pc (fun _ _ _ _ _ => True) (vx_Q Qc XC mc ms free)
def vx_Post (XC : String → State → State → Prop) (mc ms : Nat) (free : Addr → Prop) : Pt → Array Value → Addr → Pt → Prop := fun A a q B =>
  ∃ (g : JFrame) (mk : MethodId) (t : State) (L : List Loc) (E : String) (ce : Cell), B.U.heap = t.heap ∧ B.U.vm = t.vm ∧ XC E (A.U.calling g mk a) t ∧ t.heap[q]? = some ce ∧ ce.vm = .none ∧ A.U.vm.findClass E = some ce.cls ∧ B.locs = A.locs ++ L ∧ (∀ z ∈ L, free z.base) ∧ B.cells = A.cells + mc ∧ B.slots = A.slots + ms
def vx_Back (l : Launch) (R : Room) (p : Program) (e : Env) (below : List Frame) (s : State) (sargs : Array Value) (y : MethodName) (len W9 : Nat)
    (Pre : Pt → Array Value → Prop) (Post : Pt → Array Value → Option Value → Pt → Prop) (PostX : Pt → Array Value → Addr → Pt → Prop) : Prop :=
  ∀ (m : MethodId) (meth : Method) (c : Code) (A : Pt) (g : JFrame) (ig : Instr) (mk : MethodId) (a : Array Value),
    Stand p l e R s m sargs below meth c A.U A.locs A.cells A.slots → g.method = m → g.locals.size = c.maxLocals → decode c.code g.pc = .ok (ig, len) →
    2 * g.monitorRoom + (g.stack.map fun v => v.category).sum ≤ W9 → A.U.methodNamed? y = some mk → Pre A a →
    (∃ (v : Option Value) (B : Pt), Stand p l e R s m sargs below meth c B.U B.locs B.cells B.slots ∧ Post A a v B ∧
      Steps p.tables e below (doInvoke e (A.U.setTop g) [] mk a).1 (B.U.setTop { g with pc := g.pc + len, stack := v.toList ++ g.stack })) ∨
    (∃ (q : Addr) (B : Pt), Stand p l e R s m sargs below meth c B.U B.locs B.cells B.slots ∧ PostX A a q B ∧
      Steps p.tables e below (doInvoke e (A.U.setTop g) [] mk a).1 ((B.U.setTop g).pushFrame (.throwing q)))
section Payer
variable {l : Launch} {R : Room} {p : Program} {e : Env} {below : List Frame} {s : State} {sargs : Array Value} {y : MethodName} {len W9 : Nat}
theorem vx_back {ws : List Cond} {rm : Room} {Pc : Array Value → State → Prop} {Qc : Array Value → State → Outcome → State → Prop} {XC : String → State → State → Prop} {mc ms : Nat} {free : Addr → Prop} {bytes : ByteArray} {maxL : Nat} {ret : Option FieldType}
    (hM : vx_Met l y ws rm Pc Qc XC mc ms free) (hblind : FrameBlind Pc) (hrc : rm.cells = mc) (hrs : rm.slots = ms)
    (hframes : rm.frames + 1 ≤ R.frames) (hlocals : W9 + (maxL + 11) + rm.locals ≤ R.locals)
    (hws : ∀ w ∈ ws, ∀ a' U, s.WarmedH U.vm → w.before a' U = true) (hcode : Cond.code y bytes maxL ret ∈ ws) (hinit : ∀ a' U, s.WarmedH U.vm → (Cond.initialized y.cls).before a' U = true) :
    vx_Back l R p e below s sargs y len W9 (PreOf R mc ms Pc) (PostOf Qc mc ms free) (vx_Post XC mc ms free) := by
  intro m meth c A g ig mk a X hg hsize hdg hW hn hp
  have h1 : (headSpec ws rm).pre.before a A.U = true := atoms_intro fun w hw => hws w hw _ _ X.warmed
  have h2 : (Cond.code y bytes maxL ret).before a A.U = true := hws _ hcode _ _ X.warmed
  have h3 : (Cond.initialized y.cls).before a A.U = true := hinit _ _ X.warmed
  have h4 : A.cells + (headSpec ws rm).room.cells ≤ R.cells := by rw [show (headSpec ws rm).room.cells = mc from hrc]; exact hp.1
  have h5 : A.slots + (headSpec ws rm).room.slots ≤ R.slots := by rw [show (headSpec ws rm).room.slots = ms from hrs]; exact hp.2.1
  have hPc : Pc a (A.U.calling g mk a) := hblind _ _ _ _ hp.2.2
  obtain ⟨U, Ls, c0, s0⟩ := A
  dsimp only [Pt.U, Pt.locs, Pt.cells, Pt.slots] at h1 h2 h3 h4 h5 X hn hPc ⊢
  obtain ⟨methY, cY, hmY, hcY, -, hlY, -, -, -, -⟩ := Cond.code_spec hn h2
  obtain ⟨kY, hkY, -⟩ := className_of_methodNamed hn
  have hinitY : kY.init = .initialized := Cond.initialized_spec (findClass_of_methodNamed hn) hkY h3
  have h : At U g.method c below := by rw [hg]; exact X.here
  have hlocals9 : W9 + (maxL + 11) + (headSpec ws rm).room.locals ≤ R.locals := hlocals
  have happ : (headSpec ws rm).appliesLoose y e.platform (U.calling g mk a) = true :=
    Spec.appliesLoose_calling (g := g) h hdg hn hkY hinitY
      (X.room_calling (g := g) (R' := (headSpec ws rm).room) hsize hmY hcY hframes (by rw [hlY]; omega) h4 h5) h1
  obtain ⟨mid, hmid⟩ := h.above
  have hfr : (U.setTop g).frames = (.java g :: mid) ++ below := by rw [State.frames_setTop' g h.top, hmid]; rfl
  obtain ⟨o, s₂, hsteps, -, hend, hq⟩ := Steps.callFree hM p X.admits X.cas X.clock (acts := []) hfr happ hPc trivial
  have hq' : vx_Q Qc XC mc ms free a (U.calling g mk a) o s₂ := hq
  rw [State.frames_setTop' g h.top] at hend
  obtain ⟨g₀, hg0⟩ := Option.isSome_iff_exists.mp h.top
  obtain ⟨r, hr⟩ := State.topJava?_eq_some.mp hg0
  have hr' : (({ U with heap := s₂.heap, slotsUsed := s₂.slotsUsed } : State).setVm s₂.vm).frames = .java g₀ :: r := hr
  rcases hq' with ⟨hqc, L, hfe, hL⟩ | ⟨q, rfl, E, ce, L, hx, hce, hcv, hcl, hW₂, hsm, hL⟩
  · obtain ⟨⟨v, rfl⟩, hW₂, e2, q2, q3, q4, q5, q6⟩ := id hfe
    have e3 : s₂ = ({ (U.calling g mk a).setFrames s₂.frames with heap := s₂.heap, slotsUsed := s₂.slotsUsed } : State).setVm s₂.vm := by
      have : s₂ = ({ s₂ with vm := (U.calling g mk a).vm } : State).setVm s₂.vm := rfl
      rw [e2] at this
      exact this
    obtain ⟨c₂, i₂, len₂, hc₂, hd₂, hf₂⟩ := hend
    have hW' : U.WarmedH s₂.vm := hW₂
    have hcc : c₂ = c := by
      have h1 : s₂.code? g.method = U.code? g.method := by
        rw [State.code?_eq, State.code?_eq, hW'.alike.method?]
      exact Option.some.inj (hc₂.symm.trans (h1.trans h.code))
    subst hcc
    have hlen : len₂ = len := by rw [hdg] at hd₂; cases hd₂; rfl
    subst hlen
    have hs₂ : s₂ = (({ U with heap := s₂.heap, slotsUsed := s₂.slotsUsed } : State).setVm s₂.vm).setTop { g with pc := g.pc + len₂, stack := v.toList ++ g.stack } := by
      refine e3.trans ?_
      rw [hf₂, State.calling_eq h.top, State.setFrames_setFrames, State.setTop_of_frames _ hr', hr]
      rfl
    have hsame : U.sameButNew ({ U with heap := s₂.heap, slotsUsed := s₂.slotsUsed } : State) L mc ms := by
      refine ⟨?_, q2, q3, q4, q5, q6⟩
      obtain ⟨t, ht, -⟩ := State.frames_cons hr
      show ({ U with heap := s₂.heap, slotsUsed := s₂.slotsUsed } : State) = { U.setFrames U.frames with heap := s₂.heap, slotsUsed := s₂.slotsUsed }
      rw [State.setFrames_self ht]
    subst hg
    refine Or.inl ⟨v, ⟨(({ U with heap := s₂.heap, slotsUsed := s₂.slotsUsed } : State).setVm s₂.vm), Ls ++ L, c0 + mc, s0 + ms⟩,
      ⟨X.admits, X.cas, X.clock, X.frames, X.room, X.hears, X.method, X.code, (X.here.setHeapUsed s₂.heap s₂.slotsUsed).setVm hW'.alike, X.tail, State.WarmedH.trans X.warmed hW', X.limits, X.bytes, X.same.trans (hsame.setVm s.vm)⟩,
      ⟨g, mk, s₂, L, rfl, rfl, hqc, rfl, hL, rfl, rfl⟩, ?_⟩
    show Steps p.tables e below _ ((({ U with heap := s₂.heap, slotsUsed := s₂.slotsUsed } : State).setVm s₂.vm).setTop { g with pc := g.pc + len₂, stack := v.toList ++ g.stack })
    rw [← hs₂]
    exact hsteps
  · obtain ⟨e2, q2, q3, q4, q5, q6⟩ := id hsm
    have e3 : s₂ = ({ (U.calling g mk a).setFrames s₂.frames with heap := s₂.heap, slotsUsed := s₂.slotsUsed } : State).setVm s₂.vm := by
      have : s₂ = ({ s₂ with vm := (U.calling g mk a).vm } : State).setVm s₂.vm := rfl
      rw [e2] at this
      exact this
    have hf₂ : s₂.frames = .throwing q :: .java g :: U.frames.tail := hend
    have hW' : U.WarmedH s₂.vm := hW₂
    have hs₂ : s₂ = ((({ U with heap := s₂.heap, slotsUsed := s₂.slotsUsed } : State).setVm s₂.vm).setTop g).pushFrame (.throwing q) := by
      refine e3.trans ?_
      rw [hf₂, State.calling_eq h.top, State.setFrames_setFrames, State.pushFrame, State.frames_setTop _ hr', State.setTop_of_frames _ hr', State.setFrames_setFrames, hr]
      rfl
    have hsame : U.sameButNew ({ U with heap := s₂.heap, slotsUsed := s₂.slotsUsed } : State) L mc ms := by
      refine ⟨?_, q2, q3, q4, q5, q6⟩
      obtain ⟨t, ht, -⟩ := State.frames_cons hr
      show ({ U with heap := s₂.heap, slotsUsed := s₂.slotsUsed } : State) = { U.setFrames U.frames with heap := s₂.heap, slotsUsed := s₂.slotsUsed }
      rw [State.setFrames_self ht]
    subst hg
    refine Or.inr ⟨q, ⟨(({ U with heap := s₂.heap, slotsUsed := s₂.slotsUsed } : State).setVm s₂.vm), Ls ++ L, c0 + mc, s0 + ms⟩,
      ⟨X.admits, X.cas, X.clock, X.frames, X.room, X.hears, X.method, X.code, (X.here.setHeapUsed s₂.heap s₂.slotsUsed).setVm hW'.alike, X.tail, State.WarmedH.trans X.warmed hW', X.limits, X.bytes, X.same.trans (hsame.setVm s.vm)⟩,
      ⟨g, mk, s₂, L, E, ce, rfl, rfl, hx, hce, hcv, hcl, rfl, hL, rfl, rfl⟩, ?_⟩
    show Steps p.tables e below _ (((({ U with heap := s₂.heap, slotsUsed := s₂.slotsUsed } : State).setVm s₂.vm).setTop g).pushFrame (.throwing q))
    rw [← hs₂]
    exact hsteps
end Payer
section Calls
variable {p : Program} {l : Launch} {e : Env} {R : Room} {s : State} {m : MethodId} {args : Array Value} {below : List Frame} {meth : Method} {c : Code} {T : State} {locs : List Loc} {cells slots : Nat}
theorem vx_callV (X : Stand p l e R s m args below meth c T locs cells slots) (hexec : p.tables.exec = Jvm.exec) {own C : String} {index : Nat} {y : MethodName} {bytes : ByteArray} {maxL : Nat} {ret : Option FieldType}
    (hown : s.vm.findClass own = some m.cls) (hlink : (Cond.methodLink own index y).before args s = true) (hinst : (Cond.instanceMethod y).before args s = true) (hsel : (Cond.selects C y y).before args s = true)
    (hcode : (Cond.code y bytes maxL ret).before args s = true) (hy : y.cls ≠ "java/lang/invoke/MethodHandle" ∧ y.cls ≠ "java/lang/invoke/VarHandle")
    {W9 : Nat} {Pre : Pt → Array Value → Prop} {Post : Pt → Array Value → Option Value → Pt → Prop} {PostX : Pt → Array Value → Addr → Pt → Prop} (hK : vx_Back l R p e below s args y 3 W9 Pre Post PostX)
    {b : Addr} {cellB : Cell} (hcell : T.heap[b]? = some cellB) (hobj : cellB.vm.isStatics = false) (hcls : s.vm.findClass C = some cellB.cls)
    {g : JFrame} (hg : g.method = m) (hsize : g.locals.size = c.maxLocals) {argsL rest : List Value} (hlen : ∀ sig, parseMethodDescriptor y.desc = some sig → argsL.length = sig.parameters.length)
    (hstack : g.stack = argsL.reverse ++ .ref b :: rest) (hW : 2 * g.monitorRoom + (rest.map fun v => v.category).sum ≤ W9) (hdg : decode c.code g.pc = .ok (.invokevirtual index, 3))
    (hpre : ∀ vm₁, s.WarmedH vm₁ → Pre ⟨T.setVm vm₁, locs, cells, slots⟩ (Value.ref b :: argsL).toArray) :
    (∃ (v : Option Value) (vm₁ : Vm) (B : Pt), s.WarmedH vm₁ ∧ Stand p l e R s m args below meth c B.U B.locs B.cells B.slots ∧ Post ⟨T.setVm vm₁, locs, cells, slots⟩ (Value.ref b :: argsL).toArray v B ∧
      ∀ target, Steps p.tables e below (B.U.setTop { g with pc := g.pc + 3, stack := v.toList ++ rest }) target → Steps p.tables e below (T.setTop g) target) ∨
    (∃ (q : Addr) (vm₁ : Vm) (B : Pt), s.WarmedH vm₁ ∧ Stand p l e R s m args below meth c B.U B.locs B.cells B.slots ∧ PostX ⟨T.setVm vm₁, locs, cells, slots⟩ (Value.ref b :: argsL).toArray q B ∧
      Steps p.tables e below (T.setTop g) ((B.U.setTop { g with stack := rest }).pushFrame (.throwing q))) := by
  obtain ⟨mk, methM, hnamed, hmethM, hstM, habM⟩ := Cond.instanceMethod_spec hinst
  obtain ⟨methM', cM, hmethM', -, -, -, -, -, -, hsigM⟩ := Cond.code_spec hnamed hcode
  cases hmethM.symm.trans hmethM'
  obtain ⟨c2, r2, m2, q1, q2, q3, q4, kP, hkP, hkPi⟩ := Cond.selects_spec hsel
  cases hcls.symm.trans q1
  cases (State.methodFound?_of_named hnamed hy).symm.trans q2
  cases hnamed.symm.trans q3
  have hselP : selectMethod e.platform s.vm cellB.cls mk = .method mk := by rw [Launch.admits_selectMethod X.admits]; exact q4
  obtain ⟨vm₁, X₁, hstep₁⟩ := X.invokevirtual hexec hown hlink hnamed hmethM hstM hkP hkPi hy (a := b) (cell := cellB) hcell
    (fun z h => by rw [h] at hobj; cases hobj) hselP hmethM habM hkP hkPi (g := g) hg (argsL := argsL) (rest := rest) (hlen _ hsigM) hstack hdg
  rcases hK m meth c ⟨T.setVm vm₁, locs, cells, slots⟩ { g with stack := rest } (.invokevirtual index) mk (Value.ref b :: argsL).toArray X₁ hg hsize hdg hW (X₁.named hnamed) (hpre vm₁ X₁.warmed) with ⟨v, B, X', hpost, hsteps⟩ | ⟨q, B, X', hpost, hsteps⟩
  · exact Or.inl ⟨v, vm₁, B, X₁.warmed, X', hpost, fun target h => hstep₁ _ fun acts => by rw [doInvoke_state]; exact hsteps.trans h⟩
  · exact Or.inr ⟨q, vm₁, B, X₁.warmed, X', hpost, hstep₁ _ fun acts => by rw [doInvoke_state]; exact hsteps⟩
theorem vx_callS (X : Stand p l e R s m args below meth c T locs cells slots) (hexec : p.tables.exec = Jvm.exec) {own : String} {index : Nat} {y : MethodName} {bytes : ByteArray} {maxL : Nat} {ret : Option FieldType}
    (hown : s.vm.findClass own = some m.cls) (hlink : (Cond.methodLink own index y).before args s = true) (hstat : (Cond.static y).before args s = true) (hinit : (Cond.initialized y.cls).before args s = true)
    (hcode : (Cond.code y bytes maxL ret).before args s = true) (hy : y.cls ≠ "java/lang/invoke/MethodHandle" ∧ y.cls ≠ "java/lang/invoke/VarHandle")
    {W9 : Nat} {Pre : Pt → Array Value → Prop} {Post : Pt → Array Value → Option Value → Pt → Prop} {PostX : Pt → Array Value → Addr → Pt → Prop} (hK : vx_Back l R p e below s args y 3 W9 Pre Post PostX)
    {g : JFrame} (hg : g.method = m) (hsize : g.locals.size = c.maxLocals) {argsL rest : List Value} (hlen : ∀ sig, parseMethodDescriptor y.desc = some sig → argsL.length = sig.parameters.length)
    (hstack : g.stack = argsL.reverse ++ rest) (hW : 2 * g.monitorRoom + (rest.map fun v => v.category).sum ≤ W9) (hdg : decode c.code g.pc = .ok (.invokestatic index, 3))
    (hpre : ∀ vm₁, s.WarmedH vm₁ → Pre ⟨T.setVm vm₁, locs, cells, slots⟩ argsL.toArray) :
    (∃ (v : Option Value) (vm₁ : Vm) (B : Pt), s.WarmedH vm₁ ∧ Stand p l e R s m args below meth c B.U B.locs B.cells B.slots ∧ Post ⟨T.setVm vm₁, locs, cells, slots⟩ argsL.toArray v B ∧
      ∀ target, Steps p.tables e below (B.U.setTop { g with pc := g.pc + 3, stack := v.toList ++ rest }) target → Steps p.tables e below (T.setTop g) target) ∨
    (∃ (q : Addr) (vm₁ : Vm) (B : Pt), s.WarmedH vm₁ ∧ Stand p l e R s m args below meth c B.U B.locs B.cells B.slots ∧ PostX ⟨T.setVm vm₁, locs, cells, slots⟩ argsL.toArray q B ∧
      Steps p.tables e below (T.setTop g) ((B.U.setTop { g with stack := rest }).pushFrame (.throwing q))) := by
  obtain ⟨mk, hnamed⟩ := Cond.code_named hcode
  obtain ⟨methM, cM, hmethM, -, -, -, -, -, -, hsigM⟩ := Cond.code_spec hnamed hcode
  have hstatic : methM.isStatic = true := Cond.static_spec hnamed hmethM hstat
  obtain ⟨kP, hkP, -⟩ := className_of_methodNamed hnamed
  have hinitP : kP.init = .initialized := Cond.initialized_spec (findClass_of_methodNamed hnamed) hkP hinit
  obtain ⟨vm₁, X₁, hstep₁⟩ := X.invokestatic hexec hown hlink hnamed hmethM hstatic hkP hinitP hy (g := g) hg (argsL := argsL) (rest := rest) (hlen _ hsigM) hstack hdg
  rcases hK m meth c ⟨T.setVm vm₁, locs, cells, slots⟩ { g with stack := rest } (.invokestatic index) mk argsL.toArray X₁ hg hsize hdg hW (X₁.named hnamed) (hpre vm₁ X₁.warmed) with ⟨v, B, X', hpost, hsteps⟩ | ⟨q, B, X', hpost, hsteps⟩
  · exact Or.inl ⟨v, vm₁, B, X₁.warmed, X', hpost, fun target h => hstep₁ _ fun acts => by rw [doInvoke_state]; exact hsteps.trans h⟩
  · exact Or.inr ⟨q, vm₁, B, X₁.warmed, X', hpost, hstep₁ _ fun acts => by rw [doInvoke_state]; exact hsteps⟩
end Calls
theorem vx_cls {s : State} {T : State} {vm₁ : Vm} {E : String} {k : ClassId} (hW : s.WarmedH vm₁) (h : (T.setVm vm₁).vm.findClass E = some k) : s.vm.findClass E = some k := by
  have h1 : vm₁.findClass E = some k := h
  rw [hW.alike.findClass] at h1
  exact h1
/-- the method's frame g, with q thrown over it -/
def vx_W (p : Program) (l : Launch) (e : Env) (R : Room) (s : State) (m : MethodId) (args : Array Value) (below : List Frame) (meth : Method) (c : Code) (H : Heap) (locs : List Loc) (cells slots : Nat) (Q : State → Prop) (g : JFrame) (q : Addr) : Prop :=
  ∀ T : State, T.heap = H → Stand p l e R s m args below meth c T locs cells slots → ∃ t, Steps p.tables e below ((T.setTop g).pushFrame (.throwing q)) t ∧ Q t
def vx_Run (p : Program) (l : Launch) (e : Env) (R : Room) (s : State) (m : MethodId) (args : Array Value) (below : List Frame) (meth : Method) (c : Code) (H : Heap) (locs : List Loc) (cells slots mc ms : Nat) (g : JFrame) (rest : List Value) (Qa : State → Outcome → State → Prop) (XC : String → State → State → Prop) (free : Addr → Prop) : Prop :=
  ∀ T : State, T.heap = H → Stand p l e R s m args below meth c T locs cells slots →
    (∃ (v : Option Value) (st₀ t T' : State) (L : List Loc), st₀.heap = H ∧ Stand p l e R s m args below meth c T' (locs ++ L) (cells + mc) (slots + ms) ∧ (∀ q ∈ L, free q.base) ∧ T'.heap = t.heap ∧ T'.vm = t.vm ∧ Qa st₀ (.returned v) t ∧
      Goes p e below T g T' { g with pc := g.pc + 3, stack := v.toList ++ rest }) ∨
    (∃ (q : Addr) (st₀ t T' : State) (L : List Loc) (E : String) (ce : Cell), st₀.heap = H ∧ Stand p l e R s m args below meth c T' (locs ++ L) (cells + mc) (slots + ms) ∧ (∀ z ∈ L, free z.base) ∧ T'.heap = t.heap ∧ T'.vm = t.vm ∧ XC E st₀ t ∧ t.heap[q]? = some ce ∧ ce.vm = .none ∧ s.vm.findClass E = some ce.cls ∧
      Steps p.tables e below (T.setTop g) ((T'.setTop { g with stack := rest }).pushFrame (.throwing q)))
def vx_X {S : Type} (px : S → Prop) (B : String → S → State → Prop) (A : Nat → Prop) : String → State → State → Prop := fun E st t => ∃ u : S, px u ∧ B E u t ∧ va_F A st t
section Runs
variable {p : Program} {l : Launch} {e : Env} {R : Room} {s : State} {m : MethodId} {args : Array Value} {below : List Frame} {meth : Method} {c : Code} {H : Heap} {locs : List Loc} {cells slots : Nat}
variable {y : MethodName} {bytes cc : ByteArray} {maxL nL mc ms n index : Nat} {ret : Option FieldType} {ws : List Cond} {rm : Room} {Pc : Array Value → State → Prop} {Qc : Array Value → State → Outcome → State → Prop} {XC : String → State → State → Prop} {free : Addr → Prop} {Ts : List Cond} {own C : String} {b : Addr} {As rest : List Value} {g : JFrame}
theorem vx_callBack (cb : CallB R s args own index y bytes maxL ret ws rm mc ms n) (hM : vx_Met l y ws rm Pc Qc XC mc ms free) (hbl : FrameBlind Pc) : vx_Back l R p e below s args y 3 8 (PreOf R mc ms Pc) (PostOf Qc mc ms free) (vx_Post XC mc ms free) := by
  obtain ⟨hrc, hrs, hfr, hlo, hws, hcw, -, hini, -⟩ := cb
  exact vx_back (bytes := bytes) (maxL := maxL) (ret := ret) hM hbl hrc hrs hfr hlo hws hcw (fun a' U hW => word_at hW (Or.inl (by first | rfl | simp [Cond.onTables, Cond.keeps, Cond.steady])) hini)
theorem vx_runV (S : CallFix p m c cc nL s args Ts own) (hM : vx_Met l y ws rm Pc Qc XC mc ms free) (cw : CallW R s args own C index y bytes maxL ret ws rm mc ms n) (hp : PreV s H C b Pc As)
    (hg : g.method = m) (hn : As.length = n) (hsize : g.locals.size = nL) (hstack : g.stack = As.reverse ++ .ref b :: rest) (hW : 2 * g.monitorRoom + (rest.map fun v => v.category).sum ≤ 8) (hdg : decode cc g.pc = .ok (.invokevirtual index, 3)) (hf : cells + mc ≤ R.cells ∧ slots + ms ≤ R.slots) :
    vx_Run p l e R s m args below meth c H locs cells slots mc ms g rest (Qc (Value.ref b :: As).toArray) XC free := by
  have hK : vx_Back l R p e below s args y 3 8 (PreOf R mc ms Pc) (PostOf Qc mc ms free) (vx_Post XC mc ms free) := vx_callBack cw.1 hM hp.1
  obtain ⟨⟨-, -, -, -, -, -, hcode, -, hy, hlen, hl⟩, hin, hse⟩ := cw
  obtain ⟨hx, hb, hml, ho, -⟩ := S
  obtain ⟨-, ⟨cellB, hcB, hoB, hclB⟩, hPc⟩ := hp
  intro T hT X
  rcases vx_callV X hx (C := C) (bytes := bytes) (maxL := maxL) (ret := ret) ho hl hin hse hcode hy hK (by rw [hT]; exact hcB) hoB hclB hg (hsize.trans hml.symm) (argsL := As) (rest := rest) (fun sig h => hn.trans (hlen sig h)) hstack hW (by rw [hb]; exact hdg)
    (fun vm₁ hW₁ => ⟨hf.1, hf.2, hPc (T.setVm vm₁) hT hW₁⟩) with ⟨v, vm₁, ⟨U', l2, c2, s2⟩, hW₁, X', ⟨g', mk, t, L, e1, e2, hq, h1, hL, h2, h3⟩, st⟩ | ⟨q, vm₁, ⟨U', l2, c2, s2⟩, hW₁, X', ⟨g', mk, t, L, E, ce, e1, e2, hq, hce, hcv, hcl, h1, hL, h2, h3⟩, st⟩
  · dsimp only [Pt.U, Pt.locs, Pt.cells, Pt.slots] at X' e1 e2 h1 h2 h3 st
    subst h1; subst h2; subst h3
    exact Or.inl ⟨v, (T.setVm vm₁).calling g' mk (Value.ref b :: As).toArray, t, U', L, hT, X', hL, e1, e2, hq, st⟩
  · dsimp only [Pt.U, Pt.locs, Pt.cells, Pt.slots] at X' e1 e2 h1 h2 h3 st hcl
    subst h1; subst h2; subst h3
    exact Or.inr ⟨q, (T.setVm vm₁).calling g' mk (Value.ref b :: As).toArray, t, U', L, E, ce, hT, X', hL, e1, e2, hq, hce, hcv, vx_cls hW₁ hcl, st⟩
theorem vx_runS (S : CallFix p m c cc nL s args Ts own) (hM : vx_Met l y ws rm Pc Qc XC mc ms free) (cw : CallB R s args own index y bytes maxL ret ws rm mc ms n ∧ (Cond.static y).before args s = true) (hp : PreS s H Pc As)
    (hg : g.method = m) (hn : As.length = n) (hsize : g.locals.size = nL) (hstack : g.stack = As.reverse ++ rest) (hW : 2 * g.monitorRoom + (rest.map fun v => v.category).sum ≤ 8) (hdg : decode cc g.pc = .ok (.invokestatic index, 3)) (hf : cells + mc ≤ R.cells ∧ slots + ms ≤ R.slots) :
    vx_Run p l e R s m args below meth c H locs cells slots mc ms g rest (Qc As.toArray) XC free := by
  have hK : vx_Back l R p e below s args y 3 8 (PreOf R mc ms Pc) (PostOf Qc mc ms free) (vx_Post XC mc ms free) := vx_callBack cw.1 hM hp.1
  obtain ⟨⟨-, -, -, -, -, -, hcode, hini, hy, hlen, hl⟩, hstt⟩ := cw
  obtain ⟨hx, hb, hml, ho, -⟩ := S
  intro T hT X
  rcases vx_callS X hx (bytes := bytes) (maxL := maxL) (ret := ret) ho hl hstt hini hcode hy hK hg (hsize.trans hml.symm) (argsL := As) (rest := rest) (fun sig h => hn.trans (hlen sig h)) hstack hW (by rw [hb]; exact hdg)
    (fun vm₁ hW₁ => ⟨hf.1, hf.2, hp.2 (T.setVm vm₁) hT hW₁⟩) with ⟨v, vm₁, ⟨U', l2, c2, s2⟩, hW₁, X', ⟨g', mk, t, L, e1, e2, hq, h1, hL, h2, h3⟩, st⟩ | ⟨q, vm₁, ⟨U', l2, c2, s2⟩, hW₁, X', ⟨g', mk, t, L, E, ce, e1, e2, hq, hce, hcv, hcl, h1, hL, h2, h3⟩, st⟩
  · dsimp only [Pt.U, Pt.locs, Pt.cells, Pt.slots] at X' e1 e2 h1 h2 h3 st
    subst h1; subst h2; subst h3
    exact Or.inl ⟨v, (T.setVm vm₁).calling g' mk As.toArray, t, U', L, hT, X', hL, e1, e2, hq, st⟩
  · dsimp only [Pt.U, Pt.locs, Pt.cells, Pt.slots] at X' e1 e2 h1 h2 h3 st hcl
    subst h1; subst h2; subst h3
    exact Or.inr ⟨q, (T.setVm vm₁).calling g' mk As.toArray, t, U', L, E, ce, hT, X', hL, e1, e2, hq, hce, hcv, vx_cls hW₁ hcl, st⟩
end Runs
section Rows
variable {p : Program} {l : Launch} {e : Env} {R : Room} {s : State} {m : MethodId} {args : Array Value} {below : List Frame} {meth : Method} {c : Code} {H : Heap} {locs : List Loc} {cells slots : Nat} {Q : State → Prop}
variable {mc ms : Nat} {free : Addr → Prop} {A0 A1 : Nat → Prop} {H0 : Heap} {a : Array Value} {pc : Nat} {ls : Array Slot} {st0 rest : List Value}
theorem vx_keep {st₀ t T' : State} {L : List Loc} (h0 : st₀.heap = H) (e1 : T'.heap = t.heap) (hS : va_S A0 H0 H locs) (hA : ∀ q, q < H.size → A1 q → A0 q) (hf : ∀ q, free q → A0 q) (hL : ∀ q ∈ L, free q.base) (hF : va_F A1 st₀ t) :
    H.size ≤ T'.heap.size ∧ (∀ q : Nat, q < H.size → ¬ A1 q → T'.heap[q]? = H[q]?) ∧ va_S A0 H0 T'.heap (locs ++ L) := by
  obtain ⟨hz, hk⟩ := hF
  rw [h0] at hz hk
  exact ⟨by rw [e1]; exact hz, fun q h1 h2 => by rw [e1]; exact hk q h1 h2,
    ⟨Nat.le_trans hS.1 (by rw [e1]; exact hz), fun q h1 h2 => by rw [e1, hk q (Nat.lt_of_lt_of_le h1 hS.1) (fun z => h2 (hA q (Nat.lt_of_lt_of_le h1 hS.1) z))]; exact hS.2.1 q h1 h2, fun q hq => by
      rcases List.mem_append.mp hq with h | h
      · exact hS.2.2 q h
      · exact hf _ (hL q h)⟩⟩
theorem vx_calli {S SX : Type} {post : Int32 → S → Prop} {px : SX → Prop} {B : S → State → Prop} {BX : String → SX → State → Prop} {AX : Nat → Prop} (hr : vx_Run p l e R s m args below meth c H locs cells slots mc ms (F0 m pc ls st0) rest (va_Qi post B A1 a) (vx_X px BX AX) free) (hS : va_S A0 H0 H locs) (hA : ∀ q, q < H.size → A1 q → A0 q) (hf : ∀ q, free q → A0 q) (hAX : ∀ q, q < H.size → AX q → A0 q)
    (kx : ∀ (E : String) (ce : Cell) (q9 : Addr) (u : SX) (t : State) (H1 : Heap) (locs1 : List Loc), t.heap = H1 → s.vm.Alike t.vm → px u → BX E u t → H.size ≤ H1.size → (∀ q : Nat, q < H.size → ¬ AX q → H1[q]? = H[q]?) → va_S A0 H0 H1 locs1 → H1[q9]? = some ce → ce.vm = .none → s.vm.findClass E = some ce.cls → vx_W p l e R s m args below meth c H1 locs1 (cells + mc) (slots + ms) Q (F0 m pc ls rest) q9)
    (kk : ∀ (r : Int32) (u : S) (t : State) (H1 : Heap) (locs1 : List Loc), t.heap = H1 → s.vm.Alike t.vm → post r u → B u t → H.size ≤ H1.size → (∀ q : Nat, q < H.size → ¬ A1 q → H1[q]? = H[q]?) → va_S A0 H0 H1 locs1 → W p l e R s m args below meth c H1 locs1 (cells + mc) (slots + ms) Q (F0 m (pc + 3) ls (.int r :: rest))) : W p l e R s m args below meth c H locs cells slots Q (F0 m pc ls st0) := by
  intro T hT X
  rcases hr T hT X with ⟨v, st₀, t, T', L, h0, X', hL, e1, e2, ⟨⟨r, u, hv, hp, hb⟩, hF⟩, st⟩ | ⟨q, st₀, t, T', L, E, ce, h0, X', hL, e1, e2, ⟨u, hp, hb, hF⟩, hce, hcv, hcl, st⟩
  · cases hv
    obtain ⟨k1, k2, k3⟩ := vx_keep h0 e1 hS hA hf hL hF
    obtain ⟨t2, a1, b1⟩ := kk r u t T'.heap (locs ++ L) e1.symm (by rw [← e2]; exact X'.warmed.alike) hp hb k1 k2 k3 T' rfl X'
    exact ⟨t2, st t2 a1, b1⟩
  · obtain ⟨k1, k2, k3⟩ := vx_keep h0 e1 hS hAX hf hL hF
    obtain ⟨t2, a1, b1⟩ := kx E ce q u t T'.heap (locs ++ L) e1.symm (by rw [← e2]; exact X'.warmed.alike) hp hb k1 k2 k3 (by rw [e1]; exact hce) hcv hcl T' rfl X'
    exact ⟨t2, st.trans a1, b1⟩
theorem vx_calll {S SX : Type} {post : Int64 → S → Prop} {px : SX → Prop} {B : S → State → Prop} {BX : String → SX → State → Prop} {AX : Nat → Prop} (hr : vx_Run p l e R s m args below meth c H locs cells slots mc ms (F0 m pc ls st0) rest (va_Ql post B A1 a) (vx_X px BX AX) free) (hS : va_S A0 H0 H locs) (hA : ∀ q, q < H.size → A1 q → A0 q) (hf : ∀ q, free q → A0 q) (hAX : ∀ q, q < H.size → AX q → A0 q)
    (kx : ∀ (E : String) (ce : Cell) (q9 : Addr) (u : SX) (t : State) (H1 : Heap) (locs1 : List Loc), t.heap = H1 → s.vm.Alike t.vm → px u → BX E u t → H.size ≤ H1.size → (∀ q : Nat, q < H.size → ¬ AX q → H1[q]? = H[q]?) → va_S A0 H0 H1 locs1 → H1[q9]? = some ce → ce.vm = .none → s.vm.findClass E = some ce.cls → vx_W p l e R s m args below meth c H1 locs1 (cells + mc) (slots + ms) Q (F0 m pc ls rest) q9)
    (kk : ∀ (r : Int64) (u : S) (t : State) (H1 : Heap) (locs1 : List Loc), t.heap = H1 → s.vm.Alike t.vm → post r u → B u t → H.size ≤ H1.size → (∀ q : Nat, q < H.size → ¬ A1 q → H1[q]? = H[q]?) → va_S A0 H0 H1 locs1 → W p l e R s m args below meth c H1 locs1 (cells + mc) (slots + ms) Q (F0 m (pc + 3) ls (.long r :: rest))) : W p l e R s m args below meth c H locs cells slots Q (F0 m pc ls st0) := by
  intro T hT X
  rcases hr T hT X with ⟨v, st₀, t, T', L, h0, X', hL, e1, e2, ⟨⟨r, u, hv, hp, hb⟩, hF⟩, st⟩ | ⟨q, st₀, t, T', L, E, ce, h0, X', hL, e1, e2, ⟨u, hp, hb, hF⟩, hce, hcv, hcl, st⟩
  · cases hv
    obtain ⟨k1, k2, k3⟩ := vx_keep h0 e1 hS hA hf hL hF
    obtain ⟨t2, a1, b1⟩ := kk r u t T'.heap (locs ++ L) e1.symm (by rw [← e2]; exact X'.warmed.alike) hp hb k1 k2 k3 T' rfl X'
    exact ⟨t2, st t2 a1, b1⟩
  · obtain ⟨k1, k2, k3⟩ := vx_keep h0 e1 hS hAX hf hL hF
    obtain ⟨t2, a1, b1⟩ := kx E ce q u t T'.heap (locs ++ L) e1.symm (by rw [← e2]; exact X'.warmed.alike) hp hb k1 k2 k3 (by rw [e1]; exact hce) hcv hcl T' rfl X'
    exact ⟨t2, st.trans a1, b1⟩
theorem vx_callf {S SX : Type} {post : UInt32 → S → Prop} {px : SX → Prop} {B : S → State → Prop} {BX : String → SX → State → Prop} {AX : Nat → Prop} (hr : vx_Run p l e R s m args below meth c H locs cells slots mc ms (F0 m pc ls st0) rest (va_Qf post B A1 a) (vx_X px BX AX) free) (hS : va_S A0 H0 H locs) (hA : ∀ q, q < H.size → A1 q → A0 q) (hf : ∀ q, free q → A0 q) (hAX : ∀ q, q < H.size → AX q → A0 q)
    (kx : ∀ (E : String) (ce : Cell) (q9 : Addr) (u : SX) (t : State) (H1 : Heap) (locs1 : List Loc), t.heap = H1 → s.vm.Alike t.vm → px u → BX E u t → H.size ≤ H1.size → (∀ q : Nat, q < H.size → ¬ AX q → H1[q]? = H[q]?) → va_S A0 H0 H1 locs1 → H1[q9]? = some ce → ce.vm = .none → s.vm.findClass E = some ce.cls → vx_W p l e R s m args below meth c H1 locs1 (cells + mc) (slots + ms) Q (F0 m pc ls rest) q9)
    (kk : ∀ (r : UInt32) (u : S) (t : State) (H1 : Heap) (locs1 : List Loc), t.heap = H1 → s.vm.Alike t.vm → post r u → B u t → H.size ≤ H1.size → (∀ q : Nat, q < H.size → ¬ A1 q → H1[q]? = H[q]?) → va_S A0 H0 H1 locs1 → W p l e R s m args below meth c H1 locs1 (cells + mc) (slots + ms) Q (F0 m (pc + 3) ls (.float r :: rest))) : W p l e R s m args below meth c H locs cells slots Q (F0 m pc ls st0) := by
  intro T hT X
  rcases hr T hT X with ⟨v, st₀, t, T', L, h0, X', hL, e1, e2, ⟨⟨r, u, hv, hp, hb⟩, hF⟩, st⟩ | ⟨q, st₀, t, T', L, E, ce, h0, X', hL, e1, e2, ⟨u, hp, hb, hF⟩, hce, hcv, hcl, st⟩
  · cases hv
    obtain ⟨k1, k2, k3⟩ := vx_keep h0 e1 hS hA hf hL hF
    obtain ⟨t2, a1, b1⟩ := kk r u t T'.heap (locs ++ L) e1.symm (by rw [← e2]; exact X'.warmed.alike) hp hb k1 k2 k3 T' rfl X'
    exact ⟨t2, st t2 a1, b1⟩
  · obtain ⟨k1, k2, k3⟩ := vx_keep h0 e1 hS hAX hf hL hF
    obtain ⟨t2, a1, b1⟩ := kx E ce q u t T'.heap (locs ++ L) e1.symm (by rw [← e2]; exact X'.warmed.alike) hp hb k1 k2 k3 (by rw [e1]; exact hce) hcv hcl T' rfl X'
    exact ⟨t2, st.trans a1, b1⟩
theorem vx_calld {S SX : Type} {post : UInt64 → S → Prop} {px : SX → Prop} {B : S → State → Prop} {BX : String → SX → State → Prop} {AX : Nat → Prop} (hr : vx_Run p l e R s m args below meth c H locs cells slots mc ms (F0 m pc ls st0) rest (va_Qd post B A1 a) (vx_X px BX AX) free) (hS : va_S A0 H0 H locs) (hA : ∀ q, q < H.size → A1 q → A0 q) (hf : ∀ q, free q → A0 q) (hAX : ∀ q, q < H.size → AX q → A0 q)
    (kx : ∀ (E : String) (ce : Cell) (q9 : Addr) (u : SX) (t : State) (H1 : Heap) (locs1 : List Loc), t.heap = H1 → s.vm.Alike t.vm → px u → BX E u t → H.size ≤ H1.size → (∀ q : Nat, q < H.size → ¬ AX q → H1[q]? = H[q]?) → va_S A0 H0 H1 locs1 → H1[q9]? = some ce → ce.vm = .none → s.vm.findClass E = some ce.cls → vx_W p l e R s m args below meth c H1 locs1 (cells + mc) (slots + ms) Q (F0 m pc ls rest) q9)
    (kk : ∀ (r : UInt64) (u : S) (t : State) (H1 : Heap) (locs1 : List Loc), t.heap = H1 → s.vm.Alike t.vm → post r u → B u t → H.size ≤ H1.size → (∀ q : Nat, q < H.size → ¬ A1 q → H1[q]? = H[q]?) → va_S A0 H0 H1 locs1 → W p l e R s m args below meth c H1 locs1 (cells + mc) (slots + ms) Q (F0 m (pc + 3) ls (.double r :: rest))) : W p l e R s m args below meth c H locs cells slots Q (F0 m pc ls st0) := by
  intro T hT X
  rcases hr T hT X with ⟨v, st₀, t, T', L, h0, X', hL, e1, e2, ⟨⟨r, u, hv, hp, hb⟩, hF⟩, st⟩ | ⟨q, st₀, t, T', L, E, ce, h0, X', hL, e1, e2, ⟨u, hp, hb, hF⟩, hce, hcv, hcl, st⟩
  · cases hv
    obtain ⟨k1, k2, k3⟩ := vx_keep h0 e1 hS hA hf hL hF
    obtain ⟨t2, a1, b1⟩ := kk r u t T'.heap (locs ++ L) e1.symm (by rw [← e2]; exact X'.warmed.alike) hp hb k1 k2 k3 T' rfl X'
    exact ⟨t2, st t2 a1, b1⟩
  · obtain ⟨k1, k2, k3⟩ := vx_keep h0 e1 hS hAX hf hL hF
    obtain ⟨t2, a1, b1⟩ := kx E ce q u t T'.heap (locs ++ L) e1.symm (by rw [← e2]; exact X'.warmed.alike) hp hb k1 k2 k3 (by rw [e1]; exact hce) hcv hcl T' rfl X'
    exact ⟨t2, st.trans a1, b1⟩
theorem vx_callv {S SX : Type} {post : S → Prop} {px : SX → Prop} {B : S → State → Prop} {BX : String → SX → State → Prop} {AX : Nat → Prop} (hr : vx_Run p l e R s m args below meth c H locs cells slots mc ms (F0 m pc ls st0) rest (va_Qv post B A1 a) (vx_X px BX AX) free) (hS : va_S A0 H0 H locs) (hA : ∀ q, q < H.size → A1 q → A0 q) (hf : ∀ q, free q → A0 q) (hAX : ∀ q, q < H.size → AX q → A0 q)
    (kx : ∀ (E : String) (ce : Cell) (q9 : Addr) (u : SX) (t : State) (H1 : Heap) (locs1 : List Loc), t.heap = H1 → s.vm.Alike t.vm → px u → BX E u t → H.size ≤ H1.size → (∀ q : Nat, q < H.size → ¬ AX q → H1[q]? = H[q]?) → va_S A0 H0 H1 locs1 → H1[q9]? = some ce → ce.vm = .none → s.vm.findClass E = some ce.cls → vx_W p l e R s m args below meth c H1 locs1 (cells + mc) (slots + ms) Q (F0 m pc ls rest) q9)
    (kk : ∀ (u : S) (t : State) (H1 : Heap) (locs1 : List Loc), t.heap = H1 → s.vm.Alike t.vm → post u → B u t → H.size ≤ H1.size → (∀ q : Nat, q < H.size → ¬ A1 q → H1[q]? = H[q]?) → va_S A0 H0 H1 locs1 → W p l e R s m args below meth c H1 locs1 (cells + mc) (slots + ms) Q (F0 m (pc + 3) ls (rest))) : W p l e R s m args below meth c H locs cells slots Q (F0 m pc ls st0) := by
  intro T hT X
  rcases hr T hT X with ⟨v, st₀, t, T', L, h0, X', hL, e1, e2, ⟨⟨u, hv, hp, hb⟩, hF⟩, st⟩ | ⟨q, st₀, t, T', L, E, ce, h0, X', hL, e1, e2, ⟨u, hp, hb, hF⟩, hce, hcv, hcl, st⟩
  · cases hv
    obtain ⟨k1, k2, k3⟩ := vx_keep h0 e1 hS hA hf hL hF
    obtain ⟨t2, a1, b1⟩ := kk u t T'.heap (locs ++ L) e1.symm (by rw [← e2]; exact X'.warmed.alike) hp hb k1 k2 k3 T' rfl X'
    exact ⟨t2, st t2 a1, b1⟩
  · obtain ⟨k1, k2, k3⟩ := vx_keep h0 e1 hS hAX hf hL hF
    obtain ⟨t2, a1, b1⟩ := kx E ce q u t T'.heap (locs ++ L) e1.symm (by rw [← e2]; exact X'.warmed.alike) hp hb k1 k2 k3 (by rw [e1]; exact hce) hcv hcl T' rfl X'
    exact ⟨t2, st.trans a1, b1⟩
/-- caught by the row x of this method's table; the rows ahead don't take it -/
theorem vx_catch {own name : String} {E : String} {ce : Cell} {q : Addr} (hown : s.vm.findClass own = some m.cls) (pre : List ExceptionTableEntry) (x : ExceptionTableEntry) (suf : List ExceptionTableEntry) (hsplit : c.exceptionTable.toList = pre ++ x :: suf)
    (hpass : ∀ z ∈ pre, covers z pc = false ∨ (z.catchType ≠ 0 ∧ ∃ nm : String, (Cond.classLink own z.catchType nm).before args s = true ∧ va_Nc E nm s)) (hx : covers x pc = true) (h0 : x.catchType ≠ 0)
    (hlink : (Cond.classLink own x.catchType name).before args s = true) (hcast : (Cond.castable E name).before args s = true) (hcell : H[q]? = some ce) (hv : ce.vm = .none) (hcl : s.vm.findClass E = some ce.cls)
    (kk : W p l e R s m args below meth c H locs cells slots Q (F0 m x.handlerPc ls [.ref q])) : vx_W p l e R s m args below meth c H locs cells slots Q (F0 m pc ls rest) q := by
  intro T hT X
  have hpl : e.platform.magicAccessors = ({} : Platform).magicAccessors := by rw [X.admits.platform]
  obtain ⟨c3, c4, hc3, hc4, hasg⟩ := Cond.castable_spec hcast
  cases Option.some.inj (hc3.symm.trans hcl)
  obtain ⟨c5, hc5, hcl5⟩ := Cond.classLink_spec hown hlink e.platform hpl
  cases Option.some.inj (hc4.symm.trans hc5)
  obtain ⟨vm', X', st⟩ := X.thenCaughtThrough q (g := F0 m pc ls rest) rfl (Steps.refl _) (by rw [hT]; exact hcell) (by rw [hv]; rfl) (by obtain ⟨k9, h9, -⟩ := Vm.findClass_spec hcl; exact ⟨k9, h9⟩) pre x suf hsplit
    (fun z hz => by
      rcases hpass z hz with h | ⟨hz0, nm, hl1, hn1⟩
      · exact Or.inl h
      · obtain ⟨c6, hc6, hcl6⟩ := Cond.classLink_spec hown hl1 e.platform hpl
        obtain ⟨a8, b8, h1, h2, h3⟩ := hn1
        cases Option.some.inj (h1.symm.trans hcl)
        cases Option.some.inj (h2.symm.trans hc6)
        exact Or.inr ⟨hz0, _, hcl6, h3⟩) hx (Or.inr ⟨h0, c4, hcl5, hasg⟩)
  obtain ⟨t, a1, b1⟩ := kk (T.setVm vm') hT X'
  exact ⟨t, st.trans a1, b1⟩
end Rows
section Ends
variable {p : Program} {l : Launch} {e : Env} {R : Room} {s : State} {m : MethodId} {args : Array Value} {below : List Frame} {meth : Method} {c : Code} {H : Heap} {locs : List Loc} {cells slots : Nat} {Q : State → Prop}
variable {mc ms : Nat} {free : Addr → Prop} {A0 A1 : Nat → Prop} {H0 : Heap} {a : Array Value} {ls : Array Slot} {st0 rest : List Value}
variable {Qc : Array Value → State → Outcome → State → Prop} {XC : String → State → State → Prop}
/-- what a body that may throw owes at its end -/
def vx_MQ (below : List Frame) (Qc : Array Value → State → Outcome → State → Prop) (XC : String → State → State → Prop) (a : Array Value) (s : State) (mc ms : Nat) (free : Addr → Prop) : State → Prop := fun t =>
  ∃ o, t.status = .running ∧ Ended t below o ∧ vx_Q Qc XC mc ms free a s o t
theorem vx_ret {g : JFrame} {mc ms : Nat} (k : W p l e R s m args below meth c H locs cells slots (MQ below Qc args s mc ms free) g) : W p l e R s m args below meth c H locs cells slots (vx_MQ below Qc XC args s mc ms free) g := by
  intro T hT X
  obtain ⟨t, a1, o, b1, b2, b3, b4⟩ := k T hT X
  exact ⟨t, a1, o, b1, b2, Or.inl ⟨b3, b4⟩⟩
/-- not caught here: it goes on to the caller -/
theorem vx_widen {g : JFrame} {q : Addr} {k n : Nat} (h1 : cells ≤ k) (h2 : slots ≤ n) (kk : vx_W p l e R s m args below meth c H locs k n Q g q) : vx_W p l e R s m args below meth c H locs cells slots Q g q := fun T hT X => kk T hT (stand_widen X h1 h2)
theorem vx_out {pc : Nat} {E : String} {ce : Cell} {q : Addr} {mc ms : Nat} (hout : ∀ x ∈ c.exceptionTable.toList, covers x pc = false) (hlocks : meth.locks = false) (hcell : H[q]? = some ce) (hv : ce.vm = .none) (hcl : s.vm.findClass E = some ce.cls)
    (hx : ∀ t : State, t.heap = H → s.vm.Alike t.vm → XC E s t) (hf : ∀ z ∈ locs, free z.base) (hc : cells ≤ mc) (hs : slots ≤ ms) :
    vx_W p l e R s m args below meth c H locs cells slots (vx_MQ below Qc XC args s mc ms free) (F0 m pc ls rest) q := by
  intro T hT X
  obtain ⟨st1, hrun, hend, hW, hsm⟩ := X.leaveThrown q (g := F0 m pc ls rest) rfl rfl rfl hout hlocks
  have hcell9 : (T.setFrames (.throwing q :: below)).heap[q]? = some ce := by
    show T.heap[q]? = some ce
    rw [hT]; exact hcell
  exact ⟨_, st1, .threw q, hrun, hend, Or.inr ⟨q, rfl, E, ce, locs, hx _ hT hW.alike, hcell9, hv, hcl, hW, hsm.mono hc hs, hf⟩⟩
theorem vx_frame {U : State} {k n : Nat} (h : s.sameButNew ({ U with vm := s.vm } : State) locs k n) : s.heap.size ≤ U.heap.size ∧ ∀ q : Nat, q < s.heap.size → (∀ z ∈ locs, z.base ≠ q) → U.heap[q]? = s.heap[q]? := by
  obtain ⟨-, h2, -, -, -, h6⟩ := h
  refine ⟨h2, fun q hq hz => ?_⟩
  obtain ⟨c9, e1, e2, e3, e4⟩ := h6 q _ (Array.getElem?_eq_getElem hq)
  have hs : c9.slots = (s.heap[q]).slots := Array.ext_getElem? fun i => e4 i fun hm => hz _ hm rfl
  have h9 : c9 = s.heap[q] := by
    rw [hs] at e2
    exact e2
  have e5 : U.heap[q]? = some c9 := e1
  rw [e5, h9, Array.getElem?_eq_getElem hq]
/-- the words of a throw but the four that speak of the heap -/
def vx_no (w : Cond) : Bool := decide (w ≠ .isRef (.static Bundle.tN "UNASSIGNED_STACK" Bundle.steD)) && decide (w ≠ .isRef (.static Bundle.tN "SUPPRESSED_SENTINEL" Bundle.listD)) && decide (w ≠ .laysStatic Bundle.tN "UNASSIGNED_STACK" Bundle.steD) && decide (w ≠ .laysStatic Bundle.tN "SUPPRESSED_SENTINEL" Bundle.listD)
def vx_at0 (own : String) (ic : Nat) (X : String) (names : List String) : List Cond := (Bundle.ownAtoms0 own ic X names).filter vx_no
def vx_atS (own : String) (ic : Nat) (X : String) (names : List String) : List Cond := (Bundle.ownAtoms own ic X names).filter vx_no
/-- a word that the tables alone decide, or a good one -/
def vx_ot (w : Cond) : Bool := w.onTables || goodWord w
theorem vx_ot_at {args a' : Array Value} {s U : State} {w : Cond} (hW : s.WarmedH U.vm) (hvm : s.vm = U.vm) (hg : vx_ot w = true) (h : w.before args s = true) : w.before a' U = true := by
  simp only [vx_ot, Bool.or_eq_true] at hg
  rcases hg with hg | hg
  · exact va_tabs hg hvm h
  · exact word_at hW (good_of_word hg) h
/-- a list's words: the good ones out of the method's own list, the others by premises of their own -/
theorem vx_hat {args : Array Value} {s : State} {L B : List Cond} (h1 : ∀ w ∈ L.filter goodWord, w.before args s = true) (h2 : ∀ w ∈ L.filter (fun w => !goodWord w), w ∈ B) (h3 : ∀ w ∈ B, w.before args s = true) : ∀ w ∈ L, w.before args s = true := by
  intro w hw
  by_cases g : goodWord w = true
  · exact h1 w (List.mem_filter.mpr ⟨hw, g⟩)
  · refine h3 w (h2 w (List.mem_filter.mpr ⟨hw, ?_⟩))
    show (!goodWord w) = true
    cases hgw : goodWord w
    · rfl
    · exact absurd hgw g
theorem vx_c {args : Array Value} {s : State} {w : Cond} {B : List Cond} (h : w.before args s = true) (t : ∀ w ∈ B, w.before args s = true) : ∀ w' ∈ w :: B, w'.before args s = true := fun w' h' => (List.mem_cons.mp h').elim (fun e => by rw [e]; exact h) (t w')
theorem vx_n {args : Array Value} {s : State} : ∀ w ∈ ([] : List Cond), w.before args s = true := fun _ h => nomatch h
theorem vx_own {args : Array Value} {s : State} {L : List Cond} (h1 : ∀ w ∈ L.filter vx_no, w.before args s = true)
    (hU : (Cond.isRef (.static Bundle.tN "UNASSIGNED_STACK" Bundle.steD)).before args s = true) (hN : (Cond.isRef (.static Bundle.tN "SUPPRESSED_SENTINEL" Bundle.listD)).before args s = true)
    (lU : (Cond.laysStatic Bundle.tN "UNASSIGNED_STACK" Bundle.steD).before args s = true) (lN : (Cond.laysStatic Bundle.tN "SUPPRESSED_SENTINEL" Bundle.listD).before args s = true) : ∀ w ∈ L, w.before args s = true := by
  intro w hw
  by_cases e1 : w = .isRef (.static Bundle.tN "UNASSIGNED_STACK" Bundle.steD)
  · rw [e1]; exact hU
  · by_cases e2 : w = .isRef (.static Bundle.tN "SUPPRESSED_SENTINEL" Bundle.listD)
    · rw [e2]; exact hN
    · by_cases e3 : w = .laysStatic Bundle.tN "UNASSIGNED_STACK" Bundle.steD
      · rw [e3]; exact lU
      · by_cases e4 : w = .laysStatic Bundle.tN "SUPPRESSED_SENTINEL" Bundle.listD
        · rw [e4]; exact lN
        · exact h1 w (List.mem_filter.mpr ⟨hw, by unfold vx_no; rw [decide_eq_true e1, decide_eq_true e2, decide_eq_true e3, decide_eq_true e4]; rfl⟩)
/-- where a static field lies, its class's statics cell in H -/
def vx_L (C n d : String) (A : Nat → Prop) (U : State) (H : Heap) : Prop := ∃ (c : ClassId) (k : Class) (i : Nat) (f : Field) (a : Nat) (cell : Cell), U.vm.findClass C = some c ∧ U.fieldFound? C n d = some (c, k, i, f) ∧ f.isStatic = true ∧ k.statics = some a ∧ H[a]? = some cell ∧ cell.vm.isStatics = true ∧ cell.cls = c ∧ f.slot < cell.slots.size ∧ k.staticTypes[f.slot]? = some f.type ∧ ¬ A a
theorem vx_L.moved {C n d : String} {A : Nat → Prop} {u U : State} {H : Heap} (hvm : u.vm.Alike U.vm) (h : vx_L C n d A u H) : vx_L C n d A U H := by
  obtain ⟨c, k, i, f, a, cell, h1, h2, h3, h4, h5, h6, h7, h8, h9, h10⟩ := h
  obtain ⟨k', hi', he⟩ := State.fieldFound?_setVm hvm h2
  exact ⟨c, k', i, f, a, cell, by rw [hvm.findClass]; exact h1, hi', h3, by rw [he]; exact h4, h5, h6, h7, h8, by rw [he]; exact h9, h10⟩
theorem vx_L.kept {C n d : String} {A : Nat → Prop} {U : State} {H H1 : Heap} (h : vx_L C n d A U H) (hq : ∀ a : Nat, a < H.size → ¬ A a → H1[a]? = H[a]?) : vx_L C n d A U H1 := by
  obtain ⟨c, k, i, f, a, cell, h1, h2, h3, h4, h5, h6, h7, h8, h9, h10⟩ := h
  exact ⟨c, k, i, f, a, cell, h1, h2, h3, h4, by rw [hq a (Array.getElem?_eq_some_iff.mp h5).1 h10]; exact h5, h6, h7, h8, h9, h10⟩
theorem vx_L.narrow {C n d : String} {A B : Nat → Prop} {U : State} {H : Heap} (h : vx_L C n d A U H) (hAB : ∀ q, B q → A q) : vx_L C n d B U H := by
  obtain ⟨c, k, i, f, a, cell, h1, h2, h3, h4, h5, h6, h7, h8, h9, h10⟩ := h
  exact ⟨c, k, i, f, a, cell, h1, h2, h3, h4, h5, h6, h7, h8, h9, fun z => h10 (hAB _ z)⟩
theorem vx_L.word {C n d : String} {A : Nat → Prop} {s : State} {args : Array Value} (h : vx_L C n d A s s.heap) : (Cond.laysStatic C n d).before args s = true := by
  obtain ⟨c, k, i, f, a, cell, h1, h2, h3, h4, h5, h6, h7, h8, h9, -⟩ := h
  show (Cond.laysStatic C n d).holds args s none s [] = true
  exact Cond.laysStatic_of h1 h2 h3 h4 h5 h6 h7 h8 h9
/-- .. and what it holds: null or some reference -/
def vx_Zq (C n d : String) (A : Nat → Prop) (U : State) (H : Heap) : Prop := va_Zq C n d A U H ∧ vx_L C n d A U H
theorem vx_Zq.moved {C n d : String} {A : Nat → Prop} {u U : State} {H : Heap} (hvm : u.vm.Alike U.vm) (h : vx_Zq C n d A u H) : vx_Zq C n d A U H := ⟨va_Zq.moved hvm h.1, vx_L.moved hvm h.2⟩
theorem vx_Zq.kept {C n d : String} {A : Nat → Prop} {U : State} {H H1 : Heap} (h : vx_Zq C n d A U H) (hq : ∀ a : Nat, a < H.size → ¬ A a → H1[a]? = H[a]?) : vx_Zq C n d A U H1 := ⟨va_Zq.kept h.1 hq, vx_L.kept h.2 hq⟩
theorem vx_Zq.narrow {C n d : String} {A B : Nat → Prop} {U : State} {H : Heap} (h : vx_Zq C n d A U H) (hAB : ∀ q, B q → A q) : vx_Zq C n d B U H := ⟨va_Zq.narrow h.1 hAB, vx_L.narrow h.2 hAB⟩
theorem vx_Zqof {args : Array Value} {s : State} {C n d : String} {A : Nat → Prop} (hl : (Cond.laysStatic C n d).before args s = true) (hini : (Cond.initialized C).before args s = true) (h : (Cond.isRef (.static C n d)).before args s = true) (hA : ∀ a : Nat, a < s.heap.size → ¬ A a) : vx_Zq C n d A s s.heap := by
  refine ⟨va_Zqof hl hini h hA, ?_⟩
  obtain ⟨c, k, i, f, a, cell, h1, h2, h3, h4, h5, h6, h7, h8, h9⟩ := Cond.laysStatic_spec hl
  exact ⟨c, k, i, f, a, cell, h1, h2, h3, h4, h5, h6, h7, h8, h9, hA a (Array.getElem?_eq_some_iff.mp h5).1⟩
theorem vx_isRef {C n d : String} {v : Value} {A : Nat → Prop} {s : State} {args : Array Value} (h : va_Z C n d v A s s.heap) (hv : v.isRef = true) : (Cond.isRef (.static C n d)).before args s = true := by
  obtain ⟨cf, kf, fi, f, a, cell, h1, h2, h3, h4, h5, h6, h7, -⟩ := h
  have he : (Term.static C n d).eval args s none [] s = some v := by
    simp [Term.eval, State.fieldNamed?, h1, h2, h4, h5, h6, h7]
  simp only [Cond.before, Cond.holds, Cond.value, he]
  cases v <;> simp_all [Value.isRef]
theorem vx_isRefq {C n d : String} {A : Nat → Prop} {s : State} {args : Array Value} (h : va_Zq C n d A s s.heap) : (Cond.isRef (.static C n d)).before args s = true := by
  rcases h with h | ⟨t, h⟩
  · exact vx_isRef h rfl
  · exact vx_isRef h rfl
/-- the same frame, seen from here: as if the method were called anew in this heap -/
theorem vx_rebase {T : State} (X : Stand p l e R s m args below meth c T locs cells slots) {R' : Room} (hf : R'.frames ≤ R.frames) (hl : R'.locals ≤ R.locals) (hc : cells + R'.cells ≤ R.cells) (hs : slots + R'.slots ≤ R.slots) :
    Stand p l e R' ((T.setVm s.vm).setFrames (.invoking m args :: below)) m args below meth c T [] 0 0 := by
  have htop : (T.setVm s.vm).topJava?.isSome := X.here.top
  have hF : ((T.setVm s.vm).setFrames (.invoking m args :: below)).frames = .invoking m args :: below := State.frames_setFrames _ (State.cur_lt_of_top htop)
  obtain ⟨g₀, hg0⟩ := Option.isSome_iff_exists.mp htop
  obtain ⟨r, hr⟩ := State.topJava?_eq_some.mp hg0
  have hl9 : e.platform.stackLimits (T.setVm s.vm).me = e.platform.stackLimits s.me := X.limits
  have hb9 : (T.setVm s.vm).me.stackBytes = s.me.stackBytes := X.bytes
  refine ⟨X.admits, X.cas, X.clock, hF, ?_, X.hears, X.method, X.code, X.here, X.tail, X.warmed, ?_, ?_, ?_⟩
  · have h := X.room
    have hU : ((T.setVm s.vm).setFrames (.invoking m args :: below)).localsInUse = s.localsInUse := by
      rw [State.localsInUse_invoking hF (meth := meth) (c := c) X.method X.code, State.localsInUse_invoking X.frames X.method X.code]
    simp only [State.hasRoom, Bool.and_eq_true, decide_eq_true_eq] at h ⊢
    obtain ⟨⟨⟨⟨h1, h2, h3, h4, h5, h6⟩, h7⟩, h8⟩, h9⟩ := h
    rw [X.frames, List.length_cons] at h2 h3
    have q1 := X.heapSize
    have q2 := X.used
    simp only [hF, hU, List.length_cons, State.stackLimits_setFrames, State.stackBytes_setFrames, hl9, hb9]
    refine ⟨⟨⟨⟨by omega, by omega, by omega, by omega, by omega, h6⟩, ?_⟩, ?_⟩, X.book⟩
    · show T.heap.size + R'.cells ≤ e.platform.maxCells
      omega
    · show T.slotsUsed + R'.slots ≤ e.platform.maxSlots
      omega
  · rw [State.stackLimits_setFrames]; rfl
  · rw [State.stackBytes_setFrames]; rfl
  · refine ⟨?_, Nat.le_refl _, Nat.le_refl _, ?_, ?_, fun a c9 h9 => ⟨c9, h9, rfl, rfl, fun _ _ => rfl⟩⟩
    · obtain ⟨t, ht, -⟩ := State.frames_cons hr
      show T.setVm s.vm = { ((T.setVm s.vm).setFrames (.invoking m args :: below)).setFrames (T.setVm s.vm).frames with heap := T.heap, slotsUsed := T.slotsUsed }
      rw [State.setFrames_setFrames, State.setFrames_self ht]
      rfl
    · show T.slotsUsed = T.slotsUsed + ((T.heap.toList.drop T.heap.size).map (·.slots.size)).sum
      rw [List.drop_eq_nil_of_le (Nat.le_of_eq Array.length_toList)]
      rfl
    · show ((T.heap.toList.drop T.heap.size).map (·.slots.size)).sum ≤ 0
      rw [List.drop_eq_nil_of_le (Nat.le_of_eq Array.length_toList)]
      exact Nat.le_refl _
/-- 'throw new E()': new; dup; invokespecial; athrow -/
theorem vx_throw0 {cc : ByteArray} {pc : Nat} (hexec : p.tables.exec = Jvm.exec) (hb : c.code = cc) (hl : l.stackTraces = false) {own cls : String} {names : List String} {ik ic mc ms : Nat} {A : Nat → Prop}
    (hown : s.vm.findClass own = some m.cls) (hcls : Bundle.fit cls = true) (hnames : ∀ n ∈ names, Bundle.fit n = true)
    (hk : (Cond.classLink own ik cls).before args s = true) (hini : (Cond.initialized cls).before args s = true) (hat : ∀ w ∈ vx_at0 own ic cls names, w.before args s = true)
    (hgood : ∀ w ∈ Cond.classLink own ik cls :: Cond.initialized cls :: vx_at0 own ic cls names, vx_ot w = true)
    (hU : vx_Zq Bundle.tN "UNASSIGNED_STACK" Bundle.steD A s s.heap) (hN : vx_Zq Bundle.tN "SUPPRESSED_SENTINEL" Bundle.listD A s s.heap) (hS : va_S A s.heap H locs) (hsize : ls.size = c.maxLocals)
    (d0 : decode cc pc = .ok (.new ik, 3)) (d3 : decode cc (pc + 3) = .ok (.dup, 1)) (d4 : decode cc (pc + 4) = .ok (.invokespecial ic, 3)) (d7 : decode cc (pc + 7) = .ok (.athrow, 1))
    (hout : ∀ x ∈ c.exceptionTable.toList, covers x (pc + 7) = false)
    (hRframes : names.length + 3 < R.frames) (hRlocals : (rest.map fun v => v.category).sum + (13 * (names.length + 1) + 42) ≤ R.locals) (hRcells : cells + 1 ≤ R.cells) (hRslots : slots + 6 ≤ R.slots) (hlocks : meth.locks = false)
    (hx : ∀ t : State, s.vm.Alike t.vm → H.size ≤ t.heap.size → (∀ q : Nat, q < H.size → t.heap[q]? = H[q]?) → XC cls s t)
    (hf : ∀ z ∈ locs, free z.base) (hc : cells + 1 ≤ mc) (hs : slots + 6 ≤ ms) :
    W p l e R s m args below meth c H locs cells slots (vx_MQ below Qc XC args s mc ms free) (F0 m pc ls rest) := by
  intro T hT X
  have htr : e.platform.stackTraces = false := (show e.platform.stackTraces = l.stackTraces by rw [X.admits.platform]).trans hl
  have Y := vx_rebase X (R' := { frames := R.frames, locals := R.locals, cells := 1, slots := 6 }) (Nat.le_refl _) (Nat.le_refl _) hRcells hRslots
  obtain ⟨s', hA⟩ : ∃ z, z = (T.setVm s.vm).setFrames (.invoking m args :: below) := ⟨_, rfl⟩
  rw [← hA] at Y
  have hvm : s'.vm = s.vm := by rw [hA]; rfl
  have hhp : s'.heap = H := by rw [hA]; exact hT
  have hW0 : s.WarmedH s'.vm := by rw [hvm]; exact State.WarmedH.refl s
  have hat' : ∀ w ∈ vx_at0 own ic cls names, w.before args s' = true := fun w hw => vx_ot_at hW0 hvm.symm (hgood w (List.mem_cons_of_mem _ (List.mem_cons_of_mem _ hw))) (hat w hw)
  have hk' : (Cond.classLink own ik cls).before args s' = true := vx_ot_at hW0 hvm.symm (hgood _ List.mem_cons_self) hk
  have hini' : (Cond.initialized cls).before args s' = true := vx_ot_at hW0 hvm.symm (hgood _ (List.mem_cons_of_mem _ List.mem_cons_self)) hini
  have hU' : vx_Zq Bundle.tN "UNASSIGNED_STACK" Bundle.steD A s' s'.heap := by rw [hhp]; exact vx_Zq.moved hW0.alike (hU.kept hS.2.1)
  have hN' : vx_Zq Bundle.tN "SUPPRESSED_SENTINEL" Bundle.listD A s' s'.heap := by rw [hhp]; exact vx_Zq.moved hW0.alike (hN.kept hS.2.1)
  have h : ∀ w ∈ Bundle.ownAtoms0 own ic cls names, w.before args s' = true := vx_own hat' (vx_isRefq hU'.1) (vx_isRefq hN'.1) hU'.2.word hN'.2.word
  have hown' : s'.vm.findClass own = some m.cls := by rw [hvm]; exact hown
  have hins : (Cond.instantiable cls 6).before args s' = true := h _ (by simp [Bundle.ownAtoms0])
  obtain ⟨vm₁, cX, kX, hfX, hkX, -, -, X₁, st1⟩ := Y.newCold hexec (own := own) (C := cls) (index := ik) (n := 6) hown' hk' hins hini'
    (g := F0 m pc ls rest) rfl (by rw [hb]; exact d0) (Nat.le_refl _) (Nat.le_refl _)
  generalize hT1 : (T.setVm vm₁).pushCell { cls := cX, slots := kX.instanceTypes.map defaultValue, vm := .none } = T1 at X₁ st1
  have hcat : (Value.ref T.heap.size).category = 1 := rfl
  have hcellA : T1.heap[T.heap.size]? = some (freshCell cX kX) := by rw [← hT1]; exact State.heap_pushCell_size _ _
  have d3' : decode c.code (pc + 3) = .ok (.dup, 1) := by rw [hb]; exact d3
  obtain ⟨U, hsteps, hrun, hend, hW, hsame, ce, hce, hO⟩ := X₁.ctorThrow0 hexec htr (own := own) (cls := cls) (names := names) (ic := ic) hown' hcls hnames h (fun x hx => nomatch hx) hfX hkX hcellA (by rw [hhp, hT]; exact Nat.le_refl _)
    (g := { method := m, pc := pc + 4, locals := ls, stack := .ref T.heap.size :: .ref T.heap.size :: rest, locked := none }) rfl hsize rfl rfl (rest := rest) rfl
    (by rw [hb]; exact d4) (by rw [hb]; exact d7) hout hRframes (by simp only [List.map_cons, List.sum_cons, hcat]; omega) hlocks
  obtain ⟨f1, f2⟩ := vx_frame hsame
  rw [hhp] at f1 f2
  have hWs : s.WarmedH U.vm := State.WarmedH.trans hW0 hW
  have hcl : s.vm.findClass cls = some ce.cls := by
    have h9 := hO.cls
    rw [hvm] at h9
    exact h9
  have hall : s.sameButNew ({ U with vm := s.vm } : State) locs mc ms := by
    subst hA
    obtain ⟨e1, e2⟩ := hsame
    rw [State.setFrames_setFrames] at e1
    have h2 : (T.setVm s.vm).sameButNew ({ U with vm := s.vm } : State) [] (0 + 1) (0 + 6) := ⟨e1, e2⟩
    have h3 := X.same.trans h2
    rw [List.append_nil] at h3
    exact h3.mono hc hs
  refine ⟨U, ?_, .threw T.heap.size, hrun, hend, Or.inr ⟨T.heap.size, rfl, cls, ce, locs, hx U hWs.alike f1 (fun q hq => f2 q hq (fun z hz => nomatch hz)), hce, hO.vm, hcl, hWs, hall, hf⟩⟩
  refine st1 _ ?_
  show Steps p.tables e below (T1.setTop { method := m, pc := pc + 3, locals := ls, stack := .ref T.heap.size :: rest, locked := none }) _
  jvm_step X₁.here [X₁.here.top, hexec, d3', Value.category]
  exact hsteps
/-- 'throw new E("text")': new; dup; ldc; invokespecial; athrow -/
theorem vx_throwS {cc : ByteArray} {pc : Nat} (hexec : p.tables.exec = Jvm.exec) (hb : c.code = cc) (hl : l.stackTraces = false) {own cls text : String} {names : List String} {ik is ic mc ms sa : Nat} {A : Nat → Prop}
    (hown : s.vm.findClass own = some m.cls) (hcls : Bundle.fit cls = true) (hnames : ∀ n ∈ names, Bundle.fit n = true)
    (hk : (Cond.classLink own ik cls).before args s = true) (hini : (Cond.initialized cls).before args s = true) (hstr : vk_R own is text sa s) (hat : ∀ w ∈ vx_atS own ic cls names, w.before args s = true)
    (hgood : ∀ w ∈ Cond.classLink own ik cls :: Cond.initialized cls :: vx_atS own ic cls names, vx_ot w = true)
    (hU : vx_Zq Bundle.tN "UNASSIGNED_STACK" Bundle.steD A s s.heap) (hN : vx_Zq Bundle.tN "SUPPRESSED_SENTINEL" Bundle.listD A s s.heap) (hS : va_S A s.heap H locs) (hsize : ls.size = c.maxLocals)
    (d0 : decode cc pc = .ok (.new ik, 3)) (d3 : decode cc (pc + 3) = .ok (.dup, 1)) (d4 : decode cc (pc + 4) = .ok (.ldc is, 2)) (d6 : decode cc (pc + 6) = .ok (.invokespecial ic, 3)) (d9 : decode cc (pc + 9) = .ok (.athrow, 1))
    (hout : ∀ x ∈ c.exceptionTable.toList, covers x (pc + 9) = false)
    (hRframes : names.length + 3 < R.frames) (hRlocals : (rest.map fun v => v.category).sum + (13 * (names.length + 1) + 43) ≤ R.locals) (hRcells : cells + 1 ≤ R.cells) (hRslots : slots + 6 ≤ R.slots) (hlocks : meth.locks = false)
    (hx : ∀ t : State, s.vm.Alike t.vm → H.size ≤ t.heap.size → (∀ q : Nat, q < H.size → t.heap[q]? = H[q]?) → XC cls s t)
    (hf : ∀ z ∈ locs, free z.base) (hc : cells + 1 ≤ mc) (hs : slots + 6 ≤ ms) :
    W p l e R s m args below meth c H locs cells slots (vx_MQ below Qc XC args s mc ms free) (F0 m pc ls rest) := by
  intro T hT X
  have htr : e.platform.stackTraces = false := (show e.platform.stackTraces = l.stackTraces by rw [X.admits.platform]).trans hl
  have Y := vx_rebase X (R' := { frames := R.frames, locals := R.locals, cells := 1, slots := 6 }) (Nat.le_refl _) (Nat.le_refl _) hRcells hRslots
  obtain ⟨s', hA⟩ : ∃ z, z = (T.setVm s.vm).setFrames (.invoking m args :: below) := ⟨_, rfl⟩
  rw [← hA] at Y
  have hvm : s'.vm = s.vm := by rw [hA]; rfl
  have hhp : s'.heap = H := by rw [hA]; exact hT
  have hW0 : s.WarmedH s'.vm := by rw [hvm]; exact State.WarmedH.refl s
  have hat' : ∀ w ∈ vx_atS own ic cls names, w.before args s' = true := fun w hw => vx_ot_at hW0 hvm.symm (hgood w (List.mem_cons_of_mem _ (List.mem_cons_of_mem _ hw))) (hat w hw)
  have hk' : (Cond.classLink own ik cls).before args s' = true := vx_ot_at hW0 hvm.symm (hgood _ List.mem_cons_self) hk
  have hini' : (Cond.initialized cls).before args s' = true := vx_ot_at hW0 hvm.symm (hgood _ (List.mem_cons_of_mem _ List.mem_cons_self)) hini
  have hU' : vx_Zq Bundle.tN "UNASSIGNED_STACK" Bundle.steD A s' s'.heap := by rw [hhp]; exact vx_Zq.moved hW0.alike (hU.kept hS.2.1)
  have hN' : vx_Zq Bundle.tN "SUPPRESSED_SENTINEL" Bundle.listD A s' s'.heap := by rw [hhp]; exact vx_Zq.moved hW0.alike (hN.kept hS.2.1)
  have h : ∀ w ∈ Bundle.ownAtoms own ic cls names, w.before args s' = true := vx_own hat' (vx_isRefq hU'.1) (vx_isRefq hN'.1) hU'.2.word hN'.2.word
  have hown' : s'.vm.findClass own = some m.cls := by rw [hvm]; exact hown
  have hins : (Cond.instantiable cls 6).before args s' = true := h _ (by simp [Bundle.ownAtoms])
  obtain ⟨vm₁, cX, kX, hfX, hkX, -, -, X₁, st1⟩ := Y.newCold hexec (own := own) (C := cls) (index := ik) (n := 6) hown' hk' hins hini'
    (g := F0 m pc ls rest) rfl (by rw [hb]; exact d0) (Nat.le_refl _) (Nat.le_refl _)
  generalize hT1 : (T.setVm vm₁).pushCell { cls := cX, slots := kX.instanceTypes.map defaultValue, vm := .none } = T1 at X₁ st1
  have hcat : (Value.ref T.heap.size).category = 1 := rfl
  have hcellA : T1.heap[T.heap.size]? = some (freshCell cX kX) := by rw [← hT1]; exact State.heap_pushCell_size _ _
  have d3' : decode c.code (pc + 3) = .ok (.dup, 1) := by rw [hb]; exact d3
  have d4' : decode c.code (pc + 4) = .ok (.ldc is, 2) := by rw [hb]; exact d4
  have hstr' : vk_R own is text sa s' := vk_R.warm hW0 hstr
  obtain ⟨U, hsteps, hrun, hend, hW, hsame, ce, hce, hO⟩ := X₁.ctorThrowS hexec htr (own := own) (cls := cls) (names := names) (ic := ic) hown' hcls hnames h (fun x hx => nomatch hx) hfX hkX hcellA (by rw [hhp, hT]; exact Nat.le_refl _) (msg := .ref sa) rfl
    (g := { method := m, pc := pc + 6, locals := ls, stack := .ref sa :: .ref T.heap.size :: .ref T.heap.size :: rest, locked := none }) rfl hsize rfl rfl (rest := rest) rfl
    (by rw [hb]; exact d6) (by rw [hb]; exact d9) hout hRframes (by simp only [List.map_cons, List.sum_cons, hcat]; omega) hlocks
  obtain ⟨f1, f2⟩ := vx_frame hsame
  rw [hhp] at f1 f2
  have hWs : s.WarmedH U.vm := State.WarmedH.trans hW0 hW
  have hcl : s.vm.findClass cls = some ce.cls := by
    have h9 := hO.cls
    rw [hvm] at h9
    exact h9
  have hall : s.sameButNew ({ U with vm := s.vm } : State) locs mc ms := by
    subst hA
    obtain ⟨e1, e2⟩ := hsame
    rw [State.setFrames_setFrames] at e1
    have h2 : (T.setVm s.vm).sameButNew ({ U with vm := s.vm } : State) [] (0 + 1) (0 + 6) := ⟨e1, e2⟩
    have h3 := X.same.trans h2
    rw [List.append_nil] at h3
    exact h3.mono hc hs
  refine ⟨U, ?_, .threw T.heap.size, hrun, hend, Or.inr ⟨T.heap.size, rfl, cls, ce, locs, hx U hWs.alike f1 (fun q hq => f2 q hq (fun z hz => nomatch hz)), hce, hO.vm, hcl, hWs, hall, hf⟩⟩
  refine st1 _ ?_
  show Steps p.tables e below (T1.setTop { method := m, pc := pc + 3, locals := ls, stack := .ref T.heap.size :: rest, locked := none }) _
  jvm_step X₁.here [X₁.here.top, hexec, d3', Value.category]
  exact X₁.ldcString hexec (own := own) (text := text) (index := is) (a := sa) hown' hstr'.1 hstr'.2
    (g := { method := m, pc := pc + 4, locals := ls, stack := .ref T.heap.size :: .ref T.heap.size :: rest, locked := none }) rfl d4' _ hsteps
/-- 'throw new E("text")', the text by a wide index -/
theorem vx_throwSW {cc : ByteArray} {pc : Nat} (hexec : p.tables.exec = Jvm.exec) (hb : c.code = cc) (hl : l.stackTraces = false) {own cls text : String} {names : List String} {ik is ic mc ms sa : Nat} {A : Nat → Prop}
    (hown : s.vm.findClass own = some m.cls) (hcls : Bundle.fit cls = true) (hnames : ∀ n ∈ names, Bundle.fit n = true)
    (hk : (Cond.classLink own ik cls).before args s = true) (hini : (Cond.initialized cls).before args s = true) (hstr : vk_R own is text sa s) (hat : ∀ w ∈ vx_atS own ic cls names, w.before args s = true)
    (hgood : ∀ w ∈ Cond.classLink own ik cls :: Cond.initialized cls :: vx_atS own ic cls names, vx_ot w = true)
    (hU : vx_Zq Bundle.tN "UNASSIGNED_STACK" Bundle.steD A s s.heap) (hN : vx_Zq Bundle.tN "SUPPRESSED_SENTINEL" Bundle.listD A s s.heap) (hS : va_S A s.heap H locs) (hsize : ls.size = c.maxLocals)
    (d0 : decode cc pc = .ok (.new ik, 3)) (d3 : decode cc (pc + 3) = .ok (.dup, 1)) (d4 : decode cc (pc + 4) = .ok (.ldc_w is, 3)) (d7 : decode cc (pc + 7) = .ok (.invokespecial ic, 3)) (d10 : decode cc (pc + 10) = .ok (.athrow, 1))
    (hout : ∀ x ∈ c.exceptionTable.toList, covers x (pc + 10) = false)
    (hRframes : names.length + 3 < R.frames) (hRlocals : (rest.map fun v => v.category).sum + (13 * (names.length + 1) + 43) ≤ R.locals) (hRcells : cells + 1 ≤ R.cells) (hRslots : slots + 6 ≤ R.slots) (hlocks : meth.locks = false)
    (hx : ∀ t : State, s.vm.Alike t.vm → H.size ≤ t.heap.size → (∀ q : Nat, q < H.size → t.heap[q]? = H[q]?) → XC cls s t)
    (hf : ∀ z ∈ locs, free z.base) (hc : cells + 1 ≤ mc) (hs : slots + 6 ≤ ms) :
    W p l e R s m args below meth c H locs cells slots (vx_MQ below Qc XC args s mc ms free) (F0 m pc ls rest) := by
  intro T hT X
  have htr : e.platform.stackTraces = false := (show e.platform.stackTraces = l.stackTraces by rw [X.admits.platform]).trans hl
  have Y := vx_rebase X (R' := { frames := R.frames, locals := R.locals, cells := 1, slots := 6 }) (Nat.le_refl _) (Nat.le_refl _) hRcells hRslots
  obtain ⟨s', hA⟩ : ∃ z, z = (T.setVm s.vm).setFrames (.invoking m args :: below) := ⟨_, rfl⟩
  rw [← hA] at Y
  have hvm : s'.vm = s.vm := by rw [hA]; rfl
  have hhp : s'.heap = H := by rw [hA]; exact hT
  have hW0 : s.WarmedH s'.vm := by rw [hvm]; exact State.WarmedH.refl s
  have hat' : ∀ w ∈ vx_atS own ic cls names, w.before args s' = true := fun w hw => vx_ot_at hW0 hvm.symm (hgood w (List.mem_cons_of_mem _ (List.mem_cons_of_mem _ hw))) (hat w hw)
  have hk' : (Cond.classLink own ik cls).before args s' = true := vx_ot_at hW0 hvm.symm (hgood _ List.mem_cons_self) hk
  have hini' : (Cond.initialized cls).before args s' = true := vx_ot_at hW0 hvm.symm (hgood _ (List.mem_cons_of_mem _ List.mem_cons_self)) hini
  have hU' : vx_Zq Bundle.tN "UNASSIGNED_STACK" Bundle.steD A s' s'.heap := by rw [hhp]; exact vx_Zq.moved hW0.alike (hU.kept hS.2.1)
  have hN' : vx_Zq Bundle.tN "SUPPRESSED_SENTINEL" Bundle.listD A s' s'.heap := by rw [hhp]; exact vx_Zq.moved hW0.alike (hN.kept hS.2.1)
  have h : ∀ w ∈ Bundle.ownAtoms own ic cls names, w.before args s' = true := vx_own hat' (vx_isRefq hU'.1) (vx_isRefq hN'.1) hU'.2.word hN'.2.word
  have hown' : s'.vm.findClass own = some m.cls := by rw [hvm]; exact hown
  have hins : (Cond.instantiable cls 6).before args s' = true := h _ (by simp [Bundle.ownAtoms])
  obtain ⟨vm₁, cX, kX, hfX, hkX, -, -, X₁, st1⟩ := Y.newCold hexec (own := own) (C := cls) (index := ik) (n := 6) hown' hk' hins hini'
    (g := F0 m pc ls rest) rfl (by rw [hb]; exact d0) (Nat.le_refl _) (Nat.le_refl _)
  generalize hT1 : (T.setVm vm₁).pushCell { cls := cX, slots := kX.instanceTypes.map defaultValue, vm := .none } = T1 at X₁ st1
  have hcat : (Value.ref T.heap.size).category = 1 := rfl
  have hcellA : T1.heap[T.heap.size]? = some (freshCell cX kX) := by rw [← hT1]; exact State.heap_pushCell_size _ _
  have d3' : decode c.code (pc + 3) = .ok (.dup, 1) := by rw [hb]; exact d3
  have d4' : decode c.code (pc + 4) = .ok (.ldc_w is, 3) := by rw [hb]; exact d4
  have hstr' : vk_R own is text sa s' := vk_R.warm hW0 hstr
  obtain ⟨U, hsteps, hrun, hend, hW, hsame, ce, hce, hO⟩ := X₁.ctorThrowS hexec htr (own := own) (cls := cls) (names := names) (ic := ic) hown' hcls hnames h (fun x hx => nomatch hx) hfX hkX hcellA (by rw [hhp, hT]; exact Nat.le_refl _) (msg := .ref sa) rfl
    (g := { method := m, pc := pc + 7, locals := ls, stack := .ref sa :: .ref T.heap.size :: .ref T.heap.size :: rest, locked := none }) rfl hsize rfl rfl (rest := rest) rfl
    (by rw [hb]; exact d7) (by rw [hb]; exact d10) hout hRframes (by simp only [List.map_cons, List.sum_cons, hcat]; omega) hlocks
  obtain ⟨f1, f2⟩ := vx_frame hsame
  rw [hhp] at f1 f2
  have hWs : s.WarmedH U.vm := State.WarmedH.trans hW0 hW
  have hcl : s.vm.findClass cls = some ce.cls := by
    have h9 := hO.cls
    rw [hvm] at h9
    exact h9
  have hall : s.sameButNew ({ U with vm := s.vm } : State) locs mc ms := by
    subst hA
    obtain ⟨e1, e2⟩ := hsame
    rw [State.setFrames_setFrames] at e1
    have h2 : (T.setVm s.vm).sameButNew ({ U with vm := s.vm } : State) [] (0 + 1) (0 + 6) := ⟨e1, e2⟩
    have h3 := X.same.trans h2
    rw [List.append_nil] at h3
    exact h3.mono hc hs
  refine ⟨U, ?_, .threw T.heap.size, hrun, hend, Or.inr ⟨T.heap.size, rfl, cls, ce, locs, hx U hWs.alike f1 (fun q hq => f2 q hq (fun z hz => nomatch hz)), hce, hO.vm, hcl, hWs, hall, hf⟩⟩
  refine st1 _ ?_
  show Steps p.tables e below (T1.setTop { method := m, pc := pc + 3, locals := ls, stack := .ref T.heap.size :: rest, locked := none }) _
  jvm_step X₁.here [X₁.here.top, hexec, d3', Value.category]
  exact X₁.ldcStringW hexec (own := own) (text := text) (index := is) (a := sa) hown' hstr'.1 hstr'.2
    (g := { method := m, pc := pc + 4, locals := ls, stack := .ref T.heap.size :: .ref T.heap.size :: rest, locked := none }) rfl d4' _ hsteps
end Ends
section Bodies
variable {l : Launch}
theorem vx_ofW {y : MethodName} {ws ws' : List Cond} {rm : Room} {Pc : Array Value → State → Prop} {Qc : Array Value → State → Outcome → State → Prop} {XC : String → State → State → Prop} {mc ms : Nat} {free : Addr → Prop} {cc : ByteArray} {maxL : Nat} {ret : Option FieldType}
    (hy : plainName y.cls = true) (hw : ws = Cond.code y cc maxL ret :: ws')
    (body : ∀ p e s m args below meth c s₁, BodyLoose p l y (headSpec ws rm) cc maxL ret e s m args below meth c s₁ → c.maxLocals = maxL → (∀ x ∈ c.exceptionTable.toList, False) → Pc args s →
      W p l e (headSpec ws rm).room s m args below meth c s.heap [] 0 0 (vx_MQ below Qc XC args s mc ms free) (entryFrame m args maxL)) : vx_Met l y ws rm Pc Qc XC mc ms free := by
  refine MetFree.of_bodyS (code := cc) (maxLocals := maxL) (ret := ret) hy ?_ ?_
  · intro args s m h hn
    obtain ⟨meth, c, h1, h2, h3, h4, h5, h6, -, -⟩ := Cond.code_spec hn (atoms_spec (ws := ws) h _ (by rw [hw]; exact List.mem_cons_self))
    exact ⟨meth, c, h1, h2, h3, h4, h5, h6⟩
  · intro p e s m args below meth c s₁ B hml hP _
    have hh0 : s₁.heap = s.heap := by rw [B.state]; rfl
    have ht : ∀ x ∈ c.exceptionTable.toList, False := by
      obtain ⟨meth9, c9, h1, h2, -, -, -, -, h7, -⟩ := Cond.code_spec B.named (atoms_spec (ws := ws) B.pre _ (by rw [hw]; exact List.mem_cons_self))
      cases Option.some.inj (h1.symm.trans B.method)
      cases Option.some.inj (h2.symm.trans (Stand.of_body B).code)
      intro x hx
      rw [Array.isEmpty_iff.mp h7] at hx
      cases hx
    obtain ⟨t, a1, o, b1, b2, b3⟩ := body p e s m args below meth c s₁ B hml ht hP s₁ hh0 (Stand.of_body B)
    exact ⟨t, o, a1, b1, b2, b3⟩
/-- the table of a body with handlers -/
theorem vx_table {p : Program} {x y : MethodName} {S : Spec} {cc bytes : ByteArray} {maxL maxL' : Nat} {ret ret' : Option FieldType} {e : Env} {s s₁ : State} {m : MethodId} {args : Array Value} {below : List Frame} {meth : Method} {c : Code} {hh : List (Nat × Nat × Nat × Nat)}
    (B : BodyLoose p l y S cc maxL ret e s m args below meth c s₁) (h : (Cond.codeWith y bytes maxL' ret' hh).before args s = true) : c.exceptionTable.toList = tableOf hh := by
  obtain ⟨m9, meth9, c9, hn9, h1, h2, -, -, h6, -⟩ := Cond.codeWith_spec h
  cases Option.some.inj (hn9.symm.trans B.named)
  cases Option.some.inj (h1.symm.trans B.method)
  cases Option.some.inj (h2.symm.trans (Stand.of_body B).code)
  rw [← h6, table_eq]
end Bodies
end VXA
/-! ===== END ===== -/
/-! ===== BEGIN a static call of a method with an exception table ===== -/
section VXS
variable {p : Program} {l : Launch} {e : Env} {R : Room} {s : State} {m : MethodId} {args : Array Value} {below : List Frame} {meth : Method} {c : Code} {T : State} {H : Heap} {locs : List Loc} {cells slots : Nat}
abbrev vx_CSW (R : Room) (s : State) (args : Array Value) (own : String) (index : Nat) (y : MethodName) (bytes : ByteArray) (maxL : Nat) (ret : Option FieldType) (hh : List (Nat × Nat × Nat × Nat)) (ws : List Cond) (rm : Room) (mc ms n : Nat) : Prop :=
  (rm.cells = mc ∧ rm.slots = ms ∧ rm.frames + 1 ≤ R.frames ∧ 8 + (maxL + 11) + rm.locals ≤ R.locals ∧ (∀ w ∈ ws, ∀ (a' : Array Value) (U : State), s.WarmedH U.vm → w.before a' U = true) ∧ Cond.codeWith y bytes maxL ret hh ∈ ws) ∧
  (Cond.codeWith y bytes maxL ret hh).before args s = true ∧ (Cond.initialized y.cls).before args s = true ∧ (y.cls ≠ "java/lang/invoke/MethodHandle" ∧ y.cls ≠ "java/lang/invoke/VarHandle") ∧
  (∀ sig, parseMethodDescriptor y.desc = some sig → n = sig.parameters.length) ∧ (Cond.methodLink own index y).before args s = true ∧ (Cond.static y).before args s = true
theorem vx_cwSW {own : String} {index maxL mc ms : Nat} {y : MethodName} {bytes : ByteArray} {ret : Option FieldType} {hh : List (Nat × Nat × Nat × Nat)} {Ts ws ws' : List Cond} {rm : Room} (n : Nat) (ht : ∀ w ∈ Ts, w.before args s = true) (hT : GoodIn Ts (va_wsS own index y ws)) (hw : ws = Cond.codeWith y bytes maxL ret hh :: ws') (hrc : rm.cells = mc) (hrs : rm.slots = ms)
    (hd : y.cls ≠ "java/lang/invoke/MethodHandle" ∧ y.cls ≠ "java/lang/invoke/VarHandle" ∧ (parseMethodDescriptor y.desc).map (fun d => d.parameters.length) = some n) (hR : rm.frames + 1 ≤ R.frames ∧ 8 + (maxL + 11) + rm.locals ≤ R.locals) :
    vx_CSW R s args own index y bytes maxL ret hh ws rm mc ms n := by
  have ok : ∀ w ∈ va_wsS own index y ws, w.before args s = true := fun w h => ht w (hT w h).1
  have hG : GoodIn Ts ws := fun w h => hT w (by unfold va_wsS; exact List.mem_append_right _ h)
  have hc : Cond.codeWith y bytes maxL ret hh ∈ ws := by rw [hw]; exact List.mem_cons_self
  refine ⟨⟨hrc, hrs, hR.1, hR.2, pay_in ht hG, hc⟩, ht _ (hG _ hc).1, ok _ (by simp [va_wsS]), ⟨hd.1, hd.2.1⟩, fun sig h => ?_, ok _ (by simp [va_wsS]), ok _ (by simp [va_wsS])⟩
  have h2 := hd.2.2
  rw [h] at h2
  exact (Option.some.inj h2).symm
theorem vx_callSW (X : Stand p l e R s m args below meth c T locs cells slots) (hexec : p.tables.exec = Jvm.exec) {own : String} {index : Nat} {y : MethodName} {bytes : ByteArray} {maxL : Nat} {ret : Option FieldType} {hh : List (Nat × Nat × Nat × Nat)}
    (hown : s.vm.findClass own = some m.cls) (hlink : (Cond.methodLink own index y).before args s = true) (hstat : (Cond.static y).before args s = true) (hinit : (Cond.initialized y.cls).before args s = true)
    (hcode : (Cond.codeWith y bytes maxL ret hh).before args s = true) (hy : y.cls ≠ "java/lang/invoke/MethodHandle" ∧ y.cls ≠ "java/lang/invoke/VarHandle")
    {W9 : Nat} {Pre : Pt → Array Value → Prop} {Post : Pt → Array Value → Option Value → Pt → Prop} (hK : Back l R p e below s args y 3 W9 Pre Post)
    {g : JFrame} (hg : g.method = m) (hsize : g.locals.size = c.maxLocals) {argsL rest : List Value} (hlen : ∀ sig, parseMethodDescriptor y.desc = some sig → argsL.length = sig.parameters.length)
    (hstack : g.stack = argsL.reverse ++ rest) (hW : 2 * g.monitorRoom + (rest.map fun v => v.category).sum ≤ W9) (hdg : decode c.code g.pc = .ok (.invokestatic index, 3))
    (hpre : ∀ vm₁, s.WarmedH vm₁ → Pre ⟨T.setVm vm₁, locs, cells, slots⟩ argsL.toArray) :
    ∃ (v : Option Value) (vm₁ : Vm) (B : Pt), s.WarmedH vm₁ ∧ Stand p l e R s m args below meth c B.U B.locs B.cells B.slots ∧ Post ⟨T.setVm vm₁, locs, cells, slots⟩ argsL.toArray v B ∧
      ∀ target, Steps p.tables e below (B.U.setTop { g with pc := g.pc + 3, stack := v.toList ++ rest }) target → Steps p.tables e below (T.setTop g) target := by
  obtain ⟨mk, methM, cM, hnamed, hmethM, -, -, -, -, -, -, hsigM⟩ := Cond.codeWith_spec hcode
  have hstatic : methM.isStatic = true := Cond.static_spec hnamed hmethM hstat
  obtain ⟨kP, hkP, -⟩ := className_of_methodNamed hnamed
  have hinitP : kP.init = .initialized := Cond.initialized_spec (findClass_of_methodNamed hnamed) hkP hinit
  obtain ⟨vm₁, X₁, hstep₁⟩ := X.invokestatic hexec hown hlink hnamed hmethM hstatic hkP hinitP hy (g := g) hg (argsL := argsL) (rest := rest) (hlen _ hsigM) hstack hdg
  obtain ⟨v, B, X', hpost, hsteps⟩ := hK m meth c ⟨T.setVm vm₁, locs, cells, slots⟩ { g with stack := rest } (.invokestatic index) mk argsL.toArray X₁ hg hsize hdg hW (X₁.named hnamed) (hpre vm₁ X₁.warmed)
  exact ⟨v, vm₁, B, X₁.warmed, X', hpost, fun target h => hstep₁ _ fun acts => by rw [doInvoke_state]; exact hsteps.trans h⟩
theorem vx_runSW {y : MethodName} {bytes cc : ByteArray} {maxL nL mc ms n index : Nat} {ret : Option FieldType} {hh : List (Nat × Nat × Nat × Nat)} {ws : List Cond} {rm : Room} {Pc : Array Value → State → Prop} {Qc : Array Value → State → Outcome → State → Prop} {free : Addr → Prop} {Ts : List Cond} {own : String} {As rest : List Value} {g : JFrame}
    (S : CallFix p m c cc nL s args Ts own) (hM : Met l y ws rm Pc Qc mc ms free) (cw : vx_CSW R s args own index y bytes maxL ret hh ws rm mc ms n) (hp : PreS s H Pc As)
    (hg : g.method = m) (hn : As.length = n) (hsize : g.locals.size = nL) (hstack : g.stack = As.reverse ++ rest) (hW : 2 * g.monitorRoom + (rest.map fun v => v.category).sum ≤ 8) (hdg : decode cc g.pc = .ok (.invokestatic index, 3)) (hf : cells + mc ≤ R.cells ∧ slots + ms ≤ R.slots) :
    va_Run p l e R s m args below meth c H locs cells slots mc ms g rest (Qc As.toArray) (free) := by
  obtain ⟨⟨hrc, hrs, hfr, hlo, hws, hcw⟩, hcode, hini, hy, hlen, hl, hstt⟩ := cw
  have hK : Back l R p e below s args y 3 8 (PreOf R mc ms Pc) (PostOf Qc mc ms free) := va_backW (hh := hh) (bytes := bytes) (maxL := maxL) (ret := ret) hM hp.1 hrc hrs hfr hlo hws hcw (fun a' U hW => word_at hW (Or.inl (by first | rfl | simp [Cond.onTables, Cond.keeps, Cond.steady])) hini)
  obtain ⟨hx, hb, hml, ho, -⟩ := S
  intro T hT X
  obtain ⟨v, vm₁, ⟨U', l2, c2, s2⟩, hW₁, X', ⟨g', mk, t, L, e1, e2, hq, h1, hL, h2, h3⟩, st⟩ := vx_callSW X hx (hh := hh) (bytes := bytes) (maxL := maxL) (ret := ret) ho hl hstt hini hcode hy hK hg (hsize.trans hml.symm) (argsL := As) (rest := rest) (fun sig h => hn.trans (hlen sig h)) hstack hW (by rw [hb]; exact hdg)
    (fun vm₁ hW₁ => ⟨hf.1, hf.2, hp.2 (T.setVm vm₁) hT hW₁⟩)
  dsimp only [Pt.U, Pt.locs, Pt.cells, Pt.slots] at X' e1 e2 h1 h2 h3 st
  subst h1; subst h2; subst h3
  exact ⟨v, (T.setVm vm₁).calling g' mk As.toArray, t, U', L, hT, X', hL, e1, e2, hq, st⟩
/-- not caught here, past rows that name other classes: it goes on to the caller -/
theorem vx_outP {p : Program} {l : Launch} {e : Env} {R : Room} {s : State} {m : MethodId} {args : Array Value} {below : List Frame} {meth : Method} {c : Code} {H : Heap} {locs : List Loc} {cells slots : Nat} {free : Addr → Prop} {ls : Array Slot} {rest : List Value} {Qc : Array Value → State → Outcome → State → Prop} {XC : String → State → State → Prop}
    {pc : Nat} {own E : String} {ce : Cell} {q : Addr} {mc ms : Nat} (hown : s.vm.findClass own = some m.cls) (hlocks : meth.locks = false)
    (hpass : ∀ z ∈ c.exceptionTable.toList, covers z pc = false ∨ (z.catchType ≠ 0 ∧ ∃ nm : String, (Cond.classLink own z.catchType nm).before args s = true ∧ va_Nc E nm s)) (hcell : H[q]? = some ce) (hv : ce.vm = .none) (hcl : s.vm.findClass E = some ce.cls)
    (hx : ∀ t : State, t.heap = H → s.vm.Alike t.vm → XC E s t) (hf : ∀ z ∈ locs, free z.base) (hc : cells ≤ mc) (hs : slots ≤ ms) :
    vx_W p l e R s m args below meth c H locs cells slots (vx_MQ below Qc XC args s mc ms free) (F0 m pc ls rest) q := by
  intro T hT X
  have hpl : e.platform.magicAccessors = ({} : Platform).magicAccessors := by rw [X.admits.platform]
  obtain ⟨vm', hW', X', st⟩ := X.outThrough hlocks q (g := F0 m pc ls rest) rfl rfl rfl (cell := ce) (by rw [hT]; exact hcell) (by rw [hv]; rfl)
    (by obtain ⟨k9, h9, -⟩ := Vm.findClass_spec hcl; exact ⟨k9, h9⟩) (fun z hz => by
      rcases hpass z hz with h | ⟨hz0, nm, hl1, hn1⟩
      · exact Or.inl h
      · obtain ⟨c6, hc6, hcl6⟩ := Cond.classLink_spec hown hl1 e.platform hpl
        obtain ⟨a8, b8, h1, h2, h3⟩ := hn1
        cases Option.some.inj (h1.symm.trans hcl)
        cases Option.some.inj (h2.symm.trans hc6)
        exact Or.inr ⟨hz0, _, hcl6, h3⟩)
  obtain ⟨g₀, hfr⟩ := X'.frames_eq
  have hcell9 : ((T.setVm vm').setFrames (.throwing q :: below)).heap[q]? = some ce := by
    show T.heap[q]? = some ce
    rw [hT]; exact hcell
  have hend : Ended ((T.setVm vm').setFrames (.throwing q :: below)) below (.threw q) := State.frames_setFrames _ (State.cur_lt_of_frames hfr)
  refine ⟨(T.setVm vm').setFrames (.throwing q :: below), ?_, .threw q, X'.here.running, hend, Or.inr ⟨q, rfl, E, ce, locs, hx _ hT (X'.ends _).1.alike, hcell9, hv, hcl, (X'.ends _).1, (X'.ends _).2.mono hc hs, hf⟩⟩
  rw [X.pushThrowing_eq]
  exact st
/-- a thing of a world lies in the heap -/
theorem vx_lt {D : va_G} {cl : List vw_C} {ws : va_W} {H1 : Heap} (h : va_P D cl ws H1) {k : Nat} {q : Nat × va_E} (hk : ws[k]? = some q) : q.1 < H1.size := (h k q hk).lt
end VXS
/-! ===== END ===== -/
/-! ===== BEGIN methods with a table of their own: called by a name, returning or throwing ===== -/
section VXH
/-! vx_backW, vx_callVX, vx_callSX, vx_callVW, vx_runVW, vx_runVX, vx_runSX, vx_ofWH follow the same proofs as their sisters above (Free/Laws.lean, Shelf42/LK1.lean); vx_outP calls Shelf42/NT130.lean (outThrough). -/
section
variable {l : Launch} {R : Room} {p : Program} {e : Env} {below : List Frame} {s : State} {sargs : Array Value} {y : MethodName} {len W9 : Nat}
theorem vx_backW {ws : List Cond} {rm : Room} {Pc : Array Value → State → Prop} {Qc : Array Value → State → Outcome → State → Prop} {XC : String → State → State → Prop} {mc ms : Nat} {free : Addr → Prop} {bytes : ByteArray} {maxL : Nat} {ret : Option FieldType} {hh : List (Nat × Nat × Nat × Nat)}
    (hM : vx_Met l y ws rm Pc Qc XC mc ms free) (hblind : FrameBlind Pc) (hrc : rm.cells = mc) (hrs : rm.slots = ms)
    (hframes : rm.frames + 1 ≤ R.frames) (hlocals : W9 + (maxL + 11) + rm.locals ≤ R.locals)
    (hws : ∀ w ∈ ws, ∀ a' U, s.WarmedH U.vm → w.before a' U = true) (hcode : Cond.codeWith y bytes maxL ret hh ∈ ws) (hinit : ∀ a' U, s.WarmedH U.vm → (Cond.initialized y.cls).before a' U = true) :
    vx_Back l R p e below s sargs y len W9 (PreOf R mc ms Pc) (PostOf Qc mc ms free) (vx_Post XC mc ms free) := by
  intro m meth c A g ig mk a X hg hsize hdg hW hn hp
  have h1 : (headSpec ws rm).pre.before a A.U = true := atoms_intro fun w hw => hws w hw _ _ X.warmed
  have h2 : (Cond.codeWith y bytes maxL ret hh).before a A.U = true := hws _ hcode _ _ X.warmed
  have h3 : (Cond.initialized y.cls).before a A.U = true := hinit _ _ X.warmed
  have h4 : A.cells + (headSpec ws rm).room.cells ≤ R.cells := by rw [show (headSpec ws rm).room.cells = mc from hrc]; exact hp.1
  have h5 : A.slots + (headSpec ws rm).room.slots ≤ R.slots := by rw [show (headSpec ws rm).room.slots = ms from hrs]; exact hp.2.1
  have hPc : Pc a (A.U.calling g mk a) := hblind _ _ _ _ hp.2.2
  obtain ⟨U, Ls, c0, s0⟩ := A
  dsimp only [Pt.U, Pt.locs, Pt.cells, Pt.slots] at h1 h2 h3 h4 h5 X hn hPc ⊢
  obtain ⟨m9, methY, cY, hn9, hmY, hcY, -, hlY, -⟩ := Cond.codeWith_spec h2
  cases Option.some.inj (hn9.symm.trans hn)
  obtain ⟨kY, hkY, -⟩ := className_of_methodNamed hn
  have hinitY : kY.init = .initialized := Cond.initialized_spec (findClass_of_methodNamed hn) hkY h3
  have h : At U g.method c below := by rw [hg]; exact X.here
  have hlocals9 : W9 + (maxL + 11) + (headSpec ws rm).room.locals ≤ R.locals := hlocals
  have happ : (headSpec ws rm).appliesLoose y e.platform (U.calling g mk a) = true :=
    Spec.appliesLoose_calling (g := g) h hdg hn hkY hinitY
      (X.room_calling (g := g) (R' := (headSpec ws rm).room) hsize hmY hcY hframes (by rw [hlY]; omega) h4 h5) h1
  obtain ⟨mid, hmid⟩ := h.above
  have hfr : (U.setTop g).frames = (.java g :: mid) ++ below := by rw [State.frames_setTop' g h.top, hmid]; rfl
  obtain ⟨o, s₂, hsteps, -, hend, hq⟩ := Steps.callFree hM p X.admits X.cas X.clock (acts := []) hfr happ hPc trivial
  have hq' : vx_Q Qc XC mc ms free a (U.calling g mk a) o s₂ := hq
  rw [State.frames_setTop' g h.top] at hend
  obtain ⟨g₀, hg0⟩ := Option.isSome_iff_exists.mp h.top
  obtain ⟨r, hr⟩ := State.topJava?_eq_some.mp hg0
  have hr' : (({ U with heap := s₂.heap, slotsUsed := s₂.slotsUsed } : State).setVm s₂.vm).frames = .java g₀ :: r := hr
  rcases hq' with ⟨hqc, L, hfe, hL⟩ | ⟨q, rfl, E, ce, L, hx, hce, hcv, hcl, hW₂, hsm, hL⟩
  · obtain ⟨⟨v, rfl⟩, hW₂, e2, q2, q3, q4, q5, q6⟩ := id hfe
    have e3 : s₂ = ({ (U.calling g mk a).setFrames s₂.frames with heap := s₂.heap, slotsUsed := s₂.slotsUsed } : State).setVm s₂.vm := by
      have : s₂ = ({ s₂ with vm := (U.calling g mk a).vm } : State).setVm s₂.vm := rfl
      rw [e2] at this
      exact this
    obtain ⟨c₂, i₂, len₂, hc₂, hd₂, hf₂⟩ := hend
    have hW' : U.WarmedH s₂.vm := hW₂
    have hcc : c₂ = c := by
      have h1 : s₂.code? g.method = U.code? g.method := by
        rw [State.code?_eq, State.code?_eq, hW'.alike.method?]
      exact Option.some.inj (hc₂.symm.trans (h1.trans h.code))
    subst hcc
    have hlen : len₂ = len := by rw [hdg] at hd₂; cases hd₂; rfl
    subst hlen
    have hs₂ : s₂ = (({ U with heap := s₂.heap, slotsUsed := s₂.slotsUsed } : State).setVm s₂.vm).setTop { g with pc := g.pc + len₂, stack := v.toList ++ g.stack } := by
      refine e3.trans ?_
      rw [hf₂, State.calling_eq h.top, State.setFrames_setFrames, State.setTop_of_frames _ hr', hr]
      rfl
    have hsame : U.sameButNew ({ U with heap := s₂.heap, slotsUsed := s₂.slotsUsed } : State) L mc ms := by
      refine ⟨?_, q2, q3, q4, q5, q6⟩
      obtain ⟨t, ht, -⟩ := State.frames_cons hr
      show ({ U with heap := s₂.heap, slotsUsed := s₂.slotsUsed } : State) = { U.setFrames U.frames with heap := s₂.heap, slotsUsed := s₂.slotsUsed }
      rw [State.setFrames_self ht]
    subst hg
    refine Or.inl ⟨v, ⟨(({ U with heap := s₂.heap, slotsUsed := s₂.slotsUsed } : State).setVm s₂.vm), Ls ++ L, c0 + mc, s0 + ms⟩,
      ⟨X.admits, X.cas, X.clock, X.frames, X.room, X.hears, X.method, X.code, (X.here.setHeapUsed s₂.heap s₂.slotsUsed).setVm hW'.alike, X.tail, State.WarmedH.trans X.warmed hW', X.limits, X.bytes, X.same.trans (hsame.setVm s.vm)⟩,
      ⟨g, mk, s₂, L, rfl, rfl, hqc, rfl, hL, rfl, rfl⟩, ?_⟩
    show Steps p.tables e below _ ((({ U with heap := s₂.heap, slotsUsed := s₂.slotsUsed } : State).setVm s₂.vm).setTop { g with pc := g.pc + len₂, stack := v.toList ++ g.stack })
    rw [← hs₂]
    exact hsteps
  · obtain ⟨e2, q2, q3, q4, q5, q6⟩ := id hsm
    have e3 : s₂ = ({ (U.calling g mk a).setFrames s₂.frames with heap := s₂.heap, slotsUsed := s₂.slotsUsed } : State).setVm s₂.vm := by
      have : s₂ = ({ s₂ with vm := (U.calling g mk a).vm } : State).setVm s₂.vm := rfl
      rw [e2] at this
      exact this
    have hf₂ : s₂.frames = .throwing q :: .java g :: U.frames.tail := hend
    have hW' : U.WarmedH s₂.vm := hW₂
    have hs₂ : s₂ = ((({ U with heap := s₂.heap, slotsUsed := s₂.slotsUsed } : State).setVm s₂.vm).setTop g).pushFrame (.throwing q) := by
      refine e3.trans ?_
      rw [hf₂, State.calling_eq h.top, State.setFrames_setFrames, State.pushFrame, State.frames_setTop _ hr', State.setTop_of_frames _ hr', State.setFrames_setFrames, hr]
      rfl
    have hsame : U.sameButNew ({ U with heap := s₂.heap, slotsUsed := s₂.slotsUsed } : State) L mc ms := by
      refine ⟨?_, q2, q3, q4, q5, q6⟩
      obtain ⟨t, ht, -⟩ := State.frames_cons hr
      show ({ U with heap := s₂.heap, slotsUsed := s₂.slotsUsed } : State) = { U.setFrames U.frames with heap := s₂.heap, slotsUsed := s₂.slotsUsed }
      rw [State.setFrames_self ht]
    subst hg
    refine Or.inr ⟨q, ⟨(({ U with heap := s₂.heap, slotsUsed := s₂.slotsUsed } : State).setVm s₂.vm), Ls ++ L, c0 + mc, s0 + ms⟩,
      ⟨X.admits, X.cas, X.clock, X.frames, X.room, X.hears, X.method, X.code, (X.here.setHeapUsed s₂.heap s₂.slotsUsed).setVm hW'.alike, X.tail, State.WarmedH.trans X.warmed hW', X.limits, X.bytes, X.same.trans (hsame.setVm s.vm)⟩,
      ⟨g, mk, s₂, L, E, ce, rfl, rfl, hx, hce, hcv, hcl, rfl, hL, rfl, rfl⟩, ?_⟩
    show Steps p.tables e below _ (((({ U with heap := s₂.heap, slotsUsed := s₂.slotsUsed } : State).setVm s₂.vm).setTop g).pushFrame (.throwing q))
    rw [← hs₂]
    exact hsteps
end
variable {p : Program} {l : Launch} {e : Env} {R : Room} {s : State} {m : MethodId} {args : Array Value} {below : List Frame} {meth : Method} {c : Code} {T : State} {H : Heap} {locs : List Loc} {cells slots : Nat}
theorem vx_callVX (X : Stand p l e R s m args below meth c T locs cells slots) (hexec : p.tables.exec = Jvm.exec) {own C : String} {index : Nat} {y : MethodName} {bytes : ByteArray} {maxL : Nat} {ret : Option FieldType} {hh : List (Nat × Nat × Nat × Nat)}
    (hown : s.vm.findClass own = some m.cls) (hlink : (Cond.methodLink own index y).before args s = true) (hinst : (Cond.instanceMethod y).before args s = true) (hsel : (Cond.selects C y y).before args s = true)
    (hcode : (Cond.codeWith y bytes maxL ret hh).before args s = true) (hy : y.cls ≠ "java/lang/invoke/MethodHandle" ∧ y.cls ≠ "java/lang/invoke/VarHandle")
    {W9 : Nat} {Pre : Pt → Array Value → Prop} {Post : Pt → Array Value → Option Value → Pt → Prop} {PostX : Pt → Array Value → Addr → Pt → Prop} (hK : vx_Back l R p e below s args y 3 W9 Pre Post PostX)
    {b : Addr} {cellB : Cell} (hcell : T.heap[b]? = some cellB) (hobj : cellB.vm.isStatics = false) (hcls : s.vm.findClass C = some cellB.cls)
    {g : JFrame} (hg : g.method = m) (hsize : g.locals.size = c.maxLocals) {argsL rest : List Value} (hlen : ∀ sig, parseMethodDescriptor y.desc = some sig → argsL.length = sig.parameters.length)
    (hstack : g.stack = argsL.reverse ++ .ref b :: rest) (hW : 2 * g.monitorRoom + (rest.map fun v => v.category).sum ≤ W9) (hdg : decode c.code g.pc = .ok (.invokevirtual index, 3))
    (hpre : ∀ vm₁, s.WarmedH vm₁ → Pre ⟨T.setVm vm₁, locs, cells, slots⟩ (Value.ref b :: argsL).toArray) :
    (∃ (v : Option Value) (vm₁ : Vm) (B : Pt), s.WarmedH vm₁ ∧ Stand p l e R s m args below meth c B.U B.locs B.cells B.slots ∧ Post ⟨T.setVm vm₁, locs, cells, slots⟩ (Value.ref b :: argsL).toArray v B ∧
      ∀ target, Steps p.tables e below (B.U.setTop { g with pc := g.pc + 3, stack := v.toList ++ rest }) target → Steps p.tables e below (T.setTop g) target) ∨
    (∃ (q : Addr) (vm₁ : Vm) (B : Pt), s.WarmedH vm₁ ∧ Stand p l e R s m args below meth c B.U B.locs B.cells B.slots ∧ PostX ⟨T.setVm vm₁, locs, cells, slots⟩ (Value.ref b :: argsL).toArray q B ∧
      Steps p.tables e below (T.setTop g) ((B.U.setTop { g with stack := rest }).pushFrame (.throwing q))) := by
  obtain ⟨mk, methM, hnamed, hmethM, hstM, habM⟩ := Cond.instanceMethod_spec hinst
  obtain ⟨m8, methM', cM, hn8, hmethM', -, -, -, -, -, -, hsigM⟩ := Cond.codeWith_spec hcode
  cases Option.some.inj (hn8.symm.trans hnamed)
  cases hmethM.symm.trans hmethM'
  obtain ⟨c2, r2, m2, q1, q2, q3, q4, kP, hkP, hkPi⟩ := Cond.selects_spec hsel
  cases hcls.symm.trans q1
  cases (State.methodFound?_of_named hnamed hy).symm.trans q2
  cases hnamed.symm.trans q3
  have hselP : selectMethod e.platform s.vm cellB.cls mk = .method mk := by rw [Launch.admits_selectMethod X.admits]; exact q4
  obtain ⟨vm₁, X₁, hstep₁⟩ := X.invokevirtual hexec hown hlink hnamed hmethM hstM hkP hkPi hy (a := b) (cell := cellB) hcell
    (fun z h => by rw [h] at hobj; cases hobj) hselP hmethM habM hkP hkPi (g := g) hg (argsL := argsL) (rest := rest) (hlen _ hsigM) hstack hdg
  rcases hK m meth c ⟨T.setVm vm₁, locs, cells, slots⟩ { g with stack := rest } (.invokevirtual index) mk (Value.ref b :: argsL).toArray X₁ hg hsize hdg hW (X₁.named hnamed) (hpre vm₁ X₁.warmed) with ⟨v, B, X', hpost, hsteps⟩ | ⟨q, B, X', hpost, hsteps⟩
  · exact Or.inl ⟨v, vm₁, B, X₁.warmed, X', hpost, fun target h => hstep₁ _ fun acts => by rw [doInvoke_state]; exact hsteps.trans h⟩
  · exact Or.inr ⟨q, vm₁, B, X₁.warmed, X', hpost, hstep₁ _ fun acts => by rw [doInvoke_state]; exact hsteps⟩
theorem vx_callSX (X : Stand p l e R s m args below meth c T locs cells slots) (hexec : p.tables.exec = Jvm.exec) {own : String} {index : Nat} {y : MethodName} {bytes : ByteArray} {maxL : Nat} {ret : Option FieldType} {hh : List (Nat × Nat × Nat × Nat)}
    (hown : s.vm.findClass own = some m.cls) (hlink : (Cond.methodLink own index y).before args s = true) (hstat : (Cond.static y).before args s = true) (hinit : (Cond.initialized y.cls).before args s = true)
    (hcode : (Cond.codeWith y bytes maxL ret hh).before args s = true) (hy : y.cls ≠ "java/lang/invoke/MethodHandle" ∧ y.cls ≠ "java/lang/invoke/VarHandle")
    {W9 : Nat} {Pre : Pt → Array Value → Prop} {Post : Pt → Array Value → Option Value → Pt → Prop} {PostX : Pt → Array Value → Addr → Pt → Prop} (hK : vx_Back l R p e below s args y 3 W9 Pre Post PostX)
    {g : JFrame} (hg : g.method = m) (hsize : g.locals.size = c.maxLocals) {argsL rest : List Value} (hlen : ∀ sig, parseMethodDescriptor y.desc = some sig → argsL.length = sig.parameters.length)
    (hstack : g.stack = argsL.reverse ++ rest) (hW : 2 * g.monitorRoom + (rest.map fun v => v.category).sum ≤ W9) (hdg : decode c.code g.pc = .ok (.invokestatic index, 3))
    (hpre : ∀ vm₁, s.WarmedH vm₁ → Pre ⟨T.setVm vm₁, locs, cells, slots⟩ argsL.toArray) :
    (∃ (v : Option Value) (vm₁ : Vm) (B : Pt), s.WarmedH vm₁ ∧ Stand p l e R s m args below meth c B.U B.locs B.cells B.slots ∧ Post ⟨T.setVm vm₁, locs, cells, slots⟩ argsL.toArray v B ∧
      ∀ target, Steps p.tables e below (B.U.setTop { g with pc := g.pc + 3, stack := v.toList ++ rest }) target → Steps p.tables e below (T.setTop g) target) ∨
    (∃ (q : Addr) (vm₁ : Vm) (B : Pt), s.WarmedH vm₁ ∧ Stand p l e R s m args below meth c B.U B.locs B.cells B.slots ∧ PostX ⟨T.setVm vm₁, locs, cells, slots⟩ argsL.toArray q B ∧
      Steps p.tables e below (T.setTop g) ((B.U.setTop { g with stack := rest }).pushFrame (.throwing q))) := by
  obtain ⟨mk, methM, cM, hnamed, hmethM, -, -, -, -, -, -, hsigM⟩ := Cond.codeWith_spec hcode
  have hstatic : methM.isStatic = true := Cond.static_spec hnamed hmethM hstat
  obtain ⟨kP, hkP, -⟩ := className_of_methodNamed hnamed
  have hinitP : kP.init = .initialized := Cond.initialized_spec (findClass_of_methodNamed hnamed) hkP hinit
  obtain ⟨vm₁, X₁, hstep₁⟩ := X.invokestatic hexec hown hlink hnamed hmethM hstatic hkP hinitP hy (g := g) hg (argsL := argsL) (rest := rest) (hlen _ hsigM) hstack hdg
  rcases hK m meth c ⟨T.setVm vm₁, locs, cells, slots⟩ { g with stack := rest } (.invokestatic index) mk argsL.toArray X₁ hg hsize hdg hW (X₁.named hnamed) (hpre vm₁ X₁.warmed) with ⟨v, B, X', hpost, hsteps⟩ | ⟨q, B, X', hpost, hsteps⟩
  · exact Or.inl ⟨v, vm₁, B, X₁.warmed, X', hpost, fun target h => hstep₁ _ fun acts => by rw [doInvoke_state]; exact hsteps.trans h⟩
  · exact Or.inr ⟨q, vm₁, B, X₁.warmed, X', hpost, hstep₁ _ fun acts => by rw [doInvoke_state]; exact hsteps⟩
theorem vx_callVW (X : Stand p l e R s m args below meth c T locs cells slots) (hexec : p.tables.exec = Jvm.exec) {own C : String} {index : Nat} {y : MethodName} {bytes : ByteArray} {maxL : Nat} {ret : Option FieldType} {hh : List (Nat × Nat × Nat × Nat)}
    (hown : s.vm.findClass own = some m.cls) (hlink : (Cond.methodLink own index y).before args s = true) (hinst : (Cond.instanceMethod y).before args s = true) (hsel : (Cond.selects C y y).before args s = true)
    (hcode : (Cond.codeWith y bytes maxL ret hh).before args s = true) (hy : y.cls ≠ "java/lang/invoke/MethodHandle" ∧ y.cls ≠ "java/lang/invoke/VarHandle")
    {W9 : Nat} {Pre : Pt → Array Value → Prop} {Post : Pt → Array Value → Option Value → Pt → Prop} (hK : Back l R p e below s args y 3 W9 Pre Post)
    {b : Addr} {cellB : Cell} (hcell : T.heap[b]? = some cellB) (hobj : cellB.vm.isStatics = false) (hcls : s.vm.findClass C = some cellB.cls)
    {g : JFrame} (hg : g.method = m) (hsize : g.locals.size = c.maxLocals) {argsL rest : List Value} (hlen : ∀ sig, parseMethodDescriptor y.desc = some sig → argsL.length = sig.parameters.length)
    (hstack : g.stack = argsL.reverse ++ .ref b :: rest) (hW : 2 * g.monitorRoom + (rest.map fun v => v.category).sum ≤ W9) (hdg : decode c.code g.pc = .ok (.invokevirtual index, 3))
    (hpre : ∀ vm₁, s.WarmedH vm₁ → Pre ⟨T.setVm vm₁, locs, cells, slots⟩ (Value.ref b :: argsL).toArray) :
    ∃ (v : Option Value) (vm₁ : Vm) (B : Pt), s.WarmedH vm₁ ∧ Stand p l e R s m args below meth c B.U B.locs B.cells B.slots ∧ Post ⟨T.setVm vm₁, locs, cells, slots⟩ (Value.ref b :: argsL).toArray v B ∧
      ∀ target, Steps p.tables e below (B.U.setTop { g with pc := g.pc + 3, stack := v.toList ++ rest }) target → Steps p.tables e below (T.setTop g) target := by
  obtain ⟨mk, methM, hnamed, hmethM, hstM, habM⟩ := Cond.instanceMethod_spec hinst
  obtain ⟨m8, methM', cM, hn8, hmethM', -, -, -, -, -, -, hsigM⟩ := Cond.codeWith_spec hcode
  cases Option.some.inj (hn8.symm.trans hnamed)
  cases hmethM.symm.trans hmethM'
  obtain ⟨c2, r2, m2, q1, q2, q3, q4, kP, hkP, hkPi⟩ := Cond.selects_spec hsel
  cases hcls.symm.trans q1
  cases (State.methodFound?_of_named hnamed hy).symm.trans q2
  cases hnamed.symm.trans q3
  have hselP : selectMethod e.platform s.vm cellB.cls mk = .method mk := by rw [Launch.admits_selectMethod X.admits]; exact q4
  obtain ⟨vm₁, X₁, hstep₁⟩ := X.invokevirtual hexec hown hlink hnamed hmethM hstM hkP hkPi hy (a := b) (cell := cellB) hcell
    (fun z h => by rw [h] at hobj; cases hobj) hselP hmethM habM hkP hkPi (g := g) hg (argsL := argsL) (rest := rest) (hlen _ hsigM) hstack hdg
  obtain ⟨v, B, X', hpost, hsteps⟩ := hK m meth c ⟨T.setVm vm₁, locs, cells, slots⟩ { g with stack := rest } (.invokevirtual index) mk (Value.ref b :: argsL).toArray X₁ hg hsize hdg hW (X₁.named hnamed) (hpre vm₁ X₁.warmed)
  exact ⟨v, vm₁, B, X₁.warmed, X', hpost, fun target h => hstep₁ _ fun acts => by rw [doInvoke_state]; exact hsteps.trans h⟩
abbrev vx_CVW (R : Room) (s : State) (args : Array Value) (own C : String) (index : Nat) (y : MethodName) (bytes : ByteArray) (maxL : Nat) (ret : Option FieldType) (hh : List (Nat × Nat × Nat × Nat)) (ws : List Cond) (rm : Room) (mc ms n : Nat) : Prop :=
  (rm.cells = mc ∧ rm.slots = ms ∧ rm.frames + 1 ≤ R.frames ∧ 8 + (maxL + 11) + rm.locals ≤ R.locals ∧ (∀ w ∈ ws, ∀ (a' : Array Value) (U : State), s.WarmedH U.vm → w.before a' U = true) ∧ Cond.codeWith y bytes maxL ret hh ∈ ws) ∧
  (Cond.codeWith y bytes maxL ret hh).before args s = true ∧ (Cond.initialized y.cls).before args s = true ∧ (y.cls ≠ "java/lang/invoke/MethodHandle" ∧ y.cls ≠ "java/lang/invoke/VarHandle") ∧
  (∀ sig, parseMethodDescriptor y.desc = some sig → n = sig.parameters.length) ∧ (Cond.methodLink own index y).before args s = true ∧ (Cond.instanceMethod y).before args s = true ∧ (Cond.selects C y y).before args s = true
theorem vx_cwVW {own C : String} {index maxL mc ms : Nat} {y : MethodName} {bytes : ByteArray} {ret : Option FieldType} {hh : List (Nat × Nat × Nat × Nat)} {Ts ws ws' : List Cond} {rm : Room} (n : Nat) (ht : ∀ w ∈ Ts, w.before args s = true) (hT : GoodIn Ts (wsV own index C y ws)) (hw : ws = Cond.codeWith y bytes maxL ret hh :: ws') (hrc : rm.cells = mc) (hrs : rm.slots = ms)
    (hd : y.cls = C ∧ y.cls ≠ "java/lang/invoke/MethodHandle" ∧ y.cls ≠ "java/lang/invoke/VarHandle" ∧ (parseMethodDescriptor y.desc).map (fun d => d.parameters.length) = some n) (hR : rm.frames + 1 ≤ R.frames ∧ 8 + (maxL + 11) + rm.locals ≤ R.locals) :
    vx_CVW R s args own C index y bytes maxL ret hh ws rm mc ms n := by
  obtain ⟨hC, hd⟩ := hd
  subst hC
  have ok : ∀ w ∈ wsV own index y.cls y ws, w.before args s = true := fun w h => ht w (hT w h).1
  have hG : GoodIn Ts ws := fun w h => hT w (by unfold wsV; exact List.mem_append_right _ h)
  have hc : Cond.codeWith y bytes maxL ret hh ∈ ws := by rw [hw]; exact List.mem_cons_self
  refine ⟨⟨hrc, hrs, hR.1, hR.2, pay_in ht hG, hc⟩, ht _ (hG _ hc).1, ok _ (by simp [wsV]), ⟨hd.1, hd.2.1⟩, fun sig h => ?_, ok _ (by simp [wsV]), ok _ (by simp [wsV]), ok _ (by simp [wsV])⟩
  have h2 := hd.2.2
  rw [h] at h2
  exact (Option.some.inj h2).symm
theorem vx_runVW {y : MethodName} {bytes cc : ByteArray} {maxL nL mc ms n index : Nat} {ret : Option FieldType} {hh : List (Nat × Nat × Nat × Nat)} {ws : List Cond} {rm : Room} {Pc : Array Value → State → Prop} {Qc : Array Value → State → Outcome → State → Prop} {free : Addr → Prop} {Ts : List Cond} {own C : String} {b : Addr} {As rest : List Value} {g : JFrame}
    (S : CallFix p m c cc nL s args Ts own) (hM : Met l y ws rm Pc Qc mc ms free) (cw : vx_CVW R s args own C index y bytes maxL ret hh ws rm mc ms n) (hp : PreV s H C b Pc As)
    (hg : g.method = m) (hn : As.length = n) (hsize : g.locals.size = nL) (hstack : g.stack = As.reverse ++ .ref b :: rest) (hW : 2 * g.monitorRoom + (rest.map fun v => v.category).sum ≤ 8) (hdg : decode cc g.pc = .ok (.invokevirtual index, 3)) (hf : cells + mc ≤ R.cells ∧ slots + ms ≤ R.slots) :
    va_Run p l e R s m args below meth c H locs cells slots mc ms g rest (Qc (Value.ref b :: As).toArray) free := by
  obtain ⟨⟨hrc, hrs, hfr, hlo, hws, hcw⟩, hcode, hini, hy, hlen, hl, hin, hse⟩ := cw
  have hK : Back l R p e below s args y 3 8 (PreOf R mc ms Pc) (PostOf Qc mc ms free) := va_backW (hh := hh) (bytes := bytes) (maxL := maxL) (ret := ret) hM hp.1 hrc hrs hfr hlo hws hcw (fun a' U hW => word_at hW (Or.inl (by first | rfl | simp [Cond.onTables, Cond.keeps, Cond.steady])) hini)
  obtain ⟨hx, hb, hml, ho, -⟩ := S
  obtain ⟨-, ⟨cellB, hcB, hoB, hclB⟩, hPc⟩ := hp
  intro T hT X
  obtain ⟨v, vm₁, ⟨U', l2, c2, s2⟩, hW₁, X', ⟨g', mk, t, L, e1, e2, hq, h1, hL, h2, h3⟩, st⟩ := vx_callVW X hx (C := C) (hh := hh) (bytes := bytes) (maxL := maxL) (ret := ret) ho hl hin hse hcode hy hK (by rw [hT]; exact hcB) hoB hclB hg (hsize.trans hml.symm) (argsL := As) (rest := rest) (fun sig h => hn.trans (hlen sig h)) hstack hW (by rw [hb]; exact hdg)
    (fun vm₁ hW₁ => ⟨hf.1, hf.2, hPc (T.setVm vm₁) hT hW₁⟩)
  dsimp only [Pt.U, Pt.locs, Pt.cells, Pt.slots] at X' e1 e2 h1 h2 h3 st
  subst h1; subst h2; subst h3
  exact ⟨v, (T.setVm vm₁).calling g' mk (Value.ref b :: As).toArray, t, U', L, hT, X', hL, e1, e2, hq, st⟩
section
variable {y : MethodName} {bytes cc : ByteArray} {maxL nL mc ms n index : Nat} {ret : Option FieldType} {ws : List Cond} {rm : Room} {Pc : Array Value → State → Prop} {Qc : Array Value → State → Outcome → State → Prop} {XC : String → State → State → Prop} {free : Addr → Prop} {Ts : List Cond} {own C : String} {b : Addr} {As rest : List Value} {g : JFrame}
theorem vx_runVX {hh : List (Nat × Nat × Nat × Nat)} (S : CallFix p m c cc nL s args Ts own) (hM : vx_Met l y ws rm Pc Qc XC mc ms free) (cw : vx_CVW R s args own C index y bytes maxL ret hh ws rm mc ms n) (hp : PreV s H C b Pc As)
    (hg : g.method = m) (hn : As.length = n) (hsize : g.locals.size = nL) (hstack : g.stack = As.reverse ++ .ref b :: rest) (hW : 2 * g.monitorRoom + (rest.map fun v => v.category).sum ≤ 8) (hdg : decode cc g.pc = .ok (.invokevirtual index, 3)) (hf : cells + mc ≤ R.cells ∧ slots + ms ≤ R.slots) :
    vx_Run p l e R s m args below meth c H locs cells slots mc ms g rest (Qc (Value.ref b :: As).toArray) XC free := by
  obtain ⟨⟨hrc, hrs, hfr, hlo, hws, hcw⟩, hcode, hini, hy, hlen, hl, hin, hse⟩ := cw
  have hK : vx_Back l R p e below s args y 3 8 (PreOf R mc ms Pc) (PostOf Qc mc ms free) (vx_Post XC mc ms free) := vx_backW (hh := hh) (bytes := bytes) (maxL := maxL) (ret := ret) hM hp.1 hrc hrs hfr hlo hws hcw (fun a' U hW => word_at hW (Or.inl (by first | rfl | simp [Cond.onTables, Cond.keeps, Cond.steady])) hini)
  obtain ⟨hx, hb, hml, ho, -⟩ := S
  obtain ⟨-, ⟨cellB, hcB, hoB, hclB⟩, hPc⟩ := hp
  intro T hT X
  rcases vx_callVX X hx (C := C) (hh := hh) (bytes := bytes) (maxL := maxL) (ret := ret) ho hl hin hse hcode hy hK (by rw [hT]; exact hcB) hoB hclB hg (hsize.trans hml.symm) (argsL := As) (rest := rest) (fun sig h => hn.trans (hlen sig h)) hstack hW (by rw [hb]; exact hdg)
    (fun vm₁ hW₁ => ⟨hf.1, hf.2, hPc (T.setVm vm₁) hT hW₁⟩) with ⟨v, vm₁, ⟨U', l2, c2, s2⟩, hW₁, X', ⟨g', mk, t, L, e1, e2, hq, h1, hL, h2, h3⟩, st⟩ | ⟨q, vm₁, ⟨U', l2, c2, s2⟩, hW₁, X', ⟨g', mk, t, L, E, ce, e1, e2, hq, hce, hcv, hcl, h1, hL, h2, h3⟩, st⟩
  · dsimp only [Pt.U, Pt.locs, Pt.cells, Pt.slots] at X' e1 e2 h1 h2 h3 st
    subst h1; subst h2; subst h3
    exact Or.inl ⟨v, (T.setVm vm₁).calling g' mk (Value.ref b :: As).toArray, t, U', L, hT, X', hL, e1, e2, hq, st⟩
  · dsimp only [Pt.U, Pt.locs, Pt.cells, Pt.slots] at X' e1 e2 h1 h2 h3 st hcl
    subst h1; subst h2; subst h3
    exact Or.inr ⟨q, (T.setVm vm₁).calling g' mk (Value.ref b :: As).toArray, t, U', L, E, ce, hT, X', hL, e1, e2, hq, hce, hcv, vx_cls hW₁ hcl, st⟩
theorem vx_runSX {hh : List (Nat × Nat × Nat × Nat)} (S : CallFix p m c cc nL s args Ts own) (hM : vx_Met l y ws rm Pc Qc XC mc ms free) (cw : vx_CSW R s args own index y bytes maxL ret hh ws rm mc ms n) (hp : PreS s H Pc As)
    (hg : g.method = m) (hn : As.length = n) (hsize : g.locals.size = nL) (hstack : g.stack = As.reverse ++ rest) (hW : 2 * g.monitorRoom + (rest.map fun v => v.category).sum ≤ 8) (hdg : decode cc g.pc = .ok (.invokestatic index, 3)) (hf : cells + mc ≤ R.cells ∧ slots + ms ≤ R.slots) :
    vx_Run p l e R s m args below meth c H locs cells slots mc ms g rest (Qc As.toArray) XC free := by
  obtain ⟨⟨hrc, hrs, hfr, hlo, hws, hcw⟩, hcode, hini, hy, hlen, hl, hstt⟩ := cw
  have hK : vx_Back l R p e below s args y 3 8 (PreOf R mc ms Pc) (PostOf Qc mc ms free) (vx_Post XC mc ms free) := vx_backW (hh := hh) (bytes := bytes) (maxL := maxL) (ret := ret) hM hp.1 hrc hrs hfr hlo hws hcw (fun a' U hW => word_at hW (Or.inl (by first | rfl | simp [Cond.onTables, Cond.keeps, Cond.steady])) hini)
  obtain ⟨hx, hb, hml, ho, -⟩ := S
  intro T hT X
  rcases vx_callSX X hx (hh := hh) (bytes := bytes) (maxL := maxL) (ret := ret) ho hl hstt hini hcode hy hK hg (hsize.trans hml.symm) (argsL := As) (rest := rest) (fun sig h => hn.trans (hlen sig h)) hstack hW (by rw [hb]; exact hdg)
    (fun vm₁ hW₁ => ⟨hf.1, hf.2, hp.2 (T.setVm vm₁) hT hW₁⟩) with ⟨v, vm₁, ⟨U', l2, c2, s2⟩, hW₁, X', ⟨g', mk, t, L, e1, e2, hq, h1, hL, h2, h3⟩, st⟩ | ⟨q, vm₁, ⟨U', l2, c2, s2⟩, hW₁, X', ⟨g', mk, t, L, E, ce, e1, e2, hq, hce, hcv, hcl, h1, hL, h2, h3⟩, st⟩
  · dsimp only [Pt.U, Pt.locs, Pt.cells, Pt.slots] at X' e1 e2 h1 h2 h3 st
    subst h1; subst h2; subst h3
    exact Or.inl ⟨v, (T.setVm vm₁).calling g' mk As.toArray, t, U', L, hT, X', hL, e1, e2, hq, st⟩
  · dsimp only [Pt.U, Pt.locs, Pt.cells, Pt.slots] at X' e1 e2 h1 h2 h3 st hcl
    subst h1; subst h2; subst h3
    exact Or.inr ⟨q, (T.setVm vm₁).calling g' mk As.toArray, t, U', L, E, ce, hT, X', hL, e1, e2, hq, hce, hcv, vx_cls hW₁ hcl, st⟩
end
end VXH
theorem vx_ofWH {l : Launch} {y : MethodName} {ws ws' : List Cond} {rm : Room} {Pc : Array Value → State → Prop} {Qc : Array Value → State → Outcome → State → Prop} {XC : String → State → State → Prop} {mc ms : Nat} {free : Addr → Prop} {cc : ByteArray} {maxL : Nat} {ret : Option FieldType} {hh : List (Nat × Nat × Nat × Nat)}
    (hy : plainName y.cls = true) (hw : ws = Cond.codeWith y cc maxL ret hh :: ws')
    (body : ∀ p e s m args below meth c s₁, BodyLoose p l y (headSpec ws rm) cc maxL ret e s m args below meth c s₁ → c.maxLocals = maxL → Pc args s →
      W p l e (headSpec ws rm).room s m args below meth c s.heap [] 0 0 (vx_MQ below Qc XC args s mc ms free) (entryFrame m args maxL)) : vx_Met l y ws rm Pc Qc XC mc ms free := by
  refine MetFree.of_bodyS (code := cc) (maxLocals := maxL) (ret := ret) hy ?_ ?_
  · intro args s m h hn
    obtain ⟨m9, meth, c, hn9, h1, h2, h3, h4, -, h5, h6, -⟩ := Cond.codeWith_spec (atoms_spec (ws := ws) h _ (by rw [hw]; exact List.mem_cons_self))
    cases hn.symm.trans hn9
    exact ⟨meth, c, h1, h2, h3, h4, h5, h6⟩
  · intro p e s m args below meth c s₁ B hml hP _
    have hh0 : s₁.heap = s.heap := by rw [B.state]; rfl
    obtain ⟨t, a1, o, b1, b2, b3⟩ := body p e s m args below meth c s₁ B hml hP s₁ hh0 (Stand.of_body B)
    exact ⟨t, o, a1, b1, b2, b3⟩
/-! ===== END ===== -/
end
section
/-! ===== BEGIN printed: names, fields, word lists, decode rows ===== -/
def RX0 : String := "FlagChips$Codes"
def TX0 : u_T := fun k => match k with
  | _ => ("FlagChips$Codes", "length", "I", false)
def tyX0 : Nat → FieldType := fun k => match k with
  | _ => .int
abbrev wsX00 : List Cond := u_ws RX0 TX0 1
theorem nmX0 : ∀ a, a < 1 → ∀ b, b < 1 → a ≠ b → (TX0 a).2.1 ≠ (TX0 b).2.1 := by decide +kernel
theorem tyX0_ok : ∀ k, k < 1 → parseFieldDescriptor (TX0 k).2.2.1 = some (tyX0 k) := by decide +kernel
abbrev cX0_init : ByteArray := prog_2_method_1_code
def yX0_init : MethodName := ⟨RX0, "<init>", "()V"⟩
abbrev cX0_has : ByteArray := prog_2_method_2_code
def yX0_has : MethodName := ⟨RX0, "has", "(I)Z"⟩
abbrev cX0_chipAt : ByteArray := prog_2_method_3_code
def yX0_chipAt : MethodName := ⟨RX0, "chipAt", "(II)I"⟩
abbrev cX0_likeness : ByteArray := prog_2_method_4_code
def yX0_likeness : MethodName := ⟨RX0, "likeness", "(III)I"⟩
def RX1 : String := "FlagChips$Hill"
def TX1 : u_T := fun k => match k with
  | 0 => ("FlagChips$Hill", "code", "I", true)
  | 1 => ("FlagChips$Hill", "strength", "I", false)
  | 2 => ("FlagChips$Hill", "delay", "I", false)
  | 3 => ("FlagChips$Hill", "said", "I", false)
  | _ => ("FlagChips$Hill", "words", "[I", true)
def tyX1 : Nat → FieldType := fun k => match k with
  | 0 => .int
  | 1 => .int
  | 2 => .int
  | 3 => .int
  | _ => .array .int
abbrev wsX10 : List Cond := u_ws RX1 TX1 5
theorem nmX1 : ∀ a, a < 5 → ∀ b, b < 5 → a ≠ b → (TX1 a).2.1 ≠ (TX1 b).2.1 := by decide +kernel
theorem tyX1_ok : ∀ k, k < 5 → parseFieldDescriptor (TX1 k).2.2.1 = some (tyX1 k) := by decide +kernel
abbrev cX1_init : ByteArray := prog_3_method_1_code
def yX1_init : MethodName := ⟨RX1, "<init>", "(II)V"⟩
abbrev cX1_isFull : ByteArray := prog_3_method_2_code
def yX1_isFull : MethodName := ⟨RX1, "isFull", "()Z"⟩
abbrev cX1_add : ByteArray := prog_3_method_3_code
def yX1_add : MethodName := ⟨RX1, "add", "(I)V"⟩
abbrev cX1_wordAt : ByteArray := prog_3_method_4_code
def yX1_wordAt : MethodName := ⟨RX1, "wordAt", "(I)I"⟩
abbrev cX1_isWrong : ByteArray := prog_3_method_5_code
def yX1_isWrong : MethodName := ⟨RX1, "isWrong", "(II)Z"⟩
abbrev cX1_start : ByteArray := prog_3_method_6_code
def yX1_start : MethodName := ⟨RX1, "start", "(II)I"⟩
abbrev cX1_end : ByteArray := prog_3_method_7_code
def yX1_end : MethodName := ⟨RX1, "end", "(I)I"⟩
def RX2 : String := "FlagChips$Sky"
def TX2 : u_T := fun k => match k with
  | 0 => ("FlagChips$Sky", "storms", "[I", true)
  | 1 => ("FlagChips$Sky", "signals", "[I", true)
  | _ => ("FlagChips$Sky", "codes", "LFlagChips$Codes;", true)
def tyX2 : Nat → FieldType := fun k => match k with
  | 0 => .array .int
  | 1 => .array .int
  | _ => .object "FlagChips$Codes"
abbrev wsX20 : List Cond := u_ws RX2 TX2 3
theorem nmX2 : ∀ a, a < 3 → ∀ b, b < 3 → a ≠ b → (TX2 a).2.1 ≠ (TX2 b).2.1 := by decide +kernel
theorem tyX2_ok : ∀ k, k < 3 → parseFieldDescriptor (TX2 k).2.2.1 = some (tyX2 k) := by decide +kernel
abbrev cX2_init : ByteArray := prog_4_method_1_code
def yX2_init : MethodName := ⟨RX2, "<init>", "(LFlagChips$Codes;)V"⟩
abbrev cX2_silence : ByteArray := prog_4_method_2_code
def yX2_silence : MethodName := ⟨RX2, "silence", "()V"⟩
abbrev cX2_addWords : ByteArray := prog_4_method_3_code
def yX2_addWords : MethodName := ⟨RX2, "addWords", "(LFlagChips$Hill;I)V"⟩
abbrev cX2_addWord : ByteArray := prog_4_method_4_code
def yX2_addWord : MethodName := ⟨RX2, "addWord", "(LFlagChips$Hill;II)V"⟩
abbrev cX2_at : ByteArray := prog_4_method_5_code
def yX2_at : MethodName := ⟨RX2, "at", "(I)I"⟩
abbrev cX2_heard : ByteArray := prog_4_method_6_code
def yX2_heard : MethodName := ⟨RX2, "heard", "(II)I"⟩
abbrev cX2_heardWord : ByteArray := prog_4_method_7_code
def yX2_heardWord : MethodName := ⟨RX2, "heardWord", "(LFlagChips$Hill;I)I"⟩
abbrev cX2_wrongWords : ByteArray := prog_4_method_8_code
def yX2_wrongWords : MethodName := ⟨RX2, "wrongWords", "(LFlagChips$Hill;)I"⟩
abbrev cX2_faintest : ByteArray := prog_4_method_9_code
def yX2_faintest : MethodName := ⟨RX2, "faintest", "(LFlagChips$Hill;)I"⟩
abbrev cX2_highest : ByteArray := prog_4_method_10_code
def yX2_highest : MethodName := ⟨RX2, "highest", "(I)I"⟩
abbrev cX2_sum : ByteArray := prog_4_method_11_code
def yX2_sum : MethodName := ⟨RX2, "sum", "(I)I"⟩
def RX3 : String := "FlagChips"
def TX3 : u_T := fun k => match k with
  | 0 => ("FlagChips", "codes", "LFlagChips$Codes;", true)
  | 1 => ("FlagChips", "sky", "LFlagChips$Sky;", true)
  | _ => ("FlagChips", "hills", "Ljava/util/ArrayList;", true)
def tyX3 : Nat → FieldType := fun k => match k with
  | 0 => .object "FlagChips$Codes"
  | 1 => .object "FlagChips$Sky"
  | _ => .object "java/util/ArrayList"
abbrev wsX30 : List Cond := u_ws RX3 TX3 3
theorem nmX3 : ∀ a, a < 3 → ∀ b, b < 3 → a ≠ b → (TX3 a).2.1 ≠ (TX3 b).2.1 := by decide +kernel
theorem tyX3_ok : ∀ k, k < 3 → parseFieldDescriptor (TX3 k).2.2.1 = some (tyX3 k) := by decide +kernel
abbrev cX3_init : ByteArray := prog_1_method_1_code
def yX3_init : MethodName := ⟨RX3, "<init>", "()V"⟩
abbrev cX3_setCodes : ByteArray := prog_1_method_2_code
def yX3_setCodes : MethodName := ⟨RX3, "setCodes", "(I)I"⟩
abbrev cX3_hill : ByteArray := prog_1_method_3_code
def yX3_hill : MethodName := ⟨RX3, "hill", "(II)I"⟩
abbrev cX3_say : ByteArray := prog_1_method_4_code
def yX3_say : MethodName := ⟨RX3, "say", "(IZ)I"⟩
abbrev cX3_hush : ByteArray := prog_1_method_5_code
def yX3_hush : MethodName := ⟨RX3, "hush", "(I)I"⟩
abbrev cX3_setDelay : ByteArray := prog_1_method_6_code
def yX3_setDelay : MethodName := ⟨RX3, "setDelay", "(II)I"⟩
abbrev cX3_setStrength : ByteArray := prog_1_method_7_code
def yX3_setStrength : MethodName := ⟨RX3, "setStrength", "(II)I"⟩
abbrev cX3_setStorm : ByteArray := prog_1_method_8_code
def yX3_setStorm : MethodName := ⟨RX3, "setStorm", "(II)I"⟩
abbrev cX3_chip : ByteArray := prog_1_method_9_code
def yX3_chip : MethodName := ⟨RX3, "chip", "(II)I"⟩
abbrev cX3_sky : ByteArray := prog_1_method_10_code
def yX3_sky : MethodName := ⟨RX3, "sky", "(I)I"⟩
abbrev cX3_hear : ByteArray := prog_1_method_11_code
def yX3_hear : MethodName := ⟨RX3, "hear", "(II)I"⟩
abbrev cX3_word : ByteArray := prog_1_method_12_code
def yX3_word : MethodName := ⟨RX3, "word", "(III)I"⟩
abbrev cX3_about : ByteArray := prog_1_method_13_code
def yX3_about : MethodName := ⟨RX3, "about", "(II)I"⟩
abbrev cX3_count : ByteArray := prog_1_method_14_code
def yX3_count : MethodName := ⟨RX3, "count", "(I)I"⟩
abbrev cX3_alike : ByteArray := prog_1_method_15_code
def yX3_alike : MethodName := ⟨RX3, "alike", "(III)I"⟩
abbrev cX3_shift : ByteArray := prog_1_method_16_code
def yX3_shift : MethodName := ⟨RX3, "shift", "(II)I"⟩
abbrev cX3_advise : ByteArray := prog_1_method_17_code
def yX3_advise : MethodName := ⟨RX3, "advise", "(I)I"⟩
abbrev cX3_would : ByteArray := prog_1_method_18_code
def yX3_would : MethodName := ⟨RX3, "would", "(II)I"⟩
abbrev cX3_tune : ByteArray := prog_1_method_19_code
def yX3_tune : MethodName := ⟨RX3, "tune", "(I)I"⟩
abbrev cX3_mean : ByteArray := prog_1_method_20_code
def yX3_mean : MethodName := ⟨RX3, "mean", "()D"⟩
abbrev cX3_digest : ByteArray := prog_1_method_21_code
def yX3_digest : MethodName := ⟨RX3, "digest", "()J"⟩
abbrev cX3_digestHill : ByteArray := prog_1_method_22_code
def yX3_digestHill : MethodName := ⟨RX3, "digestHill", "(JI)J"⟩
abbrev cX3_hillAt : ByteArray := prog_1_method_23_code
def yX3_hillAt : MethodName := ⟨RX3, "hillAt", "(I)LFlagChips$Hill;"⟩
abbrev cX3_checkCode : ByteArray := prog_1_method_24_code
def yX3_checkCode : MethodName := ⟨RX3, "checkCode", "(I)V"⟩
abbrev cX3_checkStrength : ByteArray := prog_1_method_25_code
def yX3_checkStrength : MethodName := ⟨RX3, "checkStrength", "(I)V"⟩
abbrev cX3_checkDelay : ByteArray := prog_1_method_26_code
def yX3_checkDelay : MethodName := ⟨RX3, "checkDelay", "(I)V"⟩
abbrev cX3_checkTime : ByteArray := prog_1_method_27_code
def yX3_checkTime : MethodName := ⟨RX3, "checkTime", "(I)V"⟩
abbrev cX3_allWords : ByteArray := prog_1_method_28_code
def yX3_allWords : MethodName := ⟨RX3, "allWords", "()I"⟩
abbrev cX3_allWrongWords : ByteArray := prog_1_method_29_code
def yX3_allWrongWords : MethodName := ⟨RX3, "allWrongWords", "()I"⟩
abbrev cX3_wrongWordsWith : ByteArray := prog_1_method_30_code
def yX3_wrongWordsWith : MethodName := ⟨RX3, "wrongWordsWith", "(LFlagChips$Hill;I)I"⟩
abbrev cX3_endOfAll : ByteArray := prog_1_method_31_code
def yX3_endOfAll : MethodName := ⟨RX3, "endOfAll", "()I"⟩
abbrev cX3_isTaken : ByteArray := prog_1_method_32_code
def yX3_isTaken : MethodName := ⟨RX3, "isTaken", "(I)Z"⟩
abbrev cX3_freeCodes : ByteArray := prog_1_method_33_code
def yX3_freeCodes : MethodName := ⟨RX3, "freeCodes", "()I"⟩
abbrev cX3_likenessToAll : ByteArray := prog_1_method_34_code
def yX3_likenessToAll : MethodName := ⟨RX3, "likenessToAll", "(II)I"⟩
def RX4 : String := "FlagChipsModel"
def TX4 : u_T := fun k => match k with
  | 0 => ("FlagChipsModel", "thrown", "I", false)
  | 1 => ("FlagChipsModel", "length", "I", false)
  | 2 => ("FlagChipsModel", "hills", "I", false)
  | 3 => ("FlagChipsModel", "code", "[I", true)
  | 4 => ("FlagChipsModel", "strength", "[I", true)
  | 5 => ("FlagChipsModel", "delay", "[I", true)
  | 6 => ("FlagChipsModel", "words", "[I", true)
  | 7 => ("FlagChipsModel", "said", "[I", true)
  | _ => ("FlagChipsModel", "storms", "[I", true)
def tyX4 : Nat → FieldType := fun k => match k with
  | 0 => .int
  | 1 => .int
  | 2 => .int
  | 3 => .array .int
  | 4 => .array .int
  | 5 => .array .int
  | 6 => .array .int
  | 7 => .array .int
  | _ => .array .int
abbrev wsX40 : List Cond := u_ws RX4 TX4 9
theorem nmX4 : ∀ a, a < 9 → ∀ b, b < 9 → a ≠ b → (TX4 a).2.1 ≠ (TX4 b).2.1 := by decide +kernel
theorem tyX4_ok : ∀ k, k < 9 → parseFieldDescriptor (TX4 k).2.2.1 = some (tyX4 k) := by decide +kernel
abbrev cX4_init : ByteArray := prog_6_method_1_code
def yX4_init : MethodName := ⟨RX4, "<init>", "()V"⟩
abbrev cX4_thrown : ByteArray := prog_6_method_2_code
def yX4_thrown : MethodName := ⟨RX4, "thrown", "()I"⟩
abbrev cX4_no : ByteArray := prog_6_method_3_code
def yX4_no : MethodName := ⟨RX4, "no", "(I)I"⟩
abbrev cX4_isIn : ByteArray := prog_6_method_4_code
def yX4_isIn : MethodName := ⟨RX4, "isIn", "(III)Z"⟩
abbrev cX4_isCode : ByteArray := prog_6_method_5_code
def yX4_isCode : MethodName := ⟨RX4, "isCode", "(I)Z"⟩
abbrev cX4_isHill : ByteArray := prog_6_method_6_code
def yX4_isHill : MethodName := ⟨RX4, "isHill", "(I)Z"⟩
abbrev cX4_isTime : ByteArray := prog_6_method_7_code
def yX4_isTime : MethodName := ⟨RX4, "isTime", "(I)Z"⟩
abbrev cX4_isStrength : ByteArray := prog_6_method_8_code
def yX4_isStrength : MethodName := ⟨RX4, "isStrength", "(I)Z"⟩
abbrev cX4_sign : ByteArray := prog_6_method_9_code
def yX4_sign : MethodName := ⟨RX4, "sign", "(I)I"⟩
abbrev cX4_chipOf : ByteArray := prog_6_method_10_code
def yX4_chipOf : MethodName := ⟨RX4, "chipOf", "(II)I"⟩
abbrev cX4_beginOf : ByteArray := prog_6_method_11_code
def yX4_beginOf : MethodName := ⟨RX4, "beginOf", "(II)I"⟩
abbrev cX4_signal : ByteArray := prog_6_method_12_code
def yX4_signal : MethodName := ⟨RX4, "signal", "(II)I"⟩
abbrev cX4_skyAt : ByteArray := prog_6_method_13_code
def yX4_skyAt : MethodName := ⟨RX4, "skyAt", "(I)I"⟩
abbrev cX4_heard : ByteArray := prog_6_method_14_code
def yX4_heard : MethodName := ⟨RX4, "heard", "(II)I"⟩
abbrev cX4_heardOf : ByteArray := prog_6_method_15_code
def yX4_heardOf : MethodName := ⟨RX4, "heardOf", "(II)I"⟩
abbrev cX4_isWrong : ByteArray := prog_6_method_16_code
def yX4_isWrong : MethodName := ⟨RX4, "isWrong", "(II)I"⟩
abbrev cX4_wrongOf : ByteArray := prog_6_method_17_code
def yX4_wrongOf : MethodName := ⟨RX4, "wrongOf", "(I)I"⟩
abbrev cX4_allWrong : ByteArray := prog_6_method_18_code
def yX4_allWrong : MethodName := ⟨RX4, "allWrong", "()I"⟩
abbrev cX4_endOf : ByteArray := prog_6_method_19_code
def yX4_endOf : MethodName := ⟨RX4, "endOf", "(I)I"⟩
abbrev cX4_end : ByteArray := prog_6_method_20_code
def yX4_end : MethodName := ⟨RX4, "end", "()I"⟩
abbrev cX4_highest : ByteArray := prog_6_method_21_code
def yX4_highest : MethodName := ⟨RX4, "highest", "()I"⟩
abbrev cX4_isTaken : ByteArray := prog_6_method_22_code
def yX4_isTaken : MethodName := ⟨RX4, "isTaken", "(I)Z"⟩
abbrev cX4_likeness : ByteArray := prog_6_method_23_code
def yX4_likeness : MethodName := ⟨RX4, "likeness", "(III)I"⟩
abbrev cX4_setCodes : ByteArray := prog_6_method_24_code
def yX4_setCodes : MethodName := ⟨RX4, "setCodes", "(I)I"⟩
abbrev cX4_hill : ByteArray := prog_6_method_25_code
def yX4_hill : MethodName := ⟨RX4, "hill", "(II)I"⟩
abbrev cX4_say : ByteArray := prog_6_method_26_code
def yX4_say : MethodName := ⟨RX4, "say", "(IZ)I"⟩
abbrev cX4_hush : ByteArray := prog_6_method_27_code
def yX4_hush : MethodName := ⟨RX4, "hush", "(I)I"⟩
abbrev cX4_setDelay : ByteArray := prog_6_method_28_code
def yX4_setDelay : MethodName := ⟨RX4, "setDelay", "(II)I"⟩
abbrev cX4_setStrength : ByteArray := prog_6_method_29_code
def yX4_setStrength : MethodName := ⟨RX4, "setStrength", "(II)I"⟩
abbrev cX4_setStorm : ByteArray := prog_6_method_30_code
def yX4_setStorm : MethodName := ⟨RX4, "setStorm", "(II)I"⟩
abbrev cX4_chip : ByteArray := prog_6_method_31_code
def yX4_chip : MethodName := ⟨RX4, "chip", "(II)I"⟩
abbrev cX4_sky : ByteArray := prog_6_method_32_code
def yX4_sky : MethodName := ⟨RX4, "sky", "(I)I"⟩
abbrev cX4_hear : ByteArray := prog_6_method_33_code
def yX4_hear : MethodName := ⟨RX4, "hear", "(II)I"⟩
abbrev cX4_wordTold : ByteArray := prog_6_method_34_code
def yX4_wordTold : MethodName := ⟨RX4, "wordTold", "(III)I"⟩
abbrev cX4_word : ByteArray := prog_6_method_35_code
def yX4_word : MethodName := ⟨RX4, "word", "(III)I"⟩
abbrev cX4_faintest : ByteArray := prog_6_method_36_code
def yX4_faintest : MethodName := ⟨RX4, "faintest", "(I)I"⟩
abbrev cX4_hillTold : ByteArray := prog_6_method_37_code
def yX4_hillTold : MethodName := ⟨RX4, "hillTold", "(II)I"⟩
abbrev cX4_about : ByteArray := prog_6_method_38_code
def yX4_about : MethodName := ⟨RX4, "about", "(II)I"⟩
abbrev cX4_counted : ByteArray := prog_6_method_39_code
def yX4_counted : MethodName := ⟨RX4, "counted", "(I)I"⟩
abbrev cX4_count : ByteArray := prog_6_method_40_code
def yX4_count : MethodName := ⟨RX4, "count", "(I)I"⟩
abbrev cX4_alike : ByteArray := prog_6_method_41_code
def yX4_alike : MethodName := ⟨RX4, "alike", "(III)I"⟩
abbrev cX4_shift : ByteArray := prog_6_method_42_code
def yX4_shift : MethodName := ⟨RX4, "shift", "(II)I"⟩
abbrev cX4_disturbed : ByteArray := prog_6_method_43_code
def yX4_disturbed : MethodName := ⟨RX4, "disturbed", "(II)I"⟩
abbrev cX4_advise : ByteArray := prog_6_method_44_code
def yX4_advise : MethodName := ⟨RX4, "advise", "(I)I"⟩
abbrev cX4_wrongWith : ByteArray := prog_6_method_45_code
def yX4_wrongWith : MethodName := ⟨RX4, "wrongWith", "(II)I"⟩
abbrev cX4_would : ByteArray := prog_6_method_46_code
def yX4_would : MethodName := ⟨RX4, "would", "(II)I"⟩
abbrev cX4_tune : ByteArray := prog_6_method_47_code
def yX4_tune : MethodName := ⟨RX4, "tune", "(I)I"⟩
abbrev cX4_mean : ByteArray := prog_6_method_48_code
def yX4_mean : MethodName := ⟨RX4, "mean", "()D"⟩
abbrev cX4_digest : ByteArray := prog_6_method_49_code
def yX4_digest : MethodName := ⟨RX4, "digest", "()J"⟩
def RJx145de : String := "java/io/Serializable"
def TJx145de : u_T := fun k => match k with
  | _ => ("", "", "", false)
def tyJx145de : Nat → FieldType := fun k => match k with
  | _ => .int
abbrev wsJx145de0 : List Cond := u_ws RJx145de TJx145de 0
theorem nmJx145de : ∀ a, a < 0 → ∀ b, b < 0 → a ≠ b → (TJx145de a).2.1 ≠ (TJx145de b).2.1 := by decide +kernel
theorem tyJx145de_ok : ∀ k, k < 0 → parseFieldDescriptor (TJx145de k).2.2.1 = some (tyJx145de k) := by decide +kernel
def RJx8e188 : String := "java/lang/Cloneable"
def TJx8e188 : u_T := fun k => match k with
  | _ => ("", "", "", false)
def tyJx8e188 : Nat → FieldType := fun k => match k with
  | _ => .int
abbrev wsJx8e1880 : List Cond := u_ws RJx8e188 TJx8e188 0
theorem nmJx8e188 : ∀ a, a < 0 → ∀ b, b < 0 → a ≠ b → (TJx8e188 a).2.1 ≠ (TJx8e188 b).2.1 := by decide +kernel
theorem tyJx8e188_ok : ∀ k, k < 0 → parseFieldDescriptor (TJx8e188 k).2.2.1 = some (tyJx8e188 k) := by decide +kernel
def RJ6 : String := "java/lang/Integer"
def TJ6 : u_T := fun k => match k with
  | _ => ("", "", "", false)
def tyJ6 : Nat → FieldType := fun k => match k with
  | _ => .int
abbrev wsJ60 : List Cond := u_ws RJ6 TJ6 0
theorem nmJ6 : ∀ a, a < 0 → ∀ b, b < 0 → a ≠ b → (TJ6 a).2.1 ≠ (TJ6 b).2.1 := by decide +kernel
theorem tyJ6_ok : ∀ k, k < 0 → parseFieldDescriptor (TJ6 k).2.2.1 = some (tyJ6 k) := by decide +kernel
abbrev cJ6_bitCount_0f7a4 : ByteArray := prog_13_method_49_code
def yJ6_bitCount_0f7a4 : MethodName := ⟨RJ6, "bitCount", "(I)I"⟩
def RJxab1ab : String := "java/lang/Iterable"
def TJxab1ab : u_T := fun k => match k with
  | _ => ("", "", "", false)
def tyJxab1ab : Nat → FieldType := fun k => match k with
  | _ => .int
abbrev wsJxab1ab0 : List Cond := u_ws RJxab1ab TJxab1ab 0
theorem nmJxab1ab : ∀ a, a < 0 → ∀ b, b < 0 → a ≠ b → (TJxab1ab a).2.1 ≠ (TJxab1ab b).2.1 := by decide +kernel
theorem tyJxab1ab_ok : ∀ k, k < 0 → parseFieldDescriptor (TJxab1ab k).2.2.1 = some (tyJxab1ab k) := by decide +kernel
def RJ9 : String := "java/lang/Math"
def TJ9 : u_T := fun k => match k with
  | _ => ("", "", "", false)
def tyJ9 : Nat → FieldType := fun k => match k with
  | _ => .int
abbrev wsJ90 : List Cond := u_ws RJ9 TJ9 0
theorem nmJ9 : ∀ a, a < 0 → ∀ b, b < 0 → a ≠ b → (TJ9 a).2.1 ≠ (TJ9 b).2.1 := by decide +kernel
theorem tyJ9_ok : ∀ k, k < 0 → parseFieldDescriptor (TJ9 k).2.2.1 = some (tyJ9 k) := by decide +kernel
abbrev cJ9_abs_0f7a4 : ByteArray := prog_15_method_59_code
def yJ9_abs_0f7a4 : MethodName := ⟨RJ9, "abs", "(I)I"⟩
abbrev cJ9_max_7cf53 : ByteArray := prog_15_method_65_code
def yJ9_max_7cf53 : MethodName := ⟨RJ9, "max", "(II)I"⟩
abbrev cJ9_min_7cf53 : ByteArray := prog_15_method_69_code
def yJ9_min_7cf53 : MethodName := ⟨RJ9, "min", "(II)I"⟩
def RJ0 : String := "java/lang/String"
def TJ0 : u_T := fun k => match k with
  | _ => ("", "", "", false)
def tyJ0 : Nat → FieldType := fun k => match k with
  | _ => .int
abbrev wsJ00 : List Cond := u_ws RJ0 TJ0 0
theorem nmJ0 : ∀ a, a < 0 → ∀ b, b < 0 → a ≠ b → (TJ0 a).2.1 ≠ (TJ0 b).2.1 := by decide +kernel
theorem tyJ0_ok : ∀ k, k < 0 → parseFieldDescriptor (TJ0 k).2.2.1 = some (tyJ0 k) := by decide +kernel
def RJ10 : String := "java/lang/System"
def TJ10 : u_T := fun k => match k with
  | _ => ("", "", "", false)
def tyJ10 : Nat → FieldType := fun k => match k with
  | _ => .int
abbrev wsJ100 : List Cond := u_ws RJ10 TJ10 0
theorem nmJ10 : ∀ a, a < 0 → ∀ b, b < 0 → a ≠ b → (TJ10 a).2.1 ≠ (TJ10 b).2.1 := by decide +kernel
theorem tyJ10_ok : ∀ k, k < 0 → parseFieldDescriptor (TJ10 k).2.2.1 = some (tyJ10 k) := by decide +kernel
def RJxa1e45 : String := "java/util/AbstractCollection"
def TJxa1e45 : u_T := fun k => match k with
  | _ => ("", "", "", false)
def tyJxa1e45 : Nat → FieldType := fun k => match k with
  | _ => .int
abbrev wsJxa1e450 : List Cond := u_ws RJxa1e45 TJxa1e45 0
theorem nmJxa1e45 : ∀ a, a < 0 → ∀ b, b < 0 → a ≠ b → (TJxa1e45 a).2.1 ≠ (TJxa1e45 b).2.1 := by decide +kernel
theorem tyJxa1e45_ok : ∀ k, k < 0 → parseFieldDescriptor (TJxa1e45 k).2.2.1 = some (tyJxa1e45 k) := by decide +kernel
abbrev cJxa1e45_init_da8c8 : ByteArray := prog_20_method_1_code
def yJxa1e45_init_da8c8 : MethodName := ⟨RJxa1e45, "<init>", "()V"⟩
def RJxc12de : String := "java/util/AbstractList"
def TJxc12de : u_T := fun k => match k with
  | _ => ("", "", "", false)
def tyJxc12de : Nat → FieldType := fun k => match k with
  | _ => .int
abbrev wsJxc12de0 : List Cond := u_ws RJxc12de TJxc12de 0
theorem nmJxc12de : ∀ a, a < 0 → ∀ b, b < 0 → a ≠ b → (TJxc12de a).2.1 ≠ (TJxc12de b).2.1 := by decide +kernel
theorem tyJxc12de_ok : ∀ k, k < 0 → parseFieldDescriptor (TJxc12de k).2.2.1 = some (tyJxc12de k) := by decide +kernel
abbrev cJxc12de_init_da8c8 : ByteArray := prog_21_method_1_code
def yJxc12de_init_da8c8 : MethodName := ⟨RJxc12de, "<init>", "()V"⟩
def RJx4a65c : String := "java/util/ArrayList"
def TJx4a65c : u_T := fun k => match k with
  | 0 => ("java/util/AbstractList", "modCount", "I", false)
  | 1 => ("java/util/ArrayList", "elementData", "[Ljava/lang/Object;", false)
  | _ => ("java/util/ArrayList", "size", "I", false)
def tyJx4a65c : Nat → FieldType := fun k => match k with
  | 0 => .int
  | 1 => .array (.object "java/lang/Object")
  | _ => .int
abbrev wsJx4a65c0 : List Cond := u_ws RJx4a65c TJx4a65c 3
theorem nmJx4a65c : ∀ a, a < 3 → ∀ b, b < 3 → a ≠ b → (TJx4a65c a).2.1 ≠ (TJx4a65c b).2.1 := by decide +kernel
theorem tyJx4a65c_ok : ∀ k, k < 3 → parseFieldDescriptor (TJx4a65c k).2.2.1 = some (tyJx4a65c k) := by decide +kernel
abbrev cJx4a65c_init_da8c8 : ByteArray := prog_22_method_2_code
def yJx4a65c_init_da8c8 : MethodName := ⟨RJx4a65c, "<init>", "()V"⟩
abbrev cJx4a65c_grow_92f84 : ByteArray := prog_22_method_6_code
def yJx4a65c_grow_92f84 : MethodName := ⟨RJx4a65c, "grow", "(I)[Ljava/lang/Object;"⟩
abbrev cJx4a65c_grow_d5877 : ByteArray := prog_22_method_7_code
def yJx4a65c_grow_d5877 : MethodName := ⟨RJx4a65c, "grow", "()[Ljava/lang/Object;"⟩
abbrev cJx4a65c_size_8abf5 : ByteArray := prog_22_method_8_code
def yJx4a65c_size_8abf5 : MethodName := ⟨RJx4a65c, "size", "()I"⟩
abbrev cJx4a65c_elementData_915e3 : ByteArray := prog_22_method_18_code
def yJx4a65c_elementData_915e3 : MethodName := ⟨RJx4a65c, "elementData", "(I)Ljava/lang/Object;"⟩
abbrev cJx4a65c_get_915e3 : ByteArray := prog_22_method_20_code
def yJx4a65c_get_915e3 : MethodName := ⟨RJx4a65c, "get", "(I)Ljava/lang/Object;"⟩
abbrev cJx4a65c_add_72be8 : ByteArray := prog_22_method_24_code
def yJx4a65c_add_72be8 : MethodName := ⟨RJx4a65c, "add", "(Ljava/lang/Object;[Ljava/lang/Object;I)V"⟩
abbrev cJx4a65c_add_9ea2d : ByteArray := prog_22_method_25_code
def yJx4a65c_add_9ea2d : MethodName := ⟨RJx4a65c, "add", "(Ljava/lang/Object;)Z"⟩
abbrev cJx4a65c_clear_da8c8 : ByteArray := prog_22_method_40_code
def yJx4a65c_clear_da8c8 : MethodName := ⟨RJx4a65c, "clear", "()V"⟩
def RJ7 : String := "java/util/Arrays"
def TJ7 : u_T := fun k => match k with
  | _ => ("", "", "", false)
def tyJ7 : Nat → FieldType := fun k => match k with
  | _ => .int
abbrev wsJ70 : List Cond := u_ws RJ7 TJ7 0
theorem nmJ7 : ∀ a, a < 0 → ∀ b, b < 0 → a ≠ b → (TJ7 a).2.1 ≠ (TJ7 b).2.1 := by decide +kernel
theorem tyJ7_ok : ∀ k, k < 0 → parseFieldDescriptor (TJ7 k).2.2.1 = some (tyJ7 k) := by decide +kernel
abbrev cJ7_fill_53178 : ByteArray := prog_23_method_103_code
def yJ7_fill_53178 : MethodName := ⟨RJ7, "fill", "([II)V"⟩
abbrev cJ7_copyOf_1904c : ByteArray := prog_23_method_119_code
def yJ7_copyOf_1904c : MethodName := ⟨RJ7, "copyOf", "([Ljava/lang/Object;I)[Ljava/lang/Object;"⟩
abbrev cJ7_copyOf_6403c : ByteArray := prog_23_method_120_code
def yJ7_copyOf_6403c : MethodName := ⟨RJ7, "copyOf", "([Ljava/lang/Object;ILjava/lang/Class;)[Ljava/lang/Object;"⟩
def RJx5ef63 : String := "java/util/Collection"
def TJx5ef63 : u_T := fun k => match k with
  | _ => ("", "", "", false)
def tyJx5ef63 : Nat → FieldType := fun k => match k with
  | _ => .int
abbrev wsJx5ef630 : List Cond := u_ws RJx5ef63 TJx5ef63 0
theorem nmJx5ef63 : ∀ a, a < 0 → ∀ b, b < 0 → a ≠ b → (TJx5ef63 a).2.1 ≠ (TJx5ef63 b).2.1 := by decide +kernel
theorem tyJx5ef63_ok : ∀ k, k < 0 → parseFieldDescriptor (TJx5ef63 k).2.2.1 = some (tyJx5ef63 k) := by decide +kernel
def RJxbd725 : String := "java/util/List"
def TJxbd725 : u_T := fun k => match k with
  | _ => ("", "", "", false)
def tyJxbd725 : Nat → FieldType := fun k => match k with
  | _ => .int
abbrev wsJxbd7250 : List Cond := u_ws RJxbd725 TJxbd725 0
theorem nmJxbd725 : ∀ a, a < 0 → ∀ b, b < 0 → a ≠ b → (TJxbd725 a).2.1 ≠ (TJxbd725 b).2.1 := by decide +kernel
theorem tyJxbd725_ok : ∀ k, k < 0 → parseFieldDescriptor (TJxbd725 k).2.2.1 = some (tyJxbd725 k) := by decide +kernel
def RJ15 : String := "java/util/Objects"
def TJ15 : u_T := fun k => match k with
  | _ => ("", "", "", false)
def tyJ15 : Nat → FieldType := fun k => match k with
  | _ => .int
abbrev wsJ150 : List Cond := u_ws RJ15 TJ15 0
theorem nmJ15 : ∀ a, a < 0 → ∀ b, b < 0 → a ≠ b → (TJ15 a).2.1 ≠ (TJ15 b).2.1 := by decide +kernel
theorem tyJ15_ok : ∀ k, k < 0 → parseFieldDescriptor (TJ15 k).2.2.1 = some (tyJ15 k) := by decide +kernel
abbrev cJ15_checkIndex_7cf53 : ByteArray := prog_26_method_17_code
def yJ15_checkIndex_7cf53 : MethodName := ⟨RJ15, "checkIndex", "(II)I"⟩
def RJxf0a74 : String := "java/util/RandomAccess"
def TJxf0a74 : u_T := fun k => match k with
  | _ => ("", "", "", false)
def tyJxf0a74 : Nat → FieldType := fun k => match k with
  | _ => .int
abbrev wsJxf0a740 : List Cond := u_ws RJxf0a74 TJxf0a74 0
theorem nmJxf0a74 : ∀ a, a < 0 → ∀ b, b < 0 → a ≠ b → (TJxf0a74 a).2.1 ≠ (TJxf0a74 b).2.1 := by decide +kernel
theorem tyJxf0a74_ok : ∀ k, k < 0 → parseFieldDescriptor (TJxf0a74 k).2.2.1 = some (tyJxf0a74 k) := by decide +kernel
def RJxa66e6 : String := "java/util/SequencedCollection"
def TJxa66e6 : u_T := fun k => match k with
  | _ => ("", "", "", false)
def tyJxa66e6 : Nat → FieldType := fun k => match k with
  | _ => .int
abbrev wsJxa66e60 : List Cond := u_ws RJxa66e6 TJxa66e6 0
theorem nmJxa66e6 : ∀ a, a < 0 → ∀ b, b < 0 → a ≠ b → (TJxa66e6 a).2.1 ≠ (TJxa66e6 b).2.1 := by decide +kernel
theorem tyJxa66e6_ok : ∀ k, k < 0 → parseFieldDescriptor (TJxa66e6 k).2.2.1 = some (tyJxa66e6 k) := by decide +kernel
def RJ8 : String := "jdk/internal/util/ArraysSupport"
def TJ8 : u_T := fun k => match k with
  | _ => ("", "", "", false)
def tyJ8 : Nat → FieldType := fun k => match k with
  | _ => .int
abbrev wsJ80 : List Cond := u_ws RJ8 TJ8 0
theorem nmJ8 : ∀ a, a < 0 → ∀ b, b < 0 → a ≠ b → (TJ8 a).2.1 ≠ (TJ8 b).2.1 := by decide +kernel
theorem tyJ8_ok : ∀ k, k < 0 → parseFieldDescriptor (TJ8 k).2.2.1 = some (tyJ8 k) := by decide +kernel
abbrev cJ8_newLength_cabcc : ByteArray := prog_29_method_27_code
def yJ8_newLength_cabcc : MethodName := ⟨RJ8, "newLength", "(III)I"⟩
abbrev cJ8_hugeLength_7cf53 : ByteArray := prog_29_method_28_code
def yJ8_hugeLength_7cf53 : MethodName := ⟨RJ8, "hugeLength", "(II)I"⟩
def RJ3 : String := "jdk/internal/util/Preconditions"
def TJ3 : u_T := fun k => match k with
  | _ => ("", "", "", false)
def tyJ3 : Nat → FieldType := fun k => match k with
  | _ => .int
abbrev wsJ30 : List Cond := u_ws RJ3 TJ3 0
theorem nmJ3 : ∀ a, a < 0 → ∀ b, b < 0 → a ≠ b → (TJ3 a).2.1 ≠ (TJ3 b).2.1 := by decide +kernel
theorem tyJ3_ok : ∀ k, k < 0 → parseFieldDescriptor (TJ3 k).2.2.1 = some (tyJ3 k) := by decide +kernel
abbrev cJ3_checkIndex_8e157 : ByteArray := prog_30_method_11_code
def yJ3_checkIndex_8e157 : MethodName := ⟨RJ3, "checkIndex", "(IILjava/util/function/BiFunction;)I"⟩
def RL : String := "FlagChipsLaw"
abbrev cL_setCodes : ByteArray := method_3_code
def yL_setCodes : MethodName := ⟨RL, "setCodes", "(LFlagChips;I[J)I"⟩
abbrev cL_hill : ByteArray := method_4_code
def yL_hill : MethodName := ⟨RL, "hill", "(LFlagChips;II[J)I"⟩
abbrev cL_say : ByteArray := method_5_code
def yL_say : MethodName := ⟨RL, "say", "(LFlagChips;IZ[J)I"⟩
abbrev cL_hush : ByteArray := method_6_code
def yL_hush : MethodName := ⟨RL, "hush", "(LFlagChips;I[J)I"⟩
abbrev cL_setDelay : ByteArray := method_7_code
def yL_setDelay : MethodName := ⟨RL, "setDelay", "(LFlagChips;II[J)I"⟩
abbrev cL_setStrength : ByteArray := method_8_code
def yL_setStrength : MethodName := ⟨RL, "setStrength", "(LFlagChips;II[J)I"⟩
abbrev cL_setStorm : ByteArray := method_9_code
def yL_setStorm : MethodName := ⟨RL, "setStorm", "(LFlagChips;II[J)I"⟩
abbrev cL_chip : ByteArray := method_10_code
def yL_chip : MethodName := ⟨RL, "chip", "(LFlagChips;II[J)I"⟩
abbrev cL_sky : ByteArray := method_11_code
def yL_sky : MethodName := ⟨RL, "sky", "(LFlagChips;I[J)I"⟩
abbrev cL_hear : ByteArray := method_12_code
def yL_hear : MethodName := ⟨RL, "hear", "(LFlagChips;II[J)I"⟩
abbrev cL_word : ByteArray := method_13_code
def yL_word : MethodName := ⟨RL, "word", "(LFlagChips;III[J)I"⟩
abbrev cL_about : ByteArray := method_14_code
def yL_about : MethodName := ⟨RL, "about", "(LFlagChips;II[J)I"⟩
abbrev cL_count : ByteArray := method_15_code
def yL_count : MethodName := ⟨RL, "count", "(LFlagChips;I[J)I"⟩
abbrev cL_alike : ByteArray := method_16_code
def yL_alike : MethodName := ⟨RL, "alike", "(LFlagChips;III[J)I"⟩
abbrev cL_shift : ByteArray := method_17_code
def yL_shift : MethodName := ⟨RL, "shift", "(LFlagChips;II[J)I"⟩
abbrev cL_advise : ByteArray := method_18_code
def yL_advise : MethodName := ⟨RL, "advise", "(LFlagChips;I[J)I"⟩
abbrev cL_would : ByteArray := method_19_code
def yL_would : MethodName := ⟨RL, "would", "(LFlagChips;II[J)I"⟩
abbrev cL_tune : ByteArray := method_20_code
def yL_tune : MethodName := ⟨RL, "tune", "(LFlagChips;I[J)I"⟩
abbrev cL_law : ByteArray := code
def yL_law : MethodName := ⟨RL, "law", "([I)Z"⟩
def wsX0_init : List Cond := .code yX0_init cX0_init 1 none :: ([.methodLink RX0 3 objectInit, .instanceMethod objectInit, .code objectInit ⟨#[0xb1]⟩ 1 none, .fieldLink RX0 9 "FlagChips$Codes" "length" "I"] ++ wsX00)
def wsX0_has : List Cond := .code yX0_has cX0_has 2 (some .boolean) :: ([.fieldLink RX0 9 "FlagChips$Codes" "length" "I"] ++ wsX00)
def wsJ6_bitCount_0f7a4 : List Cond := .code yJ6_bitCount_0f7a4 cJ6_bitCount_0f7a4 1 (some .int) :: ([.constant RJ6 265 (1431655765), .constant RJ6 266 (858993459), .constant RJ6 267 (252645135)])
def wsX0_chipAt : List Cond := .code yX0_chipAt cX0_chipAt 3 (some .int) :: ([.methodLink RX0 15 yJ6_bitCount_0f7a4, .static yJ6_bitCount_0f7a4, .initialized RJ6, .code yJ6_bitCount_0f7a4 cJ6_bitCount_0f7a4 1 (some .int), .constant RJ6 265 (1431655765), .constant RJ6 266 (858993459), .constant RJ6 267 (252645135)])
def wsX0_likeness : List Cond := .code yX0_likeness cX0_likeness 7 (some .int) :: ([.fieldLink RX0 9 "FlagChips$Codes" "length" "I", .methodLink RX0 25 Lib.Math.abs.name, .static Lib.Math.abs.name, .initialized "java/lang/Math", .code Lib.Math.abs.name Lib.Math.abs.code 1 (some .int), .methodLink RX0 21 yX0_chipAt, .instanceMethod yX0_chipAt, .selects RX0 yX0_chipAt yX0_chipAt, .initialized RX0, .code yX0_chipAt cX0_chipAt 3 (some .int), .methodLink RX0 15 yJ6_bitCount_0f7a4, .static yJ6_bitCount_0f7a4, .initialized RJ6, .code yJ6_bitCount_0f7a4 cJ6_bitCount_0f7a4 1 (some .int), .constant RJ6 265 (1431655765), .constant RJ6 266 (858993459), .constant RJ6 267 (252645135)] ++ wsX00)
def wsX1_init : List Cond := .code yX1_init cX1_init 3 none :: ([.methodLink RX1 3 objectInit, .instanceMethod objectInit, .code objectInit ⟨#[0xb1]⟩ 1 none, .fieldLink RX1 9 "FlagChips$Hill" "delay" "I", .fieldLink RX1 15 "FlagChips$Hill" "said" "I", .arrayClass .int, .fieldLink RX1 18 "FlagChips$Hill" "words" "[I", .fieldLink RX1 22 "FlagChips$Hill" "code" "I", .fieldLink RX1 25 "FlagChips$Hill" "strength" "I"] ++ wsX10)
def wsX1_isFull : List Cond := .code yX1_isFull cX1_isFull 1 (some .boolean) :: ([.fieldLink RX1 15 "FlagChips$Hill" "said" "I", .fieldLink RX1 18 "FlagChips$Hill" "words" "[I"] ++ wsX10)
def wsX1_add : List Cond := .code yX1_add cX1_add 2 none :: ([.fieldLink RX1 18 "FlagChips$Hill" "words" "[I", .fieldLink RX1 15 "FlagChips$Hill" "said" "I", .methodLink RX1 28 yX1_isFull, .instanceMethod yX1_isFull, .selects RX1 yX1_isFull yX1_isFull, .initialized RX1, .code yX1_isFull cX1_isFull 1 (some .boolean)] ++ wsX10)
def wsX1_wordAt : List Cond := .code yX1_wordAt cX1_wordAt 2 (some .int) :: ([.fieldLink RX1 18 "FlagChips$Hill" "words" "[I"] ++ wsX10)
def wsX1_isWrong : List Cond := .code yX1_isWrong cX1_isWrong 3 (some .boolean) :: ([.methodLink RX1 32 yX1_wordAt, .instanceMethod yX1_wordAt, .selects RX1 yX1_wordAt yX1_wordAt, .initialized RX1, .code yX1_wordAt cX1_wordAt 2 (some .int), .fieldLink RX1 18 "FlagChips$Hill" "words" "[I"] ++ wsX10)
def wsX1_start : List Cond := .code yX1_start cX1_start 3 (some .int) :: ([.fieldLink RX1 9 "FlagChips$Hill" "delay" "I"] ++ wsX10)
def wsX1_end : List Cond := .code yX1_end cX1_end 2 (some .int) :: ([.fieldLink RX1 15 "FlagChips$Hill" "said" "I", .methodLink RX1 36 yX1_start, .instanceMethod yX1_start, .selects RX1 yX1_start yX1_start, .initialized RX1, .code yX1_start cX1_start 3 (some .int), .fieldLink RX1 9 "FlagChips$Hill" "delay" "I"] ++ wsX10)
def wsX2_init : List Cond := .code yX2_init cX2_init 2 none :: ([.methodLink RX2 3 objectInit, .instanceMethod objectInit, .code objectInit ⟨#[0xb1]⟩ 1 none, .arrayClass .int, .fieldLink RX2 9 "FlagChips$Sky" "storms" "[I", .fieldLink RX2 15 "FlagChips$Sky" "signals" "[I", .fieldLink RX2 18 "FlagChips$Sky" "codes" "LFlagChips$Codes;"] ++ wsX20)
def wsJ7_fill_53178 : List Cond := .code yJ7_fill_53178 cJ7_fill_53178 4 none :: ([])
def wsX2_silence : List Cond := .code yX2_silence cX2_silence 1 none :: ([.fieldLink RX2 15 "FlagChips$Sky" "signals" "[I", .methodLink RX2 22 yJ7_fill_53178, .static yJ7_fill_53178, .initialized RJ7, .code yJ7_fill_53178 cJ7_fill_53178 4 none] ++ wsX20)
def wsX2_addWord_r1 : List Cond := [Cond.fieldLink RX2 18 "FlagChips$Sky" "codes" "LFlagChips$Codes;", Cond.fieldLink RX2 42 "FlagChips$Codes" "length" "I", Cond.fieldLink RX2 15 "FlagChips$Sky" "signals" "[I", Cond.fieldLink RX2 51 "FlagChips$Hill" "code" "I", Cond.methodLink RX2 38 yX1_wordAt, Cond.instanceMethod yX1_wordAt, Cond.selects RX1 yX1_wordAt yX1_wordAt, Cond.initialized RX1, Cond.code yX1_wordAt cX1_wordAt 2 (some .int), Cond.fieldLink RX1 18 "FlagChips$Hill" "words" "[I", Cond.methodLink RX2 47 yX1_start, Cond.instanceMethod yX1_start, Cond.selects RX1 yX1_start yX1_start, Cond.code yX1_start cX1_start 3 (some .int), Cond.fieldLink RX1 9 "FlagChips$Hill" "delay" "I", Cond.methodLink RX2 54 yX0_chipAt, Cond.instanceMethod yX0_chipAt, Cond.selects RX0 yX0_chipAt yX0_chipAt, Cond.initialized RX0, Cond.code yX0_chipAt cX0_chipAt 3 (some .int), Cond.methodLink RX0 15 yJ6_bitCount_0f7a4, Cond.static yJ6_bitCount_0f7a4, Cond.initialized RJ6, Cond.code yJ6_bitCount_0f7a4 cJ6_bitCount_0f7a4 1 (some .int)]
def wsX2_addWord_r2 : List Cond := [Cond.constant RJ6 265 (1431655765), Cond.constant RJ6 266 (858993459), Cond.constant RJ6 267 (252645135)]
def wsX2_addWord : List Cond := .code yX2_addWord cX2_addWord 8 none :: ((wsX2_addWord_r1 ++ wsX2_addWord_r2) ++ wsX20 ++ wsX00 ++ wsX10)
def wsX2_addWords_r1 : List Cond := [Cond.fieldLink RX2 28 "FlagChips$Hill" "said" "I", Cond.methodLink RX2 34 yX2_addWord, Cond.instanceMethod yX2_addWord, Cond.selects RX2 yX2_addWord yX2_addWord, Cond.initialized RX2, Cond.code yX2_addWord cX2_addWord 8 none, Cond.fieldLink RX2 18 "FlagChips$Sky" "codes" "LFlagChips$Codes;", Cond.fieldLink RX2 42 "FlagChips$Codes" "length" "I", Cond.fieldLink RX2 15 "FlagChips$Sky" "signals" "[I", Cond.fieldLink RX2 51 "FlagChips$Hill" "code" "I", Cond.methodLink RX2 38 yX1_wordAt, Cond.instanceMethod yX1_wordAt, Cond.selects RX1 yX1_wordAt yX1_wordAt, Cond.initialized RX1, Cond.code yX1_wordAt cX1_wordAt 2 (some .int), Cond.fieldLink RX1 18 "FlagChips$Hill" "words" "[I", Cond.methodLink RX2 47 yX1_start, Cond.instanceMethod yX1_start, Cond.selects RX1 yX1_start yX1_start, Cond.code yX1_start cX1_start 3 (some .int), Cond.fieldLink RX1 9 "FlagChips$Hill" "delay" "I", Cond.methodLink RX2 54 yX0_chipAt, Cond.instanceMethod yX0_chipAt, Cond.selects RX0 yX0_chipAt yX0_chipAt]
def wsX2_addWords_r2 : List Cond := [Cond.initialized RX0, Cond.code yX0_chipAt cX0_chipAt 3 (some .int), Cond.methodLink RX0 15 yJ6_bitCount_0f7a4, Cond.static yJ6_bitCount_0f7a4, Cond.initialized RJ6, Cond.code yJ6_bitCount_0f7a4 cJ6_bitCount_0f7a4 1 (some .int), Cond.constant RJ6 265 (1431655765), Cond.constant RJ6 266 (858993459), Cond.constant RJ6 267 (252645135)]
def wsX2_addWords : List Cond := .code yX2_addWords cX2_addWords 4 none :: ((wsX2_addWords_r1 ++ wsX2_addWords_r2) ++ wsX10 ++ wsX20 ++ wsX00)
def wsX2_at : List Cond := .code yX2_at cX2_at 3 (some .int) :: ([.fieldLink RX2 9 "FlagChips$Sky" "storms" "[I", .fieldLink RX2 15 "FlagChips$Sky" "signals" "[I"] ++ wsX20)
def wsX2_heard : List Cond := .code yX2_heard cX2_heard 5 (some .int) :: ([.fieldLink RX2 18 "FlagChips$Sky" "codes" "LFlagChips$Codes;", .fieldLink RX2 42 "FlagChips$Codes" "length" "I", .methodLink RX2 57 yX2_at, .instanceMethod yX2_at, .selects RX2 yX2_at yX2_at, .initialized RX2, .code yX2_at cX2_at 3 (some .int), .fieldLink RX2 9 "FlagChips$Sky" "storms" "[I", .fieldLink RX2 15 "FlagChips$Sky" "signals" "[I", .methodLink RX2 54 yX0_chipAt, .instanceMethod yX0_chipAt, .selects RX0 yX0_chipAt yX0_chipAt, .initialized RX0, .code yX0_chipAt cX0_chipAt 3 (some .int), .methodLink RX0 15 yJ6_bitCount_0f7a4, .static yJ6_bitCount_0f7a4, .initialized RJ6, .code yJ6_bitCount_0f7a4 cJ6_bitCount_0f7a4 1 (some .int), .constant RJ6 265 (1431655765), .constant RJ6 266 (858993459), .constant RJ6 267 (252645135)] ++ wsX20 ++ wsX00)
def wsX2_heardWord_r1 : List Cond := [Cond.fieldLink RX2 51 "FlagChips$Hill" "code" "I", Cond.fieldLink RX2 18 "FlagChips$Sky" "codes" "LFlagChips$Codes;", Cond.fieldLink RX2 42 "FlagChips$Codes" "length" "I", Cond.methodLink RX2 47 yX1_start, Cond.instanceMethod yX1_start, Cond.selects RX1 yX1_start yX1_start, Cond.initialized RX1, Cond.code yX1_start cX1_start 3 (some .int), Cond.fieldLink RX1 9 "FlagChips$Hill" "delay" "I", Cond.methodLink RX2 60 yX2_heard, Cond.instanceMethod yX2_heard, Cond.selects RX2 yX2_heard yX2_heard, Cond.initialized RX2, Cond.code yX2_heard cX2_heard 5 (some .int), Cond.methodLink RX2 57 yX2_at, Cond.instanceMethod yX2_at, Cond.selects RX2 yX2_at yX2_at, Cond.code yX2_at cX2_at 3 (some .int), Cond.fieldLink RX2 9 "FlagChips$Sky" "storms" "[I", Cond.fieldLink RX2 15 "FlagChips$Sky" "signals" "[I", Cond.methodLink RX2 54 yX0_chipAt, Cond.instanceMethod yX0_chipAt, Cond.selects RX0 yX0_chipAt yX0_chipAt, Cond.initialized RX0]
def wsX2_heardWord_r2 : List Cond := [Cond.code yX0_chipAt cX0_chipAt 3 (some .int), Cond.methodLink RX0 15 yJ6_bitCount_0f7a4, Cond.static yJ6_bitCount_0f7a4, Cond.initialized RJ6, Cond.code yJ6_bitCount_0f7a4 cJ6_bitCount_0f7a4 1 (some .int), Cond.constant RJ6 265 (1431655765), Cond.constant RJ6 266 (858993459), Cond.constant RJ6 267 (252645135)]
def wsX2_heardWord : List Cond := .code yX2_heardWord cX2_heardWord 3 (some .int) :: ((wsX2_heardWord_r1 ++ wsX2_heardWord_r2) ++ wsX10 ++ wsX20 ++ wsX00)
def wsX2_wrongWords_r1 : List Cond := [Cond.fieldLink RX2 28 "FlagChips$Hill" "said" "I", Cond.methodLink RX2 63 yX2_heardWord, Cond.instanceMethod yX2_heardWord, Cond.selects RX2 yX2_heardWord yX2_heardWord, Cond.initialized RX2, Cond.code yX2_heardWord cX2_heardWord 3 (some .int), Cond.fieldLink RX2 51 "FlagChips$Hill" "code" "I", Cond.fieldLink RX2 18 "FlagChips$Sky" "codes" "LFlagChips$Codes;", Cond.fieldLink RX2 42 "FlagChips$Codes" "length" "I", Cond.methodLink RX2 47 yX1_start, Cond.instanceMethod yX1_start, Cond.selects RX1 yX1_start yX1_start, Cond.initialized RX1, Cond.code yX1_start cX1_start 3 (some .int), Cond.fieldLink RX1 9 "FlagChips$Hill" "delay" "I", Cond.methodLink RX2 60 yX2_heard, Cond.instanceMethod yX2_heard, Cond.selects RX2 yX2_heard yX2_heard, Cond.code yX2_heard cX2_heard 5 (some .int), Cond.methodLink RX2 57 yX2_at, Cond.instanceMethod yX2_at, Cond.selects RX2 yX2_at yX2_at, Cond.code yX2_at cX2_at 3 (some .int), Cond.fieldLink RX2 9 "FlagChips$Sky" "storms" "[I"]
def wsX2_wrongWords_r2 : List Cond := [Cond.fieldLink RX2 15 "FlagChips$Sky" "signals" "[I", Cond.methodLink RX2 54 yX0_chipAt, Cond.instanceMethod yX0_chipAt, Cond.selects RX0 yX0_chipAt yX0_chipAt, Cond.initialized RX0, Cond.code yX0_chipAt cX0_chipAt 3 (some .int), Cond.methodLink RX0 15 yJ6_bitCount_0f7a4, Cond.static yJ6_bitCount_0f7a4, Cond.initialized RJ6, Cond.code yJ6_bitCount_0f7a4 cJ6_bitCount_0f7a4 1 (some .int), Cond.constant RJ6 265 (1431655765), Cond.constant RJ6 266 (858993459), Cond.constant RJ6 267 (252645135), Cond.methodLink RX2 67 yX1_isWrong, Cond.instanceMethod yX1_isWrong, Cond.selects RX1 yX1_isWrong yX1_isWrong, Cond.code yX1_isWrong cX1_isWrong 3 (some .boolean), Cond.methodLink RX1 32 yX1_wordAt, Cond.instanceMethod yX1_wordAt, Cond.selects RX1 yX1_wordAt yX1_wordAt, Cond.code yX1_wordAt cX1_wordAt 2 (some .int), Cond.fieldLink RX1 18 "FlagChips$Hill" "words" "[I"]
def wsX2_wrongWords : List Cond := .code yX2_wrongWords cX2_wrongWords 4 (some .int) :: ((wsX2_wrongWords_r1 ++ wsX2_wrongWords_r2) ++ wsX10 ++ wsX20 ++ wsX00)
def wsX2_faintest_r1 : List Cond := [Cond.fieldLink RX2 28 "FlagChips$Hill" "said" "I", Cond.methodLink RX2 71 Lib.Math.abs.name, Cond.static Lib.Math.abs.name, Cond.initialized "java/lang/Math", Cond.code Lib.Math.abs.name Lib.Math.abs.code 1 (some .int), Cond.methodLink RX2 63 yX2_heardWord, Cond.instanceMethod yX2_heardWord, Cond.selects RX2 yX2_heardWord yX2_heardWord, Cond.initialized RX2, Cond.code yX2_heardWord cX2_heardWord 3 (some .int), Cond.fieldLink RX2 51 "FlagChips$Hill" "code" "I", Cond.fieldLink RX2 18 "FlagChips$Sky" "codes" "LFlagChips$Codes;", Cond.fieldLink RX2 42 "FlagChips$Codes" "length" "I", Cond.methodLink RX2 47 yX1_start, Cond.instanceMethod yX1_start, Cond.selects RX1 yX1_start yX1_start, Cond.initialized RX1, Cond.code yX1_start cX1_start 3 (some .int), Cond.fieldLink RX1 9 "FlagChips$Hill" "delay" "I", Cond.methodLink RX2 60 yX2_heard, Cond.instanceMethod yX2_heard, Cond.selects RX2 yX2_heard yX2_heard, Cond.code yX2_heard cX2_heard 5 (some .int), Cond.methodLink RX2 57 yX2_at]
def wsX2_faintest_r2 : List Cond := [Cond.instanceMethod yX2_at, Cond.selects RX2 yX2_at yX2_at, Cond.code yX2_at cX2_at 3 (some .int), Cond.fieldLink RX2 9 "FlagChips$Sky" "storms" "[I", Cond.fieldLink RX2 15 "FlagChips$Sky" "signals" "[I", Cond.methodLink RX2 54 yX0_chipAt, Cond.instanceMethod yX0_chipAt, Cond.selects RX0 yX0_chipAt yX0_chipAt, Cond.initialized RX0, Cond.code yX0_chipAt cX0_chipAt 3 (some .int), Cond.methodLink RX0 15 yJ6_bitCount_0f7a4, Cond.static yJ6_bitCount_0f7a4, Cond.initialized RJ6, Cond.code yJ6_bitCount_0f7a4 cJ6_bitCount_0f7a4 1 (some .int), Cond.constant RJ6 265 (1431655765), Cond.constant RJ6 266 (858993459), Cond.constant RJ6 267 (252645135)]
def wsX2_faintest : List Cond := .code yX2_faintest cX2_faintest 5 (some .int) :: ((wsX2_faintest_r1 ++ wsX2_faintest_r2) ++ wsX10 ++ wsX20 ++ wsX00)
def wsX2_highest : List Cond := .code yX2_highest cX2_highest 4 (some .int) :: ([.methodLink RX2 71 Lib.Math.abs.name, .static Lib.Math.abs.name, .initialized "java/lang/Math", .code Lib.Math.abs.name Lib.Math.abs.code 1 (some .int), .methodLink RX2 76 Lib.Math.max.name, .static Lib.Math.max.name, .code Lib.Math.max.name Lib.Math.max.code 2 (some .int), .methodLink RX2 57 yX2_at, .instanceMethod yX2_at, .selects RX2 yX2_at yX2_at, .initialized RX2, .code yX2_at cX2_at 3 (some .int), .fieldLink RX2 9 "FlagChips$Sky" "storms" "[I", .fieldLink RX2 15 "FlagChips$Sky" "signals" "[I"] ++ wsX20)
def wsX2_sum : List Cond := .code yX2_sum cX2_sum 4 (some .int) :: ([.methodLink RX2 57 yX2_at, .instanceMethod yX2_at, .selects RX2 yX2_at yX2_at, .initialized RX2, .code yX2_at cX2_at 3 (some .int), .fieldLink RX2 9 "FlagChips$Sky" "storms" "[I", .fieldLink RX2 15 "FlagChips$Sky" "signals" "[I"] ++ wsX20)
def wsJxa1e45_init_da8c8 : List Cond := .code yJxa1e45_init_da8c8 cJxa1e45_init_da8c8 1 none :: ([.methodLink RJxa1e45 1 objectInit, .instanceMethod objectInit, .code objectInit ⟨#[0xb1]⟩ 1 none])
def wsJxc12de_init_da8c8 : List Cond := .code yJxc12de_init_da8c8 cJxc12de_init_da8c8 1 none :: ([.fieldLink RJxc12de 7 "java/util/AbstractList" "modCount" "I", .methodLink RJxc12de 1 yJxa1e45_init_da8c8, .instanceMethod yJxa1e45_init_da8c8, .initialized RJxa1e45, .code yJxa1e45_init_da8c8 cJxa1e45_init_da8c8 1 none, .methodLink RJxa1e45 1 objectInit, .instanceMethod objectInit, .code objectInit ⟨#[0xb1]⟩ 1 none] ++ wsJx4a65c0)
def wsJx4a65c_init_da8c8 : List Cond := .code yJx4a65c_init_da8c8 cJx4a65c_init_da8c8 1 none :: ([.fieldLink RJx4a65c 39 "java/util/ArrayList" "DEFAULTCAPACITY_EMPTY_ELEMENTDATA" "[Ljava/lang/Object;", .fieldLink RJx4a65c 9 "java/util/ArrayList" "elementData" "[Ljava/lang/Object;", .methodLink RJx4a65c 1 yJxc12de_init_da8c8, .instanceMethod yJxc12de_init_da8c8, .initialized RJxc12de, .code yJxc12de_init_da8c8 cJxc12de_init_da8c8 1 none, .fieldLink RJxc12de 7 "java/util/AbstractList" "modCount" "I", .methodLink RJxc12de 1 yJxa1e45_init_da8c8, .instanceMethod yJxa1e45_init_da8c8, .initialized RJxa1e45, .code yJxa1e45_init_da8c8 cJxa1e45_init_da8c8 1 none, .methodLink RJxa1e45 1 objectInit, .instanceMethod objectInit, .code objectInit ⟨#[0xb1]⟩ 1 none] ++ wsJx4a65c0)
def wsX3_init_r1 : List Cond := [Cond.methodLink RX3 3 objectInit, Cond.instanceMethod objectInit, Cond.code objectInit ⟨#[0xb1]⟩ 1 none, Cond.classLink RX3 9 RX0, Cond.instantiable RX0 1, Cond.initialized RX0, Cond.fieldLink RX3 12 "FlagChips" "codes" "LFlagChips$Codes;", Cond.classLink RX3 16 RX2, Cond.instantiable RX2 3, Cond.initialized RX2, Cond.fieldLink RX3 21 "FlagChips" "sky" "LFlagChips$Sky;", Cond.classLink RX3 25 RJx4a65c, Cond.instantiable RJx4a65c 3, Cond.initialized RJx4a65c, Cond.fieldLink RX3 28 "FlagChips" "hills" "Ljava/util/ArrayList;", Cond.instanceMethod yX0_init, Cond.code yX0_init cX0_init 1 none, Cond.methodLink RX0 3 objectInit, Cond.fieldLink RX0 9 "FlagChips$Codes" "length" "I", Cond.methodLink RX3 18 yX2_init, Cond.instanceMethod yX2_init, Cond.code yX2_init cX2_init 2 none, Cond.methodLink RX2 3 objectInit, Cond.arrayClass .int]
def wsX3_init_r2 : List Cond := [Cond.fieldLink RX2 9 "FlagChips$Sky" "storms" "[I", Cond.fieldLink RX2 15 "FlagChips$Sky" "signals" "[I", Cond.fieldLink RX2 18 "FlagChips$Sky" "codes" "LFlagChips$Codes;", Cond.methodLink RX3 27 yJx4a65c_init_da8c8, Cond.instanceMethod yJx4a65c_init_da8c8, Cond.code yJx4a65c_init_da8c8 cJx4a65c_init_da8c8 1 none, Cond.fieldLink RJx4a65c 39 "java/util/ArrayList" "DEFAULTCAPACITY_EMPTY_ELEMENTDATA" "[Ljava/lang/Object;", Cond.fieldLink RJx4a65c 9 "java/util/ArrayList" "elementData" "[Ljava/lang/Object;", Cond.methodLink RJx4a65c 1 yJxc12de_init_da8c8, Cond.instanceMethod yJxc12de_init_da8c8, Cond.initialized RJxc12de, Cond.code yJxc12de_init_da8c8 cJxc12de_init_da8c8 1 none, Cond.fieldLink RJxc12de 7 "java/util/AbstractList" "modCount" "I", Cond.methodLink RJxc12de 1 yJxa1e45_init_da8c8, Cond.instanceMethod yJxa1e45_init_da8c8, Cond.initialized RJxa1e45, Cond.code yJxa1e45_init_da8c8 cJxa1e45_init_da8c8 1 none, Cond.methodLink RJxa1e45 1 objectInit]
def wsX3_init : List Cond := .code yX3_init cX3_init 1 none :: ((wsX3_init_r1 ++ wsX3_init_r2) ++ wsX00 ++ wsX30 ++ wsX20 ++ wsJx4a65c0)
def wsJx4a65c_clear_da8c8 : List Cond := .code yJx4a65c_clear_da8c8 cJx4a65c_clear_da8c8 4 none :: ([.fieldLink RJx4a65c 63 "java/util/ArrayList" "modCount" "I", .sameField "java/util/ArrayList" "java/util/AbstractList" "modCount" "I", .fieldLink RJx4a65c 9 "java/util/ArrayList" "elementData" "[Ljava/lang/Object;", .fieldLink RJx4a65c 48 "java/util/ArrayList" "size" "I"] ++ wsJx4a65c0)
def wsX3_setCodes_r1 : List Cond := [Cond.classLink RX3 32 "java/lang/IllegalArgumentException", Cond.initialized "java/lang/IllegalArgumentException", Cond.fieldLink RX3 12 "FlagChips" "codes" "LFlagChips$Codes;", Cond.fieldLink RX3 39 "FlagChips$Codes" "length" "I", Cond.fieldLink RX3 28 "FlagChips" "hills" "Ljava/util/ArrayList;", Cond.fieldLink RX3 21 "FlagChips" "sky" "LFlagChips$Sky;", Cond.methodLink RX3 43 yJx4a65c_clear_da8c8, Cond.instanceMethod yJx4a65c_clear_da8c8, Cond.selects RJx4a65c yJx4a65c_clear_da8c8 yJx4a65c_clear_da8c8, Cond.initialized RJx4a65c, Cond.code yJx4a65c_clear_da8c8 cJx4a65c_clear_da8c8 4 none, Cond.fieldLink RJx4a65c 63 "java/util/ArrayList" "modCount" "I", Cond.sameField "java/util/ArrayList" "java/util/AbstractList" "modCount" "I", Cond.fieldLink RJx4a65c 9 "java/util/ArrayList" "elementData" "[Ljava/lang/Object;", Cond.fieldLink RJx4a65c 48 "java/util/ArrayList" "size" "I", Cond.methodLink RX3 46 yX2_silence, Cond.instanceMethod yX2_silence, Cond.selects RX2 yX2_silence yX2_silence, Cond.initialized RX2, Cond.code yX2_silence cX2_silence 1 none, Cond.fieldLink RX2 15 "FlagChips$Sky" "signals" "[I", Cond.methodLink RX2 22 yJ7_fill_53178, Cond.static yJ7_fill_53178, Cond.initialized RJ7]
def wsX3_setCodes_r2 : List Cond := [Cond.code yJ7_fill_53178 cJ7_fill_53178 4 none]
def wsX3_setCodes : List Cond := .code yX3_setCodes cX3_setCodes 3 (some .int) :: ((wsX3_setCodes_r1 ++ wsX3_setCodes_r2) ++ wsX30 ++ wsX00 ++ wsJx4a65c0 ++ wsX20 ++ (vx_atS RX3 36 "java/lang/IllegalArgumentException" ["java/lang/RuntimeException", "java/lang/Exception"]).filter goodWord)
def wsX3_checkCode : List Cond := .code yX3_checkCode cX3_checkCode 2 none :: ([.classLink RX3 106 "java/lang/IndexOutOfBoundsException", .initialized "java/lang/IndexOutOfBoundsException", .fieldLink RX3 12 "FlagChips" "codes" "LFlagChips$Codes;", .methodLink RX3 117 yX0_has, .instanceMethod yX0_has, .selects RX0 yX0_has yX0_has, .initialized RX0, .code yX0_has cX0_has 2 (some .boolean), .fieldLink RX0 9 "FlagChips$Codes" "length" "I"] ++ wsX30 ++ wsX00 ++ (vx_atS RX3 110 "java/lang/IndexOutOfBoundsException" ["java/lang/RuntimeException", "java/lang/Exception"]).filter goodWord)
def wsX3_checkStrength : List Cond := .code yX3_checkStrength cX3_checkStrength 2 none :: ([.classLink RX3 32 "java/lang/IllegalArgumentException", .initialized "java/lang/IllegalArgumentException"] ++ (vx_atS RX3 36 "java/lang/IllegalArgumentException" ["java/lang/RuntimeException", "java/lang/Exception"]).filter goodWord)
def wsJx4a65c_size_8abf5 : List Cond := .code yJx4a65c_size_8abf5 cJx4a65c_size_8abf5 1 (some .int) :: ([.fieldLink RJx4a65c 48 "java/util/ArrayList" "size" "I"] ++ wsJx4a65c0)
def wsJ8_hugeLength_7cf53 : List Cond := .code yJ8_hugeLength_7cf53 cJ8_hugeLength_7cf53 3 (some .int) :: ([.constant RJ8 200 (2147483639)])
def wsJ8_newLength_cabcc : List Cond := .code yJ8_newLength_cabcc cJ8_newLength_cabcc 4 (some .int) :: ([.methodLink RJ8 194 Lib.Math.max.name, .static Lib.Math.max.name, .initialized "java/lang/Math", .code Lib.Math.max.name Lib.Math.max.code 2 (some .int), .constant RJ8 200 (2147483639), .methodLink RJ8 201 yJ8_hugeLength_7cf53, .static yJ8_hugeLength_7cf53, .initialized RJ8, .code yJ8_hugeLength_7cf53 cJ8_hugeLength_7cf53 3 (some .int)])
def wsJ7_copyOf_6403c : List Cond := .code yJ7_copyOf_6403c cJ7_copyOf_6403c 4 (some (.array (.object "java/lang/Object"))) :: ([.classLink RJ7 110 "[Ljava/lang/Object;", .classLink RJ7 2 "java/lang/Object", .methodLink RJ7 304 Lib.Math.min.name, .static Lib.Math.min.name, .initialized "java/lang/Math", .code Lib.Math.min.name Lib.Math.min.code 2 (some .int), .methodLink RJ7 150 arraycopyName, .native arraycopyName, .static arraycopyName, .initialized "java/lang/System"])
def wsJ7_copyOf_1904c : List Cond := .code yJ7_copyOf_1904c cJ7_copyOf_1904c 2 (some (.array (.object "java/lang/Object"))) :: ([.methodLink RJ7 86 ⟨"java/lang/Object", "getClass", "()Ljava/lang/Class;"⟩, .selects "[Ljava/lang/Object;" ⟨"java/lang/Object", "getClass", "()Ljava/lang/Class;"⟩ ⟨"java/lang/Object", "getClass", "()Ljava/lang/Class;"⟩, .instanceMethod ⟨"java/lang/Object", "getClass", "()Ljava/lang/Class;"⟩, .native ⟨"java/lang/Object", "getClass", "()Ljava/lang/Class;"⟩, .methodLink RJ7 300 yJ7_copyOf_6403c, .static yJ7_copyOf_6403c, .initialized RJ7, .code yJ7_copyOf_6403c cJ7_copyOf_6403c 4 (some (.array (.object "java/lang/Object"))), .classLink RJ7 110 "[Ljava/lang/Object;", .classLink RJ7 2 "java/lang/Object", .methodLink RJ7 304 Lib.Math.min.name, .static Lib.Math.min.name, .initialized "java/lang/Math", .code Lib.Math.min.name Lib.Math.min.code 2 (some .int), .methodLink RJ7 150 arraycopyName, .native arraycopyName, .static arraycopyName, .initialized "java/lang/System"])
def wsJx4a65c_grow_92f84_r1 : List Cond := [Cond.fieldLink RJx4a65c 9 "java/util/ArrayList" "elementData" "[Ljava/lang/Object;", Cond.fieldLink RJx4a65c 39 "java/util/ArrayList" "DEFAULTCAPACITY_EMPTY_ELEMENTDATA" "[Ljava/lang/Object;", Cond.methodLink RJx4a65c 79 Lib.Math.max.name, Cond.static Lib.Math.max.name, Cond.initialized "java/lang/Math", Cond.code Lib.Math.max.name Lib.Math.max.code 2 (some .int), Cond.classLink RJx4a65c 7 "java/lang/Object", Cond.methodLink RJx4a65c 73 yJ8_newLength_cabcc, Cond.static yJ8_newLength_cabcc, Cond.initialized RJ8, Cond.code yJ8_newLength_cabcc cJ8_newLength_cabcc 4 (some .int), Cond.methodLink RJ8 194 Lib.Math.max.name, Cond.constant RJ8 200 (2147483639), Cond.methodLink RJ8 201 yJ8_hugeLength_7cf53, Cond.static yJ8_hugeLength_7cf53, Cond.code yJ8_hugeLength_7cf53 cJ8_hugeLength_7cf53 3 (some .int), Cond.methodLink RJx4a65c 66 yJ7_copyOf_1904c, Cond.static yJ7_copyOf_1904c, Cond.initialized RJ7, Cond.code yJ7_copyOf_1904c cJ7_copyOf_1904c 2 (some (.array (.object "java/lang/Object"))), Cond.methodLink RJ7 86 ⟨"java/lang/Object", "getClass", "()Ljava/lang/Class;"⟩, Cond.selects "[Ljava/lang/Object;" ⟨"java/lang/Object", "getClass", "()Ljava/lang/Class;"⟩ ⟨"java/lang/Object", "getClass", "()Ljava/lang/Class;"⟩, Cond.instanceMethod ⟨"java/lang/Object", "getClass", "()Ljava/lang/Class;"⟩, Cond.native ⟨"java/lang/Object", "getClass", "()Ljava/lang/Class;"⟩]
def wsJx4a65c_grow_92f84_r2 : List Cond := [Cond.methodLink RJ7 300 yJ7_copyOf_6403c, Cond.static yJ7_copyOf_6403c, Cond.code yJ7_copyOf_6403c cJ7_copyOf_6403c 4 (some (.array (.object "java/lang/Object"))), Cond.classLink RJ7 110 "[Ljava/lang/Object;", Cond.classLink RJ7 2 "java/lang/Object", Cond.methodLink RJ7 304 Lib.Math.min.name, Cond.static Lib.Math.min.name, Cond.code Lib.Math.min.name Lib.Math.min.code 2 (some .int), Cond.methodLink RJ7 150 arraycopyName, Cond.native arraycopyName, Cond.static arraycopyName, Cond.initialized "java/lang/System"]
def wsJx4a65c_grow_92f84 : List Cond := .code yJx4a65c_grow_92f84 cJx4a65c_grow_92f84 4 (some (.array (.object "java/lang/Object"))) :: ((wsJx4a65c_grow_92f84_r1 ++ wsJx4a65c_grow_92f84_r2) ++ wsJx4a65c0)
def wsJx4a65c_grow_d5877_r1 : List Cond := [Cond.fieldLink RJx4a65c 48 "java/util/ArrayList" "size" "I", Cond.methodLink RJx4a65c 69 yJx4a65c_grow_92f84, Cond.instanceMethod yJx4a65c_grow_92f84, Cond.selects RJx4a65c yJx4a65c_grow_92f84 yJx4a65c_grow_92f84, Cond.initialized RJx4a65c, Cond.code yJx4a65c_grow_92f84 cJx4a65c_grow_92f84 4 (some (.array (.object "java/lang/Object"))), Cond.fieldLink RJx4a65c 9 "java/util/ArrayList" "elementData" "[Ljava/lang/Object;", Cond.fieldLink RJx4a65c 39 "java/util/ArrayList" "DEFAULTCAPACITY_EMPTY_ELEMENTDATA" "[Ljava/lang/Object;", Cond.methodLink RJx4a65c 79 Lib.Math.max.name, Cond.static Lib.Math.max.name, Cond.initialized "java/lang/Math", Cond.code Lib.Math.max.name Lib.Math.max.code 2 (some .int), Cond.classLink RJx4a65c 7 "java/lang/Object", Cond.methodLink RJx4a65c 73 yJ8_newLength_cabcc, Cond.static yJ8_newLength_cabcc, Cond.initialized RJ8, Cond.code yJ8_newLength_cabcc cJ8_newLength_cabcc 4 (some .int), Cond.methodLink RJ8 194 Lib.Math.max.name, Cond.constant RJ8 200 (2147483639), Cond.methodLink RJ8 201 yJ8_hugeLength_7cf53, Cond.static yJ8_hugeLength_7cf53, Cond.code yJ8_hugeLength_7cf53 cJ8_hugeLength_7cf53 3 (some .int), Cond.methodLink RJx4a65c 66 yJ7_copyOf_1904c, Cond.static yJ7_copyOf_1904c]
def wsJx4a65c_grow_d5877_r2 : List Cond := [Cond.initialized RJ7, Cond.code yJ7_copyOf_1904c cJ7_copyOf_1904c 2 (some (.array (.object "java/lang/Object"))), Cond.methodLink RJ7 86 ⟨"java/lang/Object", "getClass", "()Ljava/lang/Class;"⟩, Cond.selects "[Ljava/lang/Object;" ⟨"java/lang/Object", "getClass", "()Ljava/lang/Class;"⟩ ⟨"java/lang/Object", "getClass", "()Ljava/lang/Class;"⟩, Cond.instanceMethod ⟨"java/lang/Object", "getClass", "()Ljava/lang/Class;"⟩, Cond.native ⟨"java/lang/Object", "getClass", "()Ljava/lang/Class;"⟩, Cond.methodLink RJ7 300 yJ7_copyOf_6403c, Cond.static yJ7_copyOf_6403c, Cond.code yJ7_copyOf_6403c cJ7_copyOf_6403c 4 (some (.array (.object "java/lang/Object"))), Cond.classLink RJ7 110 "[Ljava/lang/Object;", Cond.classLink RJ7 2 "java/lang/Object", Cond.methodLink RJ7 304 Lib.Math.min.name, Cond.static Lib.Math.min.name, Cond.code Lib.Math.min.name Lib.Math.min.code 2 (some .int), Cond.methodLink RJ7 150 arraycopyName, Cond.native arraycopyName, Cond.static arraycopyName, Cond.initialized "java/lang/System"]
def wsJx4a65c_grow_d5877 : List Cond := .code yJx4a65c_grow_d5877 cJx4a65c_grow_d5877 1 (some (.array (.object "java/lang/Object"))) :: ((wsJx4a65c_grow_d5877_r1 ++ wsJx4a65c_grow_d5877_r2) ++ wsJx4a65c0)
def wsJx4a65c_add_72be8_r1 : List Cond := [Cond.fieldLink RJx4a65c 48 "java/util/ArrayList" "size" "I", Cond.methodLink RJx4a65c 129 yJx4a65c_grow_d5877, Cond.instanceMethod yJx4a65c_grow_d5877, Cond.selects RJx4a65c yJx4a65c_grow_d5877 yJx4a65c_grow_d5877, Cond.initialized RJx4a65c, Cond.code yJx4a65c_grow_d5877 cJx4a65c_grow_d5877 1 (some (.array (.object "java/lang/Object"))), Cond.methodLink RJx4a65c 69 yJx4a65c_grow_92f84, Cond.instanceMethod yJx4a65c_grow_92f84, Cond.selects RJx4a65c yJx4a65c_grow_92f84 yJx4a65c_grow_92f84, Cond.code yJx4a65c_grow_92f84 cJx4a65c_grow_92f84 4 (some (.array (.object "java/lang/Object"))), Cond.fieldLink RJx4a65c 9 "java/util/ArrayList" "elementData" "[Ljava/lang/Object;", Cond.fieldLink RJx4a65c 39 "java/util/ArrayList" "DEFAULTCAPACITY_EMPTY_ELEMENTDATA" "[Ljava/lang/Object;", Cond.methodLink RJx4a65c 79 Lib.Math.max.name, Cond.static Lib.Math.max.name, Cond.initialized "java/lang/Math", Cond.code Lib.Math.max.name Lib.Math.max.code 2 (some .int), Cond.classLink RJx4a65c 7 "java/lang/Object", Cond.methodLink RJx4a65c 73 yJ8_newLength_cabcc, Cond.static yJ8_newLength_cabcc, Cond.initialized RJ8, Cond.code yJ8_newLength_cabcc cJ8_newLength_cabcc 4 (some .int), Cond.methodLink RJ8 194 Lib.Math.max.name, Cond.constant RJ8 200 (2147483639), Cond.methodLink RJ8 201 yJ8_hugeLength_7cf53]
def wsJx4a65c_add_72be8_r2 : List Cond := [Cond.static yJ8_hugeLength_7cf53, Cond.code yJ8_hugeLength_7cf53 cJ8_hugeLength_7cf53 3 (some .int), Cond.methodLink RJx4a65c 66 yJ7_copyOf_1904c, Cond.static yJ7_copyOf_1904c, Cond.initialized RJ7, Cond.code yJ7_copyOf_1904c cJ7_copyOf_1904c 2 (some (.array (.object "java/lang/Object"))), Cond.methodLink RJ7 86 ⟨"java/lang/Object", "getClass", "()Ljava/lang/Class;"⟩, Cond.selects "[Ljava/lang/Object;" ⟨"java/lang/Object", "getClass", "()Ljava/lang/Class;"⟩ ⟨"java/lang/Object", "getClass", "()Ljava/lang/Class;"⟩, Cond.instanceMethod ⟨"java/lang/Object", "getClass", "()Ljava/lang/Class;"⟩, Cond.native ⟨"java/lang/Object", "getClass", "()Ljava/lang/Class;"⟩, Cond.methodLink RJ7 300 yJ7_copyOf_6403c, Cond.static yJ7_copyOf_6403c, Cond.code yJ7_copyOf_6403c cJ7_copyOf_6403c 4 (some (.array (.object "java/lang/Object"))), Cond.classLink RJ7 110 "[Ljava/lang/Object;", Cond.classLink RJ7 2 "java/lang/Object", Cond.methodLink RJ7 304 Lib.Math.min.name, Cond.static Lib.Math.min.name, Cond.code Lib.Math.min.name Lib.Math.min.code 2 (some .int), Cond.methodLink RJ7 150 arraycopyName, Cond.native arraycopyName, Cond.static arraycopyName, Cond.initialized "java/lang/System"]
def wsJx4a65c_add_72be8 : List Cond := .code yJx4a65c_add_72be8 cJx4a65c_add_72be8 4 none :: ((wsJx4a65c_add_72be8_r1 ++ wsJx4a65c_add_72be8_r2) ++ wsJx4a65c0)
def wsJx4a65c_add_9ea2d_r1 : List Cond := [Cond.fieldLink RJx4a65c 63 "java/util/ArrayList" "modCount" "I", Cond.sameField "java/util/ArrayList" "java/util/AbstractList" "modCount" "I", Cond.fieldLink RJx4a65c 9 "java/util/ArrayList" "elementData" "[Ljava/lang/Object;", Cond.fieldLink RJx4a65c 48 "java/util/ArrayList" "size" "I", Cond.methodLink RJx4a65c 131 yJx4a65c_add_72be8, Cond.instanceMethod yJx4a65c_add_72be8, Cond.selects RJx4a65c yJx4a65c_add_72be8 yJx4a65c_add_72be8, Cond.initialized RJx4a65c, Cond.code yJx4a65c_add_72be8 cJx4a65c_add_72be8 4 none, Cond.methodLink RJx4a65c 129 yJx4a65c_grow_d5877, Cond.instanceMethod yJx4a65c_grow_d5877, Cond.selects RJx4a65c yJx4a65c_grow_d5877 yJx4a65c_grow_d5877, Cond.code yJx4a65c_grow_d5877 cJx4a65c_grow_d5877 1 (some (.array (.object "java/lang/Object"))), Cond.methodLink RJx4a65c 69 yJx4a65c_grow_92f84, Cond.instanceMethod yJx4a65c_grow_92f84, Cond.selects RJx4a65c yJx4a65c_grow_92f84 yJx4a65c_grow_92f84, Cond.code yJx4a65c_grow_92f84 cJx4a65c_grow_92f84 4 (some (.array (.object "java/lang/Object"))), Cond.fieldLink RJx4a65c 39 "java/util/ArrayList" "DEFAULTCAPACITY_EMPTY_ELEMENTDATA" "[Ljava/lang/Object;", Cond.methodLink RJx4a65c 79 Lib.Math.max.name, Cond.static Lib.Math.max.name, Cond.initialized "java/lang/Math", Cond.code Lib.Math.max.name Lib.Math.max.code 2 (some .int), Cond.classLink RJx4a65c 7 "java/lang/Object", Cond.methodLink RJx4a65c 73 yJ8_newLength_cabcc]
def wsJx4a65c_add_9ea2d_r2 : List Cond := [Cond.static yJ8_newLength_cabcc, Cond.initialized RJ8, Cond.code yJ8_newLength_cabcc cJ8_newLength_cabcc 4 (some .int), Cond.methodLink RJ8 194 Lib.Math.max.name, Cond.constant RJ8 200 (2147483639), Cond.methodLink RJ8 201 yJ8_hugeLength_7cf53, Cond.static yJ8_hugeLength_7cf53, Cond.code yJ8_hugeLength_7cf53 cJ8_hugeLength_7cf53 3 (some .int), Cond.methodLink RJx4a65c 66 yJ7_copyOf_1904c, Cond.static yJ7_copyOf_1904c, Cond.initialized RJ7, Cond.code yJ7_copyOf_1904c cJ7_copyOf_1904c 2 (some (.array (.object "java/lang/Object"))), Cond.methodLink RJ7 86 ⟨"java/lang/Object", "getClass", "()Ljava/lang/Class;"⟩, Cond.selects "[Ljava/lang/Object;" ⟨"java/lang/Object", "getClass", "()Ljava/lang/Class;"⟩ ⟨"java/lang/Object", "getClass", "()Ljava/lang/Class;"⟩, Cond.instanceMethod ⟨"java/lang/Object", "getClass", "()Ljava/lang/Class;"⟩, Cond.native ⟨"java/lang/Object", "getClass", "()Ljava/lang/Class;"⟩, Cond.methodLink RJ7 300 yJ7_copyOf_6403c, Cond.static yJ7_copyOf_6403c, Cond.code yJ7_copyOf_6403c cJ7_copyOf_6403c 4 (some (.array (.object "java/lang/Object"))), Cond.classLink RJ7 110 "[Ljava/lang/Object;", Cond.classLink RJ7 2 "java/lang/Object", Cond.methodLink RJ7 304 Lib.Math.min.name, Cond.static Lib.Math.min.name, Cond.code Lib.Math.min.name Lib.Math.min.code 2 (some .int)]
def wsJx4a65c_add_9ea2d_r3 : List Cond := [Cond.methodLink RJ7 150 arraycopyName, Cond.native arraycopyName, Cond.static arraycopyName, Cond.initialized "java/lang/System"]
def wsJx4a65c_add_9ea2d : List Cond := .code yJx4a65c_add_9ea2d cJx4a65c_add_9ea2d 2 (some .boolean) :: ((wsJx4a65c_add_9ea2d_r1 ++ (wsJx4a65c_add_9ea2d_r2 ++ wsJx4a65c_add_9ea2d_r3)) ++ wsJx4a65c0)
def wsX3_hill_r1 : List Cond := [Cond.classLink RX3 60 "java/lang/IllegalStateException", Cond.initialized "java/lang/IllegalStateException", Cond.fieldLink RX3 28 "FlagChips" "hills" "Ljava/util/ArrayList;", Cond.classLink RX3 65 RX1, Cond.instantiable RX1 5, Cond.initialized RX1, Cond.methodLink RX3 49 yX3_checkCode, Cond.instanceMethod yX3_checkCode, Cond.selects RX3 yX3_checkCode yX3_checkCode, Cond.initialized RX3, Cond.code yX3_checkCode cX3_checkCode 2 none, Cond.classLink RX3 106 "java/lang/IndexOutOfBoundsException", Cond.initialized "java/lang/IndexOutOfBoundsException", Cond.fieldLink RX3 12 "FlagChips" "codes" "LFlagChips$Codes;", Cond.methodLink RX3 117 yX0_has, Cond.instanceMethod yX0_has, Cond.selects RX0 yX0_has yX0_has, Cond.initialized RX0, Cond.code yX0_has cX0_has 2 (some .boolean), Cond.fieldLink RX0 9 "FlagChips$Codes" "length" "I", Cond.methodLink RX3 53 yX3_checkStrength, Cond.instanceMethod yX3_checkStrength, Cond.selects RX3 yX3_checkStrength yX3_checkStrength, Cond.code yX3_checkStrength cX3_checkStrength 2 none]
def wsX3_hill_r2 : List Cond := [Cond.classLink RX3 32 "java/lang/IllegalArgumentException", Cond.initialized "java/lang/IllegalArgumentException", Cond.methodLink RX3 56 yJx4a65c_size_8abf5, Cond.instanceMethod yJx4a65c_size_8abf5, Cond.selects RJx4a65c yJx4a65c_size_8abf5 yJx4a65c_size_8abf5, Cond.initialized RJx4a65c, Cond.code yJx4a65c_size_8abf5 cJx4a65c_size_8abf5 1 (some .int), Cond.fieldLink RJx4a65c 48 "java/util/ArrayList" "size" "I", Cond.methodLink RX3 67 yX1_init, Cond.instanceMethod yX1_init, Cond.code yX1_init cX1_init 3 none, Cond.methodLink RX1 3 objectInit, Cond.instanceMethod objectInit, Cond.code objectInit ⟨#[0xb1]⟩ 1 none, Cond.fieldLink RX1 9 "FlagChips$Hill" "delay" "I", Cond.fieldLink RX1 15 "FlagChips$Hill" "said" "I", Cond.arrayClass .int, Cond.fieldLink RX1 18 "FlagChips$Hill" "words" "[I", Cond.fieldLink RX1 22 "FlagChips$Hill" "code" "I", Cond.fieldLink RX1 25 "FlagChips$Hill" "strength" "I", Cond.methodLink RX3 70 yJx4a65c_add_9ea2d, Cond.instanceMethod yJx4a65c_add_9ea2d, Cond.selects RJx4a65c yJx4a65c_add_9ea2d yJx4a65c_add_9ea2d, Cond.code yJx4a65c_add_9ea2d cJx4a65c_add_9ea2d 2 (some .boolean)]
def wsX3_hill_r3 : List Cond := [Cond.fieldLink RJx4a65c 63 "java/util/ArrayList" "modCount" "I", Cond.sameField "java/util/ArrayList" "java/util/AbstractList" "modCount" "I", Cond.fieldLink RJx4a65c 9 "java/util/ArrayList" "elementData" "[Ljava/lang/Object;", Cond.methodLink RJx4a65c 131 yJx4a65c_add_72be8, Cond.instanceMethod yJx4a65c_add_72be8, Cond.selects RJx4a65c yJx4a65c_add_72be8 yJx4a65c_add_72be8, Cond.code yJx4a65c_add_72be8 cJx4a65c_add_72be8 4 none, Cond.methodLink RJx4a65c 129 yJx4a65c_grow_d5877, Cond.instanceMethod yJx4a65c_grow_d5877, Cond.selects RJx4a65c yJx4a65c_grow_d5877 yJx4a65c_grow_d5877, Cond.code yJx4a65c_grow_d5877 cJx4a65c_grow_d5877 1 (some (.array (.object "java/lang/Object"))), Cond.methodLink RJx4a65c 69 yJx4a65c_grow_92f84, Cond.instanceMethod yJx4a65c_grow_92f84, Cond.selects RJx4a65c yJx4a65c_grow_92f84 yJx4a65c_grow_92f84, Cond.code yJx4a65c_grow_92f84 cJx4a65c_grow_92f84 4 (some (.array (.object "java/lang/Object"))), Cond.fieldLink RJx4a65c 39 "java/util/ArrayList" "DEFAULTCAPACITY_EMPTY_ELEMENTDATA" "[Ljava/lang/Object;", Cond.methodLink RJx4a65c 79 Lib.Math.max.name, Cond.static Lib.Math.max.name, Cond.initialized "java/lang/Math", Cond.code Lib.Math.max.name Lib.Math.max.code 2 (some .int), Cond.classLink RJx4a65c 7 "java/lang/Object", Cond.methodLink RJx4a65c 73 yJ8_newLength_cabcc, Cond.static yJ8_newLength_cabcc, Cond.initialized RJ8]
def wsX3_hill_r4 : List Cond := [Cond.code yJ8_newLength_cabcc cJ8_newLength_cabcc 4 (some .int), Cond.methodLink RJ8 194 Lib.Math.max.name, Cond.constant RJ8 200 (2147483639), Cond.methodLink RJ8 201 yJ8_hugeLength_7cf53, Cond.static yJ8_hugeLength_7cf53, Cond.code yJ8_hugeLength_7cf53 cJ8_hugeLength_7cf53 3 (some .int), Cond.methodLink RJx4a65c 66 yJ7_copyOf_1904c, Cond.static yJ7_copyOf_1904c, Cond.initialized RJ7, Cond.code yJ7_copyOf_1904c cJ7_copyOf_1904c 2 (some (.array (.object "java/lang/Object"))), Cond.methodLink RJ7 86 ⟨"java/lang/Object", "getClass", "()Ljava/lang/Class;"⟩, Cond.selects "[Ljava/lang/Object;" ⟨"java/lang/Object", "getClass", "()Ljava/lang/Class;"⟩ ⟨"java/lang/Object", "getClass", "()Ljava/lang/Class;"⟩, Cond.instanceMethod ⟨"java/lang/Object", "getClass", "()Ljava/lang/Class;"⟩, Cond.native ⟨"java/lang/Object", "getClass", "()Ljava/lang/Class;"⟩, Cond.methodLink RJ7 300 yJ7_copyOf_6403c, Cond.static yJ7_copyOf_6403c, Cond.code yJ7_copyOf_6403c cJ7_copyOf_6403c 4 (some (.array (.object "java/lang/Object"))), Cond.classLink RJ7 110 "[Ljava/lang/Object;", Cond.classLink RJ7 2 "java/lang/Object", Cond.methodLink RJ7 304 Lib.Math.min.name, Cond.static Lib.Math.min.name, Cond.code Lib.Math.min.name Lib.Math.min.code 2 (some .int), Cond.methodLink RJ7 150 arraycopyName, Cond.native arraycopyName]
def wsX3_hill_r5 : List Cond := [Cond.static arraycopyName, Cond.initialized "java/lang/System"]
def wsX3_hill : List Cond := .code yX3_hill cX3_hill 3 (some .int) :: ((wsX3_hill_r1 ++ (wsX3_hill_r2 ++ (wsX3_hill_r3 ++ (wsX3_hill_r4 ++ wsX3_hill_r5)))) ++ wsX30 ++ wsX10 ++ wsX00 ++ wsJx4a65c0 ++ (vx_atS RX3 64 "java/lang/IllegalStateException" ["java/lang/RuntimeException", "java/lang/Exception"]).filter goodWord ++ (vx_atS RX3 110 "java/lang/IndexOutOfBoundsException" ["java/lang/RuntimeException", "java/lang/Exception"]).filter goodWord ++ (vx_atS RX3 36 "java/lang/IllegalArgumentException" ["java/lang/RuntimeException", "java/lang/Exception"]).filter goodWord)
def wsJ3_checkIndex_8e157 : List Cond := .code yJ3_checkIndex_8e157 cJ3_checkIndex_8e157 3 (some .int) :: ([])
def wsJ15_checkIndex_7cf53 : List Cond := .code yJ15_checkIndex_7cf53 cJ15_checkIndex_7cf53 2 (some .int) :: ([.methodLink RJ15 105 yJ3_checkIndex_8e157, .static yJ3_checkIndex_8e157, .initialized RJ3, .code yJ3_checkIndex_8e157 cJ3_checkIndex_8e157 3 (some .int)])
def wsJx4a65c_elementData_915e3 : List Cond := .code yJx4a65c_elementData_915e3 cJx4a65c_elementData_915e3 2 (some (.object "java/lang/Object")) :: ([.fieldLink RJx4a65c 9 "java/util/ArrayList" "elementData" "[Ljava/lang/Object;"] ++ wsJx4a65c0)
def wsJx4a65c_get_915e3 : List Cond := .code yJx4a65c_get_915e3 cJx4a65c_get_915e3 2 (some (.object "java/lang/Object")) :: ([.fieldLink RJx4a65c 48 "java/util/ArrayList" "size" "I", .methodLink RJx4a65c 118 yJ15_checkIndex_7cf53, .static yJ15_checkIndex_7cf53, .initialized RJ15, .code yJ15_checkIndex_7cf53 cJ15_checkIndex_7cf53 2 (some .int), .methodLink RJ15 105 yJ3_checkIndex_8e157, .static yJ3_checkIndex_8e157, .initialized RJ3, .code yJ3_checkIndex_8e157 cJ3_checkIndex_8e157 3 (some .int), .methodLink RJx4a65c 123 yJx4a65c_elementData_915e3, .instanceMethod yJx4a65c_elementData_915e3, .selects RJx4a65c yJx4a65c_elementData_915e3 yJx4a65c_elementData_915e3, .initialized RJx4a65c, .code yJx4a65c_elementData_915e3 cJx4a65c_elementData_915e3 2 (some (.object "java/lang/Object")), .fieldLink RJx4a65c 9 "java/util/ArrayList" "elementData" "[Ljava/lang/Object;"] ++ wsJx4a65c0)
def wsX3_hillAt_r1 : List Cond := [Cond.classLink RX3 106 "java/lang/IndexOutOfBoundsException", Cond.initialized "java/lang/IndexOutOfBoundsException", Cond.fieldLink RX3 28 "FlagChips" "hills" "Ljava/util/ArrayList;", Cond.classLink RX3 65 "FlagChips$Hill", Cond.methodLink RX3 56 yJx4a65c_size_8abf5, Cond.instanceMethod yJx4a65c_size_8abf5, Cond.selects RJx4a65c yJx4a65c_size_8abf5 yJx4a65c_size_8abf5, Cond.initialized RJx4a65c, Cond.code yJx4a65c_size_8abf5 cJx4a65c_size_8abf5 1 (some .int), Cond.fieldLink RJx4a65c 48 "java/util/ArrayList" "size" "I", Cond.methodLink RX3 219 yJx4a65c_get_915e3, Cond.instanceMethod yJx4a65c_get_915e3, Cond.selects RJx4a65c yJx4a65c_get_915e3 yJx4a65c_get_915e3, Cond.code yJx4a65c_get_915e3 cJx4a65c_get_915e3 2 (some (.object "java/lang/Object")), Cond.methodLink RJx4a65c 118 yJ15_checkIndex_7cf53, Cond.static yJ15_checkIndex_7cf53, Cond.initialized RJ15, Cond.code yJ15_checkIndex_7cf53 cJ15_checkIndex_7cf53 2 (some .int), Cond.methodLink RJ15 105 yJ3_checkIndex_8e157, Cond.static yJ3_checkIndex_8e157, Cond.initialized RJ3, Cond.code yJ3_checkIndex_8e157 cJ3_checkIndex_8e157 3 (some .int), Cond.methodLink RJx4a65c 123 yJx4a65c_elementData_915e3, Cond.instanceMethod yJx4a65c_elementData_915e3]
def wsX3_hillAt_r2 : List Cond := [Cond.selects RJx4a65c yJx4a65c_elementData_915e3 yJx4a65c_elementData_915e3, Cond.code yJx4a65c_elementData_915e3 cJx4a65c_elementData_915e3 2 (some (.object "java/lang/Object")), Cond.fieldLink RJx4a65c 9 "java/util/ArrayList" "elementData" "[Ljava/lang/Object;"]
def wsX3_hillAt : List Cond := .code yX3_hillAt cX3_hillAt 2 (some (.object "FlagChips$Hill")) :: ((wsX3_hillAt_r1 ++ wsX3_hillAt_r2) ++ wsX30 ++ wsJx4a65c0 ++ (vx_atS RX3 110 "java/lang/IndexOutOfBoundsException" ["java/lang/RuntimeException", "java/lang/Exception"]).filter goodWord)
def wsX3_say_r1 : List Cond := [Cond.classLink RX3 60 "java/lang/IllegalStateException", Cond.initialized "java/lang/IllegalStateException", Cond.fieldLink RX3 21 "FlagChips" "sky" "LFlagChips$Sky;", Cond.fieldLink RX3 86 "FlagChips$Hill" "said" "I", Cond.fieldLink RX3 89 "FlagChips$Hill" "strength" "I", Cond.methodLink RX3 74 yX3_hillAt, Cond.instanceMethod yX3_hillAt, Cond.selects RX3 yX3_hillAt yX3_hillAt, Cond.initialized RX3, Cond.code yX3_hillAt cX3_hillAt 2 (some (.object "FlagChips$Hill")), Cond.classLink RX3 106 "java/lang/IndexOutOfBoundsException", Cond.initialized "java/lang/IndexOutOfBoundsException", Cond.fieldLink RX3 28 "FlagChips" "hills" "Ljava/util/ArrayList;", Cond.classLink RX3 65 "FlagChips$Hill", Cond.methodLink RX3 56 yJx4a65c_size_8abf5, Cond.instanceMethod yJx4a65c_size_8abf5, Cond.selects RJx4a65c yJx4a65c_size_8abf5 yJx4a65c_size_8abf5, Cond.initialized RJx4a65c, Cond.code yJx4a65c_size_8abf5 cJx4a65c_size_8abf5 1 (some .int), Cond.fieldLink RJx4a65c 48 "java/util/ArrayList" "size" "I", Cond.methodLink RX3 219 yJx4a65c_get_915e3, Cond.instanceMethod yJx4a65c_get_915e3, Cond.selects RJx4a65c yJx4a65c_get_915e3 yJx4a65c_get_915e3, Cond.code yJx4a65c_get_915e3 cJx4a65c_get_915e3 2 (some (.object "java/lang/Object"))]
def wsX3_say_r2 : List Cond := [Cond.methodLink RJx4a65c 118 yJ15_checkIndex_7cf53, Cond.static yJ15_checkIndex_7cf53, Cond.initialized RJ15, Cond.code yJ15_checkIndex_7cf53 cJ15_checkIndex_7cf53 2 (some .int), Cond.methodLink RJ15 105 yJ3_checkIndex_8e157, Cond.static yJ3_checkIndex_8e157, Cond.initialized RJ3, Cond.code yJ3_checkIndex_8e157 cJ3_checkIndex_8e157 3 (some .int), Cond.methodLink RJx4a65c 123 yJx4a65c_elementData_915e3, Cond.instanceMethod yJx4a65c_elementData_915e3, Cond.selects RJx4a65c yJx4a65c_elementData_915e3 yJx4a65c_elementData_915e3, Cond.code yJx4a65c_elementData_915e3 cJx4a65c_elementData_915e3 2 (some (.object "java/lang/Object")), Cond.fieldLink RJx4a65c 9 "java/util/ArrayList" "elementData" "[Ljava/lang/Object;", Cond.methodLink RX3 78 yX1_isFull, Cond.instanceMethod yX1_isFull, Cond.selects RX1 yX1_isFull yX1_isFull, Cond.initialized RX1, Cond.code yX1_isFull cX1_isFull 1 (some .boolean), Cond.fieldLink RX1 15 "FlagChips$Hill" "said" "I", Cond.fieldLink RX1 18 "FlagChips$Hill" "words" "[I", Cond.methodLink RX3 84 yX1_add, Cond.instanceMethod yX1_add, Cond.selects RX1 yX1_add yX1_add, Cond.code yX1_add cX1_add 2 none]
def wsX3_say_r3 : List Cond := [Cond.methodLink RX1 28 yX1_isFull, Cond.methodLink RX3 92 yX2_addWord, Cond.instanceMethod yX2_addWord, Cond.selects RX2 yX2_addWord yX2_addWord, Cond.initialized RX2, Cond.code yX2_addWord cX2_addWord 8 none, Cond.fieldLink RX2 18 "FlagChips$Sky" "codes" "LFlagChips$Codes;", Cond.fieldLink RX2 42 "FlagChips$Codes" "length" "I", Cond.fieldLink RX2 15 "FlagChips$Sky" "signals" "[I", Cond.fieldLink RX2 51 "FlagChips$Hill" "code" "I", Cond.methodLink RX2 38 yX1_wordAt, Cond.instanceMethod yX1_wordAt, Cond.selects RX1 yX1_wordAt yX1_wordAt, Cond.code yX1_wordAt cX1_wordAt 2 (some .int), Cond.methodLink RX2 47 yX1_start, Cond.instanceMethod yX1_start, Cond.selects RX1 yX1_start yX1_start, Cond.code yX1_start cX1_start 3 (some .int), Cond.fieldLink RX1 9 "FlagChips$Hill" "delay" "I", Cond.methodLink RX2 54 yX0_chipAt, Cond.instanceMethod yX0_chipAt, Cond.selects RX0 yX0_chipAt yX0_chipAt, Cond.initialized RX0, Cond.code yX0_chipAt cX0_chipAt 3 (some .int)]
def wsX3_say_r4 : List Cond := [Cond.methodLink RX0 15 yJ6_bitCount_0f7a4, Cond.static yJ6_bitCount_0f7a4, Cond.initialized RJ6, Cond.code yJ6_bitCount_0f7a4 cJ6_bitCount_0f7a4 1 (some .int), Cond.constant RJ6 265 (1431655765), Cond.constant RJ6 266 (858993459), Cond.constant RJ6 267 (252645135)]
def wsX3_say : List Cond := .code yX3_say cX3_say 4 (some .int) :: ((wsX3_say_r1 ++ (wsX3_say_r2 ++ (wsX3_say_r3 ++ wsX3_say_r4))) ++ wsX30 ++ wsX10 ++ wsJx4a65c0 ++ wsX20 ++ wsX00 ++ (vx_atS RX3 64 "java/lang/IllegalStateException" ["java/lang/RuntimeException", "java/lang/Exception"]).filter goodWord ++ (vx_atS RX3 110 "java/lang/IndexOutOfBoundsException" ["java/lang/RuntimeException", "java/lang/Exception"]).filter goodWord)
def wsX3_hush_r1 : List Cond := [Cond.fieldLink RX3 86 "FlagChips$Hill" "said" "I", Cond.fieldLink RX3 21 "FlagChips" "sky" "LFlagChips$Sky;", Cond.fieldLink RX3 89 "FlagChips$Hill" "strength" "I", Cond.methodLink RX3 74 yX3_hillAt, Cond.instanceMethod yX3_hillAt, Cond.selects RX3 yX3_hillAt yX3_hillAt, Cond.initialized RX3, Cond.code yX3_hillAt cX3_hillAt 2 (some (.object "FlagChips$Hill")), Cond.classLink RX3 106 "java/lang/IndexOutOfBoundsException", Cond.initialized "java/lang/IndexOutOfBoundsException", Cond.fieldLink RX3 28 "FlagChips" "hills" "Ljava/util/ArrayList;", Cond.classLink RX3 65 "FlagChips$Hill", Cond.methodLink RX3 56 yJx4a65c_size_8abf5, Cond.instanceMethod yJx4a65c_size_8abf5, Cond.selects RJx4a65c yJx4a65c_size_8abf5 yJx4a65c_size_8abf5, Cond.initialized RJx4a65c, Cond.code yJx4a65c_size_8abf5 cJx4a65c_size_8abf5 1 (some .int), Cond.fieldLink RJx4a65c 48 "java/util/ArrayList" "size" "I", Cond.methodLink RX3 219 yJx4a65c_get_915e3, Cond.instanceMethod yJx4a65c_get_915e3, Cond.selects RJx4a65c yJx4a65c_get_915e3 yJx4a65c_get_915e3, Cond.code yJx4a65c_get_915e3 cJx4a65c_get_915e3 2 (some (.object "java/lang/Object")), Cond.methodLink RJx4a65c 118 yJ15_checkIndex_7cf53, Cond.static yJ15_checkIndex_7cf53]
def wsX3_hush_r2 : List Cond := [Cond.initialized RJ15, Cond.code yJ15_checkIndex_7cf53 cJ15_checkIndex_7cf53 2 (some .int), Cond.methodLink RJ15 105 yJ3_checkIndex_8e157, Cond.static yJ3_checkIndex_8e157, Cond.initialized RJ3, Cond.code yJ3_checkIndex_8e157 cJ3_checkIndex_8e157 3 (some .int), Cond.methodLink RJx4a65c 123 yJx4a65c_elementData_915e3, Cond.instanceMethod yJx4a65c_elementData_915e3, Cond.selects RJx4a65c yJx4a65c_elementData_915e3 yJx4a65c_elementData_915e3, Cond.code yJx4a65c_elementData_915e3 cJx4a65c_elementData_915e3 2 (some (.object "java/lang/Object")), Cond.fieldLink RJx4a65c 9 "java/util/ArrayList" "elementData" "[Ljava/lang/Object;", Cond.methodLink RX3 96 yX2_addWords, Cond.instanceMethod yX2_addWords, Cond.selects RX2 yX2_addWords yX2_addWords, Cond.initialized RX2, Cond.code yX2_addWords cX2_addWords 4 none, Cond.fieldLink RX2 28 "FlagChips$Hill" "said" "I", Cond.methodLink RX2 34 yX2_addWord, Cond.instanceMethod yX2_addWord, Cond.selects RX2 yX2_addWord yX2_addWord, Cond.code yX2_addWord cX2_addWord 8 none, Cond.fieldLink RX2 18 "FlagChips$Sky" "codes" "LFlagChips$Codes;", Cond.fieldLink RX2 42 "FlagChips$Codes" "length" "I", Cond.fieldLink RX2 15 "FlagChips$Sky" "signals" "[I"]
def wsX3_hush_r3 : List Cond := [Cond.fieldLink RX2 51 "FlagChips$Hill" "code" "I", Cond.methodLink RX2 38 yX1_wordAt, Cond.instanceMethod yX1_wordAt, Cond.selects RX1 yX1_wordAt yX1_wordAt, Cond.initialized RX1, Cond.code yX1_wordAt cX1_wordAt 2 (some .int), Cond.fieldLink RX1 18 "FlagChips$Hill" "words" "[I", Cond.methodLink RX2 47 yX1_start, Cond.instanceMethod yX1_start, Cond.selects RX1 yX1_start yX1_start, Cond.code yX1_start cX1_start 3 (some .int), Cond.fieldLink RX1 9 "FlagChips$Hill" "delay" "I", Cond.methodLink RX2 54 yX0_chipAt, Cond.instanceMethod yX0_chipAt, Cond.selects RX0 yX0_chipAt yX0_chipAt, Cond.initialized RX0, Cond.code yX0_chipAt cX0_chipAt 3 (some .int), Cond.methodLink RX0 15 yJ6_bitCount_0f7a4, Cond.static yJ6_bitCount_0f7a4, Cond.initialized RJ6, Cond.code yJ6_bitCount_0f7a4 cJ6_bitCount_0f7a4 1 (some .int), Cond.constant RJ6 265 (1431655765), Cond.constant RJ6 266 (858993459), Cond.constant RJ6 267 (252645135)]
def wsX3_hush : List Cond := .code yX3_hush cX3_hush 4 (some .int) :: ((wsX3_hush_r1 ++ (wsX3_hush_r2 ++ wsX3_hush_r3)) ++ wsX10 ++ wsX30 ++ wsJx4a65c0 ++ wsX20 ++ wsX00 ++ (vx_atS RX3 110 "java/lang/IndexOutOfBoundsException" ["java/lang/RuntimeException", "java/lang/Exception"]).filter goodWord)
def wsX3_checkDelay : List Cond := .code yX3_checkDelay cX3_checkDelay 2 none :: ([.classLink RX3 32 "java/lang/IllegalArgumentException", .initialized "java/lang/IllegalArgumentException", .fieldLink RX3 12 "FlagChips" "codes" "LFlagChips$Codes;", .fieldLink RX3 39 "FlagChips$Codes" "length" "I"] ++ wsX30 ++ wsX00 ++ (vx_atS RX3 36 "java/lang/IllegalArgumentException" ["java/lang/RuntimeException", "java/lang/Exception"]).filter goodWord)
def wsX3_setDelay_r1 : List Cond := [Cond.fieldLink RX3 103 "FlagChips$Hill" "delay" "I", Cond.fieldLink RX3 21 "FlagChips" "sky" "LFlagChips$Sky;", Cond.fieldLink RX3 89 "FlagChips$Hill" "strength" "I", Cond.methodLink RX3 74 yX3_hillAt, Cond.instanceMethod yX3_hillAt, Cond.selects RX3 yX3_hillAt yX3_hillAt, Cond.initialized RX3, Cond.code yX3_hillAt cX3_hillAt 2 (some (.object "FlagChips$Hill")), Cond.classLink RX3 106 "java/lang/IndexOutOfBoundsException", Cond.initialized "java/lang/IndexOutOfBoundsException", Cond.fieldLink RX3 28 "FlagChips" "hills" "Ljava/util/ArrayList;", Cond.classLink RX3 65 "FlagChips$Hill", Cond.methodLink RX3 56 yJx4a65c_size_8abf5, Cond.instanceMethod yJx4a65c_size_8abf5, Cond.selects RJx4a65c yJx4a65c_size_8abf5 yJx4a65c_size_8abf5, Cond.initialized RJx4a65c, Cond.code yJx4a65c_size_8abf5 cJx4a65c_size_8abf5 1 (some .int), Cond.fieldLink RJx4a65c 48 "java/util/ArrayList" "size" "I", Cond.methodLink RX3 219 yJx4a65c_get_915e3, Cond.instanceMethod yJx4a65c_get_915e3, Cond.selects RJx4a65c yJx4a65c_get_915e3 yJx4a65c_get_915e3, Cond.code yJx4a65c_get_915e3 cJx4a65c_get_915e3 2 (some (.object "java/lang/Object")), Cond.methodLink RJx4a65c 118 yJ15_checkIndex_7cf53, Cond.static yJ15_checkIndex_7cf53]
def wsX3_setDelay_r2 : List Cond := [Cond.initialized RJ15, Cond.code yJ15_checkIndex_7cf53 cJ15_checkIndex_7cf53 2 (some .int), Cond.methodLink RJ15 105 yJ3_checkIndex_8e157, Cond.static yJ3_checkIndex_8e157, Cond.initialized RJ3, Cond.code yJ3_checkIndex_8e157 cJ3_checkIndex_8e157 3 (some .int), Cond.methodLink RJx4a65c 123 yJx4a65c_elementData_915e3, Cond.instanceMethod yJx4a65c_elementData_915e3, Cond.selects RJx4a65c yJx4a65c_elementData_915e3 yJx4a65c_elementData_915e3, Cond.code yJx4a65c_elementData_915e3 cJx4a65c_elementData_915e3 2 (some (.object "java/lang/Object")), Cond.fieldLink RJx4a65c 9 "java/util/ArrayList" "elementData" "[Ljava/lang/Object;", Cond.methodLink RX3 100 yX3_checkDelay, Cond.instanceMethod yX3_checkDelay, Cond.selects RX3 yX3_checkDelay yX3_checkDelay, Cond.code yX3_checkDelay cX3_checkDelay 2 none, Cond.classLink RX3 32 "java/lang/IllegalArgumentException", Cond.initialized "java/lang/IllegalArgumentException", Cond.fieldLink RX3 12 "FlagChips" "codes" "LFlagChips$Codes;", Cond.fieldLink RX3 39 "FlagChips$Codes" "length" "I", Cond.methodLink RX3 96 yX2_addWords, Cond.instanceMethod yX2_addWords, Cond.selects RX2 yX2_addWords yX2_addWords, Cond.initialized RX2, Cond.code yX2_addWords cX2_addWords 4 none]
def wsX3_setDelay_r3 : List Cond := [Cond.fieldLink RX2 28 "FlagChips$Hill" "said" "I", Cond.methodLink RX2 34 yX2_addWord, Cond.instanceMethod yX2_addWord, Cond.selects RX2 yX2_addWord yX2_addWord, Cond.code yX2_addWord cX2_addWord 8 none, Cond.fieldLink RX2 18 "FlagChips$Sky" "codes" "LFlagChips$Codes;", Cond.fieldLink RX2 42 "FlagChips$Codes" "length" "I", Cond.fieldLink RX2 15 "FlagChips$Sky" "signals" "[I", Cond.fieldLink RX2 51 "FlagChips$Hill" "code" "I", Cond.methodLink RX2 38 yX1_wordAt, Cond.instanceMethod yX1_wordAt, Cond.selects RX1 yX1_wordAt yX1_wordAt, Cond.initialized RX1, Cond.code yX1_wordAt cX1_wordAt 2 (some .int), Cond.fieldLink RX1 18 "FlagChips$Hill" "words" "[I", Cond.methodLink RX2 47 yX1_start, Cond.instanceMethod yX1_start, Cond.selects RX1 yX1_start yX1_start, Cond.code yX1_start cX1_start 3 (some .int), Cond.fieldLink RX1 9 "FlagChips$Hill" "delay" "I", Cond.methodLink RX2 54 yX0_chipAt, Cond.instanceMethod yX0_chipAt, Cond.selects RX0 yX0_chipAt yX0_chipAt, Cond.initialized RX0]
def wsX3_setDelay_r4 : List Cond := [Cond.code yX0_chipAt cX0_chipAt 3 (some .int), Cond.methodLink RX0 15 yJ6_bitCount_0f7a4, Cond.static yJ6_bitCount_0f7a4, Cond.initialized RJ6, Cond.code yJ6_bitCount_0f7a4 cJ6_bitCount_0f7a4 1 (some .int), Cond.constant RJ6 265 (1431655765), Cond.constant RJ6 266 (858993459), Cond.constant RJ6 267 (252645135)]
def wsX3_setDelay : List Cond := .code yX3_setDelay cX3_setDelay 5 (some .int) :: ((wsX3_setDelay_r1 ++ (wsX3_setDelay_r2 ++ (wsX3_setDelay_r3 ++ wsX3_setDelay_r4))) ++ wsX10 ++ wsX30 ++ wsJx4a65c0 ++ wsX00 ++ wsX20 ++ (vx_atS RX3 110 "java/lang/IndexOutOfBoundsException" ["java/lang/RuntimeException", "java/lang/Exception"]).filter goodWord ++ (vx_atS RX3 36 "java/lang/IllegalArgumentException" ["java/lang/RuntimeException", "java/lang/Exception"]).filter goodWord)
def wsX3_setStrength_r1 : List Cond := [Cond.fieldLink RX3 89 "FlagChips$Hill" "strength" "I", Cond.fieldLink RX3 21 "FlagChips" "sky" "LFlagChips$Sky;", Cond.methodLink RX3 74 yX3_hillAt, Cond.instanceMethod yX3_hillAt, Cond.selects RX3 yX3_hillAt yX3_hillAt, Cond.initialized RX3, Cond.code yX3_hillAt cX3_hillAt 2 (some (.object "FlagChips$Hill")), Cond.classLink RX3 106 "java/lang/IndexOutOfBoundsException", Cond.initialized "java/lang/IndexOutOfBoundsException", Cond.fieldLink RX3 28 "FlagChips" "hills" "Ljava/util/ArrayList;", Cond.classLink RX3 65 "FlagChips$Hill", Cond.methodLink RX3 56 yJx4a65c_size_8abf5, Cond.instanceMethod yJx4a65c_size_8abf5, Cond.selects RJx4a65c yJx4a65c_size_8abf5 yJx4a65c_size_8abf5, Cond.initialized RJx4a65c, Cond.code yJx4a65c_size_8abf5 cJx4a65c_size_8abf5 1 (some .int), Cond.fieldLink RJx4a65c 48 "java/util/ArrayList" "size" "I", Cond.methodLink RX3 219 yJx4a65c_get_915e3, Cond.instanceMethod yJx4a65c_get_915e3, Cond.selects RJx4a65c yJx4a65c_get_915e3 yJx4a65c_get_915e3, Cond.code yJx4a65c_get_915e3 cJx4a65c_get_915e3 2 (some (.object "java/lang/Object")), Cond.methodLink RJx4a65c 118 yJ15_checkIndex_7cf53, Cond.static yJ15_checkIndex_7cf53, Cond.initialized RJ15]
def wsX3_setStrength_r2 : List Cond := [Cond.code yJ15_checkIndex_7cf53 cJ15_checkIndex_7cf53 2 (some .int), Cond.methodLink RJ15 105 yJ3_checkIndex_8e157, Cond.static yJ3_checkIndex_8e157, Cond.initialized RJ3, Cond.code yJ3_checkIndex_8e157 cJ3_checkIndex_8e157 3 (some .int), Cond.methodLink RJx4a65c 123 yJx4a65c_elementData_915e3, Cond.instanceMethod yJx4a65c_elementData_915e3, Cond.selects RJx4a65c yJx4a65c_elementData_915e3 yJx4a65c_elementData_915e3, Cond.code yJx4a65c_elementData_915e3 cJx4a65c_elementData_915e3 2 (some (.object "java/lang/Object")), Cond.fieldLink RJx4a65c 9 "java/util/ArrayList" "elementData" "[Ljava/lang/Object;", Cond.methodLink RX3 53 yX3_checkStrength, Cond.instanceMethod yX3_checkStrength, Cond.selects RX3 yX3_checkStrength yX3_checkStrength, Cond.code yX3_checkStrength cX3_checkStrength 2 none, Cond.classLink RX3 32 "java/lang/IllegalArgumentException", Cond.initialized "java/lang/IllegalArgumentException", Cond.methodLink RX3 96 yX2_addWords, Cond.instanceMethod yX2_addWords, Cond.selects RX2 yX2_addWords yX2_addWords, Cond.initialized RX2, Cond.code yX2_addWords cX2_addWords 4 none, Cond.fieldLink RX2 28 "FlagChips$Hill" "said" "I", Cond.methodLink RX2 34 yX2_addWord, Cond.instanceMethod yX2_addWord]
def wsX3_setStrength_r3 : List Cond := [Cond.selects RX2 yX2_addWord yX2_addWord, Cond.code yX2_addWord cX2_addWord 8 none, Cond.fieldLink RX2 18 "FlagChips$Sky" "codes" "LFlagChips$Codes;", Cond.fieldLink RX2 42 "FlagChips$Codes" "length" "I", Cond.fieldLink RX2 15 "FlagChips$Sky" "signals" "[I", Cond.fieldLink RX2 51 "FlagChips$Hill" "code" "I", Cond.methodLink RX2 38 yX1_wordAt, Cond.instanceMethod yX1_wordAt, Cond.selects RX1 yX1_wordAt yX1_wordAt, Cond.initialized RX1, Cond.code yX1_wordAt cX1_wordAt 2 (some .int), Cond.fieldLink RX1 18 "FlagChips$Hill" "words" "[I", Cond.methodLink RX2 47 yX1_start, Cond.instanceMethod yX1_start, Cond.selects RX1 yX1_start yX1_start, Cond.code yX1_start cX1_start 3 (some .int), Cond.fieldLink RX1 9 "FlagChips$Hill" "delay" "I", Cond.methodLink RX2 54 yX0_chipAt, Cond.instanceMethod yX0_chipAt, Cond.selects RX0 yX0_chipAt yX0_chipAt, Cond.initialized RX0, Cond.code yX0_chipAt cX0_chipAt 3 (some .int), Cond.methodLink RX0 15 yJ6_bitCount_0f7a4, Cond.static yJ6_bitCount_0f7a4]
def wsX3_setStrength_r4 : List Cond := [Cond.initialized RJ6, Cond.code yJ6_bitCount_0f7a4 cJ6_bitCount_0f7a4 1 (some .int), Cond.constant RJ6 265 (1431655765), Cond.constant RJ6 266 (858993459), Cond.constant RJ6 267 (252645135)]
def wsX3_setStrength : List Cond := .code yX3_setStrength cX3_setStrength 5 (some .int) :: ((wsX3_setStrength_r1 ++ (wsX3_setStrength_r2 ++ (wsX3_setStrength_r3 ++ wsX3_setStrength_r4))) ++ wsX10 ++ wsX30 ++ wsJx4a65c0 ++ wsX20 ++ wsX00 ++ (vx_atS RX3 110 "java/lang/IndexOutOfBoundsException" ["java/lang/RuntimeException", "java/lang/Exception"]).filter goodWord ++ (vx_atS RX3 36 "java/lang/IllegalArgumentException" ["java/lang/RuntimeException", "java/lang/Exception"]).filter goodWord)
def wsX3_setStorm : List Cond := .code yX3_setStorm cX3_setStorm 4 (some .int) :: ([.classLink RX3 106 "java/lang/IndexOutOfBoundsException", .initialized "java/lang/IndexOutOfBoundsException", .classLink RX3 32 "java/lang/IllegalArgumentException", .initialized "java/lang/IllegalArgumentException", .fieldLink RX3 21 "FlagChips" "sky" "LFlagChips$Sky;", .fieldLink RX3 113 "FlagChips$Sky" "storms" "[I"] ++ wsX30 ++ wsX20 ++ (vx_atS RX3 110 "java/lang/IndexOutOfBoundsException" ["java/lang/RuntimeException", "java/lang/Exception"]).filter goodWord ++ (vx_atS RX3 36 "java/lang/IllegalArgumentException" ["java/lang/RuntimeException", "java/lang/Exception"]).filter goodWord)
def wsX3_chip_r1 : List Cond := [Cond.classLink RX3 106 "java/lang/IndexOutOfBoundsException", Cond.initialized "java/lang/IndexOutOfBoundsException", Cond.fieldLink RX3 12 "FlagChips" "codes" "LFlagChips$Codes;", Cond.methodLink RX3 49 yX3_checkCode, Cond.instanceMethod yX3_checkCode, Cond.selects RX3 yX3_checkCode yX3_checkCode, Cond.initialized RX3, Cond.code yX3_checkCode cX3_checkCode 2 none, Cond.methodLink RX3 117 yX0_has, Cond.instanceMethod yX0_has, Cond.selects RX0 yX0_has yX0_has, Cond.initialized RX0, Cond.code yX0_has cX0_has 2 (some .boolean), Cond.fieldLink RX0 9 "FlagChips$Codes" "length" "I", Cond.methodLink RX3 123 yX0_chipAt, Cond.instanceMethod yX0_chipAt, Cond.selects RX0 yX0_chipAt yX0_chipAt, Cond.code yX0_chipAt cX0_chipAt 3 (some .int), Cond.methodLink RX0 15 yJ6_bitCount_0f7a4, Cond.static yJ6_bitCount_0f7a4, Cond.initialized RJ6, Cond.code yJ6_bitCount_0f7a4 cJ6_bitCount_0f7a4 1 (some .int), Cond.constant RJ6 265 (1431655765), Cond.constant RJ6 266 (858993459)]
def wsX3_chip_r2 : List Cond := [Cond.constant RJ6 267 (252645135)]
def wsX3_chip : List Cond := .code yX3_chip cX3_chip 3 (some .int) :: ((wsX3_chip_r1 ++ wsX3_chip_r2) ++ wsX30 ++ wsX00 ++ (vx_atS RX3 110 "java/lang/IndexOutOfBoundsException" ["java/lang/RuntimeException", "java/lang/Exception"]).filter goodWord)
def wsX3_checkTime : List Cond := .code yX3_checkTime cX3_checkTime 2 none :: ([.classLink RX3 32 "java/lang/IllegalArgumentException", .initialized "java/lang/IllegalArgumentException"] ++ (vx_atS RX3 36 "java/lang/IllegalArgumentException" ["java/lang/RuntimeException", "java/lang/Exception"]).filter goodWord)
def wsX3_sky : List Cond := .code yX3_sky cX3_sky 2 (some .int) :: ([.fieldLink RX3 21 "FlagChips" "sky" "LFlagChips$Sky;", .methodLink RX3 127 yX3_checkTime, .instanceMethod yX3_checkTime, .selects RX3 yX3_checkTime yX3_checkTime, .initialized RX3, .code yX3_checkTime cX3_checkTime 2 none, .classLink RX3 32 "java/lang/IllegalArgumentException", .initialized "java/lang/IllegalArgumentException", .methodLink RX3 130 yX2_at, .instanceMethod yX2_at, .selects RX2 yX2_at yX2_at, .initialized RX2, .code yX2_at cX2_at 3 (some .int), .fieldLink RX2 9 "FlagChips$Sky" "storms" "[I", .fieldLink RX2 15 "FlagChips$Sky" "signals" "[I"] ++ wsX30 ++ wsX20 ++ (vx_atS RX3 36 "java/lang/IllegalArgumentException" ["java/lang/RuntimeException", "java/lang/Exception"]).filter goodWord)
def wsX3_hear_r1 : List Cond := [Cond.fieldLink RX3 21 "FlagChips" "sky" "LFlagChips$Sky;", Cond.methodLink RX3 49 yX3_checkCode, Cond.instanceMethod yX3_checkCode, Cond.selects RX3 yX3_checkCode yX3_checkCode, Cond.initialized RX3, Cond.code yX3_checkCode cX3_checkCode 2 none, Cond.classLink RX3 106 "java/lang/IndexOutOfBoundsException", Cond.initialized "java/lang/IndexOutOfBoundsException", Cond.fieldLink RX3 12 "FlagChips" "codes" "LFlagChips$Codes;", Cond.methodLink RX3 117 yX0_has, Cond.instanceMethod yX0_has, Cond.selects RX0 yX0_has yX0_has, Cond.initialized RX0, Cond.code yX0_has cX0_has 2 (some .boolean), Cond.fieldLink RX0 9 "FlagChips$Codes" "length" "I", Cond.methodLink RX3 127 yX3_checkTime, Cond.instanceMethod yX3_checkTime, Cond.selects RX3 yX3_checkTime yX3_checkTime, Cond.code yX3_checkTime cX3_checkTime 2 none, Cond.classLink RX3 32 "java/lang/IllegalArgumentException", Cond.initialized "java/lang/IllegalArgumentException", Cond.methodLink RX3 134 yX2_heard, Cond.instanceMethod yX2_heard, Cond.selects RX2 yX2_heard yX2_heard]
def wsX3_hear_r2 : List Cond := [Cond.initialized RX2, Cond.code yX2_heard cX2_heard 5 (some .int), Cond.fieldLink RX2 18 "FlagChips$Sky" "codes" "LFlagChips$Codes;", Cond.fieldLink RX2 42 "FlagChips$Codes" "length" "I", Cond.methodLink RX2 57 yX2_at, Cond.instanceMethod yX2_at, Cond.selects RX2 yX2_at yX2_at, Cond.code yX2_at cX2_at 3 (some .int), Cond.fieldLink RX2 9 "FlagChips$Sky" "storms" "[I", Cond.fieldLink RX2 15 "FlagChips$Sky" "signals" "[I", Cond.methodLink RX2 54 yX0_chipAt, Cond.instanceMethod yX0_chipAt, Cond.selects RX0 yX0_chipAt yX0_chipAt, Cond.code yX0_chipAt cX0_chipAt 3 (some .int), Cond.methodLink RX0 15 yJ6_bitCount_0f7a4, Cond.static yJ6_bitCount_0f7a4, Cond.initialized RJ6, Cond.code yJ6_bitCount_0f7a4 cJ6_bitCount_0f7a4 1 (some .int), Cond.constant RJ6 265 (1431655765), Cond.constant RJ6 266 (858993459), Cond.constant RJ6 267 (252645135)]
def wsX3_hear : List Cond := .code yX3_hear cX3_hear 3 (some .int) :: ((wsX3_hear_r1 ++ wsX3_hear_r2) ++ wsX30 ++ wsX00 ++ wsX20 ++ (vx_atS RX3 110 "java/lang/IndexOutOfBoundsException" ["java/lang/RuntimeException", "java/lang/Exception"]).filter goodWord ++ (vx_atS RX3 36 "java/lang/IllegalArgumentException" ["java/lang/RuntimeException", "java/lang/Exception"]).filter goodWord)
def wsX3_word_r1 : List Cond := [Cond.classLink RX3 106 "java/lang/IndexOutOfBoundsException", Cond.initialized "java/lang/IndexOutOfBoundsException", Cond.fieldLink RX3 86 "FlagChips$Hill" "said" "I", Cond.fieldLink RX3 21 "FlagChips" "sky" "LFlagChips$Sky;", Cond.methodLink RX3 74 yX3_hillAt, Cond.instanceMethod yX3_hillAt, Cond.selects RX3 yX3_hillAt yX3_hillAt, Cond.initialized RX3, Cond.code yX3_hillAt cX3_hillAt 2 (some (.object "FlagChips$Hill")), Cond.fieldLink RX3 28 "FlagChips" "hills" "Ljava/util/ArrayList;", Cond.classLink RX3 65 "FlagChips$Hill", Cond.methodLink RX3 56 yJx4a65c_size_8abf5, Cond.instanceMethod yJx4a65c_size_8abf5, Cond.selects RJx4a65c yJx4a65c_size_8abf5 yJx4a65c_size_8abf5, Cond.initialized RJx4a65c, Cond.code yJx4a65c_size_8abf5 cJx4a65c_size_8abf5 1 (some .int), Cond.fieldLink RJx4a65c 48 "java/util/ArrayList" "size" "I", Cond.methodLink RX3 219 yJx4a65c_get_915e3, Cond.instanceMethod yJx4a65c_get_915e3, Cond.selects RJx4a65c yJx4a65c_get_915e3 yJx4a65c_get_915e3, Cond.code yJx4a65c_get_915e3 cJx4a65c_get_915e3 2 (some (.object "java/lang/Object")), Cond.methodLink RJx4a65c 118 yJ15_checkIndex_7cf53, Cond.static yJ15_checkIndex_7cf53, Cond.initialized RJ15]
def wsX3_word_r2 : List Cond := [Cond.code yJ15_checkIndex_7cf53 cJ15_checkIndex_7cf53 2 (some .int), Cond.methodLink RJ15 105 yJ3_checkIndex_8e157, Cond.static yJ3_checkIndex_8e157, Cond.initialized RJ3, Cond.code yJ3_checkIndex_8e157 cJ3_checkIndex_8e157 3 (some .int), Cond.methodLink RJx4a65c 123 yJx4a65c_elementData_915e3, Cond.instanceMethod yJx4a65c_elementData_915e3, Cond.selects RJx4a65c yJx4a65c_elementData_915e3 yJx4a65c_elementData_915e3, Cond.code yJx4a65c_elementData_915e3 cJx4a65c_elementData_915e3 2 (some (.object "java/lang/Object")), Cond.fieldLink RJx4a65c 9 "java/util/ArrayList" "elementData" "[Ljava/lang/Object;", Cond.methodLink RX3 139 yX1_wordAt, Cond.instanceMethod yX1_wordAt, Cond.selects RX1 yX1_wordAt yX1_wordAt, Cond.initialized RX1, Cond.code yX1_wordAt cX1_wordAt 2 (some .int), Cond.fieldLink RX1 18 "FlagChips$Hill" "words" "[I", Cond.methodLink RX3 142 yX2_heardWord, Cond.instanceMethod yX2_heardWord, Cond.selects RX2 yX2_heardWord yX2_heardWord, Cond.initialized RX2, Cond.code yX2_heardWord cX2_heardWord 3 (some .int), Cond.fieldLink RX2 51 "FlagChips$Hill" "code" "I", Cond.fieldLink RX2 18 "FlagChips$Sky" "codes" "LFlagChips$Codes;", Cond.fieldLink RX2 42 "FlagChips$Codes" "length" "I"]
def wsX3_word_r3 : List Cond := [Cond.methodLink RX2 47 yX1_start, Cond.instanceMethod yX1_start, Cond.selects RX1 yX1_start yX1_start, Cond.code yX1_start cX1_start 3 (some .int), Cond.fieldLink RX1 9 "FlagChips$Hill" "delay" "I", Cond.methodLink RX2 60 yX2_heard, Cond.instanceMethod yX2_heard, Cond.selects RX2 yX2_heard yX2_heard, Cond.code yX2_heard cX2_heard 5 (some .int), Cond.methodLink RX2 57 yX2_at, Cond.instanceMethod yX2_at, Cond.selects RX2 yX2_at yX2_at, Cond.code yX2_at cX2_at 3 (some .int), Cond.fieldLink RX2 9 "FlagChips$Sky" "storms" "[I", Cond.fieldLink RX2 15 "FlagChips$Sky" "signals" "[I", Cond.methodLink RX2 54 yX0_chipAt, Cond.instanceMethod yX0_chipAt, Cond.selects RX0 yX0_chipAt yX0_chipAt, Cond.initialized RX0, Cond.code yX0_chipAt cX0_chipAt 3 (some .int), Cond.methodLink RX0 15 yJ6_bitCount_0f7a4, Cond.static yJ6_bitCount_0f7a4, Cond.initialized RJ6, Cond.code yJ6_bitCount_0f7a4 cJ6_bitCount_0f7a4 1 (some .int)]
def wsX3_word_r4 : List Cond := [Cond.constant RJ6 265 (1431655765), Cond.constant RJ6 266 (858993459), Cond.constant RJ6 267 (252645135), Cond.methodLink RX3 146 yX1_isWrong, Cond.instanceMethod yX1_isWrong, Cond.selects RX1 yX1_isWrong yX1_isWrong, Cond.code yX1_isWrong cX1_isWrong 3 (some .boolean), Cond.methodLink RX1 32 yX1_wordAt]
def wsX3_word : List Cond := .code yX3_word cX3_word 5 (some .int) :: ((wsX3_word_r1 ++ (wsX3_word_r2 ++ (wsX3_word_r3 ++ wsX3_word_r4))) ++ wsX10 ++ wsX30 ++ wsJx4a65c0 ++ wsX20 ++ wsX00 ++ (vx_atS RX3 110 "java/lang/IndexOutOfBoundsException" ["java/lang/RuntimeException", "java/lang/Exception"]).filter goodWord)
def wsX3_about_r1 : List Cond := [Cond.classLink RX3 106 "java/lang/IndexOutOfBoundsException", Cond.initialized "java/lang/IndexOutOfBoundsException", Cond.fieldLink RX3 152 "FlagChips$Hill" "code" "I", Cond.fieldLink RX3 89 "FlagChips$Hill" "strength" "I", Cond.fieldLink RX3 103 "FlagChips$Hill" "delay" "I", Cond.fieldLink RX3 86 "FlagChips$Hill" "said" "I", Cond.fieldLink RX3 21 "FlagChips" "sky" "LFlagChips$Sky;", Cond.fieldLink RX3 12 "FlagChips" "codes" "LFlagChips$Codes;", Cond.fieldLink RX3 39 "FlagChips$Codes" "length" "I", Cond.methodLink RX3 74 yX3_hillAt, Cond.instanceMethod yX3_hillAt, Cond.selects RX3 yX3_hillAt yX3_hillAt, Cond.initialized RX3, Cond.code yX3_hillAt cX3_hillAt 2 (some (.object "FlagChips$Hill")), Cond.fieldLink RX3 28 "FlagChips" "hills" "Ljava/util/ArrayList;", Cond.classLink RX3 65 "FlagChips$Hill", Cond.methodLink RX3 56 yJx4a65c_size_8abf5, Cond.instanceMethod yJx4a65c_size_8abf5, Cond.selects RJx4a65c yJx4a65c_size_8abf5 yJx4a65c_size_8abf5, Cond.initialized RJx4a65c, Cond.code yJx4a65c_size_8abf5 cJx4a65c_size_8abf5 1 (some .int), Cond.fieldLink RJx4a65c 48 "java/util/ArrayList" "size" "I", Cond.methodLink RX3 219 yJx4a65c_get_915e3, Cond.instanceMethod yJx4a65c_get_915e3]
def wsX3_about_r2 : List Cond := [Cond.selects RJx4a65c yJx4a65c_get_915e3 yJx4a65c_get_915e3, Cond.code yJx4a65c_get_915e3 cJx4a65c_get_915e3 2 (some (.object "java/lang/Object")), Cond.methodLink RJx4a65c 118 yJ15_checkIndex_7cf53, Cond.static yJ15_checkIndex_7cf53, Cond.initialized RJ15, Cond.code yJ15_checkIndex_7cf53 cJ15_checkIndex_7cf53 2 (some .int), Cond.methodLink RJ15 105 yJ3_checkIndex_8e157, Cond.static yJ3_checkIndex_8e157, Cond.initialized RJ3, Cond.code yJ3_checkIndex_8e157 cJ3_checkIndex_8e157 3 (some .int), Cond.methodLink RJx4a65c 123 yJx4a65c_elementData_915e3, Cond.instanceMethod yJx4a65c_elementData_915e3, Cond.selects RJx4a65c yJx4a65c_elementData_915e3 yJx4a65c_elementData_915e3, Cond.code yJx4a65c_elementData_915e3 cJx4a65c_elementData_915e3 2 (some (.object "java/lang/Object")), Cond.fieldLink RJx4a65c 9 "java/util/ArrayList" "elementData" "[Ljava/lang/Object;", Cond.methodLink RX3 155 yX2_wrongWords, Cond.instanceMethod yX2_wrongWords, Cond.selects RX2 yX2_wrongWords yX2_wrongWords, Cond.initialized RX2, Cond.code yX2_wrongWords cX2_wrongWords 4 (some .int), Cond.fieldLink RX2 28 "FlagChips$Hill" "said" "I", Cond.methodLink RX2 63 yX2_heardWord, Cond.instanceMethod yX2_heardWord, Cond.selects RX2 yX2_heardWord yX2_heardWord]
def wsX3_about_r3 : List Cond := [Cond.code yX2_heardWord cX2_heardWord 3 (some .int), Cond.fieldLink RX2 51 "FlagChips$Hill" "code" "I", Cond.fieldLink RX2 18 "FlagChips$Sky" "codes" "LFlagChips$Codes;", Cond.fieldLink RX2 42 "FlagChips$Codes" "length" "I", Cond.methodLink RX2 47 yX1_start, Cond.instanceMethod yX1_start, Cond.selects RX1 yX1_start yX1_start, Cond.initialized RX1, Cond.code yX1_start cX1_start 3 (some .int), Cond.fieldLink RX1 9 "FlagChips$Hill" "delay" "I", Cond.methodLink RX2 60 yX2_heard, Cond.instanceMethod yX2_heard, Cond.selects RX2 yX2_heard yX2_heard, Cond.code yX2_heard cX2_heard 5 (some .int), Cond.methodLink RX2 57 yX2_at, Cond.instanceMethod yX2_at, Cond.selects RX2 yX2_at yX2_at, Cond.code yX2_at cX2_at 3 (some .int), Cond.fieldLink RX2 9 "FlagChips$Sky" "storms" "[I", Cond.fieldLink RX2 15 "FlagChips$Sky" "signals" "[I", Cond.methodLink RX2 54 yX0_chipAt, Cond.instanceMethod yX0_chipAt, Cond.selects RX0 yX0_chipAt yX0_chipAt, Cond.initialized RX0]
def wsX3_about_r4 : List Cond := [Cond.code yX0_chipAt cX0_chipAt 3 (some .int), Cond.methodLink RX0 15 yJ6_bitCount_0f7a4, Cond.static yJ6_bitCount_0f7a4, Cond.initialized RJ6, Cond.code yJ6_bitCount_0f7a4 cJ6_bitCount_0f7a4 1 (some .int), Cond.constant RJ6 265 (1431655765), Cond.constant RJ6 266 (858993459), Cond.constant RJ6 267 (252645135), Cond.methodLink RX2 67 yX1_isWrong, Cond.instanceMethod yX1_isWrong, Cond.selects RX1 yX1_isWrong yX1_isWrong, Cond.code yX1_isWrong cX1_isWrong 3 (some .boolean), Cond.methodLink RX1 32 yX1_wordAt, Cond.instanceMethod yX1_wordAt, Cond.selects RX1 yX1_wordAt yX1_wordAt, Cond.code yX1_wordAt cX1_wordAt 2 (some .int), Cond.fieldLink RX1 18 "FlagChips$Hill" "words" "[I", Cond.methodLink RX3 159 yX1_end, Cond.instanceMethod yX1_end, Cond.selects RX1 yX1_end yX1_end, Cond.code yX1_end cX1_end 2 (some .int), Cond.fieldLink RX1 15 "FlagChips$Hill" "said" "I", Cond.methodLink RX1 36 yX1_start, Cond.methodLink RX3 162 yX2_faintest]
def wsX3_about_r5 : List Cond := [Cond.instanceMethod yX2_faintest, Cond.selects RX2 yX2_faintest yX2_faintest, Cond.code yX2_faintest cX2_faintest 5 (some .int), Cond.methodLink RX2 71 Lib.Math.abs.name, Cond.static Lib.Math.abs.name, Cond.initialized "java/lang/Math", Cond.code Lib.Math.abs.name Lib.Math.abs.code 1 (some .int)]
def wsX3_about : List Cond := .code yX3_about cX3_about 4 (some .int) :: ((wsX3_about_r1 ++ (wsX3_about_r2 ++ (wsX3_about_r3 ++ (wsX3_about_r4 ++ wsX3_about_r5)))) ++ wsX10 ++ wsX30 ++ wsX00 ++ wsJx4a65c0 ++ wsX20 ++ (vx_atS RX3 110 "java/lang/IndexOutOfBoundsException" ["java/lang/RuntimeException", "java/lang/Exception"]).filter goodWord)
def wsX3_allWords_r1 : List Cond := [Cond.fieldLink RX3 28 "FlagChips" "hills" "Ljava/util/ArrayList;", Cond.classLink RX3 65 "FlagChips$Hill", Cond.fieldLink RX3 86 "FlagChips$Hill" "said" "I", Cond.methodLink RX3 56 yJx4a65c_size_8abf5, Cond.instanceMethod yJx4a65c_size_8abf5, Cond.selects RJx4a65c yJx4a65c_size_8abf5 yJx4a65c_size_8abf5, Cond.initialized RJx4a65c, Cond.code yJx4a65c_size_8abf5 cJx4a65c_size_8abf5 1 (some .int), Cond.fieldLink RJx4a65c 48 "java/util/ArrayList" "size" "I", Cond.methodLink RX3 219 yJx4a65c_get_915e3, Cond.instanceMethod yJx4a65c_get_915e3, Cond.selects RJx4a65c yJx4a65c_get_915e3 yJx4a65c_get_915e3, Cond.code yJx4a65c_get_915e3 cJx4a65c_get_915e3 2 (some (.object "java/lang/Object")), Cond.methodLink RJx4a65c 118 yJ15_checkIndex_7cf53, Cond.static yJ15_checkIndex_7cf53, Cond.initialized RJ15, Cond.code yJ15_checkIndex_7cf53 cJ15_checkIndex_7cf53 2 (some .int), Cond.methodLink RJ15 105 yJ3_checkIndex_8e157, Cond.static yJ3_checkIndex_8e157, Cond.initialized RJ3, Cond.code yJ3_checkIndex_8e157 cJ3_checkIndex_8e157 3 (some .int), Cond.methodLink RJx4a65c 123 yJx4a65c_elementData_915e3, Cond.instanceMethod yJx4a65c_elementData_915e3, Cond.selects RJx4a65c yJx4a65c_elementData_915e3 yJx4a65c_elementData_915e3]
def wsX3_allWords_r2 : List Cond := [Cond.code yJx4a65c_elementData_915e3 cJx4a65c_elementData_915e3 2 (some (.object "java/lang/Object")), Cond.fieldLink RJx4a65c 9 "java/util/ArrayList" "elementData" "[Ljava/lang/Object;"]
def wsX3_allWords : List Cond := .code yX3_allWords cX3_allWords 3 (some .int) :: ((wsX3_allWords_r1 ++ wsX3_allWords_r2) ++ wsX30 ++ wsX10 ++ wsJx4a65c0)
def wsX3_allWrongWords_r1 : List Cond := [Cond.fieldLink RX3 28 "FlagChips" "hills" "Ljava/util/ArrayList;", Cond.fieldLink RX3 21 "FlagChips" "sky" "LFlagChips$Sky;", Cond.classLink RX3 65 "FlagChips$Hill", Cond.methodLink RX3 56 yJx4a65c_size_8abf5, Cond.instanceMethod yJx4a65c_size_8abf5, Cond.selects RJx4a65c yJx4a65c_size_8abf5 yJx4a65c_size_8abf5, Cond.initialized RJx4a65c, Cond.code yJx4a65c_size_8abf5 cJx4a65c_size_8abf5 1 (some .int), Cond.fieldLink RJx4a65c 48 "java/util/ArrayList" "size" "I", Cond.methodLink RX3 219 yJx4a65c_get_915e3, Cond.instanceMethod yJx4a65c_get_915e3, Cond.selects RJx4a65c yJx4a65c_get_915e3 yJx4a65c_get_915e3, Cond.code yJx4a65c_get_915e3 cJx4a65c_get_915e3 2 (some (.object "java/lang/Object")), Cond.methodLink RJx4a65c 118 yJ15_checkIndex_7cf53, Cond.static yJ15_checkIndex_7cf53, Cond.initialized RJ15, Cond.code yJ15_checkIndex_7cf53 cJ15_checkIndex_7cf53 2 (some .int), Cond.methodLink RJ15 105 yJ3_checkIndex_8e157, Cond.static yJ3_checkIndex_8e157, Cond.initialized RJ3, Cond.code yJ3_checkIndex_8e157 cJ3_checkIndex_8e157 3 (some .int), Cond.methodLink RJx4a65c 123 yJx4a65c_elementData_915e3, Cond.instanceMethod yJx4a65c_elementData_915e3, Cond.selects RJx4a65c yJx4a65c_elementData_915e3 yJx4a65c_elementData_915e3]
def wsX3_allWrongWords_r2 : List Cond := [Cond.code yJx4a65c_elementData_915e3 cJx4a65c_elementData_915e3 2 (some (.object "java/lang/Object")), Cond.fieldLink RJx4a65c 9 "java/util/ArrayList" "elementData" "[Ljava/lang/Object;", Cond.methodLink RX3 155 yX2_wrongWords, Cond.instanceMethod yX2_wrongWords, Cond.selects RX2 yX2_wrongWords yX2_wrongWords, Cond.initialized RX2, Cond.code yX2_wrongWords cX2_wrongWords 4 (some .int), Cond.fieldLink RX2 28 "FlagChips$Hill" "said" "I", Cond.methodLink RX2 63 yX2_heardWord, Cond.instanceMethod yX2_heardWord, Cond.selects RX2 yX2_heardWord yX2_heardWord, Cond.code yX2_heardWord cX2_heardWord 3 (some .int), Cond.fieldLink RX2 51 "FlagChips$Hill" "code" "I", Cond.fieldLink RX2 18 "FlagChips$Sky" "codes" "LFlagChips$Codes;", Cond.fieldLink RX2 42 "FlagChips$Codes" "length" "I", Cond.methodLink RX2 47 yX1_start, Cond.instanceMethod yX1_start, Cond.selects RX1 yX1_start yX1_start, Cond.initialized RX1, Cond.code yX1_start cX1_start 3 (some .int), Cond.fieldLink RX1 9 "FlagChips$Hill" "delay" "I", Cond.methodLink RX2 60 yX2_heard, Cond.instanceMethod yX2_heard, Cond.selects RX2 yX2_heard yX2_heard]
def wsX3_allWrongWords_r3 : List Cond := [Cond.code yX2_heard cX2_heard 5 (some .int), Cond.methodLink RX2 57 yX2_at, Cond.instanceMethod yX2_at, Cond.selects RX2 yX2_at yX2_at, Cond.code yX2_at cX2_at 3 (some .int), Cond.fieldLink RX2 9 "FlagChips$Sky" "storms" "[I", Cond.fieldLink RX2 15 "FlagChips$Sky" "signals" "[I", Cond.methodLink RX2 54 yX0_chipAt, Cond.instanceMethod yX0_chipAt, Cond.selects RX0 yX0_chipAt yX0_chipAt, Cond.initialized RX0, Cond.code yX0_chipAt cX0_chipAt 3 (some .int), Cond.methodLink RX0 15 yJ6_bitCount_0f7a4, Cond.static yJ6_bitCount_0f7a4, Cond.initialized RJ6, Cond.code yJ6_bitCount_0f7a4 cJ6_bitCount_0f7a4 1 (some .int), Cond.constant RJ6 265 (1431655765), Cond.constant RJ6 266 (858993459), Cond.constant RJ6 267 (252645135), Cond.methodLink RX2 67 yX1_isWrong, Cond.instanceMethod yX1_isWrong, Cond.selects RX1 yX1_isWrong yX1_isWrong, Cond.code yX1_isWrong cX1_isWrong 3 (some .boolean), Cond.methodLink RX1 32 yX1_wordAt]
def wsX3_allWrongWords_r4 : List Cond := [Cond.instanceMethod yX1_wordAt, Cond.selects RX1 yX1_wordAt yX1_wordAt, Cond.code yX1_wordAt cX1_wordAt 2 (some .int), Cond.fieldLink RX1 18 "FlagChips$Hill" "words" "[I"]
def wsX3_allWrongWords : List Cond := .code yX3_allWrongWords cX3_allWrongWords 3 (some .int) :: ((wsX3_allWrongWords_r1 ++ (wsX3_allWrongWords_r2 ++ (wsX3_allWrongWords_r3 ++ wsX3_allWrongWords_r4))) ++ wsX30 ++ wsJx4a65c0 ++ wsX10 ++ wsX20 ++ wsX00)
def wsX3_endOfAll_r1 : List Cond := [Cond.fieldLink RX3 28 "FlagChips" "hills" "Ljava/util/ArrayList;", Cond.classLink RX3 65 "FlagChips$Hill", Cond.fieldLink RX3 12 "FlagChips" "codes" "LFlagChips$Codes;", Cond.fieldLink RX3 39 "FlagChips$Codes" "length" "I", Cond.methodLink RX3 231 Lib.Math.max.name, Cond.static Lib.Math.max.name, Cond.initialized "java/lang/Math", Cond.code Lib.Math.max.name Lib.Math.max.code 2 (some .int), Cond.methodLink RX3 56 yJx4a65c_size_8abf5, Cond.instanceMethod yJx4a65c_size_8abf5, Cond.selects RJx4a65c yJx4a65c_size_8abf5 yJx4a65c_size_8abf5, Cond.initialized RJx4a65c, Cond.code yJx4a65c_size_8abf5 cJx4a65c_size_8abf5 1 (some .int), Cond.fieldLink RJx4a65c 48 "java/util/ArrayList" "size" "I", Cond.methodLink RX3 219 yJx4a65c_get_915e3, Cond.instanceMethod yJx4a65c_get_915e3, Cond.selects RJx4a65c yJx4a65c_get_915e3 yJx4a65c_get_915e3, Cond.code yJx4a65c_get_915e3 cJx4a65c_get_915e3 2 (some (.object "java/lang/Object")), Cond.methodLink RJx4a65c 118 yJ15_checkIndex_7cf53, Cond.static yJ15_checkIndex_7cf53, Cond.initialized RJ15, Cond.code yJ15_checkIndex_7cf53 cJ15_checkIndex_7cf53 2 (some .int), Cond.methodLink RJ15 105 yJ3_checkIndex_8e157, Cond.static yJ3_checkIndex_8e157]
def wsX3_endOfAll_r2 : List Cond := [Cond.initialized RJ3, Cond.code yJ3_checkIndex_8e157 cJ3_checkIndex_8e157 3 (some .int), Cond.methodLink RJx4a65c 123 yJx4a65c_elementData_915e3, Cond.instanceMethod yJx4a65c_elementData_915e3, Cond.selects RJx4a65c yJx4a65c_elementData_915e3 yJx4a65c_elementData_915e3, Cond.code yJx4a65c_elementData_915e3 cJx4a65c_elementData_915e3 2 (some (.object "java/lang/Object")), Cond.fieldLink RJx4a65c 9 "java/util/ArrayList" "elementData" "[Ljava/lang/Object;", Cond.methodLink RX3 159 yX1_end, Cond.instanceMethod yX1_end, Cond.selects RX1 yX1_end yX1_end, Cond.initialized RX1, Cond.code yX1_end cX1_end 2 (some .int), Cond.fieldLink RX1 15 "FlagChips$Hill" "said" "I", Cond.methodLink RX1 36 yX1_start, Cond.instanceMethod yX1_start, Cond.selects RX1 yX1_start yX1_start, Cond.code yX1_start cX1_start 3 (some .int), Cond.fieldLink RX1 9 "FlagChips$Hill" "delay" "I"]
def wsX3_endOfAll : List Cond := .code yX3_endOfAll cX3_endOfAll 3 (some .int) :: ((wsX3_endOfAll_r1 ++ wsX3_endOfAll_r2) ++ wsX30 ++ wsX00 ++ wsJx4a65c0 ++ wsX10)
def wsX3_isTaken_r1 : List Cond := [Cond.fieldLink RX3 28 "FlagChips" "hills" "Ljava/util/ArrayList;", Cond.classLink RX3 65 "FlagChips$Hill", Cond.fieldLink RX3 152 "FlagChips$Hill" "code" "I", Cond.methodLink RX3 56 yJx4a65c_size_8abf5, Cond.instanceMethod yJx4a65c_size_8abf5, Cond.selects RJx4a65c yJx4a65c_size_8abf5 yJx4a65c_size_8abf5, Cond.initialized RJx4a65c, Cond.code yJx4a65c_size_8abf5 cJx4a65c_size_8abf5 1 (some .int), Cond.fieldLink RJx4a65c 48 "java/util/ArrayList" "size" "I", Cond.methodLink RX3 219 yJx4a65c_get_915e3, Cond.instanceMethod yJx4a65c_get_915e3, Cond.selects RJx4a65c yJx4a65c_get_915e3 yJx4a65c_get_915e3, Cond.code yJx4a65c_get_915e3 cJx4a65c_get_915e3 2 (some (.object "java/lang/Object")), Cond.methodLink RJx4a65c 118 yJ15_checkIndex_7cf53, Cond.static yJ15_checkIndex_7cf53, Cond.initialized RJ15, Cond.code yJ15_checkIndex_7cf53 cJ15_checkIndex_7cf53 2 (some .int), Cond.methodLink RJ15 105 yJ3_checkIndex_8e157, Cond.static yJ3_checkIndex_8e157, Cond.initialized RJ3, Cond.code yJ3_checkIndex_8e157 cJ3_checkIndex_8e157 3 (some .int), Cond.methodLink RJx4a65c 123 yJx4a65c_elementData_915e3, Cond.instanceMethod yJx4a65c_elementData_915e3, Cond.selects RJx4a65c yJx4a65c_elementData_915e3 yJx4a65c_elementData_915e3]
def wsX3_isTaken_r2 : List Cond := [Cond.code yJx4a65c_elementData_915e3 cJx4a65c_elementData_915e3 2 (some (.object "java/lang/Object")), Cond.fieldLink RJx4a65c 9 "java/util/ArrayList" "elementData" "[Ljava/lang/Object;"]
def wsX3_isTaken : List Cond := .code yX3_isTaken cX3_isTaken 3 (some .boolean) :: ((wsX3_isTaken_r1 ++ wsX3_isTaken_r2) ++ wsX30 ++ wsX10 ++ wsJx4a65c0)
def wsX3_freeCodes_r1 : List Cond := [Cond.fieldLink RX3 12 "FlagChips" "codes" "LFlagChips$Codes;", Cond.fieldLink RX3 39 "FlagChips$Codes" "length" "I", Cond.methodLink RX3 188 yX3_isTaken, Cond.instanceMethod yX3_isTaken, Cond.selects RX3 yX3_isTaken yX3_isTaken, Cond.initialized RX3, Cond.code yX3_isTaken cX3_isTaken 3 (some .boolean), Cond.fieldLink RX3 28 "FlagChips" "hills" "Ljava/util/ArrayList;", Cond.classLink RX3 65 "FlagChips$Hill", Cond.fieldLink RX3 152 "FlagChips$Hill" "code" "I", Cond.methodLink RX3 56 yJx4a65c_size_8abf5, Cond.instanceMethod yJx4a65c_size_8abf5, Cond.selects RJx4a65c yJx4a65c_size_8abf5 yJx4a65c_size_8abf5, Cond.initialized RJx4a65c, Cond.code yJx4a65c_size_8abf5 cJx4a65c_size_8abf5 1 (some .int), Cond.fieldLink RJx4a65c 48 "java/util/ArrayList" "size" "I", Cond.methodLink RX3 219 yJx4a65c_get_915e3, Cond.instanceMethod yJx4a65c_get_915e3, Cond.selects RJx4a65c yJx4a65c_get_915e3 yJx4a65c_get_915e3, Cond.code yJx4a65c_get_915e3 cJx4a65c_get_915e3 2 (some (.object "java/lang/Object")), Cond.methodLink RJx4a65c 118 yJ15_checkIndex_7cf53, Cond.static yJ15_checkIndex_7cf53, Cond.initialized RJ15, Cond.code yJ15_checkIndex_7cf53 cJ15_checkIndex_7cf53 2 (some .int)]
def wsX3_freeCodes_r2 : List Cond := [Cond.methodLink RJ15 105 yJ3_checkIndex_8e157, Cond.static yJ3_checkIndex_8e157, Cond.initialized RJ3, Cond.code yJ3_checkIndex_8e157 cJ3_checkIndex_8e157 3 (some .int), Cond.methodLink RJx4a65c 123 yJx4a65c_elementData_915e3, Cond.instanceMethod yJx4a65c_elementData_915e3, Cond.selects RJx4a65c yJx4a65c_elementData_915e3 yJx4a65c_elementData_915e3, Cond.code yJx4a65c_elementData_915e3 cJx4a65c_elementData_915e3 2 (some (.object "java/lang/Object")), Cond.fieldLink RJx4a65c 9 "java/util/ArrayList" "elementData" "[Ljava/lang/Object;"]
def wsX3_freeCodes : List Cond := .code yX3_freeCodes cX3_freeCodes 3 (some .int) :: ((wsX3_freeCodes_r1 ++ wsX3_freeCodes_r2) ++ wsX30 ++ wsX00 ++ wsX10 ++ wsJx4a65c0)
def wsX3_count_r1 : List Cond := [Cond.classLink RX3 106 "java/lang/IndexOutOfBoundsException", Cond.initialized "java/lang/IndexOutOfBoundsException", Cond.fieldLink RX3 12 "FlagChips" "codes" "LFlagChips$Codes;", Cond.fieldLink RX3 39 "FlagChips$Codes" "length" "I", Cond.fieldLink RX3 28 "FlagChips" "hills" "Ljava/util/ArrayList;", Cond.fieldLink RX3 21 "FlagChips" "sky" "LFlagChips$Sky;", Cond.methodLink RX3 56 yJx4a65c_size_8abf5, Cond.instanceMethod yJx4a65c_size_8abf5, Cond.selects RJx4a65c yJx4a65c_size_8abf5 yJx4a65c_size_8abf5, Cond.initialized RJx4a65c, Cond.code yJx4a65c_size_8abf5 cJx4a65c_size_8abf5 1 (some .int), Cond.fieldLink RJx4a65c 48 "java/util/ArrayList" "size" "I", Cond.methodLink RX3 167 yX3_allWords, Cond.instanceMethod yX3_allWords, Cond.selects RX3 yX3_allWords yX3_allWords, Cond.initialized RX3, Cond.code yX3_allWords cX3_allWords 3 (some .int), Cond.classLink RX3 65 "FlagChips$Hill", Cond.fieldLink RX3 86 "FlagChips$Hill" "said" "I", Cond.methodLink RX3 219 yJx4a65c_get_915e3, Cond.instanceMethod yJx4a65c_get_915e3, Cond.selects RJx4a65c yJx4a65c_get_915e3 yJx4a65c_get_915e3, Cond.code yJx4a65c_get_915e3 cJx4a65c_get_915e3 2 (some (.object "java/lang/Object")), Cond.methodLink RJx4a65c 118 yJ15_checkIndex_7cf53]
def wsX3_count_r2 : List Cond := [Cond.static yJ15_checkIndex_7cf53, Cond.initialized RJ15, Cond.code yJ15_checkIndex_7cf53 cJ15_checkIndex_7cf53 2 (some .int), Cond.methodLink RJ15 105 yJ3_checkIndex_8e157, Cond.static yJ3_checkIndex_8e157, Cond.initialized RJ3, Cond.code yJ3_checkIndex_8e157 cJ3_checkIndex_8e157 3 (some .int), Cond.methodLink RJx4a65c 123 yJx4a65c_elementData_915e3, Cond.instanceMethod yJx4a65c_elementData_915e3, Cond.selects RJx4a65c yJx4a65c_elementData_915e3 yJx4a65c_elementData_915e3, Cond.code yJx4a65c_elementData_915e3 cJx4a65c_elementData_915e3 2 (some (.object "java/lang/Object")), Cond.fieldLink RJx4a65c 9 "java/util/ArrayList" "elementData" "[Ljava/lang/Object;", Cond.methodLink RX3 170 yX3_allWrongWords, Cond.instanceMethod yX3_allWrongWords, Cond.selects RX3 yX3_allWrongWords yX3_allWrongWords, Cond.code yX3_allWrongWords cX3_allWrongWords 3 (some .int), Cond.methodLink RX3 155 yX2_wrongWords, Cond.instanceMethod yX2_wrongWords, Cond.selects RX2 yX2_wrongWords yX2_wrongWords, Cond.initialized RX2, Cond.code yX2_wrongWords cX2_wrongWords 4 (some .int), Cond.fieldLink RX2 28 "FlagChips$Hill" "said" "I", Cond.methodLink RX2 63 yX2_heardWord, Cond.instanceMethod yX2_heardWord]
def wsX3_count_r3 : List Cond := [Cond.selects RX2 yX2_heardWord yX2_heardWord, Cond.code yX2_heardWord cX2_heardWord 3 (some .int), Cond.fieldLink RX2 51 "FlagChips$Hill" "code" "I", Cond.fieldLink RX2 18 "FlagChips$Sky" "codes" "LFlagChips$Codes;", Cond.fieldLink RX2 42 "FlagChips$Codes" "length" "I", Cond.methodLink RX2 47 yX1_start, Cond.instanceMethod yX1_start, Cond.selects RX1 yX1_start yX1_start, Cond.initialized RX1, Cond.code yX1_start cX1_start 3 (some .int), Cond.fieldLink RX1 9 "FlagChips$Hill" "delay" "I", Cond.methodLink RX2 60 yX2_heard, Cond.instanceMethod yX2_heard, Cond.selects RX2 yX2_heard yX2_heard, Cond.code yX2_heard cX2_heard 5 (some .int), Cond.methodLink RX2 57 yX2_at, Cond.instanceMethod yX2_at, Cond.selects RX2 yX2_at yX2_at, Cond.code yX2_at cX2_at 3 (some .int), Cond.fieldLink RX2 9 "FlagChips$Sky" "storms" "[I", Cond.fieldLink RX2 15 "FlagChips$Sky" "signals" "[I", Cond.methodLink RX2 54 yX0_chipAt, Cond.instanceMethod yX0_chipAt, Cond.selects RX0 yX0_chipAt yX0_chipAt]
def wsX3_count_r4 : List Cond := [Cond.initialized RX0, Cond.code yX0_chipAt cX0_chipAt 3 (some .int), Cond.methodLink RX0 15 yJ6_bitCount_0f7a4, Cond.static yJ6_bitCount_0f7a4, Cond.initialized RJ6, Cond.code yJ6_bitCount_0f7a4 cJ6_bitCount_0f7a4 1 (some .int), Cond.constant RJ6 265 (1431655765), Cond.constant RJ6 266 (858993459), Cond.constant RJ6 267 (252645135), Cond.methodLink RX2 67 yX1_isWrong, Cond.instanceMethod yX1_isWrong, Cond.selects RX1 yX1_isWrong yX1_isWrong, Cond.code yX1_isWrong cX1_isWrong 3 (some .boolean), Cond.methodLink RX1 32 yX1_wordAt, Cond.instanceMethod yX1_wordAt, Cond.selects RX1 yX1_wordAt yX1_wordAt, Cond.code yX1_wordAt cX1_wordAt 2 (some .int), Cond.fieldLink RX1 18 "FlagChips$Hill" "words" "[I", Cond.methodLink RX3 173 yX3_endOfAll, Cond.instanceMethod yX3_endOfAll, Cond.selects RX3 yX3_endOfAll yX3_endOfAll, Cond.code yX3_endOfAll cX3_endOfAll 3 (some .int), Cond.methodLink RX3 231 Lib.Math.max.name, Cond.static Lib.Math.max.name]
def wsX3_count_r5 : List Cond := [Cond.initialized "java/lang/Math", Cond.code Lib.Math.max.name Lib.Math.max.code 2 (some .int), Cond.methodLink RX3 159 yX1_end, Cond.instanceMethod yX1_end, Cond.selects RX1 yX1_end yX1_end, Cond.code yX1_end cX1_end 2 (some .int), Cond.fieldLink RX1 15 "FlagChips$Hill" "said" "I", Cond.methodLink RX1 36 yX1_start, Cond.methodLink RX3 176 yX2_highest, Cond.instanceMethod yX2_highest, Cond.selects RX2 yX2_highest yX2_highest, Cond.code yX2_highest cX2_highest 4 (some .int), Cond.methodLink RX2 71 Lib.Math.abs.name, Cond.static Lib.Math.abs.name, Cond.code Lib.Math.abs.name Lib.Math.abs.code 1 (some .int), Cond.methodLink RX2 76 Lib.Math.max.name, Cond.methodLink RX3 179 yX3_freeCodes, Cond.instanceMethod yX3_freeCodes, Cond.selects RX3 yX3_freeCodes yX3_freeCodes, Cond.code yX3_freeCodes cX3_freeCodes 3 (some .int), Cond.methodLink RX3 188 yX3_isTaken, Cond.instanceMethod yX3_isTaken, Cond.selects RX3 yX3_isTaken yX3_isTaken, Cond.code yX3_isTaken cX3_isTaken 3 (some .boolean)]
def wsX3_count_r6 : List Cond := [Cond.fieldLink RX3 152 "FlagChips$Hill" "code" "I"]
def wsX3_count : List Cond := .code yX3_count cX3_count 2 (some .int) :: ((wsX3_count_r1 ++ (wsX3_count_r2 ++ (wsX3_count_r3 ++ (wsX3_count_r4 ++ (wsX3_count_r5 ++ wsX3_count_r6))))) ++ wsX30 ++ wsX00 ++ wsJx4a65c0 ++ wsX10 ++ wsX20 ++ (vx_atS RX3 110 "java/lang/IndexOutOfBoundsException" ["java/lang/RuntimeException", "java/lang/Exception"]).filter goodWord)
def wsX3_alike_r1 : List Cond := [Cond.classLink RX3 32 "java/lang/IllegalArgumentException", Cond.initialized "java/lang/IllegalArgumentException", Cond.fieldLink RX3 12 "FlagChips" "codes" "LFlagChips$Codes;", Cond.methodLink RX3 49 yX3_checkCode, Cond.instanceMethod yX3_checkCode, Cond.selects RX3 yX3_checkCode yX3_checkCode, Cond.initialized RX3, Cond.code yX3_checkCode cX3_checkCode 2 none, Cond.classLink RX3 106 "java/lang/IndexOutOfBoundsException", Cond.initialized "java/lang/IndexOutOfBoundsException", Cond.methodLink RX3 117 yX0_has, Cond.instanceMethod yX0_has, Cond.selects RX0 yX0_has yX0_has, Cond.initialized RX0, Cond.code yX0_has cX0_has 2 (some .boolean), Cond.fieldLink RX0 9 "FlagChips$Codes" "length" "I", Cond.methodLink RX3 184 yX0_likeness, Cond.instanceMethod yX0_likeness, Cond.selects RX0 yX0_likeness yX0_likeness, Cond.code yX0_likeness cX0_likeness 7 (some .int), Cond.methodLink RX0 25 Lib.Math.abs.name, Cond.static Lib.Math.abs.name, Cond.initialized "java/lang/Math", Cond.code Lib.Math.abs.name Lib.Math.abs.code 1 (some .int)]
def wsX3_alike_r2 : List Cond := [Cond.methodLink RX0 21 yX0_chipAt, Cond.instanceMethod yX0_chipAt, Cond.selects RX0 yX0_chipAt yX0_chipAt, Cond.code yX0_chipAt cX0_chipAt 3 (some .int), Cond.methodLink RX0 15 yJ6_bitCount_0f7a4, Cond.static yJ6_bitCount_0f7a4, Cond.initialized RJ6, Cond.code yJ6_bitCount_0f7a4 cJ6_bitCount_0f7a4 1 (some .int), Cond.constant RJ6 265 (1431655765), Cond.constant RJ6 266 (858993459), Cond.constant RJ6 267 (252645135)]
def wsX3_alike : List Cond := .code yX3_alike cX3_alike 4 (some .int) :: ((wsX3_alike_r1 ++ wsX3_alike_r2) ++ wsX30 ++ wsX00 ++ (vx_atS RX3 36 "java/lang/IllegalArgumentException" ["java/lang/RuntimeException", "java/lang/Exception"]).filter goodWord ++ (vx_atS RX3 110 "java/lang/IndexOutOfBoundsException" ["java/lang/RuntimeException", "java/lang/Exception"]).filter goodWord)
def wsX3_shift_r1 : List Cond := [Cond.fieldLink RX3 12 "FlagChips" "codes" "LFlagChips$Codes;", Cond.fieldLink RX3 39 "FlagChips$Codes" "length" "I", Cond.methodLink RX3 49 yX3_checkCode, Cond.instanceMethod yX3_checkCode, Cond.selects RX3 yX3_checkCode yX3_checkCode, Cond.initialized RX3, Cond.code yX3_checkCode cX3_checkCode 2 none, Cond.classLink RX3 106 "java/lang/IndexOutOfBoundsException", Cond.initialized "java/lang/IndexOutOfBoundsException", Cond.methodLink RX3 117 yX0_has, Cond.instanceMethod yX0_has, Cond.selects RX0 yX0_has yX0_has, Cond.initialized RX0, Cond.code yX0_has cX0_has 2 (some .boolean), Cond.fieldLink RX0 9 "FlagChips$Codes" "length" "I", Cond.methodLink RX3 184 yX0_likeness, Cond.instanceMethod yX0_likeness, Cond.selects RX0 yX0_likeness yX0_likeness, Cond.code yX0_likeness cX0_likeness 7 (some .int), Cond.methodLink RX0 25 Lib.Math.abs.name, Cond.static Lib.Math.abs.name, Cond.initialized "java/lang/Math", Cond.code Lib.Math.abs.name Lib.Math.abs.code 1 (some .int), Cond.methodLink RX0 21 yX0_chipAt]
def wsX3_shift_r2 : List Cond := [Cond.instanceMethod yX0_chipAt, Cond.selects RX0 yX0_chipAt yX0_chipAt, Cond.code yX0_chipAt cX0_chipAt 3 (some .int), Cond.methodLink RX0 15 yJ6_bitCount_0f7a4, Cond.static yJ6_bitCount_0f7a4, Cond.initialized RJ6, Cond.code yJ6_bitCount_0f7a4 cJ6_bitCount_0f7a4 1 (some .int), Cond.constant RJ6 265 (1431655765), Cond.constant RJ6 266 (858993459), Cond.constant RJ6 267 (252645135)]
def wsX3_shift : List Cond := .code yX3_shift cX3_shift 7 (some .int) :: ((wsX3_shift_r1 ++ wsX3_shift_r2) ++ wsX30 ++ wsX00 ++ (vx_atS RX3 110 "java/lang/IndexOutOfBoundsException" ["java/lang/RuntimeException", "java/lang/Exception"]).filter goodWord)
def wsX3_likenessToAll_r1 : List Cond := [Cond.fieldLink RX3 28 "FlagChips" "hills" "Ljava/util/ArrayList;", Cond.classLink RX3 65 "FlagChips$Hill", Cond.fieldLink RX3 103 "FlagChips$Hill" "delay" "I", Cond.fieldLink RX3 12 "FlagChips" "codes" "LFlagChips$Codes;", Cond.fieldLink RX3 39 "FlagChips$Codes" "length" "I", Cond.fieldLink RX3 89 "FlagChips$Hill" "strength" "I", Cond.fieldLink RX3 152 "FlagChips$Hill" "code" "I", Cond.methodLink RX3 56 yJx4a65c_size_8abf5, Cond.instanceMethod yJx4a65c_size_8abf5, Cond.selects RJx4a65c yJx4a65c_size_8abf5 yJx4a65c_size_8abf5, Cond.initialized RJx4a65c, Cond.code yJx4a65c_size_8abf5 cJx4a65c_size_8abf5 1 (some .int), Cond.fieldLink RJx4a65c 48 "java/util/ArrayList" "size" "I", Cond.methodLink RX3 219 yJx4a65c_get_915e3, Cond.instanceMethod yJx4a65c_get_915e3, Cond.selects RJx4a65c yJx4a65c_get_915e3 yJx4a65c_get_915e3, Cond.code yJx4a65c_get_915e3 cJx4a65c_get_915e3 2 (some (.object "java/lang/Object")), Cond.methodLink RJx4a65c 118 yJ15_checkIndex_7cf53, Cond.static yJ15_checkIndex_7cf53, Cond.initialized RJ15, Cond.code yJ15_checkIndex_7cf53 cJ15_checkIndex_7cf53 2 (some .int), Cond.methodLink RJ15 105 yJ3_checkIndex_8e157, Cond.static yJ3_checkIndex_8e157, Cond.initialized RJ3]
def wsX3_likenessToAll_r2 : List Cond := [Cond.code yJ3_checkIndex_8e157 cJ3_checkIndex_8e157 3 (some .int), Cond.methodLink RJx4a65c 123 yJx4a65c_elementData_915e3, Cond.instanceMethod yJx4a65c_elementData_915e3, Cond.selects RJx4a65c yJx4a65c_elementData_915e3 yJx4a65c_elementData_915e3, Cond.code yJx4a65c_elementData_915e3 cJx4a65c_elementData_915e3 2 (some (.object "java/lang/Object")), Cond.fieldLink RJx4a65c 9 "java/util/ArrayList" "elementData" "[Ljava/lang/Object;", Cond.methodLink RX3 184 yX0_likeness, Cond.instanceMethod yX0_likeness, Cond.selects RX0 yX0_likeness yX0_likeness, Cond.initialized RX0, Cond.code yX0_likeness cX0_likeness 7 (some .int), Cond.fieldLink RX0 9 "FlagChips$Codes" "length" "I", Cond.methodLink RX0 25 Lib.Math.abs.name, Cond.static Lib.Math.abs.name, Cond.initialized "java/lang/Math", Cond.code Lib.Math.abs.name Lib.Math.abs.code 1 (some .int), Cond.methodLink RX0 21 yX0_chipAt, Cond.instanceMethod yX0_chipAt, Cond.selects RX0 yX0_chipAt yX0_chipAt, Cond.code yX0_chipAt cX0_chipAt 3 (some .int), Cond.methodLink RX0 15 yJ6_bitCount_0f7a4, Cond.static yJ6_bitCount_0f7a4, Cond.initialized RJ6, Cond.code yJ6_bitCount_0f7a4 cJ6_bitCount_0f7a4 1 (some .int)]
def wsX3_likenessToAll_r3 : List Cond := [Cond.constant RJ6 265 (1431655765), Cond.constant RJ6 266 (858993459), Cond.constant RJ6 267 (252645135)]
def wsX3_likenessToAll : List Cond := .code yX3_likenessToAll cX3_likenessToAll 7 (some .int) :: ((wsX3_likenessToAll_r1 ++ (wsX3_likenessToAll_r2 ++ wsX3_likenessToAll_r3)) ++ wsX30 ++ wsX10 ++ wsX00 ++ wsJx4a65c0)
def wsX3_advise_r1 : List Cond := [Cond.fieldLink RX3 12 "FlagChips" "codes" "LFlagChips$Codes;", Cond.fieldLink RX3 39 "FlagChips$Codes" "length" "I", Cond.methodLink RX3 100 yX3_checkDelay, Cond.instanceMethod yX3_checkDelay, Cond.selects RX3 yX3_checkDelay yX3_checkDelay, Cond.initialized RX3, Cond.code yX3_checkDelay cX3_checkDelay 2 none, Cond.classLink RX3 32 "java/lang/IllegalArgumentException", Cond.initialized "java/lang/IllegalArgumentException", Cond.methodLink RX3 188 yX3_isTaken, Cond.instanceMethod yX3_isTaken, Cond.selects RX3 yX3_isTaken yX3_isTaken, Cond.code yX3_isTaken cX3_isTaken 3 (some .boolean), Cond.fieldLink RX3 28 "FlagChips" "hills" "Ljava/util/ArrayList;", Cond.classLink RX3 65 "FlagChips$Hill", Cond.fieldLink RX3 152 "FlagChips$Hill" "code" "I", Cond.methodLink RX3 56 yJx4a65c_size_8abf5, Cond.instanceMethod yJx4a65c_size_8abf5, Cond.selects RJx4a65c yJx4a65c_size_8abf5 yJx4a65c_size_8abf5, Cond.initialized RJx4a65c, Cond.code yJx4a65c_size_8abf5 cJx4a65c_size_8abf5 1 (some .int), Cond.fieldLink RJx4a65c 48 "java/util/ArrayList" "size" "I", Cond.methodLink RX3 219 yJx4a65c_get_915e3, Cond.instanceMethod yJx4a65c_get_915e3]
def wsX3_advise_r2 : List Cond := [Cond.selects RJx4a65c yJx4a65c_get_915e3 yJx4a65c_get_915e3, Cond.code yJx4a65c_get_915e3 cJx4a65c_get_915e3 2 (some (.object "java/lang/Object")), Cond.methodLink RJx4a65c 118 yJ15_checkIndex_7cf53, Cond.static yJ15_checkIndex_7cf53, Cond.initialized RJ15, Cond.code yJ15_checkIndex_7cf53 cJ15_checkIndex_7cf53 2 (some .int), Cond.methodLink RJ15 105 yJ3_checkIndex_8e157, Cond.static yJ3_checkIndex_8e157, Cond.initialized RJ3, Cond.code yJ3_checkIndex_8e157 cJ3_checkIndex_8e157 3 (some .int), Cond.methodLink RJx4a65c 123 yJx4a65c_elementData_915e3, Cond.instanceMethod yJx4a65c_elementData_915e3, Cond.selects RJx4a65c yJx4a65c_elementData_915e3 yJx4a65c_elementData_915e3, Cond.code yJx4a65c_elementData_915e3 cJx4a65c_elementData_915e3 2 (some (.object "java/lang/Object")), Cond.fieldLink RJx4a65c 9 "java/util/ArrayList" "elementData" "[Ljava/lang/Object;", Cond.methodLink RX3 191 yX3_likenessToAll, Cond.instanceMethod yX3_likenessToAll, Cond.selects RX3 yX3_likenessToAll yX3_likenessToAll, Cond.code yX3_likenessToAll cX3_likenessToAll 7 (some .int), Cond.fieldLink RX3 103 "FlagChips$Hill" "delay" "I", Cond.fieldLink RX3 89 "FlagChips$Hill" "strength" "I", Cond.methodLink RX3 184 yX0_likeness, Cond.instanceMethod yX0_likeness, Cond.selects RX0 yX0_likeness yX0_likeness]
def wsX3_advise_r3 : List Cond := [Cond.initialized RX0, Cond.code yX0_likeness cX0_likeness 7 (some .int), Cond.fieldLink RX0 9 "FlagChips$Codes" "length" "I", Cond.methodLink RX0 25 Lib.Math.abs.name, Cond.static Lib.Math.abs.name, Cond.initialized "java/lang/Math", Cond.code Lib.Math.abs.name Lib.Math.abs.code 1 (some .int), Cond.methodLink RX0 21 yX0_chipAt, Cond.instanceMethod yX0_chipAt, Cond.selects RX0 yX0_chipAt yX0_chipAt, Cond.code yX0_chipAt cX0_chipAt 3 (some .int), Cond.methodLink RX0 15 yJ6_bitCount_0f7a4, Cond.static yJ6_bitCount_0f7a4, Cond.initialized RJ6, Cond.code yJ6_bitCount_0f7a4 cJ6_bitCount_0f7a4 1 (some .int), Cond.constant RJ6 265 (1431655765), Cond.constant RJ6 266 (858993459), Cond.constant RJ6 267 (252645135)]
def wsX3_advise : List Cond := .code yX3_advise cX3_advise 6 (some .int) :: ((wsX3_advise_r1 ++ (wsX3_advise_r2 ++ wsX3_advise_r3)) ++ wsX30 ++ wsX00 ++ wsX10 ++ wsJx4a65c0 ++ (vx_atS RX3 36 "java/lang/IllegalArgumentException" ["java/lang/RuntimeException", "java/lang/Exception"]).filter goodWord)
def wsX3_wrongWordsWith_r1 : List Cond := [Cond.fieldLink RX3 89 "FlagChips$Hill" "strength" "I", Cond.fieldLink RX3 21 "FlagChips" "sky" "LFlagChips$Sky;", Cond.methodLink RX3 96 yX2_addWords, Cond.instanceMethod yX2_addWords, Cond.selects RX2 yX2_addWords yX2_addWords, Cond.initialized RX2, Cond.code yX2_addWords cX2_addWords 4 none, Cond.fieldLink RX2 28 "FlagChips$Hill" "said" "I", Cond.methodLink RX2 34 yX2_addWord, Cond.instanceMethod yX2_addWord, Cond.selects RX2 yX2_addWord yX2_addWord, Cond.code yX2_addWord cX2_addWord 8 none, Cond.fieldLink RX2 18 "FlagChips$Sky" "codes" "LFlagChips$Codes;", Cond.fieldLink RX2 42 "FlagChips$Codes" "length" "I", Cond.fieldLink RX2 15 "FlagChips$Sky" "signals" "[I", Cond.fieldLink RX2 51 "FlagChips$Hill" "code" "I", Cond.methodLink RX2 38 yX1_wordAt, Cond.instanceMethod yX1_wordAt, Cond.selects RX1 yX1_wordAt yX1_wordAt, Cond.initialized RX1, Cond.code yX1_wordAt cX1_wordAt 2 (some .int), Cond.fieldLink RX1 18 "FlagChips$Hill" "words" "[I", Cond.methodLink RX2 47 yX1_start, Cond.instanceMethod yX1_start]
def wsX3_wrongWordsWith_r2 : List Cond := [Cond.selects RX1 yX1_start yX1_start, Cond.code yX1_start cX1_start 3 (some .int), Cond.fieldLink RX1 9 "FlagChips$Hill" "delay" "I", Cond.methodLink RX2 54 yX0_chipAt, Cond.instanceMethod yX0_chipAt, Cond.selects RX0 yX0_chipAt yX0_chipAt, Cond.initialized RX0, Cond.code yX0_chipAt cX0_chipAt 3 (some .int), Cond.methodLink RX0 15 yJ6_bitCount_0f7a4, Cond.static yJ6_bitCount_0f7a4, Cond.initialized RJ6, Cond.code yJ6_bitCount_0f7a4 cJ6_bitCount_0f7a4 1 (some .int), Cond.constant RJ6 265 (1431655765), Cond.constant RJ6 266 (858993459), Cond.constant RJ6 267 (252645135), Cond.methodLink RX3 170 yX3_allWrongWords, Cond.instanceMethod yX3_allWrongWords, Cond.selects RX3 yX3_allWrongWords yX3_allWrongWords, Cond.initialized RX3, Cond.code yX3_allWrongWords cX3_allWrongWords 3 (some .int), Cond.fieldLink RX3 28 "FlagChips" "hills" "Ljava/util/ArrayList;", Cond.classLink RX3 65 "FlagChips$Hill", Cond.methodLink RX3 56 yJx4a65c_size_8abf5, Cond.instanceMethod yJx4a65c_size_8abf5]
def wsX3_wrongWordsWith_r3 : List Cond := [Cond.selects RJx4a65c yJx4a65c_size_8abf5 yJx4a65c_size_8abf5, Cond.initialized RJx4a65c, Cond.code yJx4a65c_size_8abf5 cJx4a65c_size_8abf5 1 (some .int), Cond.fieldLink RJx4a65c 48 "java/util/ArrayList" "size" "I", Cond.methodLink RX3 219 yJx4a65c_get_915e3, Cond.instanceMethod yJx4a65c_get_915e3, Cond.selects RJx4a65c yJx4a65c_get_915e3 yJx4a65c_get_915e3, Cond.code yJx4a65c_get_915e3 cJx4a65c_get_915e3 2 (some (.object "java/lang/Object")), Cond.methodLink RJx4a65c 118 yJ15_checkIndex_7cf53, Cond.static yJ15_checkIndex_7cf53, Cond.initialized RJ15, Cond.code yJ15_checkIndex_7cf53 cJ15_checkIndex_7cf53 2 (some .int), Cond.methodLink RJ15 105 yJ3_checkIndex_8e157, Cond.static yJ3_checkIndex_8e157, Cond.initialized RJ3, Cond.code yJ3_checkIndex_8e157 cJ3_checkIndex_8e157 3 (some .int), Cond.methodLink RJx4a65c 123 yJx4a65c_elementData_915e3, Cond.instanceMethod yJx4a65c_elementData_915e3, Cond.selects RJx4a65c yJx4a65c_elementData_915e3 yJx4a65c_elementData_915e3, Cond.code yJx4a65c_elementData_915e3 cJx4a65c_elementData_915e3 2 (some (.object "java/lang/Object")), Cond.fieldLink RJx4a65c 9 "java/util/ArrayList" "elementData" "[Ljava/lang/Object;", Cond.methodLink RX3 155 yX2_wrongWords, Cond.instanceMethod yX2_wrongWords, Cond.selects RX2 yX2_wrongWords yX2_wrongWords]
def wsX3_wrongWordsWith_r4 : List Cond := [Cond.code yX2_wrongWords cX2_wrongWords 4 (some .int), Cond.methodLink RX2 63 yX2_heardWord, Cond.instanceMethod yX2_heardWord, Cond.selects RX2 yX2_heardWord yX2_heardWord, Cond.code yX2_heardWord cX2_heardWord 3 (some .int), Cond.methodLink RX2 60 yX2_heard, Cond.instanceMethod yX2_heard, Cond.selects RX2 yX2_heard yX2_heard, Cond.code yX2_heard cX2_heard 5 (some .int), Cond.methodLink RX2 57 yX2_at, Cond.instanceMethod yX2_at, Cond.selects RX2 yX2_at yX2_at, Cond.code yX2_at cX2_at 3 (some .int), Cond.fieldLink RX2 9 "FlagChips$Sky" "storms" "[I", Cond.methodLink RX2 67 yX1_isWrong, Cond.instanceMethod yX1_isWrong, Cond.selects RX1 yX1_isWrong yX1_isWrong, Cond.code yX1_isWrong cX1_isWrong 3 (some .boolean), Cond.methodLink RX1 32 yX1_wordAt]
def wsX3_wrongWordsWith : List Cond := .code yX3_wrongWordsWith cX3_wrongWordsWith 5 (some .int) :: ((wsX3_wrongWordsWith_r1 ++ (wsX3_wrongWordsWith_r2 ++ (wsX3_wrongWordsWith_r3 ++ wsX3_wrongWordsWith_r4))) ++ wsX10 ++ wsX30 ++ wsX20 ++ wsX00 ++ wsJx4a65c0)
def wsX3_would_r1 : List Cond := [Cond.methodLink RX3 74 yX3_hillAt, Cond.instanceMethod yX3_hillAt, Cond.selects RX3 yX3_hillAt yX3_hillAt, Cond.initialized RX3, Cond.code yX3_hillAt cX3_hillAt 2 (some (.object "FlagChips$Hill")), Cond.classLink RX3 106 "java/lang/IndexOutOfBoundsException", Cond.initialized "java/lang/IndexOutOfBoundsException", Cond.fieldLink RX3 28 "FlagChips" "hills" "Ljava/util/ArrayList;", Cond.classLink RX3 65 "FlagChips$Hill", Cond.methodLink RX3 56 yJx4a65c_size_8abf5, Cond.instanceMethod yJx4a65c_size_8abf5, Cond.selects RJx4a65c yJx4a65c_size_8abf5 yJx4a65c_size_8abf5, Cond.initialized RJx4a65c, Cond.code yJx4a65c_size_8abf5 cJx4a65c_size_8abf5 1 (some .int), Cond.fieldLink RJx4a65c 48 "java/util/ArrayList" "size" "I", Cond.methodLink RX3 219 yJx4a65c_get_915e3, Cond.instanceMethod yJx4a65c_get_915e3, Cond.selects RJx4a65c yJx4a65c_get_915e3 yJx4a65c_get_915e3, Cond.code yJx4a65c_get_915e3 cJx4a65c_get_915e3 2 (some (.object "java/lang/Object")), Cond.methodLink RJx4a65c 118 yJ15_checkIndex_7cf53, Cond.static yJ15_checkIndex_7cf53, Cond.initialized RJ15, Cond.code yJ15_checkIndex_7cf53 cJ15_checkIndex_7cf53 2 (some .int), Cond.methodLink RJ15 105 yJ3_checkIndex_8e157]
def wsX3_would_r2 : List Cond := [Cond.static yJ3_checkIndex_8e157, Cond.initialized RJ3, Cond.code yJ3_checkIndex_8e157 cJ3_checkIndex_8e157 3 (some .int), Cond.methodLink RJx4a65c 123 yJx4a65c_elementData_915e3, Cond.instanceMethod yJx4a65c_elementData_915e3, Cond.selects RJx4a65c yJx4a65c_elementData_915e3 yJx4a65c_elementData_915e3, Cond.code yJx4a65c_elementData_915e3 cJx4a65c_elementData_915e3 2 (some (.object "java/lang/Object")), Cond.fieldLink RJx4a65c 9 "java/util/ArrayList" "elementData" "[Ljava/lang/Object;", Cond.methodLink RX3 53 yX3_checkStrength, Cond.instanceMethod yX3_checkStrength, Cond.selects RX3 yX3_checkStrength yX3_checkStrength, Cond.code yX3_checkStrength cX3_checkStrength 2 none, Cond.classLink RX3 32 "java/lang/IllegalArgumentException", Cond.initialized "java/lang/IllegalArgumentException", Cond.methodLink RX3 194 yX3_wrongWordsWith, Cond.instanceMethod yX3_wrongWordsWith, Cond.selects RX3 yX3_wrongWordsWith yX3_wrongWordsWith, Cond.code yX3_wrongWordsWith cX3_wrongWordsWith 5 (some .int), Cond.fieldLink RX3 89 "FlagChips$Hill" "strength" "I", Cond.fieldLink RX3 21 "FlagChips" "sky" "LFlagChips$Sky;", Cond.methodLink RX3 96 yX2_addWords, Cond.instanceMethod yX2_addWords, Cond.selects RX2 yX2_addWords yX2_addWords, Cond.initialized RX2]
def wsX3_would_r3 : List Cond := [Cond.code yX2_addWords cX2_addWords 4 none, Cond.fieldLink RX2 28 "FlagChips$Hill" "said" "I", Cond.methodLink RX2 34 yX2_addWord, Cond.instanceMethod yX2_addWord, Cond.selects RX2 yX2_addWord yX2_addWord, Cond.code yX2_addWord cX2_addWord 8 none, Cond.fieldLink RX2 18 "FlagChips$Sky" "codes" "LFlagChips$Codes;", Cond.fieldLink RX2 42 "FlagChips$Codes" "length" "I", Cond.fieldLink RX2 15 "FlagChips$Sky" "signals" "[I", Cond.fieldLink RX2 51 "FlagChips$Hill" "code" "I", Cond.methodLink RX2 38 yX1_wordAt, Cond.instanceMethod yX1_wordAt, Cond.selects RX1 yX1_wordAt yX1_wordAt, Cond.initialized RX1, Cond.code yX1_wordAt cX1_wordAt 2 (some .int), Cond.fieldLink RX1 18 "FlagChips$Hill" "words" "[I", Cond.methodLink RX2 47 yX1_start, Cond.instanceMethod yX1_start, Cond.selects RX1 yX1_start yX1_start, Cond.code yX1_start cX1_start 3 (some .int), Cond.fieldLink RX1 9 "FlagChips$Hill" "delay" "I", Cond.methodLink RX2 54 yX0_chipAt, Cond.instanceMethod yX0_chipAt, Cond.selects RX0 yX0_chipAt yX0_chipAt]
def wsX3_would_r4 : List Cond := [Cond.initialized RX0, Cond.code yX0_chipAt cX0_chipAt 3 (some .int), Cond.methodLink RX0 15 yJ6_bitCount_0f7a4, Cond.static yJ6_bitCount_0f7a4, Cond.initialized RJ6, Cond.code yJ6_bitCount_0f7a4 cJ6_bitCount_0f7a4 1 (some .int), Cond.constant RJ6 265 (1431655765), Cond.constant RJ6 266 (858993459), Cond.constant RJ6 267 (252645135), Cond.methodLink RX3 170 yX3_allWrongWords, Cond.instanceMethod yX3_allWrongWords, Cond.selects RX3 yX3_allWrongWords yX3_allWrongWords, Cond.code yX3_allWrongWords cX3_allWrongWords 3 (some .int), Cond.methodLink RX3 155 yX2_wrongWords, Cond.instanceMethod yX2_wrongWords, Cond.selects RX2 yX2_wrongWords yX2_wrongWords, Cond.code yX2_wrongWords cX2_wrongWords 4 (some .int), Cond.methodLink RX2 63 yX2_heardWord, Cond.instanceMethod yX2_heardWord, Cond.selects RX2 yX2_heardWord yX2_heardWord, Cond.code yX2_heardWord cX2_heardWord 3 (some .int), Cond.methodLink RX2 60 yX2_heard, Cond.instanceMethod yX2_heard, Cond.selects RX2 yX2_heard yX2_heard]
def wsX3_would_r5 : List Cond := [Cond.code yX2_heard cX2_heard 5 (some .int), Cond.methodLink RX2 57 yX2_at, Cond.instanceMethod yX2_at, Cond.selects RX2 yX2_at yX2_at, Cond.code yX2_at cX2_at 3 (some .int), Cond.fieldLink RX2 9 "FlagChips$Sky" "storms" "[I", Cond.methodLink RX2 67 yX1_isWrong, Cond.instanceMethod yX1_isWrong, Cond.selects RX1 yX1_isWrong yX1_isWrong, Cond.code yX1_isWrong cX1_isWrong 3 (some .boolean), Cond.methodLink RX1 32 yX1_wordAt]
def wsX3_would : List Cond := .code yX3_would cX3_would 4 (some .int) :: ((wsX3_would_r1 ++ (wsX3_would_r2 ++ (wsX3_would_r3 ++ (wsX3_would_r4 ++ wsX3_would_r5)))) ++ wsX30 ++ wsJx4a65c0 ++ wsX10 ++ wsX20 ++ wsX00 ++ (vx_atS RX3 110 "java/lang/IndexOutOfBoundsException" ["java/lang/RuntimeException", "java/lang/Exception"]).filter goodWord ++ (vx_atS RX3 36 "java/lang/IllegalArgumentException" ["java/lang/RuntimeException", "java/lang/Exception"]).filter goodWord)
def wsX3_tune_r1 : List Cond := [Cond.methodLink RX3 74 yX3_hillAt, Cond.instanceMethod yX3_hillAt, Cond.selects RX3 yX3_hillAt yX3_hillAt, Cond.initialized RX3, Cond.code yX3_hillAt cX3_hillAt 2 (some (.object "FlagChips$Hill")), Cond.classLink RX3 106 "java/lang/IndexOutOfBoundsException", Cond.initialized "java/lang/IndexOutOfBoundsException", Cond.fieldLink RX3 28 "FlagChips" "hills" "Ljava/util/ArrayList;", Cond.classLink RX3 65 "FlagChips$Hill", Cond.methodLink RX3 56 yJx4a65c_size_8abf5, Cond.instanceMethod yJx4a65c_size_8abf5, Cond.selects RJx4a65c yJx4a65c_size_8abf5 yJx4a65c_size_8abf5, Cond.initialized RJx4a65c, Cond.code yJx4a65c_size_8abf5 cJx4a65c_size_8abf5 1 (some .int), Cond.fieldLink RJx4a65c 48 "java/util/ArrayList" "size" "I", Cond.methodLink RX3 219 yJx4a65c_get_915e3, Cond.instanceMethod yJx4a65c_get_915e3, Cond.selects RJx4a65c yJx4a65c_get_915e3 yJx4a65c_get_915e3, Cond.code yJx4a65c_get_915e3 cJx4a65c_get_915e3 2 (some (.object "java/lang/Object")), Cond.methodLink RJx4a65c 118 yJ15_checkIndex_7cf53, Cond.static yJ15_checkIndex_7cf53, Cond.initialized RJ15, Cond.code yJ15_checkIndex_7cf53 cJ15_checkIndex_7cf53 2 (some .int), Cond.methodLink RJ15 105 yJ3_checkIndex_8e157]
def wsX3_tune_r2 : List Cond := [Cond.static yJ3_checkIndex_8e157, Cond.initialized RJ3, Cond.code yJ3_checkIndex_8e157 cJ3_checkIndex_8e157 3 (some .int), Cond.methodLink RJx4a65c 123 yJx4a65c_elementData_915e3, Cond.instanceMethod yJx4a65c_elementData_915e3, Cond.selects RJx4a65c yJx4a65c_elementData_915e3 yJx4a65c_elementData_915e3, Cond.code yJx4a65c_elementData_915e3 cJx4a65c_elementData_915e3 2 (some (.object "java/lang/Object")), Cond.fieldLink RJx4a65c 9 "java/util/ArrayList" "elementData" "[Ljava/lang/Object;", Cond.methodLink RX3 194 yX3_wrongWordsWith, Cond.instanceMethod yX3_wrongWordsWith, Cond.selects RX3 yX3_wrongWordsWith yX3_wrongWordsWith, Cond.code yX3_wrongWordsWith cX3_wrongWordsWith 5 (some .int), Cond.fieldLink RX3 89 "FlagChips$Hill" "strength" "I", Cond.fieldLink RX3 21 "FlagChips" "sky" "LFlagChips$Sky;", Cond.methodLink RX3 96 yX2_addWords, Cond.instanceMethod yX2_addWords, Cond.selects RX2 yX2_addWords yX2_addWords, Cond.initialized RX2, Cond.code yX2_addWords cX2_addWords 4 none, Cond.fieldLink RX2 28 "FlagChips$Hill" "said" "I", Cond.methodLink RX2 34 yX2_addWord, Cond.instanceMethod yX2_addWord, Cond.selects RX2 yX2_addWord yX2_addWord, Cond.code yX2_addWord cX2_addWord 8 none]
def wsX3_tune_r3 : List Cond := [Cond.fieldLink RX2 18 "FlagChips$Sky" "codes" "LFlagChips$Codes;", Cond.fieldLink RX2 42 "FlagChips$Codes" "length" "I", Cond.fieldLink RX2 15 "FlagChips$Sky" "signals" "[I", Cond.fieldLink RX2 51 "FlagChips$Hill" "code" "I", Cond.methodLink RX2 38 yX1_wordAt, Cond.instanceMethod yX1_wordAt, Cond.selects RX1 yX1_wordAt yX1_wordAt, Cond.initialized RX1, Cond.code yX1_wordAt cX1_wordAt 2 (some .int), Cond.fieldLink RX1 18 "FlagChips$Hill" "words" "[I", Cond.methodLink RX2 47 yX1_start, Cond.instanceMethod yX1_start, Cond.selects RX1 yX1_start yX1_start, Cond.code yX1_start cX1_start 3 (some .int), Cond.fieldLink RX1 9 "FlagChips$Hill" "delay" "I", Cond.methodLink RX2 54 yX0_chipAt, Cond.instanceMethod yX0_chipAt, Cond.selects RX0 yX0_chipAt yX0_chipAt, Cond.initialized RX0, Cond.code yX0_chipAt cX0_chipAt 3 (some .int), Cond.methodLink RX0 15 yJ6_bitCount_0f7a4, Cond.static yJ6_bitCount_0f7a4, Cond.initialized RJ6, Cond.code yJ6_bitCount_0f7a4 cJ6_bitCount_0f7a4 1 (some .int)]
def wsX3_tune_r4 : List Cond := [Cond.constant RJ6 265 (1431655765), Cond.constant RJ6 266 (858993459), Cond.constant RJ6 267 (252645135), Cond.methodLink RX3 170 yX3_allWrongWords, Cond.instanceMethod yX3_allWrongWords, Cond.selects RX3 yX3_allWrongWords yX3_allWrongWords, Cond.code yX3_allWrongWords cX3_allWrongWords 3 (some .int), Cond.methodLink RX3 155 yX2_wrongWords, Cond.instanceMethod yX2_wrongWords, Cond.selects RX2 yX2_wrongWords yX2_wrongWords, Cond.code yX2_wrongWords cX2_wrongWords 4 (some .int), Cond.methodLink RX2 63 yX2_heardWord, Cond.instanceMethod yX2_heardWord, Cond.selects RX2 yX2_heardWord yX2_heardWord, Cond.code yX2_heardWord cX2_heardWord 3 (some .int), Cond.methodLink RX2 60 yX2_heard, Cond.instanceMethod yX2_heard, Cond.selects RX2 yX2_heard yX2_heard, Cond.code yX2_heard cX2_heard 5 (some .int), Cond.methodLink RX2 57 yX2_at, Cond.instanceMethod yX2_at, Cond.selects RX2 yX2_at yX2_at, Cond.code yX2_at cX2_at 3 (some .int), Cond.fieldLink RX2 9 "FlagChips$Sky" "storms" "[I"]
def wsX3_tune_r5 : List Cond := [Cond.methodLink RX2 67 yX1_isWrong, Cond.instanceMethod yX1_isWrong, Cond.selects RX1 yX1_isWrong yX1_isWrong, Cond.code yX1_isWrong cX1_isWrong 3 (some .boolean), Cond.methodLink RX1 32 yX1_wordAt]
def wsX3_tune : List Cond := .code yX3_tune cX3_tune 7 (some .int) :: ((wsX3_tune_r1 ++ (wsX3_tune_r2 ++ (wsX3_tune_r3 ++ (wsX3_tune_r4 ++ wsX3_tune_r5)))) ++ wsX30 ++ wsJx4a65c0 ++ wsX10 ++ wsX20 ++ wsX00 ++ (vx_atS RX3 110 "java/lang/IndexOutOfBoundsException" ["java/lang/RuntimeException", "java/lang/Exception"]).filter goodWord)
def wsX3_mean_r1 : List Cond := [Cond.fieldLink RX3 21 "FlagChips" "sky" "LFlagChips$Sky;", Cond.methodLink RX3 173 yX3_endOfAll, Cond.instanceMethod yX3_endOfAll, Cond.selects RX3 yX3_endOfAll yX3_endOfAll, Cond.initialized RX3, Cond.code yX3_endOfAll cX3_endOfAll 3 (some .int), Cond.fieldLink RX3 28 "FlagChips" "hills" "Ljava/util/ArrayList;", Cond.classLink RX3 65 "FlagChips$Hill", Cond.fieldLink RX3 12 "FlagChips" "codes" "LFlagChips$Codes;", Cond.fieldLink RX3 39 "FlagChips$Codes" "length" "I", Cond.methodLink RX3 231 Lib.Math.max.name, Cond.static Lib.Math.max.name, Cond.initialized "java/lang/Math", Cond.code Lib.Math.max.name Lib.Math.max.code 2 (some .int), Cond.methodLink RX3 56 yJx4a65c_size_8abf5, Cond.instanceMethod yJx4a65c_size_8abf5, Cond.selects RJx4a65c yJx4a65c_size_8abf5 yJx4a65c_size_8abf5, Cond.initialized RJx4a65c, Cond.code yJx4a65c_size_8abf5 cJx4a65c_size_8abf5 1 (some .int), Cond.fieldLink RJx4a65c 48 "java/util/ArrayList" "size" "I", Cond.methodLink RX3 219 yJx4a65c_get_915e3, Cond.instanceMethod yJx4a65c_get_915e3, Cond.selects RJx4a65c yJx4a65c_get_915e3 yJx4a65c_get_915e3, Cond.code yJx4a65c_get_915e3 cJx4a65c_get_915e3 2 (some (.object "java/lang/Object"))]
def wsX3_mean_r2 : List Cond := [Cond.methodLink RJx4a65c 118 yJ15_checkIndex_7cf53, Cond.static yJ15_checkIndex_7cf53, Cond.initialized RJ15, Cond.code yJ15_checkIndex_7cf53 cJ15_checkIndex_7cf53 2 (some .int), Cond.methodLink RJ15 105 yJ3_checkIndex_8e157, Cond.static yJ3_checkIndex_8e157, Cond.initialized RJ3, Cond.code yJ3_checkIndex_8e157 cJ3_checkIndex_8e157 3 (some .int), Cond.methodLink RJx4a65c 123 yJx4a65c_elementData_915e3, Cond.instanceMethod yJx4a65c_elementData_915e3, Cond.selects RJx4a65c yJx4a65c_elementData_915e3 yJx4a65c_elementData_915e3, Cond.code yJx4a65c_elementData_915e3 cJx4a65c_elementData_915e3 2 (some (.object "java/lang/Object")), Cond.fieldLink RJx4a65c 9 "java/util/ArrayList" "elementData" "[Ljava/lang/Object;", Cond.methodLink RX3 159 yX1_end, Cond.instanceMethod yX1_end, Cond.selects RX1 yX1_end yX1_end, Cond.initialized RX1, Cond.code yX1_end cX1_end 2 (some .int), Cond.fieldLink RX1 15 "FlagChips$Hill" "said" "I", Cond.methodLink RX1 36 yX1_start, Cond.instanceMethod yX1_start, Cond.selects RX1 yX1_start yX1_start, Cond.code yX1_start cX1_start 3 (some .int), Cond.fieldLink RX1 9 "FlagChips$Hill" "delay" "I"]
def wsX3_mean_r3 : List Cond := [Cond.methodLink RX3 197 yX2_sum, Cond.instanceMethod yX2_sum, Cond.selects RX2 yX2_sum yX2_sum, Cond.initialized RX2, Cond.code yX2_sum cX2_sum 4 (some .int), Cond.methodLink RX2 57 yX2_at, Cond.instanceMethod yX2_at, Cond.selects RX2 yX2_at yX2_at, Cond.code yX2_at cX2_at 3 (some .int), Cond.fieldLink RX2 9 "FlagChips$Sky" "storms" "[I", Cond.fieldLink RX2 15 "FlagChips$Sky" "signals" "[I"]
def wsX3_mean : List Cond := .code yX3_mean cX3_mean 2 (some .double) :: ((wsX3_mean_r1 ++ (wsX3_mean_r2 ++ wsX3_mean_r3)) ++ wsX30 ++ wsX00 ++ wsJx4a65c0 ++ wsX10 ++ wsX20)
def wsX3_digestHill_r1 : List Cond := [Cond.constantLong RX3 202 (31), Cond.fieldLink RX3 86 "FlagChips$Hill" "said" "I", Cond.methodLink RX3 211 yX3_about, Cond.instanceMethod yX3_about, Cond.selects RX3 yX3_about yX3_about, Cond.initialized RX3, Cond.code yX3_about cX3_about 4 (some .int), Cond.classLink RX3 106 "java/lang/IndexOutOfBoundsException", Cond.initialized "java/lang/IndexOutOfBoundsException", Cond.fieldLink RX3 152 "FlagChips$Hill" "code" "I", Cond.fieldLink RX3 89 "FlagChips$Hill" "strength" "I", Cond.fieldLink RX3 103 "FlagChips$Hill" "delay" "I", Cond.fieldLink RX3 21 "FlagChips" "sky" "LFlagChips$Sky;", Cond.fieldLink RX3 12 "FlagChips" "codes" "LFlagChips$Codes;", Cond.fieldLink RX3 39 "FlagChips$Codes" "length" "I", Cond.methodLink RX3 74 yX3_hillAt, Cond.instanceMethod yX3_hillAt, Cond.selects RX3 yX3_hillAt yX3_hillAt, Cond.code yX3_hillAt cX3_hillAt 2 (some (.object "FlagChips$Hill")), Cond.fieldLink RX3 28 "FlagChips" "hills" "Ljava/util/ArrayList;", Cond.classLink RX3 65 "FlagChips$Hill", Cond.methodLink RX3 56 yJx4a65c_size_8abf5, Cond.instanceMethod yJx4a65c_size_8abf5, Cond.selects RJx4a65c yJx4a65c_size_8abf5 yJx4a65c_size_8abf5]
def wsX3_digestHill_r2 : List Cond := [Cond.initialized RJx4a65c, Cond.code yJx4a65c_size_8abf5 cJx4a65c_size_8abf5 1 (some .int), Cond.fieldLink RJx4a65c 48 "java/util/ArrayList" "size" "I", Cond.methodLink RX3 219 yJx4a65c_get_915e3, Cond.instanceMethod yJx4a65c_get_915e3, Cond.selects RJx4a65c yJx4a65c_get_915e3 yJx4a65c_get_915e3, Cond.code yJx4a65c_get_915e3 cJx4a65c_get_915e3 2 (some (.object "java/lang/Object")), Cond.methodLink RJx4a65c 118 yJ15_checkIndex_7cf53, Cond.static yJ15_checkIndex_7cf53, Cond.initialized RJ15, Cond.code yJ15_checkIndex_7cf53 cJ15_checkIndex_7cf53 2 (some .int), Cond.methodLink RJ15 105 yJ3_checkIndex_8e157, Cond.static yJ3_checkIndex_8e157, Cond.initialized RJ3, Cond.code yJ3_checkIndex_8e157 cJ3_checkIndex_8e157 3 (some .int), Cond.methodLink RJx4a65c 123 yJx4a65c_elementData_915e3, Cond.instanceMethod yJx4a65c_elementData_915e3, Cond.selects RJx4a65c yJx4a65c_elementData_915e3 yJx4a65c_elementData_915e3, Cond.code yJx4a65c_elementData_915e3 cJx4a65c_elementData_915e3 2 (some (.object "java/lang/Object")), Cond.fieldLink RJx4a65c 9 "java/util/ArrayList" "elementData" "[Ljava/lang/Object;", Cond.methodLink RX3 155 yX2_wrongWords, Cond.instanceMethod yX2_wrongWords, Cond.selects RX2 yX2_wrongWords yX2_wrongWords, Cond.initialized RX2]
def wsX3_digestHill_r3 : List Cond := [Cond.code yX2_wrongWords cX2_wrongWords 4 (some .int), Cond.fieldLink RX2 28 "FlagChips$Hill" "said" "I", Cond.methodLink RX2 63 yX2_heardWord, Cond.instanceMethod yX2_heardWord, Cond.selects RX2 yX2_heardWord yX2_heardWord, Cond.code yX2_heardWord cX2_heardWord 3 (some .int), Cond.fieldLink RX2 51 "FlagChips$Hill" "code" "I", Cond.fieldLink RX2 18 "FlagChips$Sky" "codes" "LFlagChips$Codes;", Cond.fieldLink RX2 42 "FlagChips$Codes" "length" "I", Cond.methodLink RX2 47 yX1_start, Cond.instanceMethod yX1_start, Cond.selects RX1 yX1_start yX1_start, Cond.initialized RX1, Cond.code yX1_start cX1_start 3 (some .int), Cond.fieldLink RX1 9 "FlagChips$Hill" "delay" "I", Cond.methodLink RX2 60 yX2_heard, Cond.instanceMethod yX2_heard, Cond.selects RX2 yX2_heard yX2_heard, Cond.code yX2_heard cX2_heard 5 (some .int), Cond.methodLink RX2 57 yX2_at, Cond.instanceMethod yX2_at, Cond.selects RX2 yX2_at yX2_at, Cond.code yX2_at cX2_at 3 (some .int), Cond.fieldLink RX2 9 "FlagChips$Sky" "storms" "[I"]
def wsX3_digestHill_r4 : List Cond := [Cond.fieldLink RX2 15 "FlagChips$Sky" "signals" "[I", Cond.methodLink RX2 54 yX0_chipAt, Cond.instanceMethod yX0_chipAt, Cond.selects RX0 yX0_chipAt yX0_chipAt, Cond.initialized RX0, Cond.code yX0_chipAt cX0_chipAt 3 (some .int), Cond.methodLink RX0 15 yJ6_bitCount_0f7a4, Cond.static yJ6_bitCount_0f7a4, Cond.initialized RJ6, Cond.code yJ6_bitCount_0f7a4 cJ6_bitCount_0f7a4 1 (some .int), Cond.constant RJ6 265 (1431655765), Cond.constant RJ6 266 (858993459), Cond.constant RJ6 267 (252645135), Cond.methodLink RX2 67 yX1_isWrong, Cond.instanceMethod yX1_isWrong, Cond.selects RX1 yX1_isWrong yX1_isWrong, Cond.code yX1_isWrong cX1_isWrong 3 (some .boolean), Cond.methodLink RX1 32 yX1_wordAt, Cond.instanceMethod yX1_wordAt, Cond.selects RX1 yX1_wordAt yX1_wordAt, Cond.code yX1_wordAt cX1_wordAt 2 (some .int), Cond.fieldLink RX1 18 "FlagChips$Hill" "words" "[I", Cond.methodLink RX3 159 yX1_end, Cond.instanceMethod yX1_end]
def wsX3_digestHill_r5 : List Cond := [Cond.selects RX1 yX1_end yX1_end, Cond.code yX1_end cX1_end 2 (some .int), Cond.fieldLink RX1 15 "FlagChips$Hill" "said" "I", Cond.methodLink RX1 36 yX1_start, Cond.methodLink RX3 162 yX2_faintest, Cond.instanceMethod yX2_faintest, Cond.selects RX2 yX2_faintest yX2_faintest, Cond.code yX2_faintest cX2_faintest 5 (some .int), Cond.methodLink RX2 71 Lib.Math.abs.name, Cond.static Lib.Math.abs.name, Cond.initialized "java/lang/Math", Cond.code Lib.Math.abs.name Lib.Math.abs.code 1 (some .int), Cond.methodLink RX3 214 yX3_word, Cond.instanceMethod yX3_word, Cond.selects RX3 yX3_word yX3_word, Cond.code yX3_word cX3_word 5 (some .int), Cond.methodLink RX3 139 yX1_wordAt, Cond.methodLink RX3 142 yX2_heardWord, Cond.methodLink RX3 146 yX1_isWrong]
def wsX3_digestHill : List Cond := .code yX3_digestHill cX3_digestHill 9 (some .long) :: ((wsX3_digestHill_r1 ++ (wsX3_digestHill_r2 ++ (wsX3_digestHill_r3 ++ (wsX3_digestHill_r4 ++ wsX3_digestHill_r5)))) ++ wsX10 ++ wsX30 ++ wsX00 ++ wsJx4a65c0 ++ wsX20 ++ (vx_atS RX3 110 "java/lang/IndexOutOfBoundsException" ["java/lang/RuntimeException", "java/lang/Exception"]).filter goodWord)
def wsX3_digest_r1 : List Cond := [Cond.constantLong RX3 200 (1621), Cond.constantLong RX3 202 (31), Cond.fieldLink RX3 21 "FlagChips" "sky" "LFlagChips$Sky;", Cond.fieldLink RX3 113 "FlagChips$Sky" "storms" "[I", Cond.fieldLink RX3 28 "FlagChips" "hills" "Ljava/util/ArrayList;", Cond.methodLink RX3 204 yX3_count, Cond.instanceMethod yX3_count, Cond.selects RX3 yX3_count yX3_count, Cond.initialized RX3, Cond.code yX3_count cX3_count 2 (some .int), Cond.classLink RX3 106 "java/lang/IndexOutOfBoundsException", Cond.initialized "java/lang/IndexOutOfBoundsException", Cond.fieldLink RX3 12 "FlagChips" "codes" "LFlagChips$Codes;", Cond.fieldLink RX3 39 "FlagChips$Codes" "length" "I", Cond.methodLink RX3 56 yJx4a65c_size_8abf5, Cond.instanceMethod yJx4a65c_size_8abf5, Cond.selects RJx4a65c yJx4a65c_size_8abf5 yJx4a65c_size_8abf5, Cond.initialized RJx4a65c, Cond.code yJx4a65c_size_8abf5 cJx4a65c_size_8abf5 1 (some .int), Cond.fieldLink RJx4a65c 48 "java/util/ArrayList" "size" "I", Cond.methodLink RX3 167 yX3_allWords, Cond.instanceMethod yX3_allWords, Cond.selects RX3 yX3_allWords yX3_allWords, Cond.code yX3_allWords cX3_allWords 3 (some .int)]
def wsX3_digest_r2 : List Cond := [Cond.classLink RX3 65 "FlagChips$Hill", Cond.fieldLink RX3 86 "FlagChips$Hill" "said" "I", Cond.methodLink RX3 219 yJx4a65c_get_915e3, Cond.instanceMethod yJx4a65c_get_915e3, Cond.selects RJx4a65c yJx4a65c_get_915e3 yJx4a65c_get_915e3, Cond.code yJx4a65c_get_915e3 cJx4a65c_get_915e3 2 (some (.object "java/lang/Object")), Cond.methodLink RJx4a65c 118 yJ15_checkIndex_7cf53, Cond.static yJ15_checkIndex_7cf53, Cond.initialized RJ15, Cond.code yJ15_checkIndex_7cf53 cJ15_checkIndex_7cf53 2 (some .int), Cond.methodLink RJ15 105 yJ3_checkIndex_8e157, Cond.static yJ3_checkIndex_8e157, Cond.initialized RJ3, Cond.code yJ3_checkIndex_8e157 cJ3_checkIndex_8e157 3 (some .int), Cond.methodLink RJx4a65c 123 yJx4a65c_elementData_915e3, Cond.instanceMethod yJx4a65c_elementData_915e3, Cond.selects RJx4a65c yJx4a65c_elementData_915e3 yJx4a65c_elementData_915e3, Cond.code yJx4a65c_elementData_915e3 cJx4a65c_elementData_915e3 2 (some (.object "java/lang/Object")), Cond.fieldLink RJx4a65c 9 "java/util/ArrayList" "elementData" "[Ljava/lang/Object;", Cond.methodLink RX3 170 yX3_allWrongWords, Cond.instanceMethod yX3_allWrongWords, Cond.selects RX3 yX3_allWrongWords yX3_allWrongWords, Cond.code yX3_allWrongWords cX3_allWrongWords 3 (some .int), Cond.methodLink RX3 155 yX2_wrongWords]
def wsX3_digest_r3 : List Cond := [Cond.instanceMethod yX2_wrongWords, Cond.selects RX2 yX2_wrongWords yX2_wrongWords, Cond.initialized RX2, Cond.code yX2_wrongWords cX2_wrongWords 4 (some .int), Cond.fieldLink RX2 28 "FlagChips$Hill" "said" "I", Cond.methodLink RX2 63 yX2_heardWord, Cond.instanceMethod yX2_heardWord, Cond.selects RX2 yX2_heardWord yX2_heardWord, Cond.code yX2_heardWord cX2_heardWord 3 (some .int), Cond.fieldLink RX2 51 "FlagChips$Hill" "code" "I", Cond.fieldLink RX2 18 "FlagChips$Sky" "codes" "LFlagChips$Codes;", Cond.fieldLink RX2 42 "FlagChips$Codes" "length" "I", Cond.methodLink RX2 47 yX1_start, Cond.instanceMethod yX1_start, Cond.selects RX1 yX1_start yX1_start, Cond.initialized RX1, Cond.code yX1_start cX1_start 3 (some .int), Cond.fieldLink RX1 9 "FlagChips$Hill" "delay" "I", Cond.methodLink RX2 60 yX2_heard, Cond.instanceMethod yX2_heard, Cond.selects RX2 yX2_heard yX2_heard, Cond.code yX2_heard cX2_heard 5 (some .int), Cond.methodLink RX2 57 yX2_at, Cond.instanceMethod yX2_at]
def wsX3_digest_r4 : List Cond := [Cond.selects RX2 yX2_at yX2_at, Cond.code yX2_at cX2_at 3 (some .int), Cond.fieldLink RX2 9 "FlagChips$Sky" "storms" "[I", Cond.fieldLink RX2 15 "FlagChips$Sky" "signals" "[I", Cond.methodLink RX2 54 yX0_chipAt, Cond.instanceMethod yX0_chipAt, Cond.selects RX0 yX0_chipAt yX0_chipAt, Cond.initialized RX0, Cond.code yX0_chipAt cX0_chipAt 3 (some .int), Cond.methodLink RX0 15 yJ6_bitCount_0f7a4, Cond.static yJ6_bitCount_0f7a4, Cond.initialized RJ6, Cond.code yJ6_bitCount_0f7a4 cJ6_bitCount_0f7a4 1 (some .int), Cond.constant RJ6 265 (1431655765), Cond.constant RJ6 266 (858993459), Cond.constant RJ6 267 (252645135), Cond.methodLink RX2 67 yX1_isWrong, Cond.instanceMethod yX1_isWrong, Cond.selects RX1 yX1_isWrong yX1_isWrong, Cond.code yX1_isWrong cX1_isWrong 3 (some .boolean), Cond.methodLink RX1 32 yX1_wordAt, Cond.instanceMethod yX1_wordAt, Cond.selects RX1 yX1_wordAt yX1_wordAt, Cond.code yX1_wordAt cX1_wordAt 2 (some .int)]
def wsX3_digest_r5 : List Cond := [Cond.fieldLink RX1 18 "FlagChips$Hill" "words" "[I", Cond.methodLink RX3 173 yX3_endOfAll, Cond.instanceMethod yX3_endOfAll, Cond.selects RX3 yX3_endOfAll yX3_endOfAll, Cond.code yX3_endOfAll cX3_endOfAll 3 (some .int), Cond.methodLink RX3 231 Lib.Math.max.name, Cond.static Lib.Math.max.name, Cond.initialized "java/lang/Math", Cond.code Lib.Math.max.name Lib.Math.max.code 2 (some .int), Cond.methodLink RX3 159 yX1_end, Cond.instanceMethod yX1_end, Cond.selects RX1 yX1_end yX1_end, Cond.code yX1_end cX1_end 2 (some .int), Cond.fieldLink RX1 15 "FlagChips$Hill" "said" "I", Cond.methodLink RX1 36 yX1_start, Cond.methodLink RX3 176 yX2_highest, Cond.instanceMethod yX2_highest, Cond.selects RX2 yX2_highest yX2_highest, Cond.code yX2_highest cX2_highest 4 (some .int), Cond.methodLink RX2 71 Lib.Math.abs.name, Cond.static Lib.Math.abs.name, Cond.code Lib.Math.abs.name Lib.Math.abs.code 1 (some .int), Cond.methodLink RX2 76 Lib.Math.max.name, Cond.methodLink RX3 179 yX3_freeCodes]
def wsX3_digest_r6 : List Cond := [Cond.instanceMethod yX3_freeCodes, Cond.selects RX3 yX3_freeCodes yX3_freeCodes, Cond.code yX3_freeCodes cX3_freeCodes 3 (some .int), Cond.methodLink RX3 188 yX3_isTaken, Cond.instanceMethod yX3_isTaken, Cond.selects RX3 yX3_isTaken yX3_isTaken, Cond.code yX3_isTaken cX3_isTaken 3 (some .boolean), Cond.fieldLink RX3 152 "FlagChips$Hill" "code" "I", Cond.methodLink RX3 207 yX3_digestHill, Cond.instanceMethod yX3_digestHill, Cond.selects RX3 yX3_digestHill yX3_digestHill, Cond.code yX3_digestHill cX3_digestHill 9 (some .long), Cond.methodLink RX3 211 yX3_about, Cond.instanceMethod yX3_about, Cond.selects RX3 yX3_about yX3_about, Cond.code yX3_about cX3_about 4 (some .int), Cond.fieldLink RX3 89 "FlagChips$Hill" "strength" "I", Cond.fieldLink RX3 103 "FlagChips$Hill" "delay" "I", Cond.methodLink RX3 74 yX3_hillAt, Cond.instanceMethod yX3_hillAt, Cond.selects RX3 yX3_hillAt yX3_hillAt, Cond.code yX3_hillAt cX3_hillAt 2 (some (.object "FlagChips$Hill")), Cond.methodLink RX3 162 yX2_faintest, Cond.instanceMethod yX2_faintest]
def wsX3_digest_r7 : List Cond := [Cond.selects RX2 yX2_faintest yX2_faintest, Cond.code yX2_faintest cX2_faintest 5 (some .int), Cond.methodLink RX3 214 yX3_word, Cond.instanceMethod yX3_word, Cond.selects RX3 yX3_word yX3_word, Cond.code yX3_word cX3_word 5 (some .int), Cond.methodLink RX3 139 yX1_wordAt, Cond.methodLink RX3 142 yX2_heardWord, Cond.methodLink RX3 146 yX1_isWrong]
def wsX3_digest : List Cond := .code yX3_digest cX3_digest 7 (some .long) :: ((wsX3_digest_r1 ++ (wsX3_digest_r2 ++ (wsX3_digest_r3 ++ (wsX3_digest_r4 ++ (wsX3_digest_r5 ++ (wsX3_digest_r6 ++ wsX3_digest_r7)))))) ++ wsX30 ++ wsX20 ++ wsX00 ++ wsJx4a65c0 ++ wsX10 ++ (vx_atS RX3 110 "java/lang/IndexOutOfBoundsException" ["java/lang/RuntimeException", "java/lang/Exception"]).filter goodWord)
def wsX4_init : List Cond := .code yX4_init cX4_init 1 none :: ([.methodLink RX4 1 objectInit, .instanceMethod objectInit, .code objectInit ⟨#[0xb1]⟩ 1 none, .fieldLink RX4 7 "FlagChipsModel" "length" "I", .arrayClass .int, .fieldLink RX4 13 "FlagChipsModel" "code" "[I", .fieldLink RX4 17 "FlagChipsModel" "strength" "[I", .fieldLink RX4 20 "FlagChipsModel" "delay" "[I", .fieldLink RX4 23 "FlagChipsModel" "words" "[I", .fieldLink RX4 26 "FlagChipsModel" "said" "[I", .fieldLink RX4 29 "FlagChipsModel" "storms" "[I"] ++ wsX40)
def wsX4_thrown : List Cond := .code yX4_thrown cX4_thrown 1 (some .int) :: ([.fieldLink RX4 32 "FlagChipsModel" "thrown" "I"] ++ wsX40)
def wsX4_no : List Cond := .code yX4_no cX4_no 2 (some .int) :: ([.fieldLink RX4 32 "FlagChipsModel" "thrown" "I"] ++ wsX40)
def wsX4_isIn : List Cond := .code yX4_isIn cX4_isIn 3 (some .boolean) :: ([])
def wsX4_isCode : List Cond := .code yX4_isCode cX4_isCode 2 (some .boolean) :: ([.fieldLink RX4 7 "FlagChipsModel" "length" "I", .methodLink RX4 35 yX4_isIn, .static yX4_isIn, .initialized RX4, .code yX4_isIn cX4_isIn 3 (some .boolean)] ++ wsX40)
def wsX4_isHill : List Cond := .code yX4_isHill cX4_isHill 2 (some .boolean) :: ([.fieldLink RX4 39 "FlagChipsModel" "hills" "I", .methodLink RX4 35 yX4_isIn, .static yX4_isIn, .initialized RX4, .code yX4_isIn cX4_isIn 3 (some .boolean)] ++ wsX40)
def wsX4_isTime : List Cond := .code yX4_isTime cX4_isTime 1 (some .boolean) :: ([.methodLink RX4 35 yX4_isIn, .static yX4_isIn, .initialized RX4, .code yX4_isIn cX4_isIn 3 (some .boolean)])
def wsX4_isStrength : List Cond := .code yX4_isStrength cX4_isStrength 1 (some .boolean) :: ([.methodLink RX4 35 yX4_isIn, .static yX4_isIn, .initialized RX4, .code yX4_isIn cX4_isIn 3 (some .boolean)])
def wsX4_sign : List Cond := .code yX4_sign cX4_sign 1 (some .int) :: ([])
def wsX4_chipOf : List Cond := .code yX4_chipOf cX4_chipOf 2 (some .int) :: ([.methodLink RX4 42 yJ6_bitCount_0f7a4, .static yJ6_bitCount_0f7a4, .initialized RJ6, .code yJ6_bitCount_0f7a4 cJ6_bitCount_0f7a4 1 (some .int), .constant RJ6 265 (1431655765), .constant RJ6 266 (858993459), .constant RJ6 267 (252645135)])
def wsX4_beginOf : List Cond := .code yX4_beginOf cX4_beginOf 3 (some .int) :: ([.fieldLink RX4 20 "FlagChipsModel" "delay" "[I", .fieldLink RX4 7 "FlagChipsModel" "length" "I"] ++ wsX40)
def wsX4_signal : List Cond := .code yX4_signal cX4_signal 4 (some .int) :: ([.fieldLink RX4 20 "FlagChipsModel" "delay" "[I", .fieldLink RX4 7 "FlagChipsModel" "length" "I", .fieldLink RX4 23 "FlagChipsModel" "words" "[I", .fieldLink RX4 17 "FlagChipsModel" "strength" "[I", .fieldLink RX4 26 "FlagChipsModel" "said" "[I", .fieldLink RX4 13 "FlagChipsModel" "code" "[I", .methodLink RX4 48 yX4_chipOf, .static yX4_chipOf, .initialized RX4, .code yX4_chipOf cX4_chipOf 2 (some .int), .methodLink RX4 42 yJ6_bitCount_0f7a4, .static yJ6_bitCount_0f7a4, .initialized RJ6, .code yJ6_bitCount_0f7a4 cJ6_bitCount_0f7a4 1 (some .int), .constant RJ6 265 (1431655765), .constant RJ6 266 (858993459), .constant RJ6 267 (252645135)] ++ wsX40)
def wsX4_skyAt : List Cond := .code yX4_skyAt cX4_skyAt 4 (some .int) :: ([.fieldLink RX4 29 "FlagChipsModel" "storms" "[I", .fieldLink RX4 39 "FlagChipsModel" "hills" "I", .methodLink RX4 52 yX4_signal, .instanceMethod yX4_signal, .selects RX4 yX4_signal yX4_signal, .initialized RX4, .code yX4_signal cX4_signal 4 (some .int), .fieldLink RX4 20 "FlagChipsModel" "delay" "[I", .fieldLink RX4 7 "FlagChipsModel" "length" "I", .fieldLink RX4 23 "FlagChipsModel" "words" "[I", .fieldLink RX4 17 "FlagChipsModel" "strength" "[I", .fieldLink RX4 26 "FlagChipsModel" "said" "[I", .fieldLink RX4 13 "FlagChipsModel" "code" "[I", .methodLink RX4 48 yX4_chipOf, .static yX4_chipOf, .code yX4_chipOf cX4_chipOf 2 (some .int), .methodLink RX4 42 yJ6_bitCount_0f7a4, .static yJ6_bitCount_0f7a4, .initialized RJ6, .code yJ6_bitCount_0f7a4 cJ6_bitCount_0f7a4 1 (some .int), .constant RJ6 265 (1431655765), .constant RJ6 266 (858993459), .constant RJ6 267 (252645135)] ++ wsX40)
def wsX4_heard_r1 : List Cond := [Cond.fieldLink RX4 7 "FlagChipsModel" "length" "I", Cond.methodLink RX4 55 yX4_skyAt, Cond.instanceMethod yX4_skyAt, Cond.selects RX4 yX4_skyAt yX4_skyAt, Cond.initialized RX4, Cond.code yX4_skyAt cX4_skyAt 4 (some .int), Cond.fieldLink RX4 29 "FlagChipsModel" "storms" "[I", Cond.fieldLink RX4 39 "FlagChipsModel" "hills" "I", Cond.methodLink RX4 52 yX4_signal, Cond.instanceMethod yX4_signal, Cond.selects RX4 yX4_signal yX4_signal, Cond.code yX4_signal cX4_signal 4 (some .int), Cond.fieldLink RX4 20 "FlagChipsModel" "delay" "[I", Cond.fieldLink RX4 23 "FlagChipsModel" "words" "[I", Cond.fieldLink RX4 17 "FlagChipsModel" "strength" "[I", Cond.fieldLink RX4 26 "FlagChipsModel" "said" "[I", Cond.fieldLink RX4 13 "FlagChipsModel" "code" "[I", Cond.methodLink RX4 48 yX4_chipOf, Cond.static yX4_chipOf, Cond.code yX4_chipOf cX4_chipOf 2 (some .int), Cond.methodLink RX4 42 yJ6_bitCount_0f7a4, Cond.static yJ6_bitCount_0f7a4, Cond.initialized RJ6, Cond.code yJ6_bitCount_0f7a4 cJ6_bitCount_0f7a4 1 (some .int)]
def wsX4_heard_r2 : List Cond := [Cond.constant RJ6 265 (1431655765), Cond.constant RJ6 266 (858993459), Cond.constant RJ6 267 (252645135)]
def wsX4_heard : List Cond := .code yX4_heard cX4_heard 5 (some .int) :: ((wsX4_heard_r1 ++ wsX4_heard_r2) ++ wsX40)
def wsX4_heardOf_r1 : List Cond := [Cond.fieldLink RX4 13 "FlagChipsModel" "code" "[I", Cond.methodLink RX4 58 yX4_beginOf, Cond.instanceMethod yX4_beginOf, Cond.selects RX4 yX4_beginOf yX4_beginOf, Cond.initialized RX4, Cond.code yX4_beginOf cX4_beginOf 3 (some .int), Cond.fieldLink RX4 20 "FlagChipsModel" "delay" "[I", Cond.fieldLink RX4 7 "FlagChipsModel" "length" "I", Cond.methodLink RX4 61 yX4_heard, Cond.instanceMethod yX4_heard, Cond.selects RX4 yX4_heard yX4_heard, Cond.code yX4_heard cX4_heard 5 (some .int), Cond.methodLink RX4 55 yX4_skyAt, Cond.instanceMethod yX4_skyAt, Cond.selects RX4 yX4_skyAt yX4_skyAt, Cond.code yX4_skyAt cX4_skyAt 4 (some .int), Cond.fieldLink RX4 29 "FlagChipsModel" "storms" "[I", Cond.fieldLink RX4 39 "FlagChipsModel" "hills" "I", Cond.methodLink RX4 52 yX4_signal, Cond.instanceMethod yX4_signal, Cond.selects RX4 yX4_signal yX4_signal, Cond.code yX4_signal cX4_signal 4 (some .int), Cond.fieldLink RX4 23 "FlagChipsModel" "words" "[I", Cond.fieldLink RX4 17 "FlagChipsModel" "strength" "[I"]
def wsX4_heardOf_r2 : List Cond := [Cond.fieldLink RX4 26 "FlagChipsModel" "said" "[I", Cond.methodLink RX4 48 yX4_chipOf, Cond.static yX4_chipOf, Cond.code yX4_chipOf cX4_chipOf 2 (some .int), Cond.methodLink RX4 42 yJ6_bitCount_0f7a4, Cond.static yJ6_bitCount_0f7a4, Cond.initialized RJ6, Cond.code yJ6_bitCount_0f7a4 cJ6_bitCount_0f7a4 1 (some .int), Cond.constant RJ6 265 (1431655765), Cond.constant RJ6 266 (858993459), Cond.constant RJ6 267 (252645135)]
def wsX4_heardOf : List Cond := .code yX4_heardOf cX4_heardOf 3 (some .int) :: ((wsX4_heardOf_r1 ++ wsX4_heardOf_r2) ++ wsX40)
def wsX4_isWrong_r1 : List Cond := [Cond.fieldLink RX4 26 "FlagChipsModel" "said" "[I", Cond.methodLink RX4 64 yX4_heardOf, Cond.instanceMethod yX4_heardOf, Cond.selects RX4 yX4_heardOf yX4_heardOf, Cond.initialized RX4, Cond.code yX4_heardOf cX4_heardOf 3 (some .int), Cond.fieldLink RX4 13 "FlagChipsModel" "code" "[I", Cond.methodLink RX4 58 yX4_beginOf, Cond.instanceMethod yX4_beginOf, Cond.selects RX4 yX4_beginOf yX4_beginOf, Cond.code yX4_beginOf cX4_beginOf 3 (some .int), Cond.fieldLink RX4 20 "FlagChipsModel" "delay" "[I", Cond.fieldLink RX4 7 "FlagChipsModel" "length" "I", Cond.methodLink RX4 61 yX4_heard, Cond.instanceMethod yX4_heard, Cond.selects RX4 yX4_heard yX4_heard, Cond.code yX4_heard cX4_heard 5 (some .int), Cond.methodLink RX4 55 yX4_skyAt, Cond.instanceMethod yX4_skyAt, Cond.selects RX4 yX4_skyAt yX4_skyAt, Cond.code yX4_skyAt cX4_skyAt 4 (some .int), Cond.fieldLink RX4 29 "FlagChipsModel" "storms" "[I", Cond.fieldLink RX4 39 "FlagChipsModel" "hills" "I", Cond.methodLink RX4 52 yX4_signal]
def wsX4_isWrong_r2 : List Cond := [Cond.instanceMethod yX4_signal, Cond.selects RX4 yX4_signal yX4_signal, Cond.code yX4_signal cX4_signal 4 (some .int), Cond.fieldLink RX4 23 "FlagChipsModel" "words" "[I", Cond.fieldLink RX4 17 "FlagChipsModel" "strength" "[I", Cond.methodLink RX4 48 yX4_chipOf, Cond.static yX4_chipOf, Cond.code yX4_chipOf cX4_chipOf 2 (some .int), Cond.methodLink RX4 42 yJ6_bitCount_0f7a4, Cond.static yJ6_bitCount_0f7a4, Cond.initialized RJ6, Cond.code yJ6_bitCount_0f7a4 cJ6_bitCount_0f7a4 1 (some .int), Cond.constant RJ6 265 (1431655765), Cond.constant RJ6 266 (858993459), Cond.constant RJ6 267 (252645135), Cond.methodLink RX4 67 yX4_sign, Cond.static yX4_sign, Cond.code yX4_sign cX4_sign 1 (some .int)]
def wsX4_isWrong : List Cond := .code yX4_isWrong cX4_isWrong 3 (some .int) :: ((wsX4_isWrong_r1 ++ wsX4_isWrong_r2) ++ wsX40)
def wsX4_wrongOf_r1 : List Cond := [Cond.fieldLink RX4 23 "FlagChipsModel" "words" "[I", Cond.methodLink RX4 70 yX4_isWrong, Cond.instanceMethod yX4_isWrong, Cond.selects RX4 yX4_isWrong yX4_isWrong, Cond.initialized RX4, Cond.code yX4_isWrong cX4_isWrong 3 (some .int), Cond.fieldLink RX4 26 "FlagChipsModel" "said" "[I", Cond.methodLink RX4 64 yX4_heardOf, Cond.instanceMethod yX4_heardOf, Cond.selects RX4 yX4_heardOf yX4_heardOf, Cond.code yX4_heardOf cX4_heardOf 3 (some .int), Cond.fieldLink RX4 13 "FlagChipsModel" "code" "[I", Cond.methodLink RX4 58 yX4_beginOf, Cond.instanceMethod yX4_beginOf, Cond.selects RX4 yX4_beginOf yX4_beginOf, Cond.code yX4_beginOf cX4_beginOf 3 (some .int), Cond.fieldLink RX4 20 "FlagChipsModel" "delay" "[I", Cond.fieldLink RX4 7 "FlagChipsModel" "length" "I", Cond.methodLink RX4 61 yX4_heard, Cond.instanceMethod yX4_heard, Cond.selects RX4 yX4_heard yX4_heard, Cond.code yX4_heard cX4_heard 5 (some .int), Cond.methodLink RX4 55 yX4_skyAt, Cond.instanceMethod yX4_skyAt]
def wsX4_wrongOf_r2 : List Cond := [Cond.selects RX4 yX4_skyAt yX4_skyAt, Cond.code yX4_skyAt cX4_skyAt 4 (some .int), Cond.fieldLink RX4 29 "FlagChipsModel" "storms" "[I", Cond.fieldLink RX4 39 "FlagChipsModel" "hills" "I", Cond.methodLink RX4 52 yX4_signal, Cond.instanceMethod yX4_signal, Cond.selects RX4 yX4_signal yX4_signal, Cond.code yX4_signal cX4_signal 4 (some .int), Cond.fieldLink RX4 17 "FlagChipsModel" "strength" "[I", Cond.methodLink RX4 48 yX4_chipOf, Cond.static yX4_chipOf, Cond.code yX4_chipOf cX4_chipOf 2 (some .int), Cond.methodLink RX4 42 yJ6_bitCount_0f7a4, Cond.static yJ6_bitCount_0f7a4, Cond.initialized RJ6, Cond.code yJ6_bitCount_0f7a4 cJ6_bitCount_0f7a4 1 (some .int), Cond.constant RJ6 265 (1431655765), Cond.constant RJ6 266 (858993459), Cond.constant RJ6 267 (252645135), Cond.methodLink RX4 67 yX4_sign, Cond.static yX4_sign, Cond.code yX4_sign cX4_sign 1 (some .int)]
def wsX4_wrongOf : List Cond := .code yX4_wrongOf cX4_wrongOf 4 (some .int) :: ((wsX4_wrongOf_r1 ++ wsX4_wrongOf_r2) ++ wsX40)
def wsX4_allWrong_r1 : List Cond := [Cond.fieldLink RX4 39 "FlagChipsModel" "hills" "I", Cond.methodLink RX4 73 yX4_wrongOf, Cond.instanceMethod yX4_wrongOf, Cond.selects RX4 yX4_wrongOf yX4_wrongOf, Cond.initialized RX4, Cond.code yX4_wrongOf cX4_wrongOf 4 (some .int), Cond.fieldLink RX4 23 "FlagChipsModel" "words" "[I", Cond.methodLink RX4 70 yX4_isWrong, Cond.instanceMethod yX4_isWrong, Cond.selects RX4 yX4_isWrong yX4_isWrong, Cond.code yX4_isWrong cX4_isWrong 3 (some .int), Cond.fieldLink RX4 26 "FlagChipsModel" "said" "[I", Cond.methodLink RX4 64 yX4_heardOf, Cond.instanceMethod yX4_heardOf, Cond.selects RX4 yX4_heardOf yX4_heardOf, Cond.code yX4_heardOf cX4_heardOf 3 (some .int), Cond.fieldLink RX4 13 "FlagChipsModel" "code" "[I", Cond.methodLink RX4 58 yX4_beginOf, Cond.instanceMethod yX4_beginOf, Cond.selects RX4 yX4_beginOf yX4_beginOf, Cond.code yX4_beginOf cX4_beginOf 3 (some .int), Cond.fieldLink RX4 20 "FlagChipsModel" "delay" "[I", Cond.fieldLink RX4 7 "FlagChipsModel" "length" "I", Cond.methodLink RX4 61 yX4_heard]
def wsX4_allWrong_r2 : List Cond := [Cond.instanceMethod yX4_heard, Cond.selects RX4 yX4_heard yX4_heard, Cond.code yX4_heard cX4_heard 5 (some .int), Cond.methodLink RX4 55 yX4_skyAt, Cond.instanceMethod yX4_skyAt, Cond.selects RX4 yX4_skyAt yX4_skyAt, Cond.code yX4_skyAt cX4_skyAt 4 (some .int), Cond.fieldLink RX4 29 "FlagChipsModel" "storms" "[I", Cond.methodLink RX4 52 yX4_signal, Cond.instanceMethod yX4_signal, Cond.selects RX4 yX4_signal yX4_signal, Cond.code yX4_signal cX4_signal 4 (some .int), Cond.fieldLink RX4 17 "FlagChipsModel" "strength" "[I", Cond.methodLink RX4 48 yX4_chipOf, Cond.static yX4_chipOf, Cond.code yX4_chipOf cX4_chipOf 2 (some .int), Cond.methodLink RX4 42 yJ6_bitCount_0f7a4, Cond.static yJ6_bitCount_0f7a4, Cond.initialized RJ6, Cond.code yJ6_bitCount_0f7a4 cJ6_bitCount_0f7a4 1 (some .int), Cond.constant RJ6 265 (1431655765), Cond.constant RJ6 266 (858993459), Cond.constant RJ6 267 (252645135), Cond.methodLink RX4 67 yX4_sign]
def wsX4_allWrong_r3 : List Cond := [Cond.static yX4_sign, Cond.code yX4_sign cX4_sign 1 (some .int)]
def wsX4_allWrong : List Cond := .code yX4_allWrong cX4_allWrong 3 (some .int) :: ((wsX4_allWrong_r1 ++ (wsX4_allWrong_r2 ++ wsX4_allWrong_r3)) ++ wsX40)
def wsX4_endOf : List Cond := .code yX4_endOf cX4_endOf 2 (some .int) :: ([.fieldLink RX4 23 "FlagChipsModel" "words" "[I", .methodLink RX4 58 yX4_beginOf, .instanceMethod yX4_beginOf, .selects RX4 yX4_beginOf yX4_beginOf, .initialized RX4, .code yX4_beginOf cX4_beginOf 3 (some .int), .fieldLink RX4 20 "FlagChipsModel" "delay" "[I", .fieldLink RX4 7 "FlagChipsModel" "length" "I"] ++ wsX40)
def wsX4_end : List Cond := .code yX4_end cX4_end 3 (some .int) :: ([.fieldLink RX4 39 "FlagChipsModel" "hills" "I", .methodLink RX4 79 Lib.Math.max.name, .static Lib.Math.max.name, .initialized "java/lang/Math", .code Lib.Math.max.name Lib.Math.max.code 2 (some .int), .methodLink RX4 76 yX4_endOf, .instanceMethod yX4_endOf, .selects RX4 yX4_endOf yX4_endOf, .initialized RX4, .code yX4_endOf cX4_endOf 2 (some .int), .fieldLink RX4 23 "FlagChipsModel" "words" "[I", .methodLink RX4 58 yX4_beginOf, .instanceMethod yX4_beginOf, .selects RX4 yX4_beginOf yX4_beginOf, .code yX4_beginOf cX4_beginOf 3 (some .int), .fieldLink RX4 20 "FlagChipsModel" "delay" "[I", .fieldLink RX4 7 "FlagChipsModel" "length" "I"] ++ wsX40)
def wsX4_highest_r1 : List Cond := [Cond.methodLink RX4 88 Lib.Math.abs.name, Cond.static Lib.Math.abs.name, Cond.initialized "java/lang/Math", Cond.code Lib.Math.abs.name Lib.Math.abs.code 1 (some .int), Cond.methodLink RX4 79 Lib.Math.max.name, Cond.static Lib.Math.max.name, Cond.code Lib.Math.max.name Lib.Math.max.code 2 (some .int), Cond.methodLink RX4 84 yX4_end, Cond.instanceMethod yX4_end, Cond.selects RX4 yX4_end yX4_end, Cond.initialized RX4, Cond.code yX4_end cX4_end 3 (some .int), Cond.fieldLink RX4 39 "FlagChipsModel" "hills" "I", Cond.methodLink RX4 76 yX4_endOf, Cond.instanceMethod yX4_endOf, Cond.selects RX4 yX4_endOf yX4_endOf, Cond.code yX4_endOf cX4_endOf 2 (some .int), Cond.fieldLink RX4 23 "FlagChipsModel" "words" "[I", Cond.methodLink RX4 58 yX4_beginOf, Cond.instanceMethod yX4_beginOf, Cond.selects RX4 yX4_beginOf yX4_beginOf, Cond.code yX4_beginOf cX4_beginOf 3 (some .int), Cond.fieldLink RX4 20 "FlagChipsModel" "delay" "[I", Cond.fieldLink RX4 7 "FlagChipsModel" "length" "I"]
def wsX4_highest_r2 : List Cond := [Cond.methodLink RX4 55 yX4_skyAt, Cond.instanceMethod yX4_skyAt, Cond.selects RX4 yX4_skyAt yX4_skyAt, Cond.code yX4_skyAt cX4_skyAt 4 (some .int), Cond.fieldLink RX4 29 "FlagChipsModel" "storms" "[I", Cond.methodLink RX4 52 yX4_signal, Cond.instanceMethod yX4_signal, Cond.selects RX4 yX4_signal yX4_signal, Cond.code yX4_signal cX4_signal 4 (some .int), Cond.fieldLink RX4 17 "FlagChipsModel" "strength" "[I", Cond.fieldLink RX4 26 "FlagChipsModel" "said" "[I", Cond.fieldLink RX4 13 "FlagChipsModel" "code" "[I", Cond.methodLink RX4 48 yX4_chipOf, Cond.static yX4_chipOf, Cond.code yX4_chipOf cX4_chipOf 2 (some .int), Cond.methodLink RX4 42 yJ6_bitCount_0f7a4, Cond.static yJ6_bitCount_0f7a4, Cond.initialized RJ6, Cond.code yJ6_bitCount_0f7a4 cJ6_bitCount_0f7a4 1 (some .int), Cond.constant RJ6 265 (1431655765), Cond.constant RJ6 266 (858993459), Cond.constant RJ6 267 (252645135)]
def wsX4_highest : List Cond := .code yX4_highest cX4_highest 4 (some .int) :: ((wsX4_highest_r1 ++ wsX4_highest_r2) ++ wsX40)
def wsX4_isTaken : List Cond := .code yX4_isTaken cX4_isTaken 3 (some .boolean) :: ([.fieldLink RX4 39 "FlagChipsModel" "hills" "I", .fieldLink RX4 13 "FlagChipsModel" "code" "[I"] ++ wsX40)
def wsX4_likeness : List Cond := .code yX4_likeness cX4_likeness 6 (some .int) :: ([.fieldLink RX4 7 "FlagChipsModel" "length" "I", .methodLink RX4 88 Lib.Math.abs.name, .static Lib.Math.abs.name, .initialized "java/lang/Math", .code Lib.Math.abs.name Lib.Math.abs.code 1 (some .int), .methodLink RX4 48 yX4_chipOf, .static yX4_chipOf, .initialized RX4, .code yX4_chipOf cX4_chipOf 2 (some .int), .methodLink RX4 42 yJ6_bitCount_0f7a4, .static yJ6_bitCount_0f7a4, .initialized RJ6, .code yJ6_bitCount_0f7a4 cJ6_bitCount_0f7a4 1 (some .int), .constant RJ6 265 (1431655765), .constant RJ6 266 (858993459), .constant RJ6 267 (252645135)] ++ wsX40)
def wsX4_setCodes : List Cond := .code yX4_setCodes cX4_setCodes 3 (some .int) :: ([.fieldLink RX4 32 "FlagChipsModel" "thrown" "I", .fieldLink RX4 7 "FlagChipsModel" "length" "I", .fieldLink RX4 39 "FlagChipsModel" "hills" "I", .methodLink RX4 35 yX4_isIn, .static yX4_isIn, .initialized RX4, .code yX4_isIn cX4_isIn 3 (some .boolean), .methodLink RX4 91 yX4_no, .instanceMethod yX4_no, .selects RX4 yX4_no yX4_no, .code yX4_no cX4_no 2 (some .int)] ++ wsX40)
def wsX4_hill : List Cond := .code yX4_hill cX4_hill 3 (some .int) :: ([.fieldLink RX4 32 "FlagChipsModel" "thrown" "I", .fieldLink RX4 39 "FlagChipsModel" "hills" "I", .fieldLink RX4 13 "FlagChipsModel" "code" "[I", .fieldLink RX4 17 "FlagChipsModel" "strength" "[I", .fieldLink RX4 20 "FlagChipsModel" "delay" "[I", .fieldLink RX4 23 "FlagChipsModel" "words" "[I", .methodLink RX4 94 yX4_isCode, .instanceMethod yX4_isCode, .selects RX4 yX4_isCode yX4_isCode, .initialized RX4, .code yX4_isCode cX4_isCode 2 (some .boolean), .fieldLink RX4 7 "FlagChipsModel" "length" "I", .methodLink RX4 35 yX4_isIn, .static yX4_isIn, .code yX4_isIn cX4_isIn 3 (some .boolean), .methodLink RX4 91 yX4_no, .instanceMethod yX4_no, .selects RX4 yX4_no yX4_no, .code yX4_no cX4_no 2 (some .int), .methodLink RX4 98 yX4_isStrength, .static yX4_isStrength, .code yX4_isStrength cX4_isStrength 1 (some .boolean)] ++ wsX40)
def wsX4_say : List Cond := .code yX4_say cX4_say 3 (some .int) :: ([.fieldLink RX4 32 "FlagChipsModel" "thrown" "I", .fieldLink RX4 23 "FlagChipsModel" "words" "[I", .fieldLink RX4 26 "FlagChipsModel" "said" "[I", .methodLink RX4 101 yX4_isHill, .instanceMethod yX4_isHill, .selects RX4 yX4_isHill yX4_isHill, .initialized RX4, .code yX4_isHill cX4_isHill 2 (some .boolean), .fieldLink RX4 39 "FlagChipsModel" "hills" "I", .methodLink RX4 35 yX4_isIn, .static yX4_isIn, .code yX4_isIn cX4_isIn 3 (some .boolean), .methodLink RX4 91 yX4_no, .instanceMethod yX4_no, .selects RX4 yX4_no yX4_no, .code yX4_no cX4_no 2 (some .int)] ++ wsX40)
def wsX4_hush : List Cond := .code yX4_hush cX4_hush 3 (some .int) :: ([.fieldLink RX4 32 "FlagChipsModel" "thrown" "I", .fieldLink RX4 23 "FlagChipsModel" "words" "[I", .methodLink RX4 101 yX4_isHill, .instanceMethod yX4_isHill, .selects RX4 yX4_isHill yX4_isHill, .initialized RX4, .code yX4_isHill cX4_isHill 2 (some .boolean), .fieldLink RX4 39 "FlagChipsModel" "hills" "I", .methodLink RX4 35 yX4_isIn, .static yX4_isIn, .code yX4_isIn cX4_isIn 3 (some .boolean), .methodLink RX4 91 yX4_no, .instanceMethod yX4_no, .selects RX4 yX4_no yX4_no, .code yX4_no cX4_no 2 (some .int)] ++ wsX40)
def wsX4_setDelay : List Cond := .code yX4_setDelay cX4_setDelay 4 (some .int) :: ([.fieldLink RX4 32 "FlagChipsModel" "thrown" "I", .fieldLink RX4 20 "FlagChipsModel" "delay" "[I", .methodLink RX4 101 yX4_isHill, .instanceMethod yX4_isHill, .selects RX4 yX4_isHill yX4_isHill, .initialized RX4, .code yX4_isHill cX4_isHill 2 (some .boolean), .fieldLink RX4 39 "FlagChipsModel" "hills" "I", .methodLink RX4 35 yX4_isIn, .static yX4_isIn, .code yX4_isIn cX4_isIn 3 (some .boolean), .methodLink RX4 91 yX4_no, .instanceMethod yX4_no, .selects RX4 yX4_no yX4_no, .code yX4_no cX4_no 2 (some .int), .methodLink RX4 94 yX4_isCode, .instanceMethod yX4_isCode, .selects RX4 yX4_isCode yX4_isCode, .code yX4_isCode cX4_isCode 2 (some .boolean), .fieldLink RX4 7 "FlagChipsModel" "length" "I"] ++ wsX40)
def wsX4_setStrength : List Cond := .code yX4_setStrength cX4_setStrength 4 (some .int) :: ([.fieldLink RX4 32 "FlagChipsModel" "thrown" "I", .fieldLink RX4 17 "FlagChipsModel" "strength" "[I", .methodLink RX4 101 yX4_isHill, .instanceMethod yX4_isHill, .selects RX4 yX4_isHill yX4_isHill, .initialized RX4, .code yX4_isHill cX4_isHill 2 (some .boolean), .fieldLink RX4 39 "FlagChipsModel" "hills" "I", .methodLink RX4 35 yX4_isIn, .static yX4_isIn, .code yX4_isIn cX4_isIn 3 (some .boolean), .methodLink RX4 91 yX4_no, .instanceMethod yX4_no, .selects RX4 yX4_no yX4_no, .code yX4_no cX4_no 2 (some .int), .methodLink RX4 98 yX4_isStrength, .static yX4_isStrength, .code yX4_isStrength cX4_isStrength 1 (some .boolean)] ++ wsX40)
def wsX4_setStorm : List Cond := .code yX4_setStorm cX4_setStorm 4 (some .int) :: ([.fieldLink RX4 32 "FlagChipsModel" "thrown" "I", .fieldLink RX4 29 "FlagChipsModel" "storms" "[I", .methodLink RX4 35 yX4_isIn, .static yX4_isIn, .initialized RX4, .code yX4_isIn cX4_isIn 3 (some .boolean), .methodLink RX4 91 yX4_no, .instanceMethod yX4_no, .selects RX4 yX4_no yX4_no, .code yX4_no cX4_no 2 (some .int)] ++ wsX40)
def wsX4_chip : List Cond := .code yX4_chip cX4_chip 3 (some .int) :: ([.fieldLink RX4 32 "FlagChipsModel" "thrown" "I", .methodLink RX4 94 yX4_isCode, .instanceMethod yX4_isCode, .selects RX4 yX4_isCode yX4_isCode, .initialized RX4, .code yX4_isCode cX4_isCode 2 (some .boolean), .fieldLink RX4 7 "FlagChipsModel" "length" "I", .methodLink RX4 35 yX4_isIn, .static yX4_isIn, .code yX4_isIn cX4_isIn 3 (some .boolean), .methodLink RX4 48 yX4_chipOf, .static yX4_chipOf, .code yX4_chipOf cX4_chipOf 2 (some .int), .methodLink RX4 42 yJ6_bitCount_0f7a4, .static yJ6_bitCount_0f7a4, .initialized RJ6, .code yJ6_bitCount_0f7a4 cJ6_bitCount_0f7a4 1 (some .int), .constant RJ6 265 (1431655765), .constant RJ6 266 (858993459), .constant RJ6 267 (252645135), .methodLink RX4 91 yX4_no, .instanceMethod yX4_no, .selects RX4 yX4_no yX4_no, .code yX4_no cX4_no 2 (some .int)] ++ wsX40)
def wsX4_sky_r1 : List Cond := [Cond.fieldLink RX4 32 "FlagChipsModel" "thrown" "I", Cond.methodLink RX4 104 yX4_isTime, Cond.static yX4_isTime, Cond.initialized RX4, Cond.code yX4_isTime cX4_isTime 1 (some .boolean), Cond.methodLink RX4 35 yX4_isIn, Cond.static yX4_isIn, Cond.code yX4_isIn cX4_isIn 3 (some .boolean), Cond.methodLink RX4 55 yX4_skyAt, Cond.instanceMethod yX4_skyAt, Cond.selects RX4 yX4_skyAt yX4_skyAt, Cond.code yX4_skyAt cX4_skyAt 4 (some .int), Cond.fieldLink RX4 29 "FlagChipsModel" "storms" "[I", Cond.fieldLink RX4 39 "FlagChipsModel" "hills" "I", Cond.methodLink RX4 52 yX4_signal, Cond.instanceMethod yX4_signal, Cond.selects RX4 yX4_signal yX4_signal, Cond.code yX4_signal cX4_signal 4 (some .int), Cond.fieldLink RX4 20 "FlagChipsModel" "delay" "[I", Cond.fieldLink RX4 7 "FlagChipsModel" "length" "I", Cond.fieldLink RX4 23 "FlagChipsModel" "words" "[I", Cond.fieldLink RX4 17 "FlagChipsModel" "strength" "[I", Cond.fieldLink RX4 26 "FlagChipsModel" "said" "[I", Cond.fieldLink RX4 13 "FlagChipsModel" "code" "[I"]
def wsX4_sky_r2 : List Cond := [Cond.methodLink RX4 48 yX4_chipOf, Cond.static yX4_chipOf, Cond.code yX4_chipOf cX4_chipOf 2 (some .int), Cond.methodLink RX4 42 yJ6_bitCount_0f7a4, Cond.static yJ6_bitCount_0f7a4, Cond.initialized RJ6, Cond.code yJ6_bitCount_0f7a4 cJ6_bitCount_0f7a4 1 (some .int), Cond.constant RJ6 265 (1431655765), Cond.constant RJ6 266 (858993459), Cond.constant RJ6 267 (252645135), Cond.methodLink RX4 91 yX4_no, Cond.instanceMethod yX4_no, Cond.selects RX4 yX4_no yX4_no, Cond.code yX4_no cX4_no 2 (some .int)]
def wsX4_sky : List Cond := .code yX4_sky cX4_sky 2 (some .int) :: ((wsX4_sky_r1 ++ wsX4_sky_r2) ++ wsX40)
def wsX4_hear_r1 : List Cond := [Cond.fieldLink RX4 32 "FlagChipsModel" "thrown" "I", Cond.methodLink RX4 94 yX4_isCode, Cond.instanceMethod yX4_isCode, Cond.selects RX4 yX4_isCode yX4_isCode, Cond.initialized RX4, Cond.code yX4_isCode cX4_isCode 2 (some .boolean), Cond.fieldLink RX4 7 "FlagChipsModel" "length" "I", Cond.methodLink RX4 35 yX4_isIn, Cond.static yX4_isIn, Cond.code yX4_isIn cX4_isIn 3 (some .boolean), Cond.methodLink RX4 91 yX4_no, Cond.instanceMethod yX4_no, Cond.selects RX4 yX4_no yX4_no, Cond.code yX4_no cX4_no 2 (some .int), Cond.methodLink RX4 104 yX4_isTime, Cond.static yX4_isTime, Cond.code yX4_isTime cX4_isTime 1 (some .boolean), Cond.methodLink RX4 61 yX4_heard, Cond.instanceMethod yX4_heard, Cond.selects RX4 yX4_heard yX4_heard, Cond.code yX4_heard cX4_heard 5 (some .int), Cond.methodLink RX4 55 yX4_skyAt, Cond.instanceMethod yX4_skyAt, Cond.selects RX4 yX4_skyAt yX4_skyAt]
def wsX4_hear_r2 : List Cond := [Cond.code yX4_skyAt cX4_skyAt 4 (some .int), Cond.fieldLink RX4 29 "FlagChipsModel" "storms" "[I", Cond.fieldLink RX4 39 "FlagChipsModel" "hills" "I", Cond.methodLink RX4 52 yX4_signal, Cond.instanceMethod yX4_signal, Cond.selects RX4 yX4_signal yX4_signal, Cond.code yX4_signal cX4_signal 4 (some .int), Cond.fieldLink RX4 20 "FlagChipsModel" "delay" "[I", Cond.fieldLink RX4 23 "FlagChipsModel" "words" "[I", Cond.fieldLink RX4 17 "FlagChipsModel" "strength" "[I", Cond.fieldLink RX4 26 "FlagChipsModel" "said" "[I", Cond.fieldLink RX4 13 "FlagChipsModel" "code" "[I", Cond.methodLink RX4 48 yX4_chipOf, Cond.static yX4_chipOf, Cond.code yX4_chipOf cX4_chipOf 2 (some .int), Cond.methodLink RX4 42 yJ6_bitCount_0f7a4, Cond.static yJ6_bitCount_0f7a4, Cond.initialized RJ6, Cond.code yJ6_bitCount_0f7a4 cJ6_bitCount_0f7a4 1 (some .int), Cond.constant RJ6 265 (1431655765), Cond.constant RJ6 266 (858993459), Cond.constant RJ6 267 (252645135)]
def wsX4_hear : List Cond := .code yX4_hear cX4_hear 3 (some .int) :: ((wsX4_hear_r1 ++ wsX4_hear_r2) ++ wsX40)
def wsX4_wordTold_r1 : List Cond := [Cond.fieldLink RX4 26 "FlagChipsModel" "said" "[I", Cond.methodLink RX4 64 yX4_heardOf, Cond.instanceMethod yX4_heardOf, Cond.selects RX4 yX4_heardOf yX4_heardOf, Cond.initialized RX4, Cond.code yX4_heardOf cX4_heardOf 3 (some .int), Cond.fieldLink RX4 13 "FlagChipsModel" "code" "[I", Cond.methodLink RX4 58 yX4_beginOf, Cond.instanceMethod yX4_beginOf, Cond.selects RX4 yX4_beginOf yX4_beginOf, Cond.code yX4_beginOf cX4_beginOf 3 (some .int), Cond.fieldLink RX4 20 "FlagChipsModel" "delay" "[I", Cond.fieldLink RX4 7 "FlagChipsModel" "length" "I", Cond.methodLink RX4 61 yX4_heard, Cond.instanceMethod yX4_heard, Cond.selects RX4 yX4_heard yX4_heard, Cond.code yX4_heard cX4_heard 5 (some .int), Cond.methodLink RX4 55 yX4_skyAt, Cond.instanceMethod yX4_skyAt, Cond.selects RX4 yX4_skyAt yX4_skyAt, Cond.code yX4_skyAt cX4_skyAt 4 (some .int), Cond.fieldLink RX4 29 "FlagChipsModel" "storms" "[I", Cond.fieldLink RX4 39 "FlagChipsModel" "hills" "I", Cond.methodLink RX4 52 yX4_signal]
def wsX4_wordTold_r2 : List Cond := [Cond.instanceMethod yX4_signal, Cond.selects RX4 yX4_signal yX4_signal, Cond.code yX4_signal cX4_signal 4 (some .int), Cond.fieldLink RX4 23 "FlagChipsModel" "words" "[I", Cond.fieldLink RX4 17 "FlagChipsModel" "strength" "[I", Cond.methodLink RX4 48 yX4_chipOf, Cond.static yX4_chipOf, Cond.code yX4_chipOf cX4_chipOf 2 (some .int), Cond.methodLink RX4 42 yJ6_bitCount_0f7a4, Cond.static yJ6_bitCount_0f7a4, Cond.initialized RJ6, Cond.code yJ6_bitCount_0f7a4 cJ6_bitCount_0f7a4 1 (some .int), Cond.constant RJ6 265 (1431655765), Cond.constant RJ6 266 (858993459), Cond.constant RJ6 267 (252645135), Cond.methodLink RX4 70 yX4_isWrong, Cond.instanceMethod yX4_isWrong, Cond.selects RX4 yX4_isWrong yX4_isWrong, Cond.code yX4_isWrong cX4_isWrong 3 (some .int), Cond.methodLink RX4 67 yX4_sign, Cond.static yX4_sign, Cond.code yX4_sign cX4_sign 1 (some .int)]
def wsX4_wordTold : List Cond := .code yX4_wordTold cX4_wordTold 4 (some .int) :: ((wsX4_wordTold_r1 ++ wsX4_wordTold_r2) ++ wsX40)
def wsX4_word_r1 : List Cond := [Cond.fieldLink RX4 32 "FlagChipsModel" "thrown" "I", Cond.fieldLink RX4 23 "FlagChipsModel" "words" "[I", Cond.methodLink RX4 101 yX4_isHill, Cond.instanceMethod yX4_isHill, Cond.selects RX4 yX4_isHill yX4_isHill, Cond.initialized RX4, Cond.code yX4_isHill cX4_isHill 2 (some .boolean), Cond.fieldLink RX4 39 "FlagChipsModel" "hills" "I", Cond.methodLink RX4 35 yX4_isIn, Cond.static yX4_isIn, Cond.code yX4_isIn cX4_isIn 3 (some .boolean), Cond.methodLink RX4 107 yX4_wordTold, Cond.instanceMethod yX4_wordTold, Cond.selects RX4 yX4_wordTold yX4_wordTold, Cond.code yX4_wordTold cX4_wordTold 4 (some .int), Cond.fieldLink RX4 26 "FlagChipsModel" "said" "[I", Cond.methodLink RX4 64 yX4_heardOf, Cond.instanceMethod yX4_heardOf, Cond.selects RX4 yX4_heardOf yX4_heardOf, Cond.code yX4_heardOf cX4_heardOf 3 (some .int), Cond.fieldLink RX4 13 "FlagChipsModel" "code" "[I", Cond.methodLink RX4 58 yX4_beginOf, Cond.instanceMethod yX4_beginOf, Cond.selects RX4 yX4_beginOf yX4_beginOf]
def wsX4_word_r2 : List Cond := [Cond.code yX4_beginOf cX4_beginOf 3 (some .int), Cond.fieldLink RX4 20 "FlagChipsModel" "delay" "[I", Cond.fieldLink RX4 7 "FlagChipsModel" "length" "I", Cond.methodLink RX4 61 yX4_heard, Cond.instanceMethod yX4_heard, Cond.selects RX4 yX4_heard yX4_heard, Cond.code yX4_heard cX4_heard 5 (some .int), Cond.methodLink RX4 55 yX4_skyAt, Cond.instanceMethod yX4_skyAt, Cond.selects RX4 yX4_skyAt yX4_skyAt, Cond.code yX4_skyAt cX4_skyAt 4 (some .int), Cond.fieldLink RX4 29 "FlagChipsModel" "storms" "[I", Cond.methodLink RX4 52 yX4_signal, Cond.instanceMethod yX4_signal, Cond.selects RX4 yX4_signal yX4_signal, Cond.code yX4_signal cX4_signal 4 (some .int), Cond.fieldLink RX4 17 "FlagChipsModel" "strength" "[I", Cond.methodLink RX4 48 yX4_chipOf, Cond.static yX4_chipOf, Cond.code yX4_chipOf cX4_chipOf 2 (some .int), Cond.methodLink RX4 42 yJ6_bitCount_0f7a4, Cond.static yJ6_bitCount_0f7a4, Cond.initialized RJ6, Cond.code yJ6_bitCount_0f7a4 cJ6_bitCount_0f7a4 1 (some .int)]
def wsX4_word_r3 : List Cond := [Cond.constant RJ6 265 (1431655765), Cond.constant RJ6 266 (858993459), Cond.constant RJ6 267 (252645135), Cond.methodLink RX4 70 yX4_isWrong, Cond.instanceMethod yX4_isWrong, Cond.selects RX4 yX4_isWrong yX4_isWrong, Cond.code yX4_isWrong cX4_isWrong 3 (some .int), Cond.methodLink RX4 67 yX4_sign, Cond.static yX4_sign, Cond.code yX4_sign cX4_sign 1 (some .int), Cond.methodLink RX4 91 yX4_no, Cond.instanceMethod yX4_no, Cond.selects RX4 yX4_no yX4_no, Cond.code yX4_no cX4_no 2 (some .int)]
def wsX4_word : List Cond := .code yX4_word cX4_word 4 (some .int) :: ((wsX4_word_r1 ++ (wsX4_word_r2 ++ wsX4_word_r3)) ++ wsX40)
def wsX4_faintest_r1 : List Cond := [Cond.fieldLink RX4 23 "FlagChipsModel" "words" "[I", Cond.methodLink RX4 88 Lib.Math.abs.name, Cond.static Lib.Math.abs.name, Cond.initialized "java/lang/Math", Cond.code Lib.Math.abs.name Lib.Math.abs.code 1 (some .int), Cond.methodLink RX4 111 Lib.Math.min.name, Cond.static Lib.Math.min.name, Cond.code Lib.Math.min.name Lib.Math.min.code 2 (some .int), Cond.methodLink RX4 64 yX4_heardOf, Cond.instanceMethod yX4_heardOf, Cond.selects RX4 yX4_heardOf yX4_heardOf, Cond.initialized RX4, Cond.code yX4_heardOf cX4_heardOf 3 (some .int), Cond.fieldLink RX4 13 "FlagChipsModel" "code" "[I", Cond.methodLink RX4 58 yX4_beginOf, Cond.instanceMethod yX4_beginOf, Cond.selects RX4 yX4_beginOf yX4_beginOf, Cond.code yX4_beginOf cX4_beginOf 3 (some .int), Cond.fieldLink RX4 20 "FlagChipsModel" "delay" "[I", Cond.fieldLink RX4 7 "FlagChipsModel" "length" "I", Cond.methodLink RX4 61 yX4_heard, Cond.instanceMethod yX4_heard, Cond.selects RX4 yX4_heard yX4_heard, Cond.code yX4_heard cX4_heard 5 (some .int)]
def wsX4_faintest_r2 : List Cond := [Cond.methodLink RX4 55 yX4_skyAt, Cond.instanceMethod yX4_skyAt, Cond.selects RX4 yX4_skyAt yX4_skyAt, Cond.code yX4_skyAt cX4_skyAt 4 (some .int), Cond.fieldLink RX4 29 "FlagChipsModel" "storms" "[I", Cond.fieldLink RX4 39 "FlagChipsModel" "hills" "I", Cond.methodLink RX4 52 yX4_signal, Cond.instanceMethod yX4_signal, Cond.selects RX4 yX4_signal yX4_signal, Cond.code yX4_signal cX4_signal 4 (some .int), Cond.fieldLink RX4 17 "FlagChipsModel" "strength" "[I", Cond.fieldLink RX4 26 "FlagChipsModel" "said" "[I", Cond.methodLink RX4 48 yX4_chipOf, Cond.static yX4_chipOf, Cond.code yX4_chipOf cX4_chipOf 2 (some .int), Cond.methodLink RX4 42 yJ6_bitCount_0f7a4, Cond.static yJ6_bitCount_0f7a4, Cond.initialized RJ6, Cond.code yJ6_bitCount_0f7a4 cJ6_bitCount_0f7a4 1 (some .int), Cond.constant RJ6 265 (1431655765), Cond.constant RJ6 266 (858993459), Cond.constant RJ6 267 (252645135)]
def wsX4_faintest : List Cond := .code yX4_faintest cX4_faintest 4 (some .int) :: ((wsX4_faintest_r1 ++ wsX4_faintest_r2) ++ wsX40)
def wsX4_hillTold_r1 : List Cond := [Cond.fieldLink RX4 13 "FlagChipsModel" "code" "[I", Cond.fieldLink RX4 17 "FlagChipsModel" "strength" "[I", Cond.fieldLink RX4 20 "FlagChipsModel" "delay" "[I", Cond.fieldLink RX4 23 "FlagChipsModel" "words" "[I", Cond.methodLink RX4 73 yX4_wrongOf, Cond.instanceMethod yX4_wrongOf, Cond.selects RX4 yX4_wrongOf yX4_wrongOf, Cond.initialized RX4, Cond.code yX4_wrongOf cX4_wrongOf 4 (some .int), Cond.methodLink RX4 70 yX4_isWrong, Cond.instanceMethod yX4_isWrong, Cond.selects RX4 yX4_isWrong yX4_isWrong, Cond.code yX4_isWrong cX4_isWrong 3 (some .int), Cond.fieldLink RX4 26 "FlagChipsModel" "said" "[I", Cond.methodLink RX4 64 yX4_heardOf, Cond.instanceMethod yX4_heardOf, Cond.selects RX4 yX4_heardOf yX4_heardOf, Cond.code yX4_heardOf cX4_heardOf 3 (some .int), Cond.methodLink RX4 58 yX4_beginOf, Cond.instanceMethod yX4_beginOf, Cond.selects RX4 yX4_beginOf yX4_beginOf, Cond.code yX4_beginOf cX4_beginOf 3 (some .int), Cond.fieldLink RX4 7 "FlagChipsModel" "length" "I", Cond.methodLink RX4 61 yX4_heard]
def wsX4_hillTold_r2 : List Cond := [Cond.instanceMethod yX4_heard, Cond.selects RX4 yX4_heard yX4_heard, Cond.code yX4_heard cX4_heard 5 (some .int), Cond.methodLink RX4 55 yX4_skyAt, Cond.instanceMethod yX4_skyAt, Cond.selects RX4 yX4_skyAt yX4_skyAt, Cond.code yX4_skyAt cX4_skyAt 4 (some .int), Cond.fieldLink RX4 29 "FlagChipsModel" "storms" "[I", Cond.fieldLink RX4 39 "FlagChipsModel" "hills" "I", Cond.methodLink RX4 52 yX4_signal, Cond.instanceMethod yX4_signal, Cond.selects RX4 yX4_signal yX4_signal, Cond.code yX4_signal cX4_signal 4 (some .int), Cond.methodLink RX4 48 yX4_chipOf, Cond.static yX4_chipOf, Cond.code yX4_chipOf cX4_chipOf 2 (some .int), Cond.methodLink RX4 42 yJ6_bitCount_0f7a4, Cond.static yJ6_bitCount_0f7a4, Cond.initialized RJ6, Cond.code yJ6_bitCount_0f7a4 cJ6_bitCount_0f7a4 1 (some .int), Cond.constant RJ6 265 (1431655765), Cond.constant RJ6 266 (858993459), Cond.constant RJ6 267 (252645135), Cond.methodLink RX4 67 yX4_sign]
def wsX4_hillTold_r3 : List Cond := [Cond.static yX4_sign, Cond.code yX4_sign cX4_sign 1 (some .int), Cond.methodLink RX4 76 yX4_endOf, Cond.instanceMethod yX4_endOf, Cond.selects RX4 yX4_endOf yX4_endOf, Cond.code yX4_endOf cX4_endOf 2 (some .int), Cond.methodLink RX4 114 yX4_faintest, Cond.instanceMethod yX4_faintest, Cond.selects RX4 yX4_faintest yX4_faintest, Cond.code yX4_faintest cX4_faintest 4 (some .int), Cond.methodLink RX4 88 Lib.Math.abs.name, Cond.static Lib.Math.abs.name, Cond.initialized "java/lang/Math", Cond.code Lib.Math.abs.name Lib.Math.abs.code 1 (some .int), Cond.methodLink RX4 111 Lib.Math.min.name, Cond.static Lib.Math.min.name, Cond.code Lib.Math.min.name Lib.Math.min.code 2 (some .int)]
def wsX4_hillTold : List Cond := .code yX4_hillTold cX4_hillTold 3 (some .int) :: ((wsX4_hillTold_r1 ++ (wsX4_hillTold_r2 ++ wsX4_hillTold_r3)) ++ wsX40)
def wsX4_about_r1 : List Cond := [Cond.fieldLink RX4 32 "FlagChipsModel" "thrown" "I", Cond.methodLink RX4 101 yX4_isHill, Cond.instanceMethod yX4_isHill, Cond.selects RX4 yX4_isHill yX4_isHill, Cond.initialized RX4, Cond.code yX4_isHill cX4_isHill 2 (some .boolean), Cond.fieldLink RX4 39 "FlagChipsModel" "hills" "I", Cond.methodLink RX4 35 yX4_isIn, Cond.static yX4_isIn, Cond.code yX4_isIn cX4_isIn 3 (some .boolean), Cond.methodLink RX4 117 yX4_hillTold, Cond.instanceMethod yX4_hillTold, Cond.selects RX4 yX4_hillTold yX4_hillTold, Cond.code yX4_hillTold cX4_hillTold 3 (some .int), Cond.fieldLink RX4 13 "FlagChipsModel" "code" "[I", Cond.fieldLink RX4 17 "FlagChipsModel" "strength" "[I", Cond.fieldLink RX4 20 "FlagChipsModel" "delay" "[I", Cond.fieldLink RX4 23 "FlagChipsModel" "words" "[I", Cond.methodLink RX4 73 yX4_wrongOf, Cond.instanceMethod yX4_wrongOf, Cond.selects RX4 yX4_wrongOf yX4_wrongOf, Cond.code yX4_wrongOf cX4_wrongOf 4 (some .int), Cond.methodLink RX4 70 yX4_isWrong, Cond.instanceMethod yX4_isWrong]
def wsX4_about_r2 : List Cond := [Cond.selects RX4 yX4_isWrong yX4_isWrong, Cond.code yX4_isWrong cX4_isWrong 3 (some .int), Cond.fieldLink RX4 26 "FlagChipsModel" "said" "[I", Cond.methodLink RX4 64 yX4_heardOf, Cond.instanceMethod yX4_heardOf, Cond.selects RX4 yX4_heardOf yX4_heardOf, Cond.code yX4_heardOf cX4_heardOf 3 (some .int), Cond.methodLink RX4 58 yX4_beginOf, Cond.instanceMethod yX4_beginOf, Cond.selects RX4 yX4_beginOf yX4_beginOf, Cond.code yX4_beginOf cX4_beginOf 3 (some .int), Cond.fieldLink RX4 7 "FlagChipsModel" "length" "I", Cond.methodLink RX4 61 yX4_heard, Cond.instanceMethod yX4_heard, Cond.selects RX4 yX4_heard yX4_heard, Cond.code yX4_heard cX4_heard 5 (some .int), Cond.methodLink RX4 55 yX4_skyAt, Cond.instanceMethod yX4_skyAt, Cond.selects RX4 yX4_skyAt yX4_skyAt, Cond.code yX4_skyAt cX4_skyAt 4 (some .int), Cond.fieldLink RX4 29 "FlagChipsModel" "storms" "[I", Cond.methodLink RX4 52 yX4_signal, Cond.instanceMethod yX4_signal, Cond.selects RX4 yX4_signal yX4_signal]
def wsX4_about_r3 : List Cond := [Cond.code yX4_signal cX4_signal 4 (some .int), Cond.methodLink RX4 48 yX4_chipOf, Cond.static yX4_chipOf, Cond.code yX4_chipOf cX4_chipOf 2 (some .int), Cond.methodLink RX4 42 yJ6_bitCount_0f7a4, Cond.static yJ6_bitCount_0f7a4, Cond.initialized RJ6, Cond.code yJ6_bitCount_0f7a4 cJ6_bitCount_0f7a4 1 (some .int), Cond.constant RJ6 265 (1431655765), Cond.constant RJ6 266 (858993459), Cond.constant RJ6 267 (252645135), Cond.methodLink RX4 67 yX4_sign, Cond.static yX4_sign, Cond.code yX4_sign cX4_sign 1 (some .int), Cond.methodLink RX4 76 yX4_endOf, Cond.instanceMethod yX4_endOf, Cond.selects RX4 yX4_endOf yX4_endOf, Cond.code yX4_endOf cX4_endOf 2 (some .int), Cond.methodLink RX4 114 yX4_faintest, Cond.instanceMethod yX4_faintest, Cond.selects RX4 yX4_faintest yX4_faintest, Cond.code yX4_faintest cX4_faintest 4 (some .int), Cond.methodLink RX4 88 Lib.Math.abs.name, Cond.static Lib.Math.abs.name]
def wsX4_about_r4 : List Cond := [Cond.initialized "java/lang/Math", Cond.code Lib.Math.abs.name Lib.Math.abs.code 1 (some .int), Cond.methodLink RX4 111 Lib.Math.min.name, Cond.static Lib.Math.min.name, Cond.code Lib.Math.min.name Lib.Math.min.code 2 (some .int), Cond.methodLink RX4 91 yX4_no, Cond.instanceMethod yX4_no, Cond.selects RX4 yX4_no yX4_no, Cond.code yX4_no cX4_no 2 (some .int)]
def wsX4_about : List Cond := .code yX4_about cX4_about 3 (some .int) :: ((wsX4_about_r1 ++ (wsX4_about_r2 ++ (wsX4_about_r3 ++ wsX4_about_r4))) ++ wsX40)
def wsX4_counted_r1 : List Cond := [Cond.fieldLink RX4 7 "FlagChipsModel" "length" "I", Cond.fieldLink RX4 39 "FlagChipsModel" "hills" "I", Cond.fieldLink RX4 23 "FlagChipsModel" "words" "[I", Cond.methodLink RX4 120 yX4_allWrong, Cond.instanceMethod yX4_allWrong, Cond.selects RX4 yX4_allWrong yX4_allWrong, Cond.initialized RX4, Cond.code yX4_allWrong cX4_allWrong 3 (some .int), Cond.methodLink RX4 73 yX4_wrongOf, Cond.instanceMethod yX4_wrongOf, Cond.selects RX4 yX4_wrongOf yX4_wrongOf, Cond.code yX4_wrongOf cX4_wrongOf 4 (some .int), Cond.methodLink RX4 70 yX4_isWrong, Cond.instanceMethod yX4_isWrong, Cond.selects RX4 yX4_isWrong yX4_isWrong, Cond.code yX4_isWrong cX4_isWrong 3 (some .int), Cond.fieldLink RX4 26 "FlagChipsModel" "said" "[I", Cond.methodLink RX4 64 yX4_heardOf, Cond.instanceMethod yX4_heardOf, Cond.selects RX4 yX4_heardOf yX4_heardOf, Cond.code yX4_heardOf cX4_heardOf 3 (some .int), Cond.fieldLink RX4 13 "FlagChipsModel" "code" "[I", Cond.methodLink RX4 58 yX4_beginOf, Cond.instanceMethod yX4_beginOf]
def wsX4_counted_r2 : List Cond := [Cond.selects RX4 yX4_beginOf yX4_beginOf, Cond.code yX4_beginOf cX4_beginOf 3 (some .int), Cond.fieldLink RX4 20 "FlagChipsModel" "delay" "[I", Cond.methodLink RX4 61 yX4_heard, Cond.instanceMethod yX4_heard, Cond.selects RX4 yX4_heard yX4_heard, Cond.code yX4_heard cX4_heard 5 (some .int), Cond.methodLink RX4 55 yX4_skyAt, Cond.instanceMethod yX4_skyAt, Cond.selects RX4 yX4_skyAt yX4_skyAt, Cond.code yX4_skyAt cX4_skyAt 4 (some .int), Cond.fieldLink RX4 29 "FlagChipsModel" "storms" "[I", Cond.methodLink RX4 52 yX4_signal, Cond.instanceMethod yX4_signal, Cond.selects RX4 yX4_signal yX4_signal, Cond.code yX4_signal cX4_signal 4 (some .int), Cond.fieldLink RX4 17 "FlagChipsModel" "strength" "[I", Cond.methodLink RX4 48 yX4_chipOf, Cond.static yX4_chipOf, Cond.code yX4_chipOf cX4_chipOf 2 (some .int), Cond.methodLink RX4 42 yJ6_bitCount_0f7a4, Cond.static yJ6_bitCount_0f7a4, Cond.initialized RJ6, Cond.code yJ6_bitCount_0f7a4 cJ6_bitCount_0f7a4 1 (some .int)]
def wsX4_counted_r3 : List Cond := [Cond.constant RJ6 265 (1431655765), Cond.constant RJ6 266 (858993459), Cond.constant RJ6 267 (252645135), Cond.methodLink RX4 67 yX4_sign, Cond.static yX4_sign, Cond.code yX4_sign cX4_sign 1 (some .int), Cond.methodLink RX4 84 yX4_end, Cond.instanceMethod yX4_end, Cond.selects RX4 yX4_end yX4_end, Cond.code yX4_end cX4_end 3 (some .int), Cond.methodLink RX4 79 Lib.Math.max.name, Cond.static Lib.Math.max.name, Cond.initialized "java/lang/Math", Cond.code Lib.Math.max.name Lib.Math.max.code 2 (some .int), Cond.methodLink RX4 76 yX4_endOf, Cond.instanceMethod yX4_endOf, Cond.selects RX4 yX4_endOf yX4_endOf, Cond.code yX4_endOf cX4_endOf 2 (some .int), Cond.methodLink RX4 123 yX4_highest, Cond.instanceMethod yX4_highest, Cond.selects RX4 yX4_highest yX4_highest, Cond.code yX4_highest cX4_highest 4 (some .int), Cond.methodLink RX4 88 Lib.Math.abs.name, Cond.static Lib.Math.abs.name]
def wsX4_counted_r4 : List Cond := [Cond.code Lib.Math.abs.name Lib.Math.abs.code 1 (some .int), Cond.methodLink RX4 126 yX4_isTaken, Cond.instanceMethod yX4_isTaken, Cond.selects RX4 yX4_isTaken yX4_isTaken, Cond.code yX4_isTaken cX4_isTaken 3 (some .boolean)]
def wsX4_counted : List Cond := .code yX4_counted cX4_counted 4 (some .int) :: ((wsX4_counted_r1 ++ (wsX4_counted_r2 ++ (wsX4_counted_r3 ++ wsX4_counted_r4))) ++ wsX40)
def wsX4_count_r1 : List Cond := [Cond.fieldLink RX4 32 "FlagChipsModel" "thrown" "I", Cond.methodLink RX4 35 yX4_isIn, Cond.static yX4_isIn, Cond.initialized RX4, Cond.code yX4_isIn cX4_isIn 3 (some .boolean), Cond.methodLink RX4 129 yX4_counted, Cond.instanceMethod yX4_counted, Cond.selects RX4 yX4_counted yX4_counted, Cond.code yX4_counted cX4_counted 4 (some .int), Cond.fieldLink RX4 7 "FlagChipsModel" "length" "I", Cond.fieldLink RX4 39 "FlagChipsModel" "hills" "I", Cond.fieldLink RX4 23 "FlagChipsModel" "words" "[I", Cond.methodLink RX4 120 yX4_allWrong, Cond.instanceMethod yX4_allWrong, Cond.selects RX4 yX4_allWrong yX4_allWrong, Cond.code yX4_allWrong cX4_allWrong 3 (some .int), Cond.methodLink RX4 73 yX4_wrongOf, Cond.instanceMethod yX4_wrongOf, Cond.selects RX4 yX4_wrongOf yX4_wrongOf, Cond.code yX4_wrongOf cX4_wrongOf 4 (some .int), Cond.methodLink RX4 70 yX4_isWrong, Cond.instanceMethod yX4_isWrong, Cond.selects RX4 yX4_isWrong yX4_isWrong, Cond.code yX4_isWrong cX4_isWrong 3 (some .int)]
def wsX4_count_r2 : List Cond := [Cond.fieldLink RX4 26 "FlagChipsModel" "said" "[I", Cond.methodLink RX4 64 yX4_heardOf, Cond.instanceMethod yX4_heardOf, Cond.selects RX4 yX4_heardOf yX4_heardOf, Cond.code yX4_heardOf cX4_heardOf 3 (some .int), Cond.fieldLink RX4 13 "FlagChipsModel" "code" "[I", Cond.methodLink RX4 58 yX4_beginOf, Cond.instanceMethod yX4_beginOf, Cond.selects RX4 yX4_beginOf yX4_beginOf, Cond.code yX4_beginOf cX4_beginOf 3 (some .int), Cond.fieldLink RX4 20 "FlagChipsModel" "delay" "[I", Cond.methodLink RX4 61 yX4_heard, Cond.instanceMethod yX4_heard, Cond.selects RX4 yX4_heard yX4_heard, Cond.code yX4_heard cX4_heard 5 (some .int), Cond.methodLink RX4 55 yX4_skyAt, Cond.instanceMethod yX4_skyAt, Cond.selects RX4 yX4_skyAt yX4_skyAt, Cond.code yX4_skyAt cX4_skyAt 4 (some .int), Cond.fieldLink RX4 29 "FlagChipsModel" "storms" "[I", Cond.methodLink RX4 52 yX4_signal, Cond.instanceMethod yX4_signal, Cond.selects RX4 yX4_signal yX4_signal, Cond.code yX4_signal cX4_signal 4 (some .int)]
def wsX4_count_r3 : List Cond := [Cond.fieldLink RX4 17 "FlagChipsModel" "strength" "[I", Cond.methodLink RX4 48 yX4_chipOf, Cond.static yX4_chipOf, Cond.code yX4_chipOf cX4_chipOf 2 (some .int), Cond.methodLink RX4 42 yJ6_bitCount_0f7a4, Cond.static yJ6_bitCount_0f7a4, Cond.initialized RJ6, Cond.code yJ6_bitCount_0f7a4 cJ6_bitCount_0f7a4 1 (some .int), Cond.constant RJ6 265 (1431655765), Cond.constant RJ6 266 (858993459), Cond.constant RJ6 267 (252645135), Cond.methodLink RX4 67 yX4_sign, Cond.static yX4_sign, Cond.code yX4_sign cX4_sign 1 (some .int), Cond.methodLink RX4 84 yX4_end, Cond.instanceMethod yX4_end, Cond.selects RX4 yX4_end yX4_end, Cond.code yX4_end cX4_end 3 (some .int), Cond.methodLink RX4 79 Lib.Math.max.name, Cond.static Lib.Math.max.name, Cond.initialized "java/lang/Math", Cond.code Lib.Math.max.name Lib.Math.max.code 2 (some .int), Cond.methodLink RX4 76 yX4_endOf, Cond.instanceMethod yX4_endOf]
def wsX4_count_r4 : List Cond := [Cond.selects RX4 yX4_endOf yX4_endOf, Cond.code yX4_endOf cX4_endOf 2 (some .int), Cond.methodLink RX4 123 yX4_highest, Cond.instanceMethod yX4_highest, Cond.selects RX4 yX4_highest yX4_highest, Cond.code yX4_highest cX4_highest 4 (some .int), Cond.methodLink RX4 88 Lib.Math.abs.name, Cond.static Lib.Math.abs.name, Cond.code Lib.Math.abs.name Lib.Math.abs.code 1 (some .int), Cond.methodLink RX4 126 yX4_isTaken, Cond.instanceMethod yX4_isTaken, Cond.selects RX4 yX4_isTaken yX4_isTaken, Cond.code yX4_isTaken cX4_isTaken 3 (some .boolean), Cond.methodLink RX4 91 yX4_no, Cond.instanceMethod yX4_no, Cond.selects RX4 yX4_no yX4_no, Cond.code yX4_no cX4_no 2 (some .int)]
def wsX4_count : List Cond := .code yX4_count cX4_count 2 (some .int) :: ((wsX4_count_r1 ++ (wsX4_count_r2 ++ (wsX4_count_r3 ++ wsX4_count_r4))) ++ wsX40)
def wsX4_alike_r1 : List Cond := [Cond.fieldLink RX4 32 "FlagChipsModel" "thrown" "I", Cond.methodLink RX4 94 yX4_isCode, Cond.instanceMethod yX4_isCode, Cond.selects RX4 yX4_isCode yX4_isCode, Cond.initialized RX4, Cond.code yX4_isCode cX4_isCode 2 (some .boolean), Cond.fieldLink RX4 7 "FlagChipsModel" "length" "I", Cond.methodLink RX4 35 yX4_isIn, Cond.static yX4_isIn, Cond.code yX4_isIn cX4_isIn 3 (some .boolean), Cond.methodLink RX4 91 yX4_no, Cond.instanceMethod yX4_no, Cond.selects RX4 yX4_no yX4_no, Cond.code yX4_no cX4_no 2 (some .int), Cond.methodLink RX4 132 yX4_likeness, Cond.instanceMethod yX4_likeness, Cond.selects RX4 yX4_likeness yX4_likeness, Cond.code yX4_likeness cX4_likeness 6 (some .int), Cond.methodLink RX4 88 Lib.Math.abs.name, Cond.static Lib.Math.abs.name, Cond.initialized "java/lang/Math", Cond.code Lib.Math.abs.name Lib.Math.abs.code 1 (some .int), Cond.methodLink RX4 48 yX4_chipOf, Cond.static yX4_chipOf]
def wsX4_alike_r2 : List Cond := [Cond.code yX4_chipOf cX4_chipOf 2 (some .int), Cond.methodLink RX4 42 yJ6_bitCount_0f7a4, Cond.static yJ6_bitCount_0f7a4, Cond.initialized RJ6, Cond.code yJ6_bitCount_0f7a4 cJ6_bitCount_0f7a4 1 (some .int), Cond.constant RJ6 265 (1431655765), Cond.constant RJ6 266 (858993459), Cond.constant RJ6 267 (252645135)]
def wsX4_alike : List Cond := .code yX4_alike cX4_alike 4 (some .int) :: ((wsX4_alike_r1 ++ wsX4_alike_r2) ++ wsX40)
def wsX4_shift_r1 : List Cond := [Cond.fieldLink RX4 32 "FlagChipsModel" "thrown" "I", Cond.fieldLink RX4 7 "FlagChipsModel" "length" "I", Cond.methodLink RX4 94 yX4_isCode, Cond.instanceMethod yX4_isCode, Cond.selects RX4 yX4_isCode yX4_isCode, Cond.initialized RX4, Cond.code yX4_isCode cX4_isCode 2 (some .boolean), Cond.methodLink RX4 35 yX4_isIn, Cond.static yX4_isIn, Cond.code yX4_isIn cX4_isIn 3 (some .boolean), Cond.methodLink RX4 91 yX4_no, Cond.instanceMethod yX4_no, Cond.selects RX4 yX4_no yX4_no, Cond.code yX4_no cX4_no 2 (some .int), Cond.methodLink RX4 132 yX4_likeness, Cond.instanceMethod yX4_likeness, Cond.selects RX4 yX4_likeness yX4_likeness, Cond.code yX4_likeness cX4_likeness 6 (some .int), Cond.methodLink RX4 88 Lib.Math.abs.name, Cond.static Lib.Math.abs.name, Cond.initialized "java/lang/Math", Cond.code Lib.Math.abs.name Lib.Math.abs.code 1 (some .int), Cond.methodLink RX4 48 yX4_chipOf, Cond.static yX4_chipOf]
def wsX4_shift_r2 : List Cond := [Cond.code yX4_chipOf cX4_chipOf 2 (some .int), Cond.methodLink RX4 42 yJ6_bitCount_0f7a4, Cond.static yJ6_bitCount_0f7a4, Cond.initialized RJ6, Cond.code yJ6_bitCount_0f7a4 cJ6_bitCount_0f7a4 1 (some .int), Cond.constant RJ6 265 (1431655765), Cond.constant RJ6 266 (858993459), Cond.constant RJ6 267 (252645135)]
def wsX4_shift : List Cond := .code yX4_shift cX4_shift 5 (some .int) :: ((wsX4_shift_r1 ++ wsX4_shift_r2) ++ wsX40)
def wsX4_disturbed : List Cond := .code yX4_disturbed cX4_disturbed 5 (some .int) :: ([.fieldLink RX4 39 "FlagChipsModel" "hills" "I", .fieldLink RX4 17 "FlagChipsModel" "strength" "[I", .fieldLink RX4 13 "FlagChipsModel" "code" "[I", .fieldLink RX4 20 "FlagChipsModel" "delay" "[I", .fieldLink RX4 7 "FlagChipsModel" "length" "I", .methodLink RX4 132 yX4_likeness, .instanceMethod yX4_likeness, .selects RX4 yX4_likeness yX4_likeness, .initialized RX4, .code yX4_likeness cX4_likeness 6 (some .int), .methodLink RX4 88 Lib.Math.abs.name, .static Lib.Math.abs.name, .initialized "java/lang/Math", .code Lib.Math.abs.name Lib.Math.abs.code 1 (some .int), .methodLink RX4 48 yX4_chipOf, .static yX4_chipOf, .code yX4_chipOf cX4_chipOf 2 (some .int), .methodLink RX4 42 yJ6_bitCount_0f7a4, .static yJ6_bitCount_0f7a4, .initialized RJ6, .code yJ6_bitCount_0f7a4 cJ6_bitCount_0f7a4 1 (some .int), .constant RJ6 265 (1431655765), .constant RJ6 266 (858993459), .constant RJ6 267 (252645135)] ++ wsX40)
def wsX4_advise_r1 : List Cond := [Cond.fieldLink RX4 32 "FlagChipsModel" "thrown" "I", Cond.fieldLink RX4 7 "FlagChipsModel" "length" "I", Cond.methodLink RX4 94 yX4_isCode, Cond.instanceMethod yX4_isCode, Cond.selects RX4 yX4_isCode yX4_isCode, Cond.initialized RX4, Cond.code yX4_isCode cX4_isCode 2 (some .boolean), Cond.methodLink RX4 35 yX4_isIn, Cond.static yX4_isIn, Cond.code yX4_isIn cX4_isIn 3 (some .boolean), Cond.methodLink RX4 91 yX4_no, Cond.instanceMethod yX4_no, Cond.selects RX4 yX4_no yX4_no, Cond.code yX4_no cX4_no 2 (some .int), Cond.methodLink RX4 126 yX4_isTaken, Cond.instanceMethod yX4_isTaken, Cond.selects RX4 yX4_isTaken yX4_isTaken, Cond.code yX4_isTaken cX4_isTaken 3 (some .boolean), Cond.fieldLink RX4 39 "FlagChipsModel" "hills" "I", Cond.fieldLink RX4 13 "FlagChipsModel" "code" "[I", Cond.methodLink RX4 135 yX4_disturbed, Cond.instanceMethod yX4_disturbed, Cond.selects RX4 yX4_disturbed yX4_disturbed, Cond.code yX4_disturbed cX4_disturbed 5 (some .int)]
def wsX4_advise_r2 : List Cond := [Cond.fieldLink RX4 17 "FlagChipsModel" "strength" "[I", Cond.fieldLink RX4 20 "FlagChipsModel" "delay" "[I", Cond.methodLink RX4 132 yX4_likeness, Cond.instanceMethod yX4_likeness, Cond.selects RX4 yX4_likeness yX4_likeness, Cond.code yX4_likeness cX4_likeness 6 (some .int), Cond.methodLink RX4 88 Lib.Math.abs.name, Cond.static Lib.Math.abs.name, Cond.initialized "java/lang/Math", Cond.code Lib.Math.abs.name Lib.Math.abs.code 1 (some .int), Cond.methodLink RX4 48 yX4_chipOf, Cond.static yX4_chipOf, Cond.code yX4_chipOf cX4_chipOf 2 (some .int), Cond.methodLink RX4 42 yJ6_bitCount_0f7a4, Cond.static yJ6_bitCount_0f7a4, Cond.initialized RJ6, Cond.code yJ6_bitCount_0f7a4 cJ6_bitCount_0f7a4 1 (some .int), Cond.constant RJ6 265 (1431655765), Cond.constant RJ6 266 (858993459), Cond.constant RJ6 267 (252645135)]
def wsX4_advise : List Cond := .code yX4_advise cX4_advise 6 (some .int) :: ((wsX4_advise_r1 ++ wsX4_advise_r2) ++ wsX40)
def wsX4_wrongWith_r1 : List Cond := [Cond.fieldLink RX4 17 "FlagChipsModel" "strength" "[I", Cond.methodLink RX4 120 yX4_allWrong, Cond.instanceMethod yX4_allWrong, Cond.selects RX4 yX4_allWrong yX4_allWrong, Cond.initialized RX4, Cond.code yX4_allWrong cX4_allWrong 3 (some .int), Cond.fieldLink RX4 39 "FlagChipsModel" "hills" "I", Cond.methodLink RX4 73 yX4_wrongOf, Cond.instanceMethod yX4_wrongOf, Cond.selects RX4 yX4_wrongOf yX4_wrongOf, Cond.code yX4_wrongOf cX4_wrongOf 4 (some .int), Cond.fieldLink RX4 23 "FlagChipsModel" "words" "[I", Cond.methodLink RX4 70 yX4_isWrong, Cond.instanceMethod yX4_isWrong, Cond.selects RX4 yX4_isWrong yX4_isWrong, Cond.code yX4_isWrong cX4_isWrong 3 (some .int), Cond.fieldLink RX4 26 "FlagChipsModel" "said" "[I", Cond.methodLink RX4 64 yX4_heardOf, Cond.instanceMethod yX4_heardOf, Cond.selects RX4 yX4_heardOf yX4_heardOf, Cond.code yX4_heardOf cX4_heardOf 3 (some .int), Cond.fieldLink RX4 13 "FlagChipsModel" "code" "[I", Cond.methodLink RX4 58 yX4_beginOf, Cond.instanceMethod yX4_beginOf]
def wsX4_wrongWith_r2 : List Cond := [Cond.selects RX4 yX4_beginOf yX4_beginOf, Cond.code yX4_beginOf cX4_beginOf 3 (some .int), Cond.fieldLink RX4 20 "FlagChipsModel" "delay" "[I", Cond.fieldLink RX4 7 "FlagChipsModel" "length" "I", Cond.methodLink RX4 61 yX4_heard, Cond.instanceMethod yX4_heard, Cond.selects RX4 yX4_heard yX4_heard, Cond.code yX4_heard cX4_heard 5 (some .int), Cond.methodLink RX4 55 yX4_skyAt, Cond.instanceMethod yX4_skyAt, Cond.selects RX4 yX4_skyAt yX4_skyAt, Cond.code yX4_skyAt cX4_skyAt 4 (some .int), Cond.fieldLink RX4 29 "FlagChipsModel" "storms" "[I", Cond.methodLink RX4 52 yX4_signal, Cond.instanceMethod yX4_signal, Cond.selects RX4 yX4_signal yX4_signal, Cond.code yX4_signal cX4_signal 4 (some .int), Cond.methodLink RX4 48 yX4_chipOf, Cond.static yX4_chipOf, Cond.code yX4_chipOf cX4_chipOf 2 (some .int), Cond.methodLink RX4 42 yJ6_bitCount_0f7a4, Cond.static yJ6_bitCount_0f7a4, Cond.initialized RJ6, Cond.code yJ6_bitCount_0f7a4 cJ6_bitCount_0f7a4 1 (some .int)]
def wsX4_wrongWith_r3 : List Cond := [Cond.constant RJ6 265 (1431655765), Cond.constant RJ6 266 (858993459), Cond.constant RJ6 267 (252645135), Cond.methodLink RX4 67 yX4_sign, Cond.static yX4_sign, Cond.code yX4_sign cX4_sign 1 (some .int)]
def wsX4_wrongWith : List Cond := .code yX4_wrongWith cX4_wrongWith 5 (some .int) :: ((wsX4_wrongWith_r1 ++ (wsX4_wrongWith_r2 ++ wsX4_wrongWith_r3)) ++ wsX40)
def wsX4_would_r1 : List Cond := [Cond.fieldLink RX4 32 "FlagChipsModel" "thrown" "I", Cond.methodLink RX4 101 yX4_isHill, Cond.instanceMethod yX4_isHill, Cond.selects RX4 yX4_isHill yX4_isHill, Cond.initialized RX4, Cond.code yX4_isHill cX4_isHill 2 (some .boolean), Cond.fieldLink RX4 39 "FlagChipsModel" "hills" "I", Cond.methodLink RX4 35 yX4_isIn, Cond.static yX4_isIn, Cond.code yX4_isIn cX4_isIn 3 (some .boolean), Cond.methodLink RX4 91 yX4_no, Cond.instanceMethod yX4_no, Cond.selects RX4 yX4_no yX4_no, Cond.code yX4_no cX4_no 2 (some .int), Cond.methodLink RX4 98 yX4_isStrength, Cond.static yX4_isStrength, Cond.code yX4_isStrength cX4_isStrength 1 (some .boolean), Cond.methodLink RX4 138 yX4_wrongWith, Cond.instanceMethod yX4_wrongWith, Cond.selects RX4 yX4_wrongWith yX4_wrongWith, Cond.code yX4_wrongWith cX4_wrongWith 5 (some .int), Cond.fieldLink RX4 17 "FlagChipsModel" "strength" "[I", Cond.methodLink RX4 120 yX4_allWrong, Cond.instanceMethod yX4_allWrong]
def wsX4_would_r2 : List Cond := [Cond.selects RX4 yX4_allWrong yX4_allWrong, Cond.code yX4_allWrong cX4_allWrong 3 (some .int), Cond.methodLink RX4 73 yX4_wrongOf, Cond.instanceMethod yX4_wrongOf, Cond.selects RX4 yX4_wrongOf yX4_wrongOf, Cond.code yX4_wrongOf cX4_wrongOf 4 (some .int), Cond.fieldLink RX4 23 "FlagChipsModel" "words" "[I", Cond.methodLink RX4 70 yX4_isWrong, Cond.instanceMethod yX4_isWrong, Cond.selects RX4 yX4_isWrong yX4_isWrong, Cond.code yX4_isWrong cX4_isWrong 3 (some .int), Cond.fieldLink RX4 26 "FlagChipsModel" "said" "[I", Cond.methodLink RX4 64 yX4_heardOf, Cond.instanceMethod yX4_heardOf, Cond.selects RX4 yX4_heardOf yX4_heardOf, Cond.code yX4_heardOf cX4_heardOf 3 (some .int), Cond.fieldLink RX4 13 "FlagChipsModel" "code" "[I", Cond.methodLink RX4 58 yX4_beginOf, Cond.instanceMethod yX4_beginOf, Cond.selects RX4 yX4_beginOf yX4_beginOf, Cond.code yX4_beginOf cX4_beginOf 3 (some .int), Cond.fieldLink RX4 20 "FlagChipsModel" "delay" "[I", Cond.fieldLink RX4 7 "FlagChipsModel" "length" "I", Cond.methodLink RX4 61 yX4_heard]
def wsX4_would_r3 : List Cond := [Cond.instanceMethod yX4_heard, Cond.selects RX4 yX4_heard yX4_heard, Cond.code yX4_heard cX4_heard 5 (some .int), Cond.methodLink RX4 55 yX4_skyAt, Cond.instanceMethod yX4_skyAt, Cond.selects RX4 yX4_skyAt yX4_skyAt, Cond.code yX4_skyAt cX4_skyAt 4 (some .int), Cond.fieldLink RX4 29 "FlagChipsModel" "storms" "[I", Cond.methodLink RX4 52 yX4_signal, Cond.instanceMethod yX4_signal, Cond.selects RX4 yX4_signal yX4_signal, Cond.code yX4_signal cX4_signal 4 (some .int), Cond.methodLink RX4 48 yX4_chipOf, Cond.static yX4_chipOf, Cond.code yX4_chipOf cX4_chipOf 2 (some .int), Cond.methodLink RX4 42 yJ6_bitCount_0f7a4, Cond.static yJ6_bitCount_0f7a4, Cond.initialized RJ6, Cond.code yJ6_bitCount_0f7a4 cJ6_bitCount_0f7a4 1 (some .int), Cond.constant RJ6 265 (1431655765), Cond.constant RJ6 266 (858993459), Cond.constant RJ6 267 (252645135), Cond.methodLink RX4 67 yX4_sign, Cond.static yX4_sign]
def wsX4_would_r4 : List Cond := [Cond.code yX4_sign cX4_sign 1 (some .int)]
def wsX4_would : List Cond := .code yX4_would cX4_would 3 (some .int) :: ((wsX4_would_r1 ++ (wsX4_would_r2 ++ (wsX4_would_r3 ++ wsX4_would_r4))) ++ wsX40)
def wsX4_tune_r1 : List Cond := [Cond.fieldLink RX4 32 "FlagChipsModel" "thrown" "I", Cond.methodLink RX4 101 yX4_isHill, Cond.instanceMethod yX4_isHill, Cond.selects RX4 yX4_isHill yX4_isHill, Cond.initialized RX4, Cond.code yX4_isHill cX4_isHill 2 (some .boolean), Cond.fieldLink RX4 39 "FlagChipsModel" "hills" "I", Cond.methodLink RX4 35 yX4_isIn, Cond.static yX4_isIn, Cond.code yX4_isIn cX4_isIn 3 (some .boolean), Cond.methodLink RX4 91 yX4_no, Cond.instanceMethod yX4_no, Cond.selects RX4 yX4_no yX4_no, Cond.code yX4_no cX4_no 2 (some .int), Cond.methodLink RX4 138 yX4_wrongWith, Cond.instanceMethod yX4_wrongWith, Cond.selects RX4 yX4_wrongWith yX4_wrongWith, Cond.code yX4_wrongWith cX4_wrongWith 5 (some .int), Cond.fieldLink RX4 17 "FlagChipsModel" "strength" "[I", Cond.methodLink RX4 120 yX4_allWrong, Cond.instanceMethod yX4_allWrong, Cond.selects RX4 yX4_allWrong yX4_allWrong, Cond.code yX4_allWrong cX4_allWrong 3 (some .int), Cond.methodLink RX4 73 yX4_wrongOf]
def wsX4_tune_r2 : List Cond := [Cond.instanceMethod yX4_wrongOf, Cond.selects RX4 yX4_wrongOf yX4_wrongOf, Cond.code yX4_wrongOf cX4_wrongOf 4 (some .int), Cond.fieldLink RX4 23 "FlagChipsModel" "words" "[I", Cond.methodLink RX4 70 yX4_isWrong, Cond.instanceMethod yX4_isWrong, Cond.selects RX4 yX4_isWrong yX4_isWrong, Cond.code yX4_isWrong cX4_isWrong 3 (some .int), Cond.fieldLink RX4 26 "FlagChipsModel" "said" "[I", Cond.methodLink RX4 64 yX4_heardOf, Cond.instanceMethod yX4_heardOf, Cond.selects RX4 yX4_heardOf yX4_heardOf, Cond.code yX4_heardOf cX4_heardOf 3 (some .int), Cond.fieldLink RX4 13 "FlagChipsModel" "code" "[I", Cond.methodLink RX4 58 yX4_beginOf, Cond.instanceMethod yX4_beginOf, Cond.selects RX4 yX4_beginOf yX4_beginOf, Cond.code yX4_beginOf cX4_beginOf 3 (some .int), Cond.fieldLink RX4 20 "FlagChipsModel" "delay" "[I", Cond.fieldLink RX4 7 "FlagChipsModel" "length" "I", Cond.methodLink RX4 61 yX4_heard, Cond.instanceMethod yX4_heard, Cond.selects RX4 yX4_heard yX4_heard, Cond.code yX4_heard cX4_heard 5 (some .int)]
def wsX4_tune_r3 : List Cond := [Cond.methodLink RX4 55 yX4_skyAt, Cond.instanceMethod yX4_skyAt, Cond.selects RX4 yX4_skyAt yX4_skyAt, Cond.code yX4_skyAt cX4_skyAt 4 (some .int), Cond.fieldLink RX4 29 "FlagChipsModel" "storms" "[I", Cond.methodLink RX4 52 yX4_signal, Cond.instanceMethod yX4_signal, Cond.selects RX4 yX4_signal yX4_signal, Cond.code yX4_signal cX4_signal 4 (some .int), Cond.methodLink RX4 48 yX4_chipOf, Cond.static yX4_chipOf, Cond.code yX4_chipOf cX4_chipOf 2 (some .int), Cond.methodLink RX4 42 yJ6_bitCount_0f7a4, Cond.static yJ6_bitCount_0f7a4, Cond.initialized RJ6, Cond.code yJ6_bitCount_0f7a4 cJ6_bitCount_0f7a4 1 (some .int), Cond.constant RJ6 265 (1431655765), Cond.constant RJ6 266 (858993459), Cond.constant RJ6 267 (252645135), Cond.methodLink RX4 67 yX4_sign, Cond.static yX4_sign, Cond.code yX4_sign cX4_sign 1 (some .int)]
def wsX4_tune : List Cond := .code yX4_tune cX4_tune 6 (some .int) :: ((wsX4_tune_r1 ++ (wsX4_tune_r2 ++ wsX4_tune_r3)) ++ wsX40)
def wsX4_mean_r1 : List Cond := [Cond.fieldLink RX4 32 "FlagChipsModel" "thrown" "I", Cond.methodLink RX4 84 yX4_end, Cond.instanceMethod yX4_end, Cond.selects RX4 yX4_end yX4_end, Cond.initialized RX4, Cond.code yX4_end cX4_end 3 (some .int), Cond.fieldLink RX4 39 "FlagChipsModel" "hills" "I", Cond.methodLink RX4 79 Lib.Math.max.name, Cond.static Lib.Math.max.name, Cond.initialized "java/lang/Math", Cond.code Lib.Math.max.name Lib.Math.max.code 2 (some .int), Cond.methodLink RX4 76 yX4_endOf, Cond.instanceMethod yX4_endOf, Cond.selects RX4 yX4_endOf yX4_endOf, Cond.code yX4_endOf cX4_endOf 2 (some .int), Cond.fieldLink RX4 23 "FlagChipsModel" "words" "[I", Cond.methodLink RX4 58 yX4_beginOf, Cond.instanceMethod yX4_beginOf, Cond.selects RX4 yX4_beginOf yX4_beginOf, Cond.code yX4_beginOf cX4_beginOf 3 (some .int), Cond.fieldLink RX4 20 "FlagChipsModel" "delay" "[I", Cond.fieldLink RX4 7 "FlagChipsModel" "length" "I", Cond.methodLink RX4 55 yX4_skyAt, Cond.instanceMethod yX4_skyAt]
def wsX4_mean_r2 : List Cond := [Cond.selects RX4 yX4_skyAt yX4_skyAt, Cond.code yX4_skyAt cX4_skyAt 4 (some .int), Cond.fieldLink RX4 29 "FlagChipsModel" "storms" "[I", Cond.methodLink RX4 52 yX4_signal, Cond.instanceMethod yX4_signal, Cond.selects RX4 yX4_signal yX4_signal, Cond.code yX4_signal cX4_signal 4 (some .int), Cond.fieldLink RX4 17 "FlagChipsModel" "strength" "[I", Cond.fieldLink RX4 26 "FlagChipsModel" "said" "[I", Cond.fieldLink RX4 13 "FlagChipsModel" "code" "[I", Cond.methodLink RX4 48 yX4_chipOf, Cond.static yX4_chipOf, Cond.code yX4_chipOf cX4_chipOf 2 (some .int), Cond.methodLink RX4 42 yJ6_bitCount_0f7a4, Cond.static yJ6_bitCount_0f7a4, Cond.initialized RJ6, Cond.code yJ6_bitCount_0f7a4 cJ6_bitCount_0f7a4 1 (some .int), Cond.constant RJ6 265 (1431655765), Cond.constant RJ6 266 (858993459), Cond.constant RJ6 267 (252645135)]
def wsX4_mean : List Cond := .code yX4_mean cX4_mean 4 (some .double) :: ((wsX4_mean_r1 ++ wsX4_mean_r2) ++ wsX40)
def wsX4_digest_r1 : List Cond := [Cond.fieldLink RX4 32 "FlagChipsModel" "thrown" "I", Cond.constantLong RX4 141 (1621), Cond.constantLong RX4 143 (31), Cond.fieldLink RX4 29 "FlagChipsModel" "storms" "[I", Cond.fieldLink RX4 39 "FlagChipsModel" "hills" "I", Cond.fieldLink RX4 23 "FlagChipsModel" "words" "[I", Cond.methodLink RX4 129 yX4_counted, Cond.instanceMethod yX4_counted, Cond.selects RX4 yX4_counted yX4_counted, Cond.initialized RX4, Cond.code yX4_counted cX4_counted 4 (some .int), Cond.fieldLink RX4 7 "FlagChipsModel" "length" "I", Cond.methodLink RX4 120 yX4_allWrong, Cond.instanceMethod yX4_allWrong, Cond.selects RX4 yX4_allWrong yX4_allWrong, Cond.code yX4_allWrong cX4_allWrong 3 (some .int), Cond.methodLink RX4 73 yX4_wrongOf, Cond.instanceMethod yX4_wrongOf, Cond.selects RX4 yX4_wrongOf yX4_wrongOf, Cond.code yX4_wrongOf cX4_wrongOf 4 (some .int), Cond.methodLink RX4 70 yX4_isWrong, Cond.instanceMethod yX4_isWrong, Cond.selects RX4 yX4_isWrong yX4_isWrong, Cond.code yX4_isWrong cX4_isWrong 3 (some .int)]
def wsX4_digest_r2 : List Cond := [Cond.fieldLink RX4 26 "FlagChipsModel" "said" "[I", Cond.methodLink RX4 64 yX4_heardOf, Cond.instanceMethod yX4_heardOf, Cond.selects RX4 yX4_heardOf yX4_heardOf, Cond.code yX4_heardOf cX4_heardOf 3 (some .int), Cond.fieldLink RX4 13 "FlagChipsModel" "code" "[I", Cond.methodLink RX4 58 yX4_beginOf, Cond.instanceMethod yX4_beginOf, Cond.selects RX4 yX4_beginOf yX4_beginOf, Cond.code yX4_beginOf cX4_beginOf 3 (some .int), Cond.fieldLink RX4 20 "FlagChipsModel" "delay" "[I", Cond.methodLink RX4 61 yX4_heard, Cond.instanceMethod yX4_heard, Cond.selects RX4 yX4_heard yX4_heard, Cond.code yX4_heard cX4_heard 5 (some .int), Cond.methodLink RX4 55 yX4_skyAt, Cond.instanceMethod yX4_skyAt, Cond.selects RX4 yX4_skyAt yX4_skyAt, Cond.code yX4_skyAt cX4_skyAt 4 (some .int), Cond.methodLink RX4 52 yX4_signal, Cond.instanceMethod yX4_signal, Cond.selects RX4 yX4_signal yX4_signal, Cond.code yX4_signal cX4_signal 4 (some .int), Cond.fieldLink RX4 17 "FlagChipsModel" "strength" "[I"]
def wsX4_digest_r3 : List Cond := [Cond.methodLink RX4 48 yX4_chipOf, Cond.static yX4_chipOf, Cond.code yX4_chipOf cX4_chipOf 2 (some .int), Cond.methodLink RX4 42 yJ6_bitCount_0f7a4, Cond.static yJ6_bitCount_0f7a4, Cond.initialized RJ6, Cond.code yJ6_bitCount_0f7a4 cJ6_bitCount_0f7a4 1 (some .int), Cond.constant RJ6 265 (1431655765), Cond.constant RJ6 266 (858993459), Cond.constant RJ6 267 (252645135), Cond.methodLink RX4 67 yX4_sign, Cond.static yX4_sign, Cond.code yX4_sign cX4_sign 1 (some .int), Cond.methodLink RX4 84 yX4_end, Cond.instanceMethod yX4_end, Cond.selects RX4 yX4_end yX4_end, Cond.code yX4_end cX4_end 3 (some .int), Cond.methodLink RX4 79 Lib.Math.max.name, Cond.static Lib.Math.max.name, Cond.initialized "java/lang/Math", Cond.code Lib.Math.max.name Lib.Math.max.code 2 (some .int), Cond.methodLink RX4 76 yX4_endOf, Cond.instanceMethod yX4_endOf, Cond.selects RX4 yX4_endOf yX4_endOf]
def wsX4_digest_r4 : List Cond := [Cond.code yX4_endOf cX4_endOf 2 (some .int), Cond.methodLink RX4 123 yX4_highest, Cond.instanceMethod yX4_highest, Cond.selects RX4 yX4_highest yX4_highest, Cond.code yX4_highest cX4_highest 4 (some .int), Cond.methodLink RX4 88 Lib.Math.abs.name, Cond.static Lib.Math.abs.name, Cond.code Lib.Math.abs.name Lib.Math.abs.code 1 (some .int), Cond.methodLink RX4 126 yX4_isTaken, Cond.instanceMethod yX4_isTaken, Cond.selects RX4 yX4_isTaken yX4_isTaken, Cond.code yX4_isTaken cX4_isTaken 3 (some .boolean), Cond.methodLink RX4 117 yX4_hillTold, Cond.instanceMethod yX4_hillTold, Cond.selects RX4 yX4_hillTold yX4_hillTold, Cond.code yX4_hillTold cX4_hillTold 3 (some .int), Cond.methodLink RX4 114 yX4_faintest, Cond.instanceMethod yX4_faintest, Cond.selects RX4 yX4_faintest yX4_faintest, Cond.code yX4_faintest cX4_faintest 4 (some .int), Cond.methodLink RX4 111 Lib.Math.min.name, Cond.static Lib.Math.min.name, Cond.code Lib.Math.min.name Lib.Math.min.code 2 (some .int), Cond.methodLink RX4 107 yX4_wordTold]
def wsX4_digest_r5 : List Cond := [Cond.instanceMethod yX4_wordTold, Cond.selects RX4 yX4_wordTold yX4_wordTold, Cond.code yX4_wordTold cX4_wordTold 4 (some .int)]
def wsX4_digest : List Cond := .code yX4_digest cX4_digest 7 (some .long) :: ((wsX4_digest_r1 ++ (wsX4_digest_r2 ++ (wsX4_digest_r3 ++ (wsX4_digest_r4 ++ wsX4_digest_r5)))) ++ wsX40)
def wsJ9_abs_0f7a4 : List Cond := .code yJ9_abs_0f7a4 cJ9_abs_0f7a4 1 (some .int) :: ([])
def wsJ9_max_7cf53 : List Cond := .code yJ9_max_7cf53 cJ9_max_7cf53 2 (some .int) :: ([])
def wsJ9_min_7cf53 : List Cond := .code yJ9_min_7cf53 cJ9_min_7cf53 2 (some .int) :: ([])
def wsL_setCodes_r1 : List Cond := [Cond.classLink RL 13 "java/lang/IllegalArgumentException", Cond.methodLink RL 7 yX3_setCodes, Cond.instanceMethod yX3_setCodes, Cond.selects RX3 yX3_setCodes yX3_setCodes, Cond.initialized RX3, Cond.code yX3_setCodes cX3_setCodes 3 (some .int), Cond.classLink RX3 32 "java/lang/IllegalArgumentException", Cond.initialized "java/lang/IllegalArgumentException", Cond.fieldLink RX3 12 "FlagChips" "codes" "LFlagChips$Codes;", Cond.fieldLink RX3 39 "FlagChips$Codes" "length" "I", Cond.fieldLink RX3 28 "FlagChips" "hills" "Ljava/util/ArrayList;", Cond.fieldLink RX3 21 "FlagChips" "sky" "LFlagChips$Sky;", Cond.methodLink RX3 43 yJx4a65c_clear_da8c8, Cond.instanceMethod yJx4a65c_clear_da8c8, Cond.selects RJx4a65c yJx4a65c_clear_da8c8 yJx4a65c_clear_da8c8, Cond.initialized RJx4a65c, Cond.code yJx4a65c_clear_da8c8 cJx4a65c_clear_da8c8 4 none, Cond.fieldLink RJx4a65c 63 "java/util/ArrayList" "modCount" "I", Cond.sameField "java/util/ArrayList" "java/util/AbstractList" "modCount" "I", Cond.fieldLink RJx4a65c 9 "java/util/ArrayList" "elementData" "[Ljava/lang/Object;", Cond.fieldLink RJx4a65c 48 "java/util/ArrayList" "size" "I", Cond.methodLink RX3 46 yX2_silence, Cond.instanceMethod yX2_silence, Cond.selects RX2 yX2_silence yX2_silence]
def wsL_setCodes_r2 : List Cond := [Cond.initialized RX2, Cond.code yX2_silence cX2_silence 1 none, Cond.fieldLink RX2 15 "FlagChips$Sky" "signals" "[I", Cond.methodLink RX2 22 yJ7_fill_53178, Cond.static yJ7_fill_53178, Cond.initialized RJ7, Cond.code yJ7_fill_53178 cJ7_fill_53178 4 none]
def wsL_setCodes : List Cond := .codeWith yL_setCodes cL_setCodes 4 (some .int) [(0, 9, 12, 13)] :: ((wsL_setCodes_r1 ++ wsL_setCodes_r2) ++ wsX30 ++ wsX00 ++ wsJx4a65c0 ++ wsX20 ++ (vx_atS RX3 36 "java/lang/IllegalArgumentException" ["java/lang/RuntimeException", "java/lang/Exception"]).filter goodWord)
def wsL_hill_r1 : List Cond := [Cond.classLink RL 19 "java/lang/IndexOutOfBoundsException", Cond.classLink RL 13 "java/lang/IllegalArgumentException", Cond.classLink RL 21 "java/lang/IllegalStateException", Cond.methodLink RL 15 yX3_hill, Cond.instanceMethod yX3_hill, Cond.selects RX3 yX3_hill yX3_hill, Cond.initialized RX3, Cond.code yX3_hill cX3_hill 3 (some .int), Cond.classLink RX3 60 "java/lang/IllegalStateException", Cond.initialized "java/lang/IllegalStateException", Cond.fieldLink RX3 28 "FlagChips" "hills" "Ljava/util/ArrayList;", Cond.classLink RX3 65 RX1, Cond.instantiable RX1 5, Cond.initialized RX1, Cond.methodLink RX3 49 yX3_checkCode, Cond.instanceMethod yX3_checkCode, Cond.selects RX3 yX3_checkCode yX3_checkCode, Cond.code yX3_checkCode cX3_checkCode 2 none, Cond.classLink RX3 106 "java/lang/IndexOutOfBoundsException", Cond.initialized "java/lang/IndexOutOfBoundsException", Cond.fieldLink RX3 12 "FlagChips" "codes" "LFlagChips$Codes;", Cond.methodLink RX3 117 yX0_has, Cond.instanceMethod yX0_has, Cond.selects RX0 yX0_has yX0_has]
def wsL_hill_r2 : List Cond := [Cond.initialized RX0, Cond.code yX0_has cX0_has 2 (some .boolean), Cond.fieldLink RX0 9 "FlagChips$Codes" "length" "I", Cond.methodLink RX3 53 yX3_checkStrength, Cond.instanceMethod yX3_checkStrength, Cond.selects RX3 yX3_checkStrength yX3_checkStrength, Cond.code yX3_checkStrength cX3_checkStrength 2 none, Cond.classLink RX3 32 "java/lang/IllegalArgumentException", Cond.initialized "java/lang/IllegalArgumentException", Cond.methodLink RX3 56 yJx4a65c_size_8abf5, Cond.instanceMethod yJx4a65c_size_8abf5, Cond.selects RJx4a65c yJx4a65c_size_8abf5 yJx4a65c_size_8abf5, Cond.initialized RJx4a65c, Cond.code yJx4a65c_size_8abf5 cJx4a65c_size_8abf5 1 (some .int), Cond.fieldLink RJx4a65c 48 "java/util/ArrayList" "size" "I", Cond.methodLink RX3 67 yX1_init, Cond.instanceMethod yX1_init, Cond.code yX1_init cX1_init 3 none, Cond.methodLink RX1 3 objectInit, Cond.instanceMethod objectInit, Cond.code objectInit ⟨#[0xb1]⟩ 1 none, Cond.fieldLink RX1 9 "FlagChips$Hill" "delay" "I", Cond.fieldLink RX1 15 "FlagChips$Hill" "said" "I", Cond.arrayClass .int]
def wsL_hill_r3 : List Cond := [Cond.fieldLink RX1 18 "FlagChips$Hill" "words" "[I", Cond.fieldLink RX1 22 "FlagChips$Hill" "code" "I", Cond.fieldLink RX1 25 "FlagChips$Hill" "strength" "I", Cond.methodLink RX3 70 yJx4a65c_add_9ea2d, Cond.instanceMethod yJx4a65c_add_9ea2d, Cond.selects RJx4a65c yJx4a65c_add_9ea2d yJx4a65c_add_9ea2d, Cond.code yJx4a65c_add_9ea2d cJx4a65c_add_9ea2d 2 (some .boolean), Cond.fieldLink RJx4a65c 63 "java/util/ArrayList" "modCount" "I", Cond.sameField "java/util/ArrayList" "java/util/AbstractList" "modCount" "I", Cond.fieldLink RJx4a65c 9 "java/util/ArrayList" "elementData" "[Ljava/lang/Object;", Cond.methodLink RJx4a65c 131 yJx4a65c_add_72be8, Cond.instanceMethod yJx4a65c_add_72be8, Cond.selects RJx4a65c yJx4a65c_add_72be8 yJx4a65c_add_72be8, Cond.code yJx4a65c_add_72be8 cJx4a65c_add_72be8 4 none, Cond.methodLink RJx4a65c 129 yJx4a65c_grow_d5877, Cond.instanceMethod yJx4a65c_grow_d5877, Cond.selects RJx4a65c yJx4a65c_grow_d5877 yJx4a65c_grow_d5877, Cond.code yJx4a65c_grow_d5877 cJx4a65c_grow_d5877 1 (some (.array (.object "java/lang/Object"))), Cond.methodLink RJx4a65c 69 yJx4a65c_grow_92f84, Cond.instanceMethod yJx4a65c_grow_92f84, Cond.selects RJx4a65c yJx4a65c_grow_92f84 yJx4a65c_grow_92f84, Cond.code yJx4a65c_grow_92f84 cJx4a65c_grow_92f84 4 (some (.array (.object "java/lang/Object"))), Cond.fieldLink RJx4a65c 39 "java/util/ArrayList" "DEFAULTCAPACITY_EMPTY_ELEMENTDATA" "[Ljava/lang/Object;", Cond.methodLink RJx4a65c 79 Lib.Math.max.name]
def wsL_hill_r4 : List Cond := [Cond.static Lib.Math.max.name, Cond.initialized "java/lang/Math", Cond.code Lib.Math.max.name Lib.Math.max.code 2 (some .int), Cond.classLink RJx4a65c 7 "java/lang/Object", Cond.methodLink RJx4a65c 73 yJ8_newLength_cabcc, Cond.static yJ8_newLength_cabcc, Cond.initialized RJ8, Cond.code yJ8_newLength_cabcc cJ8_newLength_cabcc 4 (some .int), Cond.methodLink RJ8 194 Lib.Math.max.name, Cond.constant RJ8 200 (2147483639), Cond.methodLink RJ8 201 yJ8_hugeLength_7cf53, Cond.static yJ8_hugeLength_7cf53, Cond.code yJ8_hugeLength_7cf53 cJ8_hugeLength_7cf53 3 (some .int), Cond.methodLink RJx4a65c 66 yJ7_copyOf_1904c, Cond.static yJ7_copyOf_1904c, Cond.initialized RJ7, Cond.code yJ7_copyOf_1904c cJ7_copyOf_1904c 2 (some (.array (.object "java/lang/Object"))), Cond.methodLink RJ7 86 ⟨"java/lang/Object", "getClass", "()Ljava/lang/Class;"⟩, Cond.selects "[Ljava/lang/Object;" ⟨"java/lang/Object", "getClass", "()Ljava/lang/Class;"⟩ ⟨"java/lang/Object", "getClass", "()Ljava/lang/Class;"⟩, Cond.instanceMethod ⟨"java/lang/Object", "getClass", "()Ljava/lang/Class;"⟩, Cond.native ⟨"java/lang/Object", "getClass", "()Ljava/lang/Class;"⟩, Cond.methodLink RJ7 300 yJ7_copyOf_6403c, Cond.static yJ7_copyOf_6403c, Cond.code yJ7_copyOf_6403c cJ7_copyOf_6403c 4 (some (.array (.object "java/lang/Object")))]
def wsL_hill_r5 : List Cond := [Cond.classLink RJ7 110 "[Ljava/lang/Object;", Cond.classLink RJ7 2 "java/lang/Object", Cond.methodLink RJ7 304 Lib.Math.min.name, Cond.static Lib.Math.min.name, Cond.code Lib.Math.min.name Lib.Math.min.code 2 (some .int), Cond.methodLink RJ7 150 arraycopyName, Cond.native arraycopyName, Cond.static arraycopyName, Cond.initialized "java/lang/System"]
def wsL_hill : List Cond := .codeWith yL_hill cL_hill 5 (some .int) [(0, 10, 13, 19), (0, 10, 17, 13), (0, 10, 21, 21)] :: ((wsL_hill_r1 ++ (wsL_hill_r2 ++ (wsL_hill_r3 ++ (wsL_hill_r4 ++ wsL_hill_r5)))) ++ wsX30 ++ wsX10 ++ wsX00 ++ wsJx4a65c0 ++ (vx_atS RX3 64 "java/lang/IllegalStateException" ["java/lang/RuntimeException", "java/lang/Exception"]).filter goodWord ++ (vx_atS RX3 110 "java/lang/IndexOutOfBoundsException" ["java/lang/RuntimeException", "java/lang/Exception"]).filter goodWord ++ (vx_atS RX3 36 "java/lang/IllegalArgumentException" ["java/lang/RuntimeException", "java/lang/Exception"]).filter goodWord)
def wsL_say_r1 : List Cond := [Cond.classLink RL 19 "java/lang/IndexOutOfBoundsException", Cond.classLink RL 21 "java/lang/IllegalStateException", Cond.methodLink RL 23 yX3_say, Cond.instanceMethod yX3_say, Cond.selects RX3 yX3_say yX3_say, Cond.initialized RX3, Cond.code yX3_say cX3_say 4 (some .int), Cond.classLink RX3 60 "java/lang/IllegalStateException", Cond.initialized "java/lang/IllegalStateException", Cond.fieldLink RX3 21 "FlagChips" "sky" "LFlagChips$Sky;", Cond.fieldLink RX3 86 "FlagChips$Hill" "said" "I", Cond.fieldLink RX3 89 "FlagChips$Hill" "strength" "I", Cond.methodLink RX3 74 yX3_hillAt, Cond.instanceMethod yX3_hillAt, Cond.selects RX3 yX3_hillAt yX3_hillAt, Cond.code yX3_hillAt cX3_hillAt 2 (some (.object "FlagChips$Hill")), Cond.classLink RX3 106 "java/lang/IndexOutOfBoundsException", Cond.initialized "java/lang/IndexOutOfBoundsException", Cond.fieldLink RX3 28 "FlagChips" "hills" "Ljava/util/ArrayList;", Cond.classLink RX3 65 "FlagChips$Hill", Cond.methodLink RX3 56 yJx4a65c_size_8abf5, Cond.instanceMethod yJx4a65c_size_8abf5, Cond.selects RJx4a65c yJx4a65c_size_8abf5 yJx4a65c_size_8abf5, Cond.initialized RJx4a65c]
def wsL_say_r2 : List Cond := [Cond.code yJx4a65c_size_8abf5 cJx4a65c_size_8abf5 1 (some .int), Cond.fieldLink RJx4a65c 48 "java/util/ArrayList" "size" "I", Cond.methodLink RX3 219 yJx4a65c_get_915e3, Cond.instanceMethod yJx4a65c_get_915e3, Cond.selects RJx4a65c yJx4a65c_get_915e3 yJx4a65c_get_915e3, Cond.code yJx4a65c_get_915e3 cJx4a65c_get_915e3 2 (some (.object "java/lang/Object")), Cond.methodLink RJx4a65c 118 yJ15_checkIndex_7cf53, Cond.static yJ15_checkIndex_7cf53, Cond.initialized RJ15, Cond.code yJ15_checkIndex_7cf53 cJ15_checkIndex_7cf53 2 (some .int), Cond.methodLink RJ15 105 yJ3_checkIndex_8e157, Cond.static yJ3_checkIndex_8e157, Cond.initialized RJ3, Cond.code yJ3_checkIndex_8e157 cJ3_checkIndex_8e157 3 (some .int), Cond.methodLink RJx4a65c 123 yJx4a65c_elementData_915e3, Cond.instanceMethod yJx4a65c_elementData_915e3, Cond.selects RJx4a65c yJx4a65c_elementData_915e3 yJx4a65c_elementData_915e3, Cond.code yJx4a65c_elementData_915e3 cJx4a65c_elementData_915e3 2 (some (.object "java/lang/Object")), Cond.fieldLink RJx4a65c 9 "java/util/ArrayList" "elementData" "[Ljava/lang/Object;", Cond.methodLink RX3 78 yX1_isFull, Cond.instanceMethod yX1_isFull, Cond.selects RX1 yX1_isFull yX1_isFull, Cond.initialized RX1, Cond.code yX1_isFull cX1_isFull 1 (some .boolean)]
def wsL_say_r3 : List Cond := [Cond.fieldLink RX1 15 "FlagChips$Hill" "said" "I", Cond.fieldLink RX1 18 "FlagChips$Hill" "words" "[I", Cond.methodLink RX3 84 yX1_add, Cond.instanceMethod yX1_add, Cond.selects RX1 yX1_add yX1_add, Cond.code yX1_add cX1_add 2 none, Cond.methodLink RX1 28 yX1_isFull, Cond.methodLink RX3 92 yX2_addWord, Cond.instanceMethod yX2_addWord, Cond.selects RX2 yX2_addWord yX2_addWord, Cond.initialized RX2, Cond.code yX2_addWord cX2_addWord 8 none, Cond.fieldLink RX2 18 "FlagChips$Sky" "codes" "LFlagChips$Codes;", Cond.fieldLink RX2 42 "FlagChips$Codes" "length" "I", Cond.fieldLink RX2 15 "FlagChips$Sky" "signals" "[I", Cond.fieldLink RX2 51 "FlagChips$Hill" "code" "I", Cond.methodLink RX2 38 yX1_wordAt, Cond.instanceMethod yX1_wordAt, Cond.selects RX1 yX1_wordAt yX1_wordAt, Cond.code yX1_wordAt cX1_wordAt 2 (some .int), Cond.methodLink RX2 47 yX1_start, Cond.instanceMethod yX1_start, Cond.selects RX1 yX1_start yX1_start, Cond.code yX1_start cX1_start 3 (some .int)]
def wsL_say_r4 : List Cond := [Cond.fieldLink RX1 9 "FlagChips$Hill" "delay" "I", Cond.methodLink RX2 54 yX0_chipAt, Cond.instanceMethod yX0_chipAt, Cond.selects RX0 yX0_chipAt yX0_chipAt, Cond.initialized RX0, Cond.code yX0_chipAt cX0_chipAt 3 (some .int), Cond.methodLink RX0 15 yJ6_bitCount_0f7a4, Cond.static yJ6_bitCount_0f7a4, Cond.initialized RJ6, Cond.code yJ6_bitCount_0f7a4 cJ6_bitCount_0f7a4 1 (some .int), Cond.constant RJ6 265 (1431655765), Cond.constant RJ6 266 (858993459), Cond.constant RJ6 267 (252645135)]
def wsL_say : List Cond := .codeWith yL_say cL_say 5 (some .int) [(0, 10, 13, 19), (0, 10, 17, 21)] :: ((wsL_say_r1 ++ (wsL_say_r2 ++ (wsL_say_r3 ++ wsL_say_r4))) ++ wsX30 ++ wsX10 ++ wsJx4a65c0 ++ wsX20 ++ wsX00 ++ (vx_atS RX3 64 "java/lang/IllegalStateException" ["java/lang/RuntimeException", "java/lang/Exception"]).filter goodWord ++ (vx_atS RX3 110 "java/lang/IndexOutOfBoundsException" ["java/lang/RuntimeException", "java/lang/Exception"]).filter goodWord)
def wsL_hush_r1 : List Cond := [Cond.classLink RL 19 "java/lang/IndexOutOfBoundsException", Cond.methodLink RL 27 yX3_hush, Cond.instanceMethod yX3_hush, Cond.selects RX3 yX3_hush yX3_hush, Cond.initialized RX3, Cond.code yX3_hush cX3_hush 4 (some .int), Cond.fieldLink RX3 86 "FlagChips$Hill" "said" "I", Cond.fieldLink RX3 21 "FlagChips" "sky" "LFlagChips$Sky;", Cond.fieldLink RX3 89 "FlagChips$Hill" "strength" "I", Cond.methodLink RX3 74 yX3_hillAt, Cond.instanceMethod yX3_hillAt, Cond.selects RX3 yX3_hillAt yX3_hillAt, Cond.code yX3_hillAt cX3_hillAt 2 (some (.object "FlagChips$Hill")), Cond.classLink RX3 106 "java/lang/IndexOutOfBoundsException", Cond.initialized "java/lang/IndexOutOfBoundsException", Cond.fieldLink RX3 28 "FlagChips" "hills" "Ljava/util/ArrayList;", Cond.classLink RX3 65 "FlagChips$Hill", Cond.methodLink RX3 56 yJx4a65c_size_8abf5, Cond.instanceMethod yJx4a65c_size_8abf5, Cond.selects RJx4a65c yJx4a65c_size_8abf5 yJx4a65c_size_8abf5, Cond.initialized RJx4a65c, Cond.code yJx4a65c_size_8abf5 cJx4a65c_size_8abf5 1 (some .int), Cond.fieldLink RJx4a65c 48 "java/util/ArrayList" "size" "I", Cond.methodLink RX3 219 yJx4a65c_get_915e3]
def wsL_hush_r2 : List Cond := [Cond.instanceMethod yJx4a65c_get_915e3, Cond.selects RJx4a65c yJx4a65c_get_915e3 yJx4a65c_get_915e3, Cond.code yJx4a65c_get_915e3 cJx4a65c_get_915e3 2 (some (.object "java/lang/Object")), Cond.methodLink RJx4a65c 118 yJ15_checkIndex_7cf53, Cond.static yJ15_checkIndex_7cf53, Cond.initialized RJ15, Cond.code yJ15_checkIndex_7cf53 cJ15_checkIndex_7cf53 2 (some .int), Cond.methodLink RJ15 105 yJ3_checkIndex_8e157, Cond.static yJ3_checkIndex_8e157, Cond.initialized RJ3, Cond.code yJ3_checkIndex_8e157 cJ3_checkIndex_8e157 3 (some .int), Cond.methodLink RJx4a65c 123 yJx4a65c_elementData_915e3, Cond.instanceMethod yJx4a65c_elementData_915e3, Cond.selects RJx4a65c yJx4a65c_elementData_915e3 yJx4a65c_elementData_915e3, Cond.code yJx4a65c_elementData_915e3 cJx4a65c_elementData_915e3 2 (some (.object "java/lang/Object")), Cond.fieldLink RJx4a65c 9 "java/util/ArrayList" "elementData" "[Ljava/lang/Object;", Cond.methodLink RX3 96 yX2_addWords, Cond.instanceMethod yX2_addWords, Cond.selects RX2 yX2_addWords yX2_addWords, Cond.initialized RX2, Cond.code yX2_addWords cX2_addWords 4 none, Cond.fieldLink RX2 28 "FlagChips$Hill" "said" "I", Cond.methodLink RX2 34 yX2_addWord, Cond.instanceMethod yX2_addWord]
def wsL_hush_r3 : List Cond := [Cond.selects RX2 yX2_addWord yX2_addWord, Cond.code yX2_addWord cX2_addWord 8 none, Cond.fieldLink RX2 18 "FlagChips$Sky" "codes" "LFlagChips$Codes;", Cond.fieldLink RX2 42 "FlagChips$Codes" "length" "I", Cond.fieldLink RX2 15 "FlagChips$Sky" "signals" "[I", Cond.fieldLink RX2 51 "FlagChips$Hill" "code" "I", Cond.methodLink RX2 38 yX1_wordAt, Cond.instanceMethod yX1_wordAt, Cond.selects RX1 yX1_wordAt yX1_wordAt, Cond.initialized RX1, Cond.code yX1_wordAt cX1_wordAt 2 (some .int), Cond.fieldLink RX1 18 "FlagChips$Hill" "words" "[I", Cond.methodLink RX2 47 yX1_start, Cond.instanceMethod yX1_start, Cond.selects RX1 yX1_start yX1_start, Cond.code yX1_start cX1_start 3 (some .int), Cond.fieldLink RX1 9 "FlagChips$Hill" "delay" "I", Cond.methodLink RX2 54 yX0_chipAt, Cond.instanceMethod yX0_chipAt, Cond.selects RX0 yX0_chipAt yX0_chipAt, Cond.initialized RX0, Cond.code yX0_chipAt cX0_chipAt 3 (some .int), Cond.methodLink RX0 15 yJ6_bitCount_0f7a4, Cond.static yJ6_bitCount_0f7a4]
def wsL_hush_r4 : List Cond := [Cond.initialized RJ6, Cond.code yJ6_bitCount_0f7a4 cJ6_bitCount_0f7a4 1 (some .int), Cond.constant RJ6 265 (1431655765), Cond.constant RJ6 266 (858993459), Cond.constant RJ6 267 (252645135)]
def wsL_hush : List Cond := .codeWith yL_hush cL_hush 4 (some .int) [(0, 9, 12, 19)] :: ((wsL_hush_r1 ++ (wsL_hush_r2 ++ (wsL_hush_r3 ++ wsL_hush_r4))) ++ wsX10 ++ wsX30 ++ wsJx4a65c0 ++ wsX20 ++ wsX00 ++ (vx_atS RX3 110 "java/lang/IndexOutOfBoundsException" ["java/lang/RuntimeException", "java/lang/Exception"]).filter goodWord)
def wsL_setDelay_r1 : List Cond := [Cond.classLink RL 19 "java/lang/IndexOutOfBoundsException", Cond.classLink RL 13 "java/lang/IllegalArgumentException", Cond.methodLink RL 30 yX3_setDelay, Cond.instanceMethod yX3_setDelay, Cond.selects RX3 yX3_setDelay yX3_setDelay, Cond.initialized RX3, Cond.code yX3_setDelay cX3_setDelay 5 (some .int), Cond.fieldLink RX3 103 "FlagChips$Hill" "delay" "I", Cond.fieldLink RX3 21 "FlagChips" "sky" "LFlagChips$Sky;", Cond.fieldLink RX3 89 "FlagChips$Hill" "strength" "I", Cond.methodLink RX3 74 yX3_hillAt, Cond.instanceMethod yX3_hillAt, Cond.selects RX3 yX3_hillAt yX3_hillAt, Cond.code yX3_hillAt cX3_hillAt 2 (some (.object "FlagChips$Hill")), Cond.classLink RX3 106 "java/lang/IndexOutOfBoundsException", Cond.initialized "java/lang/IndexOutOfBoundsException", Cond.fieldLink RX3 28 "FlagChips" "hills" "Ljava/util/ArrayList;", Cond.classLink RX3 65 "FlagChips$Hill", Cond.methodLink RX3 56 yJx4a65c_size_8abf5, Cond.instanceMethod yJx4a65c_size_8abf5, Cond.selects RJx4a65c yJx4a65c_size_8abf5 yJx4a65c_size_8abf5, Cond.initialized RJx4a65c, Cond.code yJx4a65c_size_8abf5 cJx4a65c_size_8abf5 1 (some .int), Cond.fieldLink RJx4a65c 48 "java/util/ArrayList" "size" "I"]
def wsL_setDelay_r2 : List Cond := [Cond.methodLink RX3 219 yJx4a65c_get_915e3, Cond.instanceMethod yJx4a65c_get_915e3, Cond.selects RJx4a65c yJx4a65c_get_915e3 yJx4a65c_get_915e3, Cond.code yJx4a65c_get_915e3 cJx4a65c_get_915e3 2 (some (.object "java/lang/Object")), Cond.methodLink RJx4a65c 118 yJ15_checkIndex_7cf53, Cond.static yJ15_checkIndex_7cf53, Cond.initialized RJ15, Cond.code yJ15_checkIndex_7cf53 cJ15_checkIndex_7cf53 2 (some .int), Cond.methodLink RJ15 105 yJ3_checkIndex_8e157, Cond.static yJ3_checkIndex_8e157, Cond.initialized RJ3, Cond.code yJ3_checkIndex_8e157 cJ3_checkIndex_8e157 3 (some .int), Cond.methodLink RJx4a65c 123 yJx4a65c_elementData_915e3, Cond.instanceMethod yJx4a65c_elementData_915e3, Cond.selects RJx4a65c yJx4a65c_elementData_915e3 yJx4a65c_elementData_915e3, Cond.code yJx4a65c_elementData_915e3 cJx4a65c_elementData_915e3 2 (some (.object "java/lang/Object")), Cond.fieldLink RJx4a65c 9 "java/util/ArrayList" "elementData" "[Ljava/lang/Object;", Cond.methodLink RX3 100 yX3_checkDelay, Cond.instanceMethod yX3_checkDelay, Cond.selects RX3 yX3_checkDelay yX3_checkDelay, Cond.code yX3_checkDelay cX3_checkDelay 2 none, Cond.classLink RX3 32 "java/lang/IllegalArgumentException", Cond.initialized "java/lang/IllegalArgumentException", Cond.fieldLink RX3 12 "FlagChips" "codes" "LFlagChips$Codes;"]
def wsL_setDelay_r3 : List Cond := [Cond.fieldLink RX3 39 "FlagChips$Codes" "length" "I", Cond.methodLink RX3 96 yX2_addWords, Cond.instanceMethod yX2_addWords, Cond.selects RX2 yX2_addWords yX2_addWords, Cond.initialized RX2, Cond.code yX2_addWords cX2_addWords 4 none, Cond.fieldLink RX2 28 "FlagChips$Hill" "said" "I", Cond.methodLink RX2 34 yX2_addWord, Cond.instanceMethod yX2_addWord, Cond.selects RX2 yX2_addWord yX2_addWord, Cond.code yX2_addWord cX2_addWord 8 none, Cond.fieldLink RX2 18 "FlagChips$Sky" "codes" "LFlagChips$Codes;", Cond.fieldLink RX2 42 "FlagChips$Codes" "length" "I", Cond.fieldLink RX2 15 "FlagChips$Sky" "signals" "[I", Cond.fieldLink RX2 51 "FlagChips$Hill" "code" "I", Cond.methodLink RX2 38 yX1_wordAt, Cond.instanceMethod yX1_wordAt, Cond.selects RX1 yX1_wordAt yX1_wordAt, Cond.initialized RX1, Cond.code yX1_wordAt cX1_wordAt 2 (some .int), Cond.fieldLink RX1 18 "FlagChips$Hill" "words" "[I", Cond.methodLink RX2 47 yX1_start, Cond.instanceMethod yX1_start, Cond.selects RX1 yX1_start yX1_start]
def wsL_setDelay_r4 : List Cond := [Cond.code yX1_start cX1_start 3 (some .int), Cond.fieldLink RX1 9 "FlagChips$Hill" "delay" "I", Cond.methodLink RX2 54 yX0_chipAt, Cond.instanceMethod yX0_chipAt, Cond.selects RX0 yX0_chipAt yX0_chipAt, Cond.initialized RX0, Cond.code yX0_chipAt cX0_chipAt 3 (some .int), Cond.methodLink RX0 15 yJ6_bitCount_0f7a4, Cond.static yJ6_bitCount_0f7a4, Cond.initialized RJ6, Cond.code yJ6_bitCount_0f7a4 cJ6_bitCount_0f7a4 1 (some .int), Cond.constant RJ6 265 (1431655765), Cond.constant RJ6 266 (858993459), Cond.constant RJ6 267 (252645135)]
def wsL_setDelay : List Cond := .codeWith yL_setDelay cL_setDelay 5 (some .int) [(0, 10, 13, 19), (0, 10, 17, 13)] :: ((wsL_setDelay_r1 ++ (wsL_setDelay_r2 ++ (wsL_setDelay_r3 ++ wsL_setDelay_r4))) ++ wsX10 ++ wsX30 ++ wsJx4a65c0 ++ wsX00 ++ wsX20 ++ (vx_atS RX3 110 "java/lang/IndexOutOfBoundsException" ["java/lang/RuntimeException", "java/lang/Exception"]).filter goodWord ++ (vx_atS RX3 36 "java/lang/IllegalArgumentException" ["java/lang/RuntimeException", "java/lang/Exception"]).filter goodWord)
def wsL_setStrength_r1 : List Cond := [Cond.classLink RL 19 "java/lang/IndexOutOfBoundsException", Cond.classLink RL 13 "java/lang/IllegalArgumentException", Cond.methodLink RL 33 yX3_setStrength, Cond.instanceMethod yX3_setStrength, Cond.selects RX3 yX3_setStrength yX3_setStrength, Cond.initialized RX3, Cond.code yX3_setStrength cX3_setStrength 5 (some .int), Cond.fieldLink RX3 89 "FlagChips$Hill" "strength" "I", Cond.fieldLink RX3 21 "FlagChips" "sky" "LFlagChips$Sky;", Cond.methodLink RX3 74 yX3_hillAt, Cond.instanceMethod yX3_hillAt, Cond.selects RX3 yX3_hillAt yX3_hillAt, Cond.code yX3_hillAt cX3_hillAt 2 (some (.object "FlagChips$Hill")), Cond.classLink RX3 106 "java/lang/IndexOutOfBoundsException", Cond.initialized "java/lang/IndexOutOfBoundsException", Cond.fieldLink RX3 28 "FlagChips" "hills" "Ljava/util/ArrayList;", Cond.classLink RX3 65 "FlagChips$Hill", Cond.methodLink RX3 56 yJx4a65c_size_8abf5, Cond.instanceMethod yJx4a65c_size_8abf5, Cond.selects RJx4a65c yJx4a65c_size_8abf5 yJx4a65c_size_8abf5, Cond.initialized RJx4a65c, Cond.code yJx4a65c_size_8abf5 cJx4a65c_size_8abf5 1 (some .int), Cond.fieldLink RJx4a65c 48 "java/util/ArrayList" "size" "I", Cond.methodLink RX3 219 yJx4a65c_get_915e3]
def wsL_setStrength_r2 : List Cond := [Cond.instanceMethod yJx4a65c_get_915e3, Cond.selects RJx4a65c yJx4a65c_get_915e3 yJx4a65c_get_915e3, Cond.code yJx4a65c_get_915e3 cJx4a65c_get_915e3 2 (some (.object "java/lang/Object")), Cond.methodLink RJx4a65c 118 yJ15_checkIndex_7cf53, Cond.static yJ15_checkIndex_7cf53, Cond.initialized RJ15, Cond.code yJ15_checkIndex_7cf53 cJ15_checkIndex_7cf53 2 (some .int), Cond.methodLink RJ15 105 yJ3_checkIndex_8e157, Cond.static yJ3_checkIndex_8e157, Cond.initialized RJ3, Cond.code yJ3_checkIndex_8e157 cJ3_checkIndex_8e157 3 (some .int), Cond.methodLink RJx4a65c 123 yJx4a65c_elementData_915e3, Cond.instanceMethod yJx4a65c_elementData_915e3, Cond.selects RJx4a65c yJx4a65c_elementData_915e3 yJx4a65c_elementData_915e3, Cond.code yJx4a65c_elementData_915e3 cJx4a65c_elementData_915e3 2 (some (.object "java/lang/Object")), Cond.fieldLink RJx4a65c 9 "java/util/ArrayList" "elementData" "[Ljava/lang/Object;", Cond.methodLink RX3 53 yX3_checkStrength, Cond.instanceMethod yX3_checkStrength, Cond.selects RX3 yX3_checkStrength yX3_checkStrength, Cond.code yX3_checkStrength cX3_checkStrength 2 none, Cond.classLink RX3 32 "java/lang/IllegalArgumentException", Cond.initialized "java/lang/IllegalArgumentException", Cond.methodLink RX3 96 yX2_addWords, Cond.instanceMethod yX2_addWords]
def wsL_setStrength_r3 : List Cond := [Cond.selects RX2 yX2_addWords yX2_addWords, Cond.initialized RX2, Cond.code yX2_addWords cX2_addWords 4 none, Cond.fieldLink RX2 28 "FlagChips$Hill" "said" "I", Cond.methodLink RX2 34 yX2_addWord, Cond.instanceMethod yX2_addWord, Cond.selects RX2 yX2_addWord yX2_addWord, Cond.code yX2_addWord cX2_addWord 8 none, Cond.fieldLink RX2 18 "FlagChips$Sky" "codes" "LFlagChips$Codes;", Cond.fieldLink RX2 42 "FlagChips$Codes" "length" "I", Cond.fieldLink RX2 15 "FlagChips$Sky" "signals" "[I", Cond.fieldLink RX2 51 "FlagChips$Hill" "code" "I", Cond.methodLink RX2 38 yX1_wordAt, Cond.instanceMethod yX1_wordAt, Cond.selects RX1 yX1_wordAt yX1_wordAt, Cond.initialized RX1, Cond.code yX1_wordAt cX1_wordAt 2 (some .int), Cond.fieldLink RX1 18 "FlagChips$Hill" "words" "[I", Cond.methodLink RX2 47 yX1_start, Cond.instanceMethod yX1_start, Cond.selects RX1 yX1_start yX1_start, Cond.code yX1_start cX1_start 3 (some .int), Cond.fieldLink RX1 9 "FlagChips$Hill" "delay" "I", Cond.methodLink RX2 54 yX0_chipAt]
def wsL_setStrength_r4 : List Cond := [Cond.instanceMethod yX0_chipAt, Cond.selects RX0 yX0_chipAt yX0_chipAt, Cond.initialized RX0, Cond.code yX0_chipAt cX0_chipAt 3 (some .int), Cond.methodLink RX0 15 yJ6_bitCount_0f7a4, Cond.static yJ6_bitCount_0f7a4, Cond.initialized RJ6, Cond.code yJ6_bitCount_0f7a4 cJ6_bitCount_0f7a4 1 (some .int), Cond.constant RJ6 265 (1431655765), Cond.constant RJ6 266 (858993459), Cond.constant RJ6 267 (252645135)]
def wsL_setStrength : List Cond := .codeWith yL_setStrength cL_setStrength 5 (some .int) [(0, 10, 13, 19), (0, 10, 17, 13)] :: ((wsL_setStrength_r1 ++ (wsL_setStrength_r2 ++ (wsL_setStrength_r3 ++ wsL_setStrength_r4))) ++ wsX10 ++ wsX30 ++ wsJx4a65c0 ++ wsX20 ++ wsX00 ++ (vx_atS RX3 110 "java/lang/IndexOutOfBoundsException" ["java/lang/RuntimeException", "java/lang/Exception"]).filter goodWord ++ (vx_atS RX3 36 "java/lang/IllegalArgumentException" ["java/lang/RuntimeException", "java/lang/Exception"]).filter goodWord)
def wsL_setStorm : List Cond := .codeWith yL_setStorm cL_setStorm 5 (some .int) [(0, 10, 13, 19), (0, 10, 17, 13)] :: ([.classLink RL 19 "java/lang/IndexOutOfBoundsException", .classLink RL 13 "java/lang/IllegalArgumentException", .methodLink RL 36 yX3_setStorm, .instanceMethod yX3_setStorm, .selects RX3 yX3_setStorm yX3_setStorm, .initialized RX3, .code yX3_setStorm cX3_setStorm 4 (some .int), .classLink RX3 106 "java/lang/IndexOutOfBoundsException", .initialized "java/lang/IndexOutOfBoundsException", .classLink RX3 32 "java/lang/IllegalArgumentException", .initialized "java/lang/IllegalArgumentException", .fieldLink RX3 21 "FlagChips" "sky" "LFlagChips$Sky;", .fieldLink RX3 113 "FlagChips$Sky" "storms" "[I"] ++ wsX30 ++ wsX20 ++ (vx_atS RX3 110 "java/lang/IndexOutOfBoundsException" ["java/lang/RuntimeException", "java/lang/Exception"]).filter goodWord ++ (vx_atS RX3 36 "java/lang/IllegalArgumentException" ["java/lang/RuntimeException", "java/lang/Exception"]).filter goodWord)
def wsL_chip_r1 : List Cond := [Cond.classLink RL 19 "java/lang/IndexOutOfBoundsException", Cond.methodLink RL 39 yX3_chip, Cond.instanceMethod yX3_chip, Cond.selects RX3 yX3_chip yX3_chip, Cond.initialized RX3, Cond.code yX3_chip cX3_chip 3 (some .int), Cond.classLink RX3 106 "java/lang/IndexOutOfBoundsException", Cond.initialized "java/lang/IndexOutOfBoundsException", Cond.fieldLink RX3 12 "FlagChips" "codes" "LFlagChips$Codes;", Cond.methodLink RX3 49 yX3_checkCode, Cond.instanceMethod yX3_checkCode, Cond.selects RX3 yX3_checkCode yX3_checkCode, Cond.code yX3_checkCode cX3_checkCode 2 none, Cond.methodLink RX3 117 yX0_has, Cond.instanceMethod yX0_has, Cond.selects RX0 yX0_has yX0_has, Cond.initialized RX0, Cond.code yX0_has cX0_has 2 (some .boolean), Cond.fieldLink RX0 9 "FlagChips$Codes" "length" "I", Cond.methodLink RX3 123 yX0_chipAt, Cond.instanceMethod yX0_chipAt, Cond.selects RX0 yX0_chipAt yX0_chipAt, Cond.code yX0_chipAt cX0_chipAt 3 (some .int), Cond.methodLink RX0 15 yJ6_bitCount_0f7a4]
def wsL_chip_r2 : List Cond := [Cond.static yJ6_bitCount_0f7a4, Cond.initialized RJ6, Cond.code yJ6_bitCount_0f7a4 cJ6_bitCount_0f7a4 1 (some .int), Cond.constant RJ6 265 (1431655765), Cond.constant RJ6 266 (858993459), Cond.constant RJ6 267 (252645135)]
def wsL_chip : List Cond := .codeWith yL_chip cL_chip 5 (some .int) [(0, 10, 13, 19)] :: ((wsL_chip_r1 ++ wsL_chip_r2) ++ wsX30 ++ wsX00 ++ (vx_atS RX3 110 "java/lang/IndexOutOfBoundsException" ["java/lang/RuntimeException", "java/lang/Exception"]).filter goodWord)
def wsL_sky : List Cond := .codeWith yL_sky cL_sky 4 (some .int) [(0, 9, 12, 13)] :: ([.classLink RL 13 "java/lang/IllegalArgumentException", .methodLink RL 42 yX3_sky, .instanceMethod yX3_sky, .selects RX3 yX3_sky yX3_sky, .initialized RX3, .code yX3_sky cX3_sky 2 (some .int), .fieldLink RX3 21 "FlagChips" "sky" "LFlagChips$Sky;", .methodLink RX3 127 yX3_checkTime, .instanceMethod yX3_checkTime, .selects RX3 yX3_checkTime yX3_checkTime, .code yX3_checkTime cX3_checkTime 2 none, .classLink RX3 32 "java/lang/IllegalArgumentException", .initialized "java/lang/IllegalArgumentException", .methodLink RX3 130 yX2_at, .instanceMethod yX2_at, .selects RX2 yX2_at yX2_at, .initialized RX2, .code yX2_at cX2_at 3 (some .int), .fieldLink RX2 9 "FlagChips$Sky" "storms" "[I", .fieldLink RX2 15 "FlagChips$Sky" "signals" "[I"] ++ wsX30 ++ wsX20 ++ (vx_atS RX3 36 "java/lang/IllegalArgumentException" ["java/lang/RuntimeException", "java/lang/Exception"]).filter goodWord)
def wsL_hear_r1 : List Cond := [Cond.classLink RL 19 "java/lang/IndexOutOfBoundsException", Cond.classLink RL 13 "java/lang/IllegalArgumentException", Cond.methodLink RL 45 yX3_hear, Cond.instanceMethod yX3_hear, Cond.selects RX3 yX3_hear yX3_hear, Cond.initialized RX3, Cond.code yX3_hear cX3_hear 3 (some .int), Cond.fieldLink RX3 21 "FlagChips" "sky" "LFlagChips$Sky;", Cond.methodLink RX3 49 yX3_checkCode, Cond.instanceMethod yX3_checkCode, Cond.selects RX3 yX3_checkCode yX3_checkCode, Cond.code yX3_checkCode cX3_checkCode 2 none, Cond.classLink RX3 106 "java/lang/IndexOutOfBoundsException", Cond.initialized "java/lang/IndexOutOfBoundsException", Cond.fieldLink RX3 12 "FlagChips" "codes" "LFlagChips$Codes;", Cond.methodLink RX3 117 yX0_has, Cond.instanceMethod yX0_has, Cond.selects RX0 yX0_has yX0_has, Cond.initialized RX0, Cond.code yX0_has cX0_has 2 (some .boolean), Cond.fieldLink RX0 9 "FlagChips$Codes" "length" "I", Cond.methodLink RX3 127 yX3_checkTime, Cond.instanceMethod yX3_checkTime, Cond.selects RX3 yX3_checkTime yX3_checkTime]
def wsL_hear_r2 : List Cond := [Cond.code yX3_checkTime cX3_checkTime 2 none, Cond.classLink RX3 32 "java/lang/IllegalArgumentException", Cond.initialized "java/lang/IllegalArgumentException", Cond.methodLink RX3 134 yX2_heard, Cond.instanceMethod yX2_heard, Cond.selects RX2 yX2_heard yX2_heard, Cond.initialized RX2, Cond.code yX2_heard cX2_heard 5 (some .int), Cond.fieldLink RX2 18 "FlagChips$Sky" "codes" "LFlagChips$Codes;", Cond.fieldLink RX2 42 "FlagChips$Codes" "length" "I", Cond.methodLink RX2 57 yX2_at, Cond.instanceMethod yX2_at, Cond.selects RX2 yX2_at yX2_at, Cond.code yX2_at cX2_at 3 (some .int), Cond.fieldLink RX2 9 "FlagChips$Sky" "storms" "[I", Cond.fieldLink RX2 15 "FlagChips$Sky" "signals" "[I", Cond.methodLink RX2 54 yX0_chipAt, Cond.instanceMethod yX0_chipAt, Cond.selects RX0 yX0_chipAt yX0_chipAt, Cond.code yX0_chipAt cX0_chipAt 3 (some .int), Cond.methodLink RX0 15 yJ6_bitCount_0f7a4, Cond.static yJ6_bitCount_0f7a4, Cond.initialized RJ6, Cond.code yJ6_bitCount_0f7a4 cJ6_bitCount_0f7a4 1 (some .int)]
def wsL_hear_r3 : List Cond := [Cond.constant RJ6 265 (1431655765), Cond.constant RJ6 266 (858993459), Cond.constant RJ6 267 (252645135)]
def wsL_hear : List Cond := .codeWith yL_hear cL_hear 5 (some .int) [(0, 10, 13, 19), (0, 10, 17, 13)] :: ((wsL_hear_r1 ++ (wsL_hear_r2 ++ wsL_hear_r3)) ++ wsX30 ++ wsX00 ++ wsX20 ++ (vx_atS RX3 110 "java/lang/IndexOutOfBoundsException" ["java/lang/RuntimeException", "java/lang/Exception"]).filter goodWord ++ (vx_atS RX3 36 "java/lang/IllegalArgumentException" ["java/lang/RuntimeException", "java/lang/Exception"]).filter goodWord)
def wsL_word_r1 : List Cond := [Cond.classLink RL 19 "java/lang/IndexOutOfBoundsException", Cond.methodLink RL 48 yX3_word, Cond.instanceMethod yX3_word, Cond.selects RX3 yX3_word yX3_word, Cond.initialized RX3, Cond.code yX3_word cX3_word 5 (some .int), Cond.classLink RX3 106 "java/lang/IndexOutOfBoundsException", Cond.initialized "java/lang/IndexOutOfBoundsException", Cond.fieldLink RX3 86 "FlagChips$Hill" "said" "I", Cond.fieldLink RX3 21 "FlagChips" "sky" "LFlagChips$Sky;", Cond.methodLink RX3 74 yX3_hillAt, Cond.instanceMethod yX3_hillAt, Cond.selects RX3 yX3_hillAt yX3_hillAt, Cond.code yX3_hillAt cX3_hillAt 2 (some (.object "FlagChips$Hill")), Cond.fieldLink RX3 28 "FlagChips" "hills" "Ljava/util/ArrayList;", Cond.classLink RX3 65 "FlagChips$Hill", Cond.methodLink RX3 56 yJx4a65c_size_8abf5, Cond.instanceMethod yJx4a65c_size_8abf5, Cond.selects RJx4a65c yJx4a65c_size_8abf5 yJx4a65c_size_8abf5, Cond.initialized RJx4a65c, Cond.code yJx4a65c_size_8abf5 cJx4a65c_size_8abf5 1 (some .int), Cond.fieldLink RJx4a65c 48 "java/util/ArrayList" "size" "I", Cond.methodLink RX3 219 yJx4a65c_get_915e3, Cond.instanceMethod yJx4a65c_get_915e3]
def wsL_word_r2 : List Cond := [Cond.selects RJx4a65c yJx4a65c_get_915e3 yJx4a65c_get_915e3, Cond.code yJx4a65c_get_915e3 cJx4a65c_get_915e3 2 (some (.object "java/lang/Object")), Cond.methodLink RJx4a65c 118 yJ15_checkIndex_7cf53, Cond.static yJ15_checkIndex_7cf53, Cond.initialized RJ15, Cond.code yJ15_checkIndex_7cf53 cJ15_checkIndex_7cf53 2 (some .int), Cond.methodLink RJ15 105 yJ3_checkIndex_8e157, Cond.static yJ3_checkIndex_8e157, Cond.initialized RJ3, Cond.code yJ3_checkIndex_8e157 cJ3_checkIndex_8e157 3 (some .int), Cond.methodLink RJx4a65c 123 yJx4a65c_elementData_915e3, Cond.instanceMethod yJx4a65c_elementData_915e3, Cond.selects RJx4a65c yJx4a65c_elementData_915e3 yJx4a65c_elementData_915e3, Cond.code yJx4a65c_elementData_915e3 cJx4a65c_elementData_915e3 2 (some (.object "java/lang/Object")), Cond.fieldLink RJx4a65c 9 "java/util/ArrayList" "elementData" "[Ljava/lang/Object;", Cond.methodLink RX3 139 yX1_wordAt, Cond.instanceMethod yX1_wordAt, Cond.selects RX1 yX1_wordAt yX1_wordAt, Cond.initialized RX1, Cond.code yX1_wordAt cX1_wordAt 2 (some .int), Cond.fieldLink RX1 18 "FlagChips$Hill" "words" "[I", Cond.methodLink RX3 142 yX2_heardWord, Cond.instanceMethod yX2_heardWord, Cond.selects RX2 yX2_heardWord yX2_heardWord]
def wsL_word_r3 : List Cond := [Cond.initialized RX2, Cond.code yX2_heardWord cX2_heardWord 3 (some .int), Cond.fieldLink RX2 51 "FlagChips$Hill" "code" "I", Cond.fieldLink RX2 18 "FlagChips$Sky" "codes" "LFlagChips$Codes;", Cond.fieldLink RX2 42 "FlagChips$Codes" "length" "I", Cond.methodLink RX2 47 yX1_start, Cond.instanceMethod yX1_start, Cond.selects RX1 yX1_start yX1_start, Cond.code yX1_start cX1_start 3 (some .int), Cond.fieldLink RX1 9 "FlagChips$Hill" "delay" "I", Cond.methodLink RX2 60 yX2_heard, Cond.instanceMethod yX2_heard, Cond.selects RX2 yX2_heard yX2_heard, Cond.code yX2_heard cX2_heard 5 (some .int), Cond.methodLink RX2 57 yX2_at, Cond.instanceMethod yX2_at, Cond.selects RX2 yX2_at yX2_at, Cond.code yX2_at cX2_at 3 (some .int), Cond.fieldLink RX2 9 "FlagChips$Sky" "storms" "[I", Cond.fieldLink RX2 15 "FlagChips$Sky" "signals" "[I", Cond.methodLink RX2 54 yX0_chipAt, Cond.instanceMethod yX0_chipAt, Cond.selects RX0 yX0_chipAt yX0_chipAt, Cond.initialized RX0]
def wsL_word_r4 : List Cond := [Cond.code yX0_chipAt cX0_chipAt 3 (some .int), Cond.methodLink RX0 15 yJ6_bitCount_0f7a4, Cond.static yJ6_bitCount_0f7a4, Cond.initialized RJ6, Cond.code yJ6_bitCount_0f7a4 cJ6_bitCount_0f7a4 1 (some .int), Cond.constant RJ6 265 (1431655765), Cond.constant RJ6 266 (858993459), Cond.constant RJ6 267 (252645135), Cond.methodLink RX3 146 yX1_isWrong, Cond.instanceMethod yX1_isWrong, Cond.selects RX1 yX1_isWrong yX1_isWrong, Cond.code yX1_isWrong cX1_isWrong 3 (some .boolean), Cond.methodLink RX1 32 yX1_wordAt]
def wsL_word : List Cond := .codeWith yL_word cL_word 6 (some .int) [(0, 12, 15, 19)] :: ((wsL_word_r1 ++ (wsL_word_r2 ++ (wsL_word_r3 ++ wsL_word_r4))) ++ wsX10 ++ wsX30 ++ wsJx4a65c0 ++ wsX20 ++ wsX00 ++ (vx_atS RX3 110 "java/lang/IndexOutOfBoundsException" ["java/lang/RuntimeException", "java/lang/Exception"]).filter goodWord)
def wsL_about_r1 : List Cond := [Cond.classLink RL 19 "java/lang/IndexOutOfBoundsException", Cond.methodLink RL 52 yX3_about, Cond.instanceMethod yX3_about, Cond.selects RX3 yX3_about yX3_about, Cond.initialized RX3, Cond.code yX3_about cX3_about 4 (some .int), Cond.classLink RX3 106 "java/lang/IndexOutOfBoundsException", Cond.initialized "java/lang/IndexOutOfBoundsException", Cond.fieldLink RX3 152 "FlagChips$Hill" "code" "I", Cond.fieldLink RX3 89 "FlagChips$Hill" "strength" "I", Cond.fieldLink RX3 103 "FlagChips$Hill" "delay" "I", Cond.fieldLink RX3 86 "FlagChips$Hill" "said" "I", Cond.fieldLink RX3 21 "FlagChips" "sky" "LFlagChips$Sky;", Cond.fieldLink RX3 12 "FlagChips" "codes" "LFlagChips$Codes;", Cond.fieldLink RX3 39 "FlagChips$Codes" "length" "I", Cond.methodLink RX3 74 yX3_hillAt, Cond.instanceMethod yX3_hillAt, Cond.selects RX3 yX3_hillAt yX3_hillAt, Cond.code yX3_hillAt cX3_hillAt 2 (some (.object "FlagChips$Hill")), Cond.fieldLink RX3 28 "FlagChips" "hills" "Ljava/util/ArrayList;", Cond.classLink RX3 65 "FlagChips$Hill", Cond.methodLink RX3 56 yJx4a65c_size_8abf5, Cond.instanceMethod yJx4a65c_size_8abf5, Cond.selects RJx4a65c yJx4a65c_size_8abf5 yJx4a65c_size_8abf5]
def wsL_about_r2 : List Cond := [Cond.initialized RJx4a65c, Cond.code yJx4a65c_size_8abf5 cJx4a65c_size_8abf5 1 (some .int), Cond.fieldLink RJx4a65c 48 "java/util/ArrayList" "size" "I", Cond.methodLink RX3 219 yJx4a65c_get_915e3, Cond.instanceMethod yJx4a65c_get_915e3, Cond.selects RJx4a65c yJx4a65c_get_915e3 yJx4a65c_get_915e3, Cond.code yJx4a65c_get_915e3 cJx4a65c_get_915e3 2 (some (.object "java/lang/Object")), Cond.methodLink RJx4a65c 118 yJ15_checkIndex_7cf53, Cond.static yJ15_checkIndex_7cf53, Cond.initialized RJ15, Cond.code yJ15_checkIndex_7cf53 cJ15_checkIndex_7cf53 2 (some .int), Cond.methodLink RJ15 105 yJ3_checkIndex_8e157, Cond.static yJ3_checkIndex_8e157, Cond.initialized RJ3, Cond.code yJ3_checkIndex_8e157 cJ3_checkIndex_8e157 3 (some .int), Cond.methodLink RJx4a65c 123 yJx4a65c_elementData_915e3, Cond.instanceMethod yJx4a65c_elementData_915e3, Cond.selects RJx4a65c yJx4a65c_elementData_915e3 yJx4a65c_elementData_915e3, Cond.code yJx4a65c_elementData_915e3 cJx4a65c_elementData_915e3 2 (some (.object "java/lang/Object")), Cond.fieldLink RJx4a65c 9 "java/util/ArrayList" "elementData" "[Ljava/lang/Object;", Cond.methodLink RX3 155 yX2_wrongWords, Cond.instanceMethod yX2_wrongWords, Cond.selects RX2 yX2_wrongWords yX2_wrongWords, Cond.initialized RX2]
def wsL_about_r3 : List Cond := [Cond.code yX2_wrongWords cX2_wrongWords 4 (some .int), Cond.fieldLink RX2 28 "FlagChips$Hill" "said" "I", Cond.methodLink RX2 63 yX2_heardWord, Cond.instanceMethod yX2_heardWord, Cond.selects RX2 yX2_heardWord yX2_heardWord, Cond.code yX2_heardWord cX2_heardWord 3 (some .int), Cond.fieldLink RX2 51 "FlagChips$Hill" "code" "I", Cond.fieldLink RX2 18 "FlagChips$Sky" "codes" "LFlagChips$Codes;", Cond.fieldLink RX2 42 "FlagChips$Codes" "length" "I", Cond.methodLink RX2 47 yX1_start, Cond.instanceMethod yX1_start, Cond.selects RX1 yX1_start yX1_start, Cond.initialized RX1, Cond.code yX1_start cX1_start 3 (some .int), Cond.fieldLink RX1 9 "FlagChips$Hill" "delay" "I", Cond.methodLink RX2 60 yX2_heard, Cond.instanceMethod yX2_heard, Cond.selects RX2 yX2_heard yX2_heard, Cond.code yX2_heard cX2_heard 5 (some .int), Cond.methodLink RX2 57 yX2_at, Cond.instanceMethod yX2_at, Cond.selects RX2 yX2_at yX2_at, Cond.code yX2_at cX2_at 3 (some .int), Cond.fieldLink RX2 9 "FlagChips$Sky" "storms" "[I"]
def wsL_about_r4 : List Cond := [Cond.fieldLink RX2 15 "FlagChips$Sky" "signals" "[I", Cond.methodLink RX2 54 yX0_chipAt, Cond.instanceMethod yX0_chipAt, Cond.selects RX0 yX0_chipAt yX0_chipAt, Cond.initialized RX0, Cond.code yX0_chipAt cX0_chipAt 3 (some .int), Cond.methodLink RX0 15 yJ6_bitCount_0f7a4, Cond.static yJ6_bitCount_0f7a4, Cond.initialized RJ6, Cond.code yJ6_bitCount_0f7a4 cJ6_bitCount_0f7a4 1 (some .int), Cond.constant RJ6 265 (1431655765), Cond.constant RJ6 266 (858993459), Cond.constant RJ6 267 (252645135), Cond.methodLink RX2 67 yX1_isWrong, Cond.instanceMethod yX1_isWrong, Cond.selects RX1 yX1_isWrong yX1_isWrong, Cond.code yX1_isWrong cX1_isWrong 3 (some .boolean), Cond.methodLink RX1 32 yX1_wordAt, Cond.instanceMethod yX1_wordAt, Cond.selects RX1 yX1_wordAt yX1_wordAt, Cond.code yX1_wordAt cX1_wordAt 2 (some .int), Cond.fieldLink RX1 18 "FlagChips$Hill" "words" "[I", Cond.methodLink RX3 159 yX1_end, Cond.instanceMethod yX1_end]
def wsL_about_r5 : List Cond := [Cond.selects RX1 yX1_end yX1_end, Cond.code yX1_end cX1_end 2 (some .int), Cond.fieldLink RX1 15 "FlagChips$Hill" "said" "I", Cond.methodLink RX1 36 yX1_start, Cond.methodLink RX3 162 yX2_faintest, Cond.instanceMethod yX2_faintest, Cond.selects RX2 yX2_faintest yX2_faintest, Cond.code yX2_faintest cX2_faintest 5 (some .int), Cond.methodLink RX2 71 Lib.Math.abs.name, Cond.static Lib.Math.abs.name, Cond.initialized "java/lang/Math", Cond.code Lib.Math.abs.name Lib.Math.abs.code 1 (some .int)]
def wsL_about : List Cond := .codeWith yL_about cL_about 5 (some .int) [(0, 10, 13, 19)] :: ((wsL_about_r1 ++ (wsL_about_r2 ++ (wsL_about_r3 ++ (wsL_about_r4 ++ wsL_about_r5)))) ++ wsX10 ++ wsX30 ++ wsX00 ++ wsJx4a65c0 ++ wsX20 ++ (vx_atS RX3 110 "java/lang/IndexOutOfBoundsException" ["java/lang/RuntimeException", "java/lang/Exception"]).filter goodWord)
def wsL_count_r1 : List Cond := [Cond.classLink RL 19 "java/lang/IndexOutOfBoundsException", Cond.methodLink RL 55 yX3_count, Cond.instanceMethod yX3_count, Cond.selects RX3 yX3_count yX3_count, Cond.initialized RX3, Cond.code yX3_count cX3_count 2 (some .int), Cond.classLink RX3 106 "java/lang/IndexOutOfBoundsException", Cond.initialized "java/lang/IndexOutOfBoundsException", Cond.fieldLink RX3 12 "FlagChips" "codes" "LFlagChips$Codes;", Cond.fieldLink RX3 39 "FlagChips$Codes" "length" "I", Cond.fieldLink RX3 28 "FlagChips" "hills" "Ljava/util/ArrayList;", Cond.fieldLink RX3 21 "FlagChips" "sky" "LFlagChips$Sky;", Cond.methodLink RX3 56 yJx4a65c_size_8abf5, Cond.instanceMethod yJx4a65c_size_8abf5, Cond.selects RJx4a65c yJx4a65c_size_8abf5 yJx4a65c_size_8abf5, Cond.initialized RJx4a65c, Cond.code yJx4a65c_size_8abf5 cJx4a65c_size_8abf5 1 (some .int), Cond.fieldLink RJx4a65c 48 "java/util/ArrayList" "size" "I", Cond.methodLink RX3 167 yX3_allWords, Cond.instanceMethod yX3_allWords, Cond.selects RX3 yX3_allWords yX3_allWords, Cond.code yX3_allWords cX3_allWords 3 (some .int), Cond.classLink RX3 65 "FlagChips$Hill", Cond.fieldLink RX3 86 "FlagChips$Hill" "said" "I"]
def wsL_count_r2 : List Cond := [Cond.methodLink RX3 219 yJx4a65c_get_915e3, Cond.instanceMethod yJx4a65c_get_915e3, Cond.selects RJx4a65c yJx4a65c_get_915e3 yJx4a65c_get_915e3, Cond.code yJx4a65c_get_915e3 cJx4a65c_get_915e3 2 (some (.object "java/lang/Object")), Cond.methodLink RJx4a65c 118 yJ15_checkIndex_7cf53, Cond.static yJ15_checkIndex_7cf53, Cond.initialized RJ15, Cond.code yJ15_checkIndex_7cf53 cJ15_checkIndex_7cf53 2 (some .int), Cond.methodLink RJ15 105 yJ3_checkIndex_8e157, Cond.static yJ3_checkIndex_8e157, Cond.initialized RJ3, Cond.code yJ3_checkIndex_8e157 cJ3_checkIndex_8e157 3 (some .int), Cond.methodLink RJx4a65c 123 yJx4a65c_elementData_915e3, Cond.instanceMethod yJx4a65c_elementData_915e3, Cond.selects RJx4a65c yJx4a65c_elementData_915e3 yJx4a65c_elementData_915e3, Cond.code yJx4a65c_elementData_915e3 cJx4a65c_elementData_915e3 2 (some (.object "java/lang/Object")), Cond.fieldLink RJx4a65c 9 "java/util/ArrayList" "elementData" "[Ljava/lang/Object;", Cond.methodLink RX3 170 yX3_allWrongWords, Cond.instanceMethod yX3_allWrongWords, Cond.selects RX3 yX3_allWrongWords yX3_allWrongWords, Cond.code yX3_allWrongWords cX3_allWrongWords 3 (some .int), Cond.methodLink RX3 155 yX2_wrongWords, Cond.instanceMethod yX2_wrongWords, Cond.selects RX2 yX2_wrongWords yX2_wrongWords]
def wsL_count_r3 : List Cond := [Cond.initialized RX2, Cond.code yX2_wrongWords cX2_wrongWords 4 (some .int), Cond.fieldLink RX2 28 "FlagChips$Hill" "said" "I", Cond.methodLink RX2 63 yX2_heardWord, Cond.instanceMethod yX2_heardWord, Cond.selects RX2 yX2_heardWord yX2_heardWord, Cond.code yX2_heardWord cX2_heardWord 3 (some .int), Cond.fieldLink RX2 51 "FlagChips$Hill" "code" "I", Cond.fieldLink RX2 18 "FlagChips$Sky" "codes" "LFlagChips$Codes;", Cond.fieldLink RX2 42 "FlagChips$Codes" "length" "I", Cond.methodLink RX2 47 yX1_start, Cond.instanceMethod yX1_start, Cond.selects RX1 yX1_start yX1_start, Cond.initialized RX1, Cond.code yX1_start cX1_start 3 (some .int), Cond.fieldLink RX1 9 "FlagChips$Hill" "delay" "I", Cond.methodLink RX2 60 yX2_heard, Cond.instanceMethod yX2_heard, Cond.selects RX2 yX2_heard yX2_heard, Cond.code yX2_heard cX2_heard 5 (some .int), Cond.methodLink RX2 57 yX2_at, Cond.instanceMethod yX2_at, Cond.selects RX2 yX2_at yX2_at, Cond.code yX2_at cX2_at 3 (some .int)]
def wsL_count_r4 : List Cond := [Cond.fieldLink RX2 9 "FlagChips$Sky" "storms" "[I", Cond.fieldLink RX2 15 "FlagChips$Sky" "signals" "[I", Cond.methodLink RX2 54 yX0_chipAt, Cond.instanceMethod yX0_chipAt, Cond.selects RX0 yX0_chipAt yX0_chipAt, Cond.initialized RX0, Cond.code yX0_chipAt cX0_chipAt 3 (some .int), Cond.methodLink RX0 15 yJ6_bitCount_0f7a4, Cond.static yJ6_bitCount_0f7a4, Cond.initialized RJ6, Cond.code yJ6_bitCount_0f7a4 cJ6_bitCount_0f7a4 1 (some .int), Cond.constant RJ6 265 (1431655765), Cond.constant RJ6 266 (858993459), Cond.constant RJ6 267 (252645135), Cond.methodLink RX2 67 yX1_isWrong, Cond.instanceMethod yX1_isWrong, Cond.selects RX1 yX1_isWrong yX1_isWrong, Cond.code yX1_isWrong cX1_isWrong 3 (some .boolean), Cond.methodLink RX1 32 yX1_wordAt, Cond.instanceMethod yX1_wordAt, Cond.selects RX1 yX1_wordAt yX1_wordAt, Cond.code yX1_wordAt cX1_wordAt 2 (some .int), Cond.fieldLink RX1 18 "FlagChips$Hill" "words" "[I", Cond.methodLink RX3 173 yX3_endOfAll]
def wsL_count_r5 : List Cond := [Cond.instanceMethod yX3_endOfAll, Cond.selects RX3 yX3_endOfAll yX3_endOfAll, Cond.code yX3_endOfAll cX3_endOfAll 3 (some .int), Cond.methodLink RX3 231 Lib.Math.max.name, Cond.static Lib.Math.max.name, Cond.initialized "java/lang/Math", Cond.code Lib.Math.max.name Lib.Math.max.code 2 (some .int), Cond.methodLink RX3 159 yX1_end, Cond.instanceMethod yX1_end, Cond.selects RX1 yX1_end yX1_end, Cond.code yX1_end cX1_end 2 (some .int), Cond.fieldLink RX1 15 "FlagChips$Hill" "said" "I", Cond.methodLink RX1 36 yX1_start, Cond.methodLink RX3 176 yX2_highest, Cond.instanceMethod yX2_highest, Cond.selects RX2 yX2_highest yX2_highest, Cond.code yX2_highest cX2_highest 4 (some .int), Cond.methodLink RX2 71 Lib.Math.abs.name, Cond.static Lib.Math.abs.name, Cond.code Lib.Math.abs.name Lib.Math.abs.code 1 (some .int), Cond.methodLink RX2 76 Lib.Math.max.name, Cond.methodLink RX3 179 yX3_freeCodes, Cond.instanceMethod yX3_freeCodes, Cond.selects RX3 yX3_freeCodes yX3_freeCodes]
def wsL_count_r6 : List Cond := [Cond.code yX3_freeCodes cX3_freeCodes 3 (some .int), Cond.methodLink RX3 188 yX3_isTaken, Cond.instanceMethod yX3_isTaken, Cond.selects RX3 yX3_isTaken yX3_isTaken, Cond.code yX3_isTaken cX3_isTaken 3 (some .boolean), Cond.fieldLink RX3 152 "FlagChips$Hill" "code" "I"]
def wsL_count : List Cond := .codeWith yL_count cL_count 4 (some .int) [(0, 9, 12, 19)] :: ((wsL_count_r1 ++ (wsL_count_r2 ++ (wsL_count_r3 ++ (wsL_count_r4 ++ (wsL_count_r5 ++ wsL_count_r6))))) ++ wsX30 ++ wsX00 ++ wsJx4a65c0 ++ wsX10 ++ wsX20 ++ (vx_atS RX3 110 "java/lang/IndexOutOfBoundsException" ["java/lang/RuntimeException", "java/lang/Exception"]).filter goodWord)
def wsL_alike_r1 : List Cond := [Cond.classLink RL 19 "java/lang/IndexOutOfBoundsException", Cond.classLink RL 13 "java/lang/IllegalArgumentException", Cond.methodLink RL 58 yX3_alike, Cond.instanceMethod yX3_alike, Cond.selects RX3 yX3_alike yX3_alike, Cond.initialized RX3, Cond.code yX3_alike cX3_alike 4 (some .int), Cond.classLink RX3 32 "java/lang/IllegalArgumentException", Cond.initialized "java/lang/IllegalArgumentException", Cond.fieldLink RX3 12 "FlagChips" "codes" "LFlagChips$Codes;", Cond.methodLink RX3 49 yX3_checkCode, Cond.instanceMethod yX3_checkCode, Cond.selects RX3 yX3_checkCode yX3_checkCode, Cond.code yX3_checkCode cX3_checkCode 2 none, Cond.classLink RX3 106 "java/lang/IndexOutOfBoundsException", Cond.initialized "java/lang/IndexOutOfBoundsException", Cond.methodLink RX3 117 yX0_has, Cond.instanceMethod yX0_has, Cond.selects RX0 yX0_has yX0_has, Cond.initialized RX0, Cond.code yX0_has cX0_has 2 (some .boolean), Cond.fieldLink RX0 9 "FlagChips$Codes" "length" "I", Cond.methodLink RX3 184 yX0_likeness, Cond.instanceMethod yX0_likeness]
def wsL_alike_r2 : List Cond := [Cond.selects RX0 yX0_likeness yX0_likeness, Cond.code yX0_likeness cX0_likeness 7 (some .int), Cond.methodLink RX0 25 Lib.Math.abs.name, Cond.static Lib.Math.abs.name, Cond.initialized "java/lang/Math", Cond.code Lib.Math.abs.name Lib.Math.abs.code 1 (some .int), Cond.methodLink RX0 21 yX0_chipAt, Cond.instanceMethod yX0_chipAt, Cond.selects RX0 yX0_chipAt yX0_chipAt, Cond.code yX0_chipAt cX0_chipAt 3 (some .int), Cond.methodLink RX0 15 yJ6_bitCount_0f7a4, Cond.static yJ6_bitCount_0f7a4, Cond.initialized RJ6, Cond.code yJ6_bitCount_0f7a4 cJ6_bitCount_0f7a4 1 (some .int), Cond.constant RJ6 265 (1431655765), Cond.constant RJ6 266 (858993459), Cond.constant RJ6 267 (252645135)]
def wsL_alike : List Cond := .codeWith yL_alike cL_alike 6 (some .int) [(0, 12, 15, 19), (0, 12, 19, 13)] :: ((wsL_alike_r1 ++ wsL_alike_r2) ++ wsX30 ++ wsX00 ++ (vx_atS RX3 36 "java/lang/IllegalArgumentException" ["java/lang/RuntimeException", "java/lang/Exception"]).filter goodWord ++ (vx_atS RX3 110 "java/lang/IndexOutOfBoundsException" ["java/lang/RuntimeException", "java/lang/Exception"]).filter goodWord)
def wsL_shift_r1 : List Cond := [Cond.classLink RL 19 "java/lang/IndexOutOfBoundsException", Cond.methodLink RL 61 yX3_shift, Cond.instanceMethod yX3_shift, Cond.selects RX3 yX3_shift yX3_shift, Cond.initialized RX3, Cond.code yX3_shift cX3_shift 7 (some .int), Cond.fieldLink RX3 12 "FlagChips" "codes" "LFlagChips$Codes;", Cond.fieldLink RX3 39 "FlagChips$Codes" "length" "I", Cond.methodLink RX3 49 yX3_checkCode, Cond.instanceMethod yX3_checkCode, Cond.selects RX3 yX3_checkCode yX3_checkCode, Cond.code yX3_checkCode cX3_checkCode 2 none, Cond.classLink RX3 106 "java/lang/IndexOutOfBoundsException", Cond.initialized "java/lang/IndexOutOfBoundsException", Cond.methodLink RX3 117 yX0_has, Cond.instanceMethod yX0_has, Cond.selects RX0 yX0_has yX0_has, Cond.initialized RX0, Cond.code yX0_has cX0_has 2 (some .boolean), Cond.fieldLink RX0 9 "FlagChips$Codes" "length" "I", Cond.methodLink RX3 184 yX0_likeness, Cond.instanceMethod yX0_likeness, Cond.selects RX0 yX0_likeness yX0_likeness, Cond.code yX0_likeness cX0_likeness 7 (some .int)]
def wsL_shift_r2 : List Cond := [Cond.methodLink RX0 25 Lib.Math.abs.name, Cond.static Lib.Math.abs.name, Cond.initialized "java/lang/Math", Cond.code Lib.Math.abs.name Lib.Math.abs.code 1 (some .int), Cond.methodLink RX0 21 yX0_chipAt, Cond.instanceMethod yX0_chipAt, Cond.selects RX0 yX0_chipAt yX0_chipAt, Cond.code yX0_chipAt cX0_chipAt 3 (some .int), Cond.methodLink RX0 15 yJ6_bitCount_0f7a4, Cond.static yJ6_bitCount_0f7a4, Cond.initialized RJ6, Cond.code yJ6_bitCount_0f7a4 cJ6_bitCount_0f7a4 1 (some .int), Cond.constant RJ6 265 (1431655765), Cond.constant RJ6 266 (858993459), Cond.constant RJ6 267 (252645135)]
def wsL_shift : List Cond := .codeWith yL_shift cL_shift 5 (some .int) [(0, 10, 13, 19)] :: ((wsL_shift_r1 ++ wsL_shift_r2) ++ wsX30 ++ wsX00 ++ (vx_atS RX3 110 "java/lang/IndexOutOfBoundsException" ["java/lang/RuntimeException", "java/lang/Exception"]).filter goodWord)
def wsL_advise_r1 : List Cond := [Cond.classLink RL 13 "java/lang/IllegalArgumentException", Cond.methodLink RL 64 yX3_advise, Cond.instanceMethod yX3_advise, Cond.selects RX3 yX3_advise yX3_advise, Cond.initialized RX3, Cond.code yX3_advise cX3_advise 6 (some .int), Cond.fieldLink RX3 12 "FlagChips" "codes" "LFlagChips$Codes;", Cond.fieldLink RX3 39 "FlagChips$Codes" "length" "I", Cond.methodLink RX3 100 yX3_checkDelay, Cond.instanceMethod yX3_checkDelay, Cond.selects RX3 yX3_checkDelay yX3_checkDelay, Cond.code yX3_checkDelay cX3_checkDelay 2 none, Cond.classLink RX3 32 "java/lang/IllegalArgumentException", Cond.initialized "java/lang/IllegalArgumentException", Cond.methodLink RX3 188 yX3_isTaken, Cond.instanceMethod yX3_isTaken, Cond.selects RX3 yX3_isTaken yX3_isTaken, Cond.code yX3_isTaken cX3_isTaken 3 (some .boolean), Cond.fieldLink RX3 28 "FlagChips" "hills" "Ljava/util/ArrayList;", Cond.classLink RX3 65 "FlagChips$Hill", Cond.fieldLink RX3 152 "FlagChips$Hill" "code" "I", Cond.methodLink RX3 56 yJx4a65c_size_8abf5, Cond.instanceMethod yJx4a65c_size_8abf5, Cond.selects RJx4a65c yJx4a65c_size_8abf5 yJx4a65c_size_8abf5]
def wsL_advise_r2 : List Cond := [Cond.initialized RJx4a65c, Cond.code yJx4a65c_size_8abf5 cJx4a65c_size_8abf5 1 (some .int), Cond.fieldLink RJx4a65c 48 "java/util/ArrayList" "size" "I", Cond.methodLink RX3 219 yJx4a65c_get_915e3, Cond.instanceMethod yJx4a65c_get_915e3, Cond.selects RJx4a65c yJx4a65c_get_915e3 yJx4a65c_get_915e3, Cond.code yJx4a65c_get_915e3 cJx4a65c_get_915e3 2 (some (.object "java/lang/Object")), Cond.methodLink RJx4a65c 118 yJ15_checkIndex_7cf53, Cond.static yJ15_checkIndex_7cf53, Cond.initialized RJ15, Cond.code yJ15_checkIndex_7cf53 cJ15_checkIndex_7cf53 2 (some .int), Cond.methodLink RJ15 105 yJ3_checkIndex_8e157, Cond.static yJ3_checkIndex_8e157, Cond.initialized RJ3, Cond.code yJ3_checkIndex_8e157 cJ3_checkIndex_8e157 3 (some .int), Cond.methodLink RJx4a65c 123 yJx4a65c_elementData_915e3, Cond.instanceMethod yJx4a65c_elementData_915e3, Cond.selects RJx4a65c yJx4a65c_elementData_915e3 yJx4a65c_elementData_915e3, Cond.code yJx4a65c_elementData_915e3 cJx4a65c_elementData_915e3 2 (some (.object "java/lang/Object")), Cond.fieldLink RJx4a65c 9 "java/util/ArrayList" "elementData" "[Ljava/lang/Object;", Cond.methodLink RX3 191 yX3_likenessToAll, Cond.instanceMethod yX3_likenessToAll, Cond.selects RX3 yX3_likenessToAll yX3_likenessToAll, Cond.code yX3_likenessToAll cX3_likenessToAll 7 (some .int)]
def wsL_advise_r3 : List Cond := [Cond.fieldLink RX3 103 "FlagChips$Hill" "delay" "I", Cond.fieldLink RX3 89 "FlagChips$Hill" "strength" "I", Cond.methodLink RX3 184 yX0_likeness, Cond.instanceMethod yX0_likeness, Cond.selects RX0 yX0_likeness yX0_likeness, Cond.initialized RX0, Cond.code yX0_likeness cX0_likeness 7 (some .int), Cond.fieldLink RX0 9 "FlagChips$Codes" "length" "I", Cond.methodLink RX0 25 Lib.Math.abs.name, Cond.static Lib.Math.abs.name, Cond.initialized "java/lang/Math", Cond.code Lib.Math.abs.name Lib.Math.abs.code 1 (some .int), Cond.methodLink RX0 21 yX0_chipAt, Cond.instanceMethod yX0_chipAt, Cond.selects RX0 yX0_chipAt yX0_chipAt, Cond.code yX0_chipAt cX0_chipAt 3 (some .int), Cond.methodLink RX0 15 yJ6_bitCount_0f7a4, Cond.static yJ6_bitCount_0f7a4, Cond.initialized RJ6, Cond.code yJ6_bitCount_0f7a4 cJ6_bitCount_0f7a4 1 (some .int), Cond.constant RJ6 265 (1431655765), Cond.constant RJ6 266 (858993459), Cond.constant RJ6 267 (252645135)]
def wsL_advise : List Cond := .codeWith yL_advise cL_advise 4 (some .int) [(0, 9, 12, 13)] :: ((wsL_advise_r1 ++ (wsL_advise_r2 ++ wsL_advise_r3)) ++ wsX30 ++ wsX00 ++ wsX10 ++ wsJx4a65c0 ++ (vx_atS RX3 36 "java/lang/IllegalArgumentException" ["java/lang/RuntimeException", "java/lang/Exception"]).filter goodWord)
def wsL_would_r1 : List Cond := [Cond.classLink RL 19 "java/lang/IndexOutOfBoundsException", Cond.classLink RL 13 "java/lang/IllegalArgumentException", Cond.methodLink RL 67 yX3_would, Cond.instanceMethod yX3_would, Cond.selects RX3 yX3_would yX3_would, Cond.initialized RX3, Cond.code yX3_would cX3_would 4 (some .int), Cond.methodLink RX3 74 yX3_hillAt, Cond.instanceMethod yX3_hillAt, Cond.selects RX3 yX3_hillAt yX3_hillAt, Cond.code yX3_hillAt cX3_hillAt 2 (some (.object "FlagChips$Hill")), Cond.classLink RX3 106 "java/lang/IndexOutOfBoundsException", Cond.initialized "java/lang/IndexOutOfBoundsException", Cond.fieldLink RX3 28 "FlagChips" "hills" "Ljava/util/ArrayList;", Cond.classLink RX3 65 "FlagChips$Hill", Cond.methodLink RX3 56 yJx4a65c_size_8abf5, Cond.instanceMethod yJx4a65c_size_8abf5, Cond.selects RJx4a65c yJx4a65c_size_8abf5 yJx4a65c_size_8abf5, Cond.initialized RJx4a65c, Cond.code yJx4a65c_size_8abf5 cJx4a65c_size_8abf5 1 (some .int), Cond.fieldLink RJx4a65c 48 "java/util/ArrayList" "size" "I", Cond.methodLink RX3 219 yJx4a65c_get_915e3, Cond.instanceMethod yJx4a65c_get_915e3, Cond.selects RJx4a65c yJx4a65c_get_915e3 yJx4a65c_get_915e3]
def wsL_would_r2 : List Cond := [Cond.code yJx4a65c_get_915e3 cJx4a65c_get_915e3 2 (some (.object "java/lang/Object")), Cond.methodLink RJx4a65c 118 yJ15_checkIndex_7cf53, Cond.static yJ15_checkIndex_7cf53, Cond.initialized RJ15, Cond.code yJ15_checkIndex_7cf53 cJ15_checkIndex_7cf53 2 (some .int), Cond.methodLink RJ15 105 yJ3_checkIndex_8e157, Cond.static yJ3_checkIndex_8e157, Cond.initialized RJ3, Cond.code yJ3_checkIndex_8e157 cJ3_checkIndex_8e157 3 (some .int), Cond.methodLink RJx4a65c 123 yJx4a65c_elementData_915e3, Cond.instanceMethod yJx4a65c_elementData_915e3, Cond.selects RJx4a65c yJx4a65c_elementData_915e3 yJx4a65c_elementData_915e3, Cond.code yJx4a65c_elementData_915e3 cJx4a65c_elementData_915e3 2 (some (.object "java/lang/Object")), Cond.fieldLink RJx4a65c 9 "java/util/ArrayList" "elementData" "[Ljava/lang/Object;", Cond.methodLink RX3 53 yX3_checkStrength, Cond.instanceMethod yX3_checkStrength, Cond.selects RX3 yX3_checkStrength yX3_checkStrength, Cond.code yX3_checkStrength cX3_checkStrength 2 none, Cond.classLink RX3 32 "java/lang/IllegalArgumentException", Cond.initialized "java/lang/IllegalArgumentException", Cond.methodLink RX3 194 yX3_wrongWordsWith, Cond.instanceMethod yX3_wrongWordsWith, Cond.selects RX3 yX3_wrongWordsWith yX3_wrongWordsWith, Cond.code yX3_wrongWordsWith cX3_wrongWordsWith 5 (some .int)]
def wsL_would_r3 : List Cond := [Cond.fieldLink RX3 89 "FlagChips$Hill" "strength" "I", Cond.fieldLink RX3 21 "FlagChips" "sky" "LFlagChips$Sky;", Cond.methodLink RX3 96 yX2_addWords, Cond.instanceMethod yX2_addWords, Cond.selects RX2 yX2_addWords yX2_addWords, Cond.initialized RX2, Cond.code yX2_addWords cX2_addWords 4 none, Cond.fieldLink RX2 28 "FlagChips$Hill" "said" "I", Cond.methodLink RX2 34 yX2_addWord, Cond.instanceMethod yX2_addWord, Cond.selects RX2 yX2_addWord yX2_addWord, Cond.code yX2_addWord cX2_addWord 8 none, Cond.fieldLink RX2 18 "FlagChips$Sky" "codes" "LFlagChips$Codes;", Cond.fieldLink RX2 42 "FlagChips$Codes" "length" "I", Cond.fieldLink RX2 15 "FlagChips$Sky" "signals" "[I", Cond.fieldLink RX2 51 "FlagChips$Hill" "code" "I", Cond.methodLink RX2 38 yX1_wordAt, Cond.instanceMethod yX1_wordAt, Cond.selects RX1 yX1_wordAt yX1_wordAt, Cond.initialized RX1, Cond.code yX1_wordAt cX1_wordAt 2 (some .int), Cond.fieldLink RX1 18 "FlagChips$Hill" "words" "[I", Cond.methodLink RX2 47 yX1_start, Cond.instanceMethod yX1_start]
def wsL_would_r4 : List Cond := [Cond.selects RX1 yX1_start yX1_start, Cond.code yX1_start cX1_start 3 (some .int), Cond.fieldLink RX1 9 "FlagChips$Hill" "delay" "I", Cond.methodLink RX2 54 yX0_chipAt, Cond.instanceMethod yX0_chipAt, Cond.selects RX0 yX0_chipAt yX0_chipAt, Cond.initialized RX0, Cond.code yX0_chipAt cX0_chipAt 3 (some .int), Cond.methodLink RX0 15 yJ6_bitCount_0f7a4, Cond.static yJ6_bitCount_0f7a4, Cond.initialized RJ6, Cond.code yJ6_bitCount_0f7a4 cJ6_bitCount_0f7a4 1 (some .int), Cond.constant RJ6 265 (1431655765), Cond.constant RJ6 266 (858993459), Cond.constant RJ6 267 (252645135), Cond.methodLink RX3 170 yX3_allWrongWords, Cond.instanceMethod yX3_allWrongWords, Cond.selects RX3 yX3_allWrongWords yX3_allWrongWords, Cond.code yX3_allWrongWords cX3_allWrongWords 3 (some .int), Cond.methodLink RX3 155 yX2_wrongWords, Cond.instanceMethod yX2_wrongWords, Cond.selects RX2 yX2_wrongWords yX2_wrongWords, Cond.code yX2_wrongWords cX2_wrongWords 4 (some .int), Cond.methodLink RX2 63 yX2_heardWord]
def wsL_would_r5 : List Cond := [Cond.instanceMethod yX2_heardWord, Cond.selects RX2 yX2_heardWord yX2_heardWord, Cond.code yX2_heardWord cX2_heardWord 3 (some .int), Cond.methodLink RX2 60 yX2_heard, Cond.instanceMethod yX2_heard, Cond.selects RX2 yX2_heard yX2_heard, Cond.code yX2_heard cX2_heard 5 (some .int), Cond.methodLink RX2 57 yX2_at, Cond.instanceMethod yX2_at, Cond.selects RX2 yX2_at yX2_at, Cond.code yX2_at cX2_at 3 (some .int), Cond.fieldLink RX2 9 "FlagChips$Sky" "storms" "[I", Cond.methodLink RX2 67 yX1_isWrong, Cond.instanceMethod yX1_isWrong, Cond.selects RX1 yX1_isWrong yX1_isWrong, Cond.code yX1_isWrong cX1_isWrong 3 (some .boolean), Cond.methodLink RX1 32 yX1_wordAt]
def wsL_would : List Cond := .codeWith yL_would cL_would 5 (some .int) [(0, 10, 13, 19), (0, 10, 17, 13)] :: ((wsL_would_r1 ++ (wsL_would_r2 ++ (wsL_would_r3 ++ (wsL_would_r4 ++ wsL_would_r5)))) ++ wsX30 ++ wsJx4a65c0 ++ wsX10 ++ wsX20 ++ wsX00 ++ (vx_atS RX3 110 "java/lang/IndexOutOfBoundsException" ["java/lang/RuntimeException", "java/lang/Exception"]).filter goodWord ++ (vx_atS RX3 36 "java/lang/IllegalArgumentException" ["java/lang/RuntimeException", "java/lang/Exception"]).filter goodWord)
def wsL_tune_r1 : List Cond := [Cond.classLink RL 19 "java/lang/IndexOutOfBoundsException", Cond.methodLink RL 70 yX3_tune, Cond.instanceMethod yX3_tune, Cond.selects RX3 yX3_tune yX3_tune, Cond.initialized RX3, Cond.code yX3_tune cX3_tune 7 (some .int), Cond.methodLink RX3 74 yX3_hillAt, Cond.instanceMethod yX3_hillAt, Cond.selects RX3 yX3_hillAt yX3_hillAt, Cond.code yX3_hillAt cX3_hillAt 2 (some (.object "FlagChips$Hill")), Cond.classLink RX3 106 "java/lang/IndexOutOfBoundsException", Cond.initialized "java/lang/IndexOutOfBoundsException", Cond.fieldLink RX3 28 "FlagChips" "hills" "Ljava/util/ArrayList;", Cond.classLink RX3 65 "FlagChips$Hill", Cond.methodLink RX3 56 yJx4a65c_size_8abf5, Cond.instanceMethod yJx4a65c_size_8abf5, Cond.selects RJx4a65c yJx4a65c_size_8abf5 yJx4a65c_size_8abf5, Cond.initialized RJx4a65c, Cond.code yJx4a65c_size_8abf5 cJx4a65c_size_8abf5 1 (some .int), Cond.fieldLink RJx4a65c 48 "java/util/ArrayList" "size" "I", Cond.methodLink RX3 219 yJx4a65c_get_915e3, Cond.instanceMethod yJx4a65c_get_915e3, Cond.selects RJx4a65c yJx4a65c_get_915e3 yJx4a65c_get_915e3, Cond.code yJx4a65c_get_915e3 cJx4a65c_get_915e3 2 (some (.object "java/lang/Object"))]
def wsL_tune_r2 : List Cond := [Cond.methodLink RJx4a65c 118 yJ15_checkIndex_7cf53, Cond.static yJ15_checkIndex_7cf53, Cond.initialized RJ15, Cond.code yJ15_checkIndex_7cf53 cJ15_checkIndex_7cf53 2 (some .int), Cond.methodLink RJ15 105 yJ3_checkIndex_8e157, Cond.static yJ3_checkIndex_8e157, Cond.initialized RJ3, Cond.code yJ3_checkIndex_8e157 cJ3_checkIndex_8e157 3 (some .int), Cond.methodLink RJx4a65c 123 yJx4a65c_elementData_915e3, Cond.instanceMethod yJx4a65c_elementData_915e3, Cond.selects RJx4a65c yJx4a65c_elementData_915e3 yJx4a65c_elementData_915e3, Cond.code yJx4a65c_elementData_915e3 cJx4a65c_elementData_915e3 2 (some (.object "java/lang/Object")), Cond.fieldLink RJx4a65c 9 "java/util/ArrayList" "elementData" "[Ljava/lang/Object;", Cond.methodLink RX3 194 yX3_wrongWordsWith, Cond.instanceMethod yX3_wrongWordsWith, Cond.selects RX3 yX3_wrongWordsWith yX3_wrongWordsWith, Cond.code yX3_wrongWordsWith cX3_wrongWordsWith 5 (some .int), Cond.fieldLink RX3 89 "FlagChips$Hill" "strength" "I", Cond.fieldLink RX3 21 "FlagChips" "sky" "LFlagChips$Sky;", Cond.methodLink RX3 96 yX2_addWords, Cond.instanceMethod yX2_addWords, Cond.selects RX2 yX2_addWords yX2_addWords, Cond.initialized RX2, Cond.code yX2_addWords cX2_addWords 4 none]
def wsL_tune_r3 : List Cond := [Cond.fieldLink RX2 28 "FlagChips$Hill" "said" "I", Cond.methodLink RX2 34 yX2_addWord, Cond.instanceMethod yX2_addWord, Cond.selects RX2 yX2_addWord yX2_addWord, Cond.code yX2_addWord cX2_addWord 8 none, Cond.fieldLink RX2 18 "FlagChips$Sky" "codes" "LFlagChips$Codes;", Cond.fieldLink RX2 42 "FlagChips$Codes" "length" "I", Cond.fieldLink RX2 15 "FlagChips$Sky" "signals" "[I", Cond.fieldLink RX2 51 "FlagChips$Hill" "code" "I", Cond.methodLink RX2 38 yX1_wordAt, Cond.instanceMethod yX1_wordAt, Cond.selects RX1 yX1_wordAt yX1_wordAt, Cond.initialized RX1, Cond.code yX1_wordAt cX1_wordAt 2 (some .int), Cond.fieldLink RX1 18 "FlagChips$Hill" "words" "[I", Cond.methodLink RX2 47 yX1_start, Cond.instanceMethod yX1_start, Cond.selects RX1 yX1_start yX1_start, Cond.code yX1_start cX1_start 3 (some .int), Cond.fieldLink RX1 9 "FlagChips$Hill" "delay" "I", Cond.methodLink RX2 54 yX0_chipAt, Cond.instanceMethod yX0_chipAt, Cond.selects RX0 yX0_chipAt yX0_chipAt, Cond.initialized RX0]
def wsL_tune_r4 : List Cond := [Cond.code yX0_chipAt cX0_chipAt 3 (some .int), Cond.methodLink RX0 15 yJ6_bitCount_0f7a4, Cond.static yJ6_bitCount_0f7a4, Cond.initialized RJ6, Cond.code yJ6_bitCount_0f7a4 cJ6_bitCount_0f7a4 1 (some .int), Cond.constant RJ6 265 (1431655765), Cond.constant RJ6 266 (858993459), Cond.constant RJ6 267 (252645135), Cond.methodLink RX3 170 yX3_allWrongWords, Cond.instanceMethod yX3_allWrongWords, Cond.selects RX3 yX3_allWrongWords yX3_allWrongWords, Cond.code yX3_allWrongWords cX3_allWrongWords 3 (some .int), Cond.methodLink RX3 155 yX2_wrongWords, Cond.instanceMethod yX2_wrongWords, Cond.selects RX2 yX2_wrongWords yX2_wrongWords, Cond.code yX2_wrongWords cX2_wrongWords 4 (some .int), Cond.methodLink RX2 63 yX2_heardWord, Cond.instanceMethod yX2_heardWord, Cond.selects RX2 yX2_heardWord yX2_heardWord, Cond.code yX2_heardWord cX2_heardWord 3 (some .int), Cond.methodLink RX2 60 yX2_heard, Cond.instanceMethod yX2_heard, Cond.selects RX2 yX2_heard yX2_heard, Cond.code yX2_heard cX2_heard 5 (some .int)]
def wsL_tune_r5 : List Cond := [Cond.methodLink RX2 57 yX2_at, Cond.instanceMethod yX2_at, Cond.selects RX2 yX2_at yX2_at, Cond.code yX2_at cX2_at 3 (some .int), Cond.fieldLink RX2 9 "FlagChips$Sky" "storms" "[I", Cond.methodLink RX2 67 yX1_isWrong, Cond.instanceMethod yX1_isWrong, Cond.selects RX1 yX1_isWrong yX1_isWrong, Cond.code yX1_isWrong cX1_isWrong 3 (some .boolean), Cond.methodLink RX1 32 yX1_wordAt]
def wsL_tune : List Cond := .codeWith yL_tune cL_tune 4 (some .int) [(0, 9, 12, 19)] :: ((wsL_tune_r1 ++ (wsL_tune_r2 ++ (wsL_tune_r3 ++ (wsL_tune_r4 ++ wsL_tune_r5)))) ++ wsX30 ++ wsJx4a65c0 ++ wsX10 ++ wsX20 ++ wsX00 ++ (vx_atS RX3 110 "java/lang/IndexOutOfBoundsException" ["java/lang/RuntimeException", "java/lang/Exception"]).filter goodWord)
def wsL_law0_r1 : List Cond := [Cond.classLink RL 8 RX3, Cond.instantiable RX3 3, Cond.initialized RX3, Cond.classLink RL 74 RX4, Cond.instantiable RX4 9, Cond.initialized RX4, Cond.arrayClass .long, Cond.methodLink RL 73 yX3_init, Cond.instanceMethod yX3_init, Cond.code yX3_init cX3_init 1 none, Cond.methodLink RX3 3 objectInit, Cond.instanceMethod objectInit, Cond.code objectInit ⟨#[0xb1]⟩ 1 none, Cond.classLink RX3 9 RX0, Cond.instantiable RX0 1, Cond.initialized RX0, Cond.fieldLink RX3 12 "FlagChips" "codes" "LFlagChips$Codes;", Cond.classLink RX3 16 RX2, Cond.instantiable RX2 3, Cond.initialized RX2, Cond.fieldLink RX3 21 "FlagChips" "sky" "LFlagChips$Sky;", Cond.classLink RX3 25 RJx4a65c, Cond.instantiable RJx4a65c 3, Cond.initialized RJx4a65c]
def wsL_law0_r2 : List Cond := [Cond.fieldLink RX3 28 "FlagChips" "hills" "Ljava/util/ArrayList;", Cond.instanceMethod yX0_init, Cond.code yX0_init cX0_init 1 none, Cond.methodLink RX0 3 objectInit, Cond.fieldLink RX0 9 "FlagChips$Codes" "length" "I", Cond.methodLink RX3 18 yX2_init, Cond.instanceMethod yX2_init, Cond.code yX2_init cX2_init 2 none, Cond.methodLink RX2 3 objectInit, Cond.arrayClass .int, Cond.fieldLink RX2 9 "FlagChips$Sky" "storms" "[I", Cond.fieldLink RX2 15 "FlagChips$Sky" "signals" "[I", Cond.fieldLink RX2 18 "FlagChips$Sky" "codes" "LFlagChips$Codes;", Cond.methodLink RX3 27 yJx4a65c_init_da8c8, Cond.instanceMethod yJx4a65c_init_da8c8, Cond.code yJx4a65c_init_da8c8 cJx4a65c_init_da8c8 1 none, Cond.fieldLink RJx4a65c 39 "java/util/ArrayList" "DEFAULTCAPACITY_EMPTY_ELEMENTDATA" "[Ljava/lang/Object;", Cond.fieldLink RJx4a65c 9 "java/util/ArrayList" "elementData" "[Ljava/lang/Object;", Cond.methodLink RJx4a65c 1 yJxc12de_init_da8c8, Cond.instanceMethod yJxc12de_init_da8c8, Cond.initialized RJxc12de, Cond.code yJxc12de_init_da8c8 cJxc12de_init_da8c8 1 none, Cond.fieldLink RJxc12de 7 "java/util/AbstractList" "modCount" "I", Cond.methodLink RJxc12de 1 yJxa1e45_init_da8c8]
def wsL_law0_r3 : List Cond := [Cond.instanceMethod yJxa1e45_init_da8c8, Cond.initialized RJxa1e45, Cond.code yJxa1e45_init_da8c8 cJxa1e45_init_da8c8 1 none, Cond.methodLink RJxa1e45 1 objectInit, Cond.methodLink RL 76 yX4_init, Cond.instanceMethod yX4_init, Cond.code yX4_init cX4_init 1 none, Cond.methodLink RX4 1 objectInit, Cond.fieldLink RX4 7 "FlagChipsModel" "length" "I", Cond.fieldLink RX4 13 "FlagChipsModel" "code" "[I", Cond.fieldLink RX4 17 "FlagChipsModel" "strength" "[I", Cond.fieldLink RX4 20 "FlagChipsModel" "delay" "[I", Cond.fieldLink RX4 23 "FlagChipsModel" "words" "[I", Cond.fieldLink RX4 26 "FlagChipsModel" "said" "[I", Cond.fieldLink RX4 29 "FlagChipsModel" "storms" "[I", Cond.methodLink RL 77 yL_setCodes, Cond.static yL_setCodes, Cond.initialized RL, Cond.codeWith yL_setCodes cL_setCodes 4 (some .int) [(0, 9, 12, 13)], Cond.classLink RL 13 "java/lang/IllegalArgumentException", Cond.methodLink RL 7 yX3_setCodes, Cond.instanceMethod yX3_setCodes, Cond.selects RX3 yX3_setCodes yX3_setCodes, Cond.code yX3_setCodes cX3_setCodes 3 (some .int)]
def wsL_law0_r4 : List Cond := [Cond.classLink RX3 32 "java/lang/IllegalArgumentException", Cond.initialized "java/lang/IllegalArgumentException", Cond.fieldLink RX3 39 "FlagChips$Codes" "length" "I", Cond.methodLink RX3 43 yJx4a65c_clear_da8c8, Cond.instanceMethod yJx4a65c_clear_da8c8, Cond.selects RJx4a65c yJx4a65c_clear_da8c8 yJx4a65c_clear_da8c8, Cond.code yJx4a65c_clear_da8c8 cJx4a65c_clear_da8c8 4 none, Cond.fieldLink RJx4a65c 63 "java/util/ArrayList" "modCount" "I", Cond.sameField "java/util/ArrayList" "java/util/AbstractList" "modCount" "I", Cond.fieldLink RJx4a65c 48 "java/util/ArrayList" "size" "I", Cond.methodLink RX3 46 yX2_silence, Cond.instanceMethod yX2_silence, Cond.selects RX2 yX2_silence yX2_silence, Cond.code yX2_silence cX2_silence 1 none, Cond.methodLink RX2 22 yJ7_fill_53178, Cond.static yJ7_fill_53178, Cond.initialized RJ7, Cond.code yJ7_fill_53178 cJ7_fill_53178 4 none, Cond.methodLink RL 82 yX4_setCodes, Cond.instanceMethod yX4_setCodes, Cond.selects RX4 yX4_setCodes yX4_setCodes, Cond.code yX4_setCodes cX4_setCodes 3 (some .int), Cond.fieldLink RX4 32 "FlagChipsModel" "thrown" "I", Cond.fieldLink RX4 39 "FlagChipsModel" "hills" "I"]
def wsL_law0_r5 : List Cond := [Cond.methodLink RX4 35 yX4_isIn, Cond.static yX4_isIn, Cond.code yX4_isIn cX4_isIn 3 (some .boolean), Cond.methodLink RX4 91 yX4_no, Cond.instanceMethod yX4_no, Cond.selects RX4 yX4_no yX4_no, Cond.code yX4_no cX4_no 2 (some .int), Cond.methodLink RL 83 yX4_thrown, Cond.instanceMethod yX4_thrown, Cond.selects RX4 yX4_thrown yX4_thrown, Cond.code yX4_thrown cX4_thrown 1 (some .int), Cond.methodLink RL 87 yL_hill, Cond.static yL_hill, Cond.codeWith yL_hill cL_hill 5 (some .int) [(0, 10, 13, 19), (0, 10, 17, 13), (0, 10, 21, 21)], Cond.classLink RL 19 "java/lang/IndexOutOfBoundsException", Cond.classLink RL 21 "java/lang/IllegalStateException", Cond.methodLink RL 15 yX3_hill, Cond.instanceMethod yX3_hill, Cond.selects RX3 yX3_hill yX3_hill, Cond.code yX3_hill cX3_hill 3 (some .int), Cond.classLink RX3 60 "java/lang/IllegalStateException", Cond.initialized "java/lang/IllegalStateException", Cond.classLink RX3 65 RX1, Cond.instantiable RX1 5]
def wsL_law0_r6 : List Cond := [Cond.initialized RX1, Cond.methodLink RX3 49 yX3_checkCode, Cond.instanceMethod yX3_checkCode, Cond.selects RX3 yX3_checkCode yX3_checkCode, Cond.code yX3_checkCode cX3_checkCode 2 none, Cond.classLink RX3 106 "java/lang/IndexOutOfBoundsException", Cond.initialized "java/lang/IndexOutOfBoundsException", Cond.methodLink RX3 117 yX0_has, Cond.instanceMethod yX0_has, Cond.selects RX0 yX0_has yX0_has, Cond.code yX0_has cX0_has 2 (some .boolean), Cond.methodLink RX3 53 yX3_checkStrength, Cond.instanceMethod yX3_checkStrength, Cond.selects RX3 yX3_checkStrength yX3_checkStrength, Cond.code yX3_checkStrength cX3_checkStrength 2 none, Cond.methodLink RX3 56 yJx4a65c_size_8abf5, Cond.instanceMethod yJx4a65c_size_8abf5, Cond.selects RJx4a65c yJx4a65c_size_8abf5 yJx4a65c_size_8abf5, Cond.code yJx4a65c_size_8abf5 cJx4a65c_size_8abf5 1 (some .int), Cond.methodLink RX3 67 yX1_init, Cond.instanceMethod yX1_init, Cond.code yX1_init cX1_init 3 none, Cond.methodLink RX1 3 objectInit, Cond.fieldLink RX1 9 "FlagChips$Hill" "delay" "I"]
def wsL_law0_r7 : List Cond := [Cond.fieldLink RX1 15 "FlagChips$Hill" "said" "I", Cond.fieldLink RX1 18 "FlagChips$Hill" "words" "[I", Cond.fieldLink RX1 22 "FlagChips$Hill" "code" "I", Cond.fieldLink RX1 25 "FlagChips$Hill" "strength" "I", Cond.methodLink RX3 70 yJx4a65c_add_9ea2d, Cond.instanceMethod yJx4a65c_add_9ea2d, Cond.selects RJx4a65c yJx4a65c_add_9ea2d yJx4a65c_add_9ea2d, Cond.code yJx4a65c_add_9ea2d cJx4a65c_add_9ea2d 2 (some .boolean), Cond.methodLink RJx4a65c 131 yJx4a65c_add_72be8, Cond.instanceMethod yJx4a65c_add_72be8, Cond.selects RJx4a65c yJx4a65c_add_72be8 yJx4a65c_add_72be8, Cond.code yJx4a65c_add_72be8 cJx4a65c_add_72be8 4 none, Cond.methodLink RJx4a65c 129 yJx4a65c_grow_d5877, Cond.instanceMethod yJx4a65c_grow_d5877, Cond.selects RJx4a65c yJx4a65c_grow_d5877 yJx4a65c_grow_d5877, Cond.code yJx4a65c_grow_d5877 cJx4a65c_grow_d5877 1 (some (.array (.object "java/lang/Object"))), Cond.methodLink RJx4a65c 69 yJx4a65c_grow_92f84, Cond.instanceMethod yJx4a65c_grow_92f84, Cond.selects RJx4a65c yJx4a65c_grow_92f84 yJx4a65c_grow_92f84, Cond.code yJx4a65c_grow_92f84 cJx4a65c_grow_92f84 4 (some (.array (.object "java/lang/Object"))), Cond.methodLink RJx4a65c 79 Lib.Math.max.name, Cond.static Lib.Math.max.name, Cond.initialized "java/lang/Math", Cond.code Lib.Math.max.name Lib.Math.max.code 2 (some .int)]
def wsL_law0_r8 : List Cond := [Cond.classLink RJx4a65c 7 "java/lang/Object", Cond.methodLink RJx4a65c 73 yJ8_newLength_cabcc, Cond.static yJ8_newLength_cabcc, Cond.initialized RJ8, Cond.code yJ8_newLength_cabcc cJ8_newLength_cabcc 4 (some .int), Cond.methodLink RJ8 194 Lib.Math.max.name, Cond.constant RJ8 200 (2147483639), Cond.methodLink RJ8 201 yJ8_hugeLength_7cf53, Cond.static yJ8_hugeLength_7cf53, Cond.code yJ8_hugeLength_7cf53 cJ8_hugeLength_7cf53 3 (some .int), Cond.methodLink RJx4a65c 66 yJ7_copyOf_1904c, Cond.static yJ7_copyOf_1904c, Cond.code yJ7_copyOf_1904c cJ7_copyOf_1904c 2 (some (.array (.object "java/lang/Object"))), Cond.methodLink RJ7 86 ⟨"java/lang/Object", "getClass", "()Ljava/lang/Class;"⟩, Cond.selects "[Ljava/lang/Object;" ⟨"java/lang/Object", "getClass", "()Ljava/lang/Class;"⟩ ⟨"java/lang/Object", "getClass", "()Ljava/lang/Class;"⟩, Cond.instanceMethod ⟨"java/lang/Object", "getClass", "()Ljava/lang/Class;"⟩, Cond.native ⟨"java/lang/Object", "getClass", "()Ljava/lang/Class;"⟩, Cond.methodLink RJ7 300 yJ7_copyOf_6403c, Cond.static yJ7_copyOf_6403c, Cond.code yJ7_copyOf_6403c cJ7_copyOf_6403c 4 (some (.array (.object "java/lang/Object"))), Cond.classLink RJ7 110 "[Ljava/lang/Object;", Cond.classLink RJ7 2 "java/lang/Object", Cond.methodLink RJ7 304 Lib.Math.min.name, Cond.static Lib.Math.min.name]
def wsL_law0_r9 : List Cond := [Cond.code Lib.Math.min.name Lib.Math.min.code 2 (some .int), Cond.methodLink RJ7 150 arraycopyName, Cond.native arraycopyName, Cond.static arraycopyName, Cond.initialized "java/lang/System", Cond.methodLink RL 90 yX4_hill, Cond.instanceMethod yX4_hill, Cond.selects RX4 yX4_hill yX4_hill, Cond.code yX4_hill cX4_hill 3 (some .int), Cond.methodLink RX4 94 yX4_isCode, Cond.instanceMethod yX4_isCode, Cond.selects RX4 yX4_isCode yX4_isCode, Cond.code yX4_isCode cX4_isCode 2 (some .boolean), Cond.methodLink RX4 98 yX4_isStrength, Cond.static yX4_isStrength, Cond.code yX4_isStrength cX4_isStrength 1 (some .boolean), Cond.methodLink RL 91 yL_say, Cond.static yL_say, Cond.codeWith yL_say cL_say 5 (some .int) [(0, 10, 13, 19), (0, 10, 17, 21)], Cond.methodLink RL 23 yX3_say, Cond.instanceMethod yX3_say, Cond.selects RX3 yX3_say yX3_say, Cond.code yX3_say cX3_say 4 (some .int), Cond.fieldLink RX3 86 "FlagChips$Hill" "said" "I"]
def wsL_law0_r10 : List Cond := [Cond.fieldLink RX3 89 "FlagChips$Hill" "strength" "I", Cond.methodLink RX3 74 yX3_hillAt, Cond.instanceMethod yX3_hillAt, Cond.selects RX3 yX3_hillAt yX3_hillAt, Cond.code yX3_hillAt cX3_hillAt 2 (some (.object "FlagChips$Hill")), Cond.classLink RX3 65 "FlagChips$Hill", Cond.methodLink RX3 219 yJx4a65c_get_915e3, Cond.instanceMethod yJx4a65c_get_915e3, Cond.selects RJx4a65c yJx4a65c_get_915e3 yJx4a65c_get_915e3, Cond.code yJx4a65c_get_915e3 cJx4a65c_get_915e3 2 (some (.object "java/lang/Object")), Cond.methodLink RJx4a65c 118 yJ15_checkIndex_7cf53, Cond.static yJ15_checkIndex_7cf53, Cond.initialized RJ15, Cond.code yJ15_checkIndex_7cf53 cJ15_checkIndex_7cf53 2 (some .int), Cond.methodLink RJ15 105 yJ3_checkIndex_8e157, Cond.static yJ3_checkIndex_8e157, Cond.initialized RJ3, Cond.code yJ3_checkIndex_8e157 cJ3_checkIndex_8e157 3 (some .int), Cond.methodLink RJx4a65c 123 yJx4a65c_elementData_915e3, Cond.instanceMethod yJx4a65c_elementData_915e3, Cond.selects RJx4a65c yJx4a65c_elementData_915e3 yJx4a65c_elementData_915e3, Cond.code yJx4a65c_elementData_915e3 cJx4a65c_elementData_915e3 2 (some (.object "java/lang/Object")), Cond.methodLink RX3 78 yX1_isFull, Cond.instanceMethod yX1_isFull]
def wsL_law0_r11 : List Cond := [Cond.selects RX1 yX1_isFull yX1_isFull, Cond.code yX1_isFull cX1_isFull 1 (some .boolean), Cond.methodLink RX3 84 yX1_add, Cond.instanceMethod yX1_add, Cond.selects RX1 yX1_add yX1_add, Cond.code yX1_add cX1_add 2 none, Cond.methodLink RX1 28 yX1_isFull, Cond.methodLink RX3 92 yX2_addWord, Cond.instanceMethod yX2_addWord, Cond.selects RX2 yX2_addWord yX2_addWord, Cond.code yX2_addWord cX2_addWord 8 none, Cond.fieldLink RX2 42 "FlagChips$Codes" "length" "I", Cond.fieldLink RX2 51 "FlagChips$Hill" "code" "I", Cond.methodLink RX2 38 yX1_wordAt, Cond.instanceMethod yX1_wordAt, Cond.selects RX1 yX1_wordAt yX1_wordAt, Cond.code yX1_wordAt cX1_wordAt 2 (some .int), Cond.methodLink RX2 47 yX1_start, Cond.instanceMethod yX1_start, Cond.selects RX1 yX1_start yX1_start, Cond.code yX1_start cX1_start 3 (some .int), Cond.methodLink RX2 54 yX0_chipAt, Cond.instanceMethod yX0_chipAt, Cond.selects RX0 yX0_chipAt yX0_chipAt]
def wsL_law0_r12 : List Cond := [Cond.code yX0_chipAt cX0_chipAt 3 (some .int), Cond.methodLink RX0 15 yJ6_bitCount_0f7a4, Cond.static yJ6_bitCount_0f7a4, Cond.initialized RJ6, Cond.code yJ6_bitCount_0f7a4 cJ6_bitCount_0f7a4 1 (some .int), Cond.constant RJ6 265 (1431655765), Cond.constant RJ6 266 (858993459), Cond.constant RJ6 267 (252645135), Cond.methodLink RL 94 yX4_say, Cond.instanceMethod yX4_say, Cond.selects RX4 yX4_say yX4_say, Cond.code yX4_say cX4_say 3 (some .int), Cond.methodLink RX4 101 yX4_isHill, Cond.instanceMethod yX4_isHill, Cond.selects RX4 yX4_isHill yX4_isHill, Cond.code yX4_isHill cX4_isHill 2 (some .boolean), Cond.methodLink RL 95 yL_hush, Cond.static yL_hush, Cond.codeWith yL_hush cL_hush 4 (some .int) [(0, 9, 12, 19)], Cond.methodLink RL 27 yX3_hush, Cond.instanceMethod yX3_hush, Cond.selects RX3 yX3_hush yX3_hush, Cond.code yX3_hush cX3_hush 4 (some .int), Cond.methodLink RX3 96 yX2_addWords]
def wsL_law0_r13 : List Cond := [Cond.instanceMethod yX2_addWords, Cond.selects RX2 yX2_addWords yX2_addWords, Cond.code yX2_addWords cX2_addWords 4 none, Cond.fieldLink RX2 28 "FlagChips$Hill" "said" "I", Cond.methodLink RX2 34 yX2_addWord, Cond.methodLink RL 97 yX4_hush, Cond.instanceMethod yX4_hush, Cond.selects RX4 yX4_hush yX4_hush, Cond.code yX4_hush cX4_hush 3 (some .int), Cond.methodLink RL 98 yL_setDelay, Cond.static yL_setDelay, Cond.codeWith yL_setDelay cL_setDelay 5 (some .int) [(0, 10, 13, 19), (0, 10, 17, 13)], Cond.methodLink RL 30 yX3_setDelay, Cond.instanceMethod yX3_setDelay, Cond.selects RX3 yX3_setDelay yX3_setDelay, Cond.code yX3_setDelay cX3_setDelay 5 (some .int), Cond.fieldLink RX3 103 "FlagChips$Hill" "delay" "I", Cond.methodLink RX3 100 yX3_checkDelay, Cond.instanceMethod yX3_checkDelay, Cond.selects RX3 yX3_checkDelay yX3_checkDelay, Cond.code yX3_checkDelay cX3_checkDelay 2 none, Cond.methodLink RL 100 yX4_setDelay, Cond.instanceMethod yX4_setDelay, Cond.selects RX4 yX4_setDelay yX4_setDelay]
def wsL_law0_r14 : List Cond := [Cond.code yX4_setDelay cX4_setDelay 4 (some .int), Cond.methodLink RL 101 yL_setStrength, Cond.static yL_setStrength, Cond.codeWith yL_setStrength cL_setStrength 5 (some .int) [(0, 10, 13, 19), (0, 10, 17, 13)], Cond.methodLink RL 33 yX3_setStrength, Cond.instanceMethod yX3_setStrength, Cond.selects RX3 yX3_setStrength yX3_setStrength, Cond.code yX3_setStrength cX3_setStrength 5 (some .int), Cond.methodLink RL 103 yX4_setStrength, Cond.instanceMethod yX4_setStrength, Cond.selects RX4 yX4_setStrength yX4_setStrength, Cond.code yX4_setStrength cX4_setStrength 4 (some .int), Cond.methodLink RL 104 yL_setStorm, Cond.static yL_setStorm, Cond.codeWith yL_setStorm cL_setStorm 5 (some .int) [(0, 10, 13, 19), (0, 10, 17, 13)], Cond.methodLink RL 36 yX3_setStorm, Cond.instanceMethod yX3_setStorm, Cond.selects RX3 yX3_setStorm yX3_setStorm, Cond.code yX3_setStorm cX3_setStorm 4 (some .int), Cond.fieldLink RX3 113 "FlagChips$Sky" "storms" "[I", Cond.methodLink RL 106 yX4_setStorm, Cond.instanceMethod yX4_setStorm, Cond.selects RX4 yX4_setStorm yX4_setStorm, Cond.code yX4_setStorm cX4_setStorm 4 (some .int)]
def wsL_law0_r15 : List Cond := [Cond.methodLink RL 107 yL_chip, Cond.static yL_chip, Cond.codeWith yL_chip cL_chip 5 (some .int) [(0, 10, 13, 19)], Cond.methodLink RL 39 yX3_chip, Cond.instanceMethod yX3_chip, Cond.selects RX3 yX3_chip yX3_chip, Cond.code yX3_chip cX3_chip 3 (some .int), Cond.methodLink RX3 123 yX0_chipAt, Cond.methodLink RL 109 yX4_chip, Cond.instanceMethod yX4_chip, Cond.selects RX4 yX4_chip yX4_chip, Cond.code yX4_chip cX4_chip 3 (some .int), Cond.methodLink RX4 48 yX4_chipOf, Cond.static yX4_chipOf, Cond.code yX4_chipOf cX4_chipOf 2 (some .int), Cond.methodLink RX4 42 yJ6_bitCount_0f7a4, Cond.methodLink RL 110 yL_sky, Cond.static yL_sky, Cond.codeWith yL_sky cL_sky 4 (some .int) [(0, 9, 12, 13)], Cond.methodLink RL 42 yX3_sky, Cond.instanceMethod yX3_sky, Cond.selects RX3 yX3_sky yX3_sky, Cond.code yX3_sky cX3_sky 2 (some .int), Cond.methodLink RX3 127 yX3_checkTime]
def wsL_law0_r16 : List Cond := [Cond.instanceMethod yX3_checkTime, Cond.selects RX3 yX3_checkTime yX3_checkTime, Cond.code yX3_checkTime cX3_checkTime 2 none, Cond.methodLink RX3 130 yX2_at, Cond.instanceMethod yX2_at, Cond.selects RX2 yX2_at yX2_at, Cond.code yX2_at cX2_at 3 (some .int), Cond.methodLink RL 112 yX4_sky, Cond.instanceMethod yX4_sky, Cond.selects RX4 yX4_sky yX4_sky, Cond.code yX4_sky cX4_sky 2 (some .int), Cond.methodLink RX4 104 yX4_isTime, Cond.static yX4_isTime, Cond.code yX4_isTime cX4_isTime 1 (some .boolean), Cond.methodLink RX4 55 yX4_skyAt, Cond.instanceMethod yX4_skyAt, Cond.selects RX4 yX4_skyAt yX4_skyAt, Cond.code yX4_skyAt cX4_skyAt 4 (some .int), Cond.methodLink RX4 52 yX4_signal, Cond.instanceMethod yX4_signal, Cond.selects RX4 yX4_signal yX4_signal, Cond.code yX4_signal cX4_signal 4 (some .int), Cond.methodLink RL 113 yL_hear, Cond.static yL_hear]
def wsL_law0_r17 : List Cond := [Cond.codeWith yL_hear cL_hear 5 (some .int) [(0, 10, 13, 19), (0, 10, 17, 13)], Cond.methodLink RL 45 yX3_hear, Cond.instanceMethod yX3_hear, Cond.selects RX3 yX3_hear yX3_hear, Cond.code yX3_hear cX3_hear 3 (some .int), Cond.methodLink RX3 134 yX2_heard, Cond.instanceMethod yX2_heard, Cond.selects RX2 yX2_heard yX2_heard, Cond.code yX2_heard cX2_heard 5 (some .int), Cond.methodLink RX2 57 yX2_at, Cond.methodLink RL 115 yX4_hear, Cond.instanceMethod yX4_hear, Cond.selects RX4 yX4_hear yX4_hear, Cond.code yX4_hear cX4_hear 3 (some .int), Cond.methodLink RX4 61 yX4_heard, Cond.instanceMethod yX4_heard, Cond.selects RX4 yX4_heard yX4_heard, Cond.code yX4_heard cX4_heard 5 (some .int), Cond.methodLink RL 116 yL_word, Cond.static yL_word, Cond.codeWith yL_word cL_word 6 (some .int) [(0, 12, 15, 19)], Cond.methodLink RL 48 yX3_word, Cond.instanceMethod yX3_word, Cond.selects RX3 yX3_word yX3_word]
def wsL_law0_r18 : List Cond := [Cond.code yX3_word cX3_word 5 (some .int), Cond.methodLink RX3 139 yX1_wordAt, Cond.methodLink RX3 142 yX2_heardWord, Cond.instanceMethod yX2_heardWord, Cond.selects RX2 yX2_heardWord yX2_heardWord, Cond.code yX2_heardWord cX2_heardWord 3 (some .int), Cond.methodLink RX2 60 yX2_heard, Cond.methodLink RX3 146 yX1_isWrong, Cond.instanceMethod yX1_isWrong, Cond.selects RX1 yX1_isWrong yX1_isWrong, Cond.code yX1_isWrong cX1_isWrong 3 (some .boolean), Cond.methodLink RX1 32 yX1_wordAt, Cond.methodLink RL 119 yX4_word, Cond.instanceMethod yX4_word, Cond.selects RX4 yX4_word yX4_word, Cond.code yX4_word cX4_word 4 (some .int), Cond.methodLink RX4 107 yX4_wordTold, Cond.instanceMethod yX4_wordTold, Cond.selects RX4 yX4_wordTold yX4_wordTold, Cond.code yX4_wordTold cX4_wordTold 4 (some .int), Cond.methodLink RX4 64 yX4_heardOf, Cond.instanceMethod yX4_heardOf, Cond.selects RX4 yX4_heardOf yX4_heardOf, Cond.code yX4_heardOf cX4_heardOf 3 (some .int)]
def wsL_law0_r19 : List Cond := [Cond.methodLink RX4 58 yX4_beginOf, Cond.instanceMethod yX4_beginOf, Cond.selects RX4 yX4_beginOf yX4_beginOf, Cond.code yX4_beginOf cX4_beginOf 3 (some .int), Cond.methodLink RX4 70 yX4_isWrong, Cond.instanceMethod yX4_isWrong, Cond.selects RX4 yX4_isWrong yX4_isWrong, Cond.code yX4_isWrong cX4_isWrong 3 (some .int), Cond.methodLink RX4 67 yX4_sign, Cond.static yX4_sign, Cond.code yX4_sign cX4_sign 1 (some .int), Cond.methodLink RL 120 yL_about, Cond.static yL_about, Cond.codeWith yL_about cL_about 5 (some .int) [(0, 10, 13, 19)], Cond.methodLink RL 52 yX3_about, Cond.instanceMethod yX3_about, Cond.selects RX3 yX3_about yX3_about, Cond.code yX3_about cX3_about 4 (some .int), Cond.fieldLink RX3 152 "FlagChips$Hill" "code" "I", Cond.methodLink RX3 155 yX2_wrongWords, Cond.instanceMethod yX2_wrongWords, Cond.selects RX2 yX2_wrongWords yX2_wrongWords, Cond.code yX2_wrongWords cX2_wrongWords 4 (some .int), Cond.methodLink RX2 63 yX2_heardWord]
def wsL_law0_r20 : List Cond := [Cond.methodLink RX2 67 yX1_isWrong, Cond.methodLink RX3 159 yX1_end, Cond.instanceMethod yX1_end, Cond.selects RX1 yX1_end yX1_end, Cond.code yX1_end cX1_end 2 (some .int), Cond.methodLink RX1 36 yX1_start, Cond.methodLink RX3 162 yX2_faintest, Cond.instanceMethod yX2_faintest, Cond.selects RX2 yX2_faintest yX2_faintest, Cond.code yX2_faintest cX2_faintest 5 (some .int), Cond.methodLink RX2 71 Lib.Math.abs.name, Cond.static Lib.Math.abs.name, Cond.code Lib.Math.abs.name Lib.Math.abs.code 1 (some .int), Cond.methodLink RL 122 yX4_about, Cond.instanceMethod yX4_about, Cond.selects RX4 yX4_about yX4_about, Cond.code yX4_about cX4_about 3 (some .int), Cond.methodLink RX4 117 yX4_hillTold, Cond.instanceMethod yX4_hillTold, Cond.selects RX4 yX4_hillTold yX4_hillTold, Cond.code yX4_hillTold cX4_hillTold 3 (some .int), Cond.methodLink RX4 73 yX4_wrongOf, Cond.instanceMethod yX4_wrongOf, Cond.selects RX4 yX4_wrongOf yX4_wrongOf]
def wsL_law0_r21 : List Cond := [Cond.code yX4_wrongOf cX4_wrongOf 4 (some .int), Cond.methodLink RX4 76 yX4_endOf, Cond.instanceMethod yX4_endOf, Cond.selects RX4 yX4_endOf yX4_endOf, Cond.code yX4_endOf cX4_endOf 2 (some .int), Cond.methodLink RX4 114 yX4_faintest, Cond.instanceMethod yX4_faintest, Cond.selects RX4 yX4_faintest yX4_faintest, Cond.code yX4_faintest cX4_faintest 4 (some .int), Cond.methodLink RX4 88 Lib.Math.abs.name, Cond.methodLink RX4 111 Lib.Math.min.name, Cond.methodLink RL 123 yL_count, Cond.static yL_count, Cond.codeWith yL_count cL_count 4 (some .int) [(0, 9, 12, 19)], Cond.methodLink RL 55 yX3_count, Cond.instanceMethod yX3_count, Cond.selects RX3 yX3_count yX3_count, Cond.code yX3_count cX3_count 2 (some .int), Cond.methodLink RX3 167 yX3_allWords, Cond.instanceMethod yX3_allWords, Cond.selects RX3 yX3_allWords yX3_allWords, Cond.code yX3_allWords cX3_allWords 3 (some .int), Cond.methodLink RX3 170 yX3_allWrongWords, Cond.instanceMethod yX3_allWrongWords]
def wsL_law0_r22 : List Cond := [Cond.selects RX3 yX3_allWrongWords yX3_allWrongWords, Cond.code yX3_allWrongWords cX3_allWrongWords 3 (some .int), Cond.methodLink RX3 173 yX3_endOfAll, Cond.instanceMethod yX3_endOfAll, Cond.selects RX3 yX3_endOfAll yX3_endOfAll, Cond.code yX3_endOfAll cX3_endOfAll 3 (some .int), Cond.methodLink RX3 231 Lib.Math.max.name, Cond.methodLink RX3 176 yX2_highest, Cond.instanceMethod yX2_highest, Cond.selects RX2 yX2_highest yX2_highest, Cond.code yX2_highest cX2_highest 4 (some .int), Cond.methodLink RX2 76 Lib.Math.max.name, Cond.methodLink RX3 179 yX3_freeCodes, Cond.instanceMethod yX3_freeCodes, Cond.selects RX3 yX3_freeCodes yX3_freeCodes, Cond.code yX3_freeCodes cX3_freeCodes 3 (some .int), Cond.methodLink RX3 188 yX3_isTaken, Cond.instanceMethod yX3_isTaken, Cond.selects RX3 yX3_isTaken yX3_isTaken, Cond.code yX3_isTaken cX3_isTaken 3 (some .boolean), Cond.methodLink RL 125 yX4_count, Cond.instanceMethod yX4_count, Cond.selects RX4 yX4_count yX4_count, Cond.code yX4_count cX4_count 2 (some .int)]
def wsL_law0_r23 : List Cond := [Cond.methodLink RX4 129 yX4_counted, Cond.instanceMethod yX4_counted, Cond.selects RX4 yX4_counted yX4_counted, Cond.code yX4_counted cX4_counted 4 (some .int), Cond.methodLink RX4 120 yX4_allWrong, Cond.instanceMethod yX4_allWrong, Cond.selects RX4 yX4_allWrong yX4_allWrong, Cond.code yX4_allWrong cX4_allWrong 3 (some .int), Cond.methodLink RX4 84 yX4_end, Cond.instanceMethod yX4_end, Cond.selects RX4 yX4_end yX4_end, Cond.code yX4_end cX4_end 3 (some .int), Cond.methodLink RX4 79 Lib.Math.max.name, Cond.methodLink RX4 123 yX4_highest, Cond.instanceMethod yX4_highest, Cond.selects RX4 yX4_highest yX4_highest, Cond.code yX4_highest cX4_highest 4 (some .int), Cond.methodLink RX4 126 yX4_isTaken, Cond.instanceMethod yX4_isTaken, Cond.selects RX4 yX4_isTaken yX4_isTaken, Cond.code yX4_isTaken cX4_isTaken 3 (some .boolean), Cond.methodLink RL 126 yL_alike, Cond.static yL_alike, Cond.codeWith yL_alike cL_alike 6 (some .int) [(0, 12, 15, 19), (0, 12, 19, 13)]]
def wsL_law0_r24 : List Cond := [Cond.methodLink RL 58 yX3_alike, Cond.instanceMethod yX3_alike, Cond.selects RX3 yX3_alike yX3_alike, Cond.code yX3_alike cX3_alike 4 (some .int), Cond.methodLink RX3 184 yX0_likeness, Cond.instanceMethod yX0_likeness, Cond.selects RX0 yX0_likeness yX0_likeness, Cond.code yX0_likeness cX0_likeness 7 (some .int), Cond.methodLink RX0 25 Lib.Math.abs.name, Cond.methodLink RX0 21 yX0_chipAt, Cond.methodLink RL 128 yX4_alike, Cond.instanceMethod yX4_alike, Cond.selects RX4 yX4_alike yX4_alike, Cond.code yX4_alike cX4_alike 4 (some .int), Cond.methodLink RX4 132 yX4_likeness, Cond.instanceMethod yX4_likeness, Cond.selects RX4 yX4_likeness yX4_likeness, Cond.code yX4_likeness cX4_likeness 6 (some .int), Cond.methodLink RL 129 yL_shift, Cond.static yL_shift, Cond.codeWith yL_shift cL_shift 5 (some .int) [(0, 10, 13, 19)], Cond.methodLink RL 61 yX3_shift, Cond.instanceMethod yX3_shift, Cond.selects RX3 yX3_shift yX3_shift]
def wsL_law0_r25 : List Cond := [Cond.code yX3_shift cX3_shift 7 (some .int), Cond.methodLink RL 131 yX4_shift, Cond.instanceMethod yX4_shift, Cond.selects RX4 yX4_shift yX4_shift, Cond.code yX4_shift cX4_shift 5 (some .int), Cond.methodLink RL 132 yL_advise, Cond.static yL_advise, Cond.codeWith yL_advise cL_advise 4 (some .int) [(0, 9, 12, 13)], Cond.methodLink RL 64 yX3_advise, Cond.instanceMethod yX3_advise, Cond.selects RX3 yX3_advise yX3_advise, Cond.code yX3_advise cX3_advise 6 (some .int), Cond.methodLink RX3 191 yX3_likenessToAll, Cond.instanceMethod yX3_likenessToAll, Cond.selects RX3 yX3_likenessToAll yX3_likenessToAll, Cond.code yX3_likenessToAll cX3_likenessToAll 7 (some .int), Cond.methodLink RL 134 yX4_advise, Cond.instanceMethod yX4_advise, Cond.selects RX4 yX4_advise yX4_advise, Cond.code yX4_advise cX4_advise 6 (some .int), Cond.methodLink RX4 135 yX4_disturbed, Cond.instanceMethod yX4_disturbed, Cond.selects RX4 yX4_disturbed yX4_disturbed, Cond.code yX4_disturbed cX4_disturbed 5 (some .int)]
def wsL_law0_r26 : List Cond := [Cond.methodLink RL 135 yL_would, Cond.static yL_would, Cond.codeWith yL_would cL_would 5 (some .int) [(0, 10, 13, 19), (0, 10, 17, 13)], Cond.methodLink RL 67 yX3_would, Cond.instanceMethod yX3_would, Cond.selects RX3 yX3_would yX3_would, Cond.code yX3_would cX3_would 4 (some .int), Cond.methodLink RX3 194 yX3_wrongWordsWith, Cond.instanceMethod yX3_wrongWordsWith, Cond.selects RX3 yX3_wrongWordsWith yX3_wrongWordsWith, Cond.code yX3_wrongWordsWith cX3_wrongWordsWith 5 (some .int), Cond.methodLink RL 137 yX4_would, Cond.instanceMethod yX4_would, Cond.selects RX4 yX4_would yX4_would, Cond.code yX4_would cX4_would 3 (some .int), Cond.methodLink RX4 138 yX4_wrongWith, Cond.instanceMethod yX4_wrongWith, Cond.selects RX4 yX4_wrongWith yX4_wrongWith, Cond.code yX4_wrongWith cX4_wrongWith 5 (some .int), Cond.methodLink RL 138 yL_tune, Cond.static yL_tune, Cond.codeWith yL_tune cL_tune 4 (some .int) [(0, 9, 12, 19)], Cond.methodLink RL 70 yX3_tune, Cond.instanceMethod yX3_tune]
def wsL_law0_r27 : List Cond := [Cond.selects RX3 yX3_tune yX3_tune, Cond.code yX3_tune cX3_tune 7 (some .int), Cond.methodLink RL 140 yX4_tune, Cond.instanceMethod yX4_tune, Cond.selects RX4 yX4_tune yX4_tune, Cond.code yX4_tune cX4_tune 6 (some .int), Cond.methodLink RL 141 yX3_mean, Cond.instanceMethod yX3_mean, Cond.selects RX3 yX3_mean yX3_mean, Cond.code yX3_mean cX3_mean 2 (some .double), Cond.methodLink RX3 197 yX2_sum, Cond.instanceMethod yX2_sum, Cond.selects RX2 yX2_sum yX2_sum, Cond.code yX2_sum cX2_sum 4 (some .int), Cond.methodLink RL 145 yX4_mean, Cond.instanceMethod yX4_mean, Cond.selects RX4 yX4_mean yX4_mean, Cond.code yX4_mean cX4_mean 4 (some .double), Cond.methodLink RL 146 yX3_digest, Cond.instanceMethod yX3_digest, Cond.selects RX3 yX3_digest yX3_digest, Cond.code yX3_digest cX3_digest 7 (some .long), Cond.constantLong RX3 200 (1621), Cond.constantLong RX3 202 (31)]
def wsL_law0_r28 : List Cond := [Cond.methodLink RX3 204 yX3_count, Cond.methodLink RX3 207 yX3_digestHill, Cond.instanceMethod yX3_digestHill, Cond.selects RX3 yX3_digestHill yX3_digestHill, Cond.code yX3_digestHill cX3_digestHill 9 (some .long), Cond.methodLink RX3 211 yX3_about, Cond.methodLink RX3 214 yX3_word, Cond.methodLink RL 150 yX4_digest, Cond.instanceMethod yX4_digest, Cond.selects RX4 yX4_digest yX4_digest, Cond.code yX4_digest cX4_digest 7 (some .long), Cond.constantLong RX4 141 (1621), Cond.constantLong RX4 143 (31)]
def wsL_law0 : List Cond := (wsL_law0_r1 ++ (wsL_law0_r2 ++ (wsL_law0_r3 ++ (wsL_law0_r4 ++ (wsL_law0_r5 ++ (wsL_law0_r6 ++ (wsL_law0_r7 ++ (wsL_law0_r8 ++ (wsL_law0_r9 ++ (wsL_law0_r10 ++ (wsL_law0_r11 ++ (wsL_law0_r12 ++ (wsL_law0_r13 ++ (wsL_law0_r14 ++ (wsL_law0_r15 ++ (wsL_law0_r16 ++ (wsL_law0_r17 ++ (wsL_law0_r18 ++ (wsL_law0_r19 ++ (wsL_law0_r20 ++ (wsL_law0_r21 ++ (wsL_law0_r22 ++ (wsL_law0_r23 ++ (wsL_law0_r24 ++ (wsL_law0_r25 ++ (wsL_law0_r26 ++ (wsL_law0_r27 ++ wsL_law0_r28))))))))))))))))))))))))))) ++ wsX30 ++ wsX40 ++ wsX00 ++ wsX20 ++ wsJx4a65c0 ++ wsX10 ++ ([] : List Cond)
def wsL_law : List Cond := wsL_law0 ++ (vx_atS RX3 36 "java/lang/IllegalArgumentException" ["java/lang/RuntimeException", "java/lang/Exception"]).filter goodWord ++ (vx_atS RX3 64 "java/lang/IllegalStateException" ["java/lang/RuntimeException", "java/lang/Exception"]).filter goodWord ++ (vx_atS RX3 110 "java/lang/IndexOutOfBoundsException" ["java/lang/RuntimeException", "java/lang/Exception"]).filter goodWord
theorem q_inr {big : List Cond} (ws : List Cond) (ps : List Nat) (hp : ws = ps.filterMap (fun i => big[i]?)) : ∀ w ∈ ws, w ∈ big := by
  intro w hw
  rw [hp] at hw
  obtain ⟨i, -, hi⟩ := List.mem_filterMap.mp hw
  first | exact List.mem_of_getElem? hi | exact List.getElem?_mem hi
theorem wsL_law_in0_1 : ∀ w ∈ wsL_law0_r1, w ∈ lw_tbl := q_inr _ [61, 62, 40, 649, 650, 46, 876, 63, 64, 65, 66, 67, 68, 69, 70, 41, 125, 81, 82, 42, 126, 99, 100, 45] (by decide +kernel)
theorem wsL_law_in0_2 : ∀ w ∈ wsL_law0_r2, w ∈ lw_tbl := q_inr _ [127, 72, 73, 74, 75, 83, 84, 85, 86, 98, 87, 89, 90, 101, 102, 103, 111, 113, 104, 105, 44, 106, 115, 107] (by decide +kernel)
theorem wsL_law_in0_3 : ∀ w ∈ wsL_law0_r3, w ∈ lw_tbl := q_inr _ [108, 43, 109, 110, 651, 652, 653, 654, 656, 658, 659, 660, 661, 662, 663, 340, 341, 39, 342, 343, 344, 345, 346, 347] (by decide +kernel)
theorem wsL_law_in0_4 : ∀ w ∈ wsL_law0_r4, w ∈ lw_tbl := q_inr _ [348, 50, 76, 364, 365, 366, 367, 116, 117, 114, 368, 369, 370, 371, 372, 373, 51, 374, 687, 688, 689, 690, 655, 657] (by decide +kernel)
theorem wsL_law_in0_5 : ∀ w ∈ wsL_law0_r5, w ∈ lw_tbl := q_inr _ [691, 692, 693, 694, 696, 17, 697, 683, 684, 685, 686, 375, 376, 377, 378, 379, 380, 381, 382, 383, 398, 53, 161, 414] (by decide +kernel)
theorem wsL_law_in0_6 : ∀ w ∈ wsL_law0_r6, w ∈ lw_tbl := q_inr _ [54, 384, 386, 8, 387, 246, 52, 388, 389, 390, 391, 393, 395, 9, 396, 143, 144, 145, 146, 415, 416, 417, 418, 424] (by decide +kernel)
theorem wsL_law_in0_7 : ∀ w ∈ wsL_law0_r7, w ∈ lw_tbl := q_inr _ [426, 429, 419, 422, 441, 442, 443, 444, 445, 447, 10, 448, 449, 451, 11, 452, 453, 455, 12, 456, 493, 171, 56, 172] (by decide +kernel)
theorem wsL_law_in0_8 : ∀ w ∈ wsL_law0_r8, w ∈ lw_tbl := q_inr _ [494, 457, 458, 55, 459, 460, 461, 462, 463, 464, 465, 466, 467, 468, 890, 469, 480, 481, 482, 483, 484, 486, 487, 488] (by decide +kernel)
theorem wsL_law_in0_9 : ∀ w ∈ wsL_law0_r9, w ∈ lw_tbl := q_inr _ [489, 490, 492, 491, 57, 698, 699, 700, 701, 702, 704, 18, 705, 706, 707, 708, 495, 496, 497, 498, 499, 500, 501, 428] (by decide +kernel)
theorem wsL_law_in0_10 : ∀ w ∈ wsL_law0_r10, w ∈ lw_tbl := q_inr _ [423, 322, 324, 7, 325, 161, 147, 148, 149, 150, 151, 152, 58, 153, 154, 155, 59, 156, 157, 158, 159, 160, 502, 503] (by decide +kernel)
theorem wsL_law_in0_11 : ∀ w ∈ wsL_law0_r11, w ∈ lw_tbl := q_inr _ [504, 505, 507, 508, 509, 510, 511, 512, 513, 514, 515, 77, 420, 516, 227, 228, 229, 207, 167, 168, 169, 212, 213, 214] (by decide +kernel)
theorem wsL_law_in0_12 : ∀ w ∈ wsL_law0_r12, w ∈ lw_tbl := q_inr _ [215, 216, 217, 60, 218, 219, 220, 221, 709, 710, 711, 712, 713, 715, 19, 716, 517, 518, 519, 520, 521, 522, 523, 524] (by decide +kernel)
theorem wsL_law_in0_13 : ∀ w ∈ wsL_law0_r13, w ∈ lw_tbl := q_inr _ [525, 526, 527, 427, 528, 717, 718, 719, 720, 529, 530, 531, 532, 533, 534, 535, 425, 536, 538, 13, 539, 721, 722, 723] (by decide +kernel)
theorem wsL_law_in0_14 : ∀ w ∈ wsL_law0_r14, w ∈ lw_tbl := q_inr _ [724, 541, 542, 543, 544, 545, 546, 547, 725, 726, 727, 728, 548, 549, 550, 551, 552, 553, 554, 88, 729, 730, 731, 732] (by decide +kernel)
theorem wsL_law_in0_15 : ∀ w ∈ wsL_law0_r15, w ∈ lw_tbl := q_inr _ [557, 558, 559, 560, 561, 562, 563, 565, 733, 734, 735, 736, 737, 738, 739, 740, 566, 567, 568, 569, 570, 571, 572, 573] (by decide +kernel)
theorem wsL_law_in0_16 : ∀ w ∈ wsL_law0_r16, w ∈ lw_tbl := q_inr _ [575, 14, 576, 578, 178, 179, 180, 741, 742, 743, 744, 745, 746, 747, 748, 750, 20, 751, 752, 754, 21, 755, 579, 580] (by decide +kernel)
theorem wsL_law_in0_17 : ∀ w ∈ wsL_law0_r17, w ∈ lw_tbl := q_inr _ [581, 582, 583, 584, 585, 586, 209, 210, 211, 177, 756, 757, 758, 759, 760, 762, 22, 763, 587, 588, 589, 590, 332, 333] (by decide +kernel)
theorem wsL_law_in0_18 : ∀ w ∈ wsL_law0_r18, w ∈ lw_tbl := q_inr _ [334, 336, 337, 204, 205, 206, 208, 338, 223, 224, 225, 226, 764, 765, 766, 767, 768, 770, 23, 771, 772, 774, 24, 775] (by decide +kernel)
theorem wsL_law_in0_19 : ∀ w ∈ wsL_law0_r19, w ∈ lw_tbl := q_inr _ [776, 778, 25, 779, 780, 782, 26, 783, 784, 785, 786, 591, 592, 593, 594, 319, 320, 321, 421, 199, 200, 201, 202, 203] (by decide +kernel)
theorem wsL_law_in0_20 : ∀ w ∈ wsL_law0_r20, w ∈ lw_tbl := q_inr _ [222, 162, 163, 164, 165, 166, 327, 328, 329, 330, 234, 235, 236, 787, 788, 789, 790, 791, 793, 27, 794, 795, 797, 28] (by decide +kernel)
theorem wsL_law_in0_21 : ∀ w ∈ wsL_law0_r21, w ∈ lw_tbl := q_inr _ [798, 799, 801, 29, 802, 803, 805, 30, 806, 807, 808, 595, 596, 597, 598, 188, 189, 190, 191, 193, 1, 194, 195, 197] (by decide +kernel)
theorem wsL_law_in0_22 : ∀ w ∈ wsL_law0_r22, w ∈ lw_tbl := q_inr _ [2, 198, 139, 141, 0, 142, 170, 230, 231, 232, 233, 237, 238, 240, 3, 241, 242, 244, 4, 245, 809, 810, 811, 812] (by decide +kernel)
theorem wsL_law_in0_23 : ∀ w ∈ wsL_law0_r23, w ∈ lw_tbl := q_inr _ [813, 815, 31, 816, 817, 819, 32, 820, 821, 823, 33, 824, 825, 826, 828, 34, 829, 830, 832, 35, 833, 599, 600, 601] (by decide +kernel)
theorem wsL_law_in0_24 : ∀ w ∈ wsL_law0_r24, w ∈ lw_tbl := q_inr _ [602, 603, 604, 605, 607, 608, 609, 610, 612, 611, 834, 835, 836, 837, 838, 840, 36, 841, 613, 614, 615, 616, 617, 618] (by decide +kernel)
theorem wsL_law_in0_25 : ∀ w ∈ wsL_law0_r25, w ∈ lw_tbl := q_inr _ [619, 842, 843, 844, 845, 620, 621, 622, 623, 624, 625, 626, 627, 629, 15, 630, 846, 847, 848, 849, 850, 852, 37, 853] (by decide +kernel)
theorem wsL_law_in0_26 : ∀ w ∈ wsL_law0_r26, w ∈ lw_tbl := q_inr _ [631, 632, 633, 634, 635, 636, 637, 638, 640, 16, 641, 854, 855, 856, 857, 858, 860, 38, 861, 642, 643, 644, 645, 646] (by decide +kernel)
theorem wsL_law_in0_27 : ∀ w ∈ wsL_law0_r27, w ∈ lw_tbl := q_inr _ [647, 648, 862, 863, 864, 865, 135, 136, 137, 138, 173, 174, 175, 176, 866, 867, 868, 869, 181, 182, 183, 184, 185, 186] (by decide +kernel)
theorem wsL_law_in0_28 : ∀ w ∈ wsL_law0_r28, w ∈ lw_tbl := q_inr _ [187, 314, 316, 6, 317, 318, 331, 870, 871, 872, 873, 874, 875] (by decide +kernel)
theorem q_lwsX30 : ∀ w ∈ wsX30, w ∈ lw_tbl := by decide +kernel
theorem q_lwsX40 : ∀ w ∈ wsX40, w ∈ lw_tbl := by decide +kernel
theorem q_lwsX00 : ∀ w ∈ wsX00, w ∈ lw_tbl := by decide +kernel
theorem q_lwsX20 : ∀ w ∈ wsX20, w ∈ lw_tbl := by decide +kernel
theorem q_lwsJx4a65c0 : ∀ w ∈ wsJx4a65c0, w ∈ lw_tbl := by decide +kernel
theorem q_lwsX10 : ∀ w ∈ wsX10, w ∈ lw_tbl := by decide +kernel
theorem wsL_law_in0 : ∀ w ∈ wsL_law0, w ∈ lw_tbl := fun w h => (List.mem_append.mp h).elim (fun h => (List.mem_append.mp h).elim (fun h => (List.mem_append.mp h).elim (fun h => (List.mem_append.mp h).elim (fun h => (List.mem_append.mp h).elim (fun h => (List.mem_append.mp h).elim (fun h => (List.mem_append.mp h).elim (fun h => (List.mem_append.mp h).elim (fun h => wsL_law_in0_1 w h) (fun h => (List.mem_append.mp h).elim (fun h => wsL_law_in0_2 w h) (fun h => (List.mem_append.mp h).elim (fun h => wsL_law_in0_3 w h) (fun h => (List.mem_append.mp h).elim (fun h => wsL_law_in0_4 w h) (fun h => (List.mem_append.mp h).elim (fun h => wsL_law_in0_5 w h) (fun h => (List.mem_append.mp h).elim (fun h => wsL_law_in0_6 w h) (fun h => (List.mem_append.mp h).elim (fun h => wsL_law_in0_7 w h) (fun h => (List.mem_append.mp h).elim (fun h => wsL_law_in0_8 w h) (fun h => (List.mem_append.mp h).elim (fun h => wsL_law_in0_9 w h) (fun h => (List.mem_append.mp h).elim (fun h => wsL_law_in0_10 w h) (fun h => (List.mem_append.mp h).elim (fun h => wsL_law_in0_11 w h) (fun h => (List.mem_append.mp h).elim (fun h => wsL_law_in0_12 w h) (fun h => (List.mem_append.mp h).elim (fun h => wsL_law_in0_13 w h) (fun h => (List.mem_append.mp h).elim (fun h => wsL_law_in0_14 w h) (fun h => (List.mem_append.mp h).elim (fun h => wsL_law_in0_15 w h) (fun h => (List.mem_append.mp h).elim (fun h => wsL_law_in0_16 w h) (fun h => (List.mem_append.mp h).elim (fun h => wsL_law_in0_17 w h) (fun h => (List.mem_append.mp h).elim (fun h => wsL_law_in0_18 w h) (fun h => (List.mem_append.mp h).elim (fun h => wsL_law_in0_19 w h) (fun h => (List.mem_append.mp h).elim (fun h => wsL_law_in0_20 w h) (fun h => (List.mem_append.mp h).elim (fun h => wsL_law_in0_21 w h) (fun h => (List.mem_append.mp h).elim (fun h => wsL_law_in0_22 w h) (fun h => (List.mem_append.mp h).elim (fun h => wsL_law_in0_23 w h) (fun h => (List.mem_append.mp h).elim (fun h => wsL_law_in0_24 w h) (fun h => (List.mem_append.mp h).elim (fun h => wsL_law_in0_25 w h) (fun h => (List.mem_append.mp h).elim (fun h => wsL_law_in0_26 w h) (fun h => (List.mem_append.mp h).elim (fun h => wsL_law_in0_27 w h) (fun h => wsL_law_in0_28 w h)))))))))))))))))))))))))))) (fun h => q_lwsX30 w h)) (fun h => q_lwsX40 w h)) (fun h => q_lwsX00 w h)) (fun h => q_lwsX20 w h)) (fun h => q_lwsJx4a65c0 w h)) (fun h => q_lwsX10 w h)) (fun h => nomatch h)
theorem wsL_law_x0 : ∀ w ∈ (vx_atS RX3 36 "java/lang/IllegalArgumentException" ["java/lang/RuntimeException", "java/lang/Exception"]).filter goodWord, w ∈ lw_tbl := by decide +kernel
theorem wsL_law_x1 : ∀ w ∈ (vx_atS RX3 64 "java/lang/IllegalStateException" ["java/lang/RuntimeException", "java/lang/Exception"]).filter goodWord, w ∈ lw_tbl := by decide +kernel
theorem wsL_law_x2 : ∀ w ∈ (vx_atS RX3 110 "java/lang/IndexOutOfBoundsException" ["java/lang/RuntimeException", "java/lang/Exception"]).filter goodWord, w ∈ lw_tbl := by decide +kernel
theorem wsL_law_in : ∀ w ∈ wsL_law, w ∈ lw_tbl := fun w h => (List.mem_append.mp h).elim (fun h => (List.mem_append.mp h).elim (fun h => (List.mem_append.mp h).elim (fun h => wsL_law_in0 w h) (fun h => wsL_law_x0 w h)) (fun h => wsL_law_x1 w h)) (fun h => wsL_law_x2 w h)
theorem inlX0 : ∀ w ∈ wsX00, w ∈ wsL_law := fun _ h => List.mem_append_left _ (List.mem_append_left _ (List.mem_append_left _ (List.mem_append_left _ (List.mem_append_left _ (List.mem_append_left _ (List.mem_append_left _ (List.mem_append_right _ h)))))))
theorem inX0 : ∀ w ∈ wsX00, w ∈ lw_tbl := fun w h => wsL_law_in w (inlX0 w h)
theorem inlX1 : ∀ w ∈ wsX10, w ∈ wsL_law := fun _ h => List.mem_append_left _ (List.mem_append_left _ (List.mem_append_left _ (List.mem_append_left _ (List.mem_append_right _ h))))
theorem inX1 : ∀ w ∈ wsX10, w ∈ lw_tbl := fun w h => wsL_law_in w (inlX1 w h)
theorem inlX2 : ∀ w ∈ wsX20, w ∈ wsL_law := fun _ h => List.mem_append_left _ (List.mem_append_left _ (List.mem_append_left _ (List.mem_append_left _ (List.mem_append_left _ (List.mem_append_left _ (List.mem_append_right _ h))))))
theorem inX2 : ∀ w ∈ wsX20, w ∈ lw_tbl := fun w h => wsL_law_in w (inlX2 w h)
theorem inlX3 : ∀ w ∈ wsX30, w ∈ wsL_law := fun _ h => List.mem_append_left _ (List.mem_append_left _ (List.mem_append_left _ (List.mem_append_left _ (List.mem_append_left _ (List.mem_append_left _ (List.mem_append_left _ (List.mem_append_left _ (List.mem_append_left _ (List.mem_append_right _ h)))))))))
theorem inX3 : ∀ w ∈ wsX30, w ∈ lw_tbl := fun w h => wsL_law_in w (inlX3 w h)
theorem inlX4 : ∀ w ∈ wsX40, w ∈ wsL_law := fun _ h => List.mem_append_left _ (List.mem_append_left _ (List.mem_append_left _ (List.mem_append_left _ (List.mem_append_left _ (List.mem_append_left _ (List.mem_append_left _ (List.mem_append_left _ (List.mem_append_right _ h))))))))
theorem inX4 : ∀ w ∈ wsX40, w ∈ lw_tbl := fun w h => wsL_law_in w (inlX4 w h)
theorem inJx145de : ∀ w ∈ wsJx145de0, w ∈ lw_tbl := by decide +kernel
theorem inJx8e188 : ∀ w ∈ wsJx8e1880, w ∈ lw_tbl := by decide +kernel
theorem inJ6 : ∀ w ∈ wsJ60, w ∈ lw_tbl := by decide +kernel
theorem inJxab1ab : ∀ w ∈ wsJxab1ab0, w ∈ lw_tbl := by decide +kernel
theorem inJ9 : ∀ w ∈ wsJ90, w ∈ lw_tbl := by decide +kernel
theorem inJ0 : ∀ w ∈ wsJ00, w ∈ lw_tbl := by decide +kernel
theorem inJ10 : ∀ w ∈ wsJ100, w ∈ lw_tbl := by decide +kernel
theorem inJxa1e45 : ∀ w ∈ wsJxa1e450, w ∈ lw_tbl := by decide +kernel
theorem inJxc12de : ∀ w ∈ wsJxc12de0, w ∈ lw_tbl := by decide +kernel
theorem inlJx4a65c : ∀ w ∈ wsJx4a65c0, w ∈ wsL_law := fun _ h => List.mem_append_left _ (List.mem_append_left _ (List.mem_append_left _ (List.mem_append_left _ (List.mem_append_left _ (List.mem_append_right _ h)))))
theorem inJx4a65c : ∀ w ∈ wsJx4a65c0, w ∈ lw_tbl := fun w h => wsL_law_in w (inlJx4a65c w h)
theorem inJ7 : ∀ w ∈ wsJ70, w ∈ lw_tbl := by decide +kernel
theorem inJx5ef63 : ∀ w ∈ wsJx5ef630, w ∈ lw_tbl := by decide +kernel
theorem inJxbd725 : ∀ w ∈ wsJxbd7250, w ∈ lw_tbl := by decide +kernel
theorem inJ15 : ∀ w ∈ wsJ150, w ∈ lw_tbl := by decide +kernel
theorem inJxf0a74 : ∀ w ∈ wsJxf0a740, w ∈ lw_tbl := by decide +kernel
theorem inJxa66e6 : ∀ w ∈ wsJxa66e60, w ∈ lw_tbl := by decide +kernel
theorem inJ8 : ∀ w ∈ wsJ80, w ∈ lw_tbl := by decide +kernel
theorem inJ3 : ∀ w ∈ wsJ30, w ∈ lw_tbl := by decide +kernel
end
section
theorem dX0_init_0 : decode cX0_init 0 = .ok (.aload_n 0, 1) := by decide +kernel
theorem dX0_init_1 : decode cX0_init 1 = .ok (.invokespecial 3, 3) := by decide +kernel
theorem dX0_init_4 : decode cX0_init 4 = .ok (.aload_n 0, 1) := by decide +kernel
theorem dX0_init_5 : decode cX0_init 5 = .ok (.bipush 8, 2) := by decide +kernel
theorem dX0_init_7 : decode cX0_init 7 = .ok (.putfield 9, 3) := by decide +kernel
theorem dX0_init_10 : decode cX0_init 10 = .ok (.return_, 1) := by decide +kernel
theorem dX0_has_0 : decode cX0_has 0 = .ok (.iload_n 1, 1) := by decide +kernel
theorem dX0_has_1 : decode cX0_has 1 = .ok (.ifCond .lt 15, 3) := by decide +kernel
theorem dX0_has_4 : decode cX0_has 4 = .ok (.iload_n 1, 1) := by decide +kernel
theorem dX0_has_5 : decode cX0_has 5 = .ok (.aload_n 0, 1) := by decide +kernel
theorem dX0_has_6 : decode cX0_has 6 = .ok (.getfield 9, 3) := by decide +kernel
theorem dX0_has_9 : decode cX0_has 9 = .ok (.if_icmp .ge 7, 3) := by decide +kernel
theorem dX0_has_12 : decode cX0_has 12 = .ok (.iconst 1, 1) := by decide +kernel
theorem dX0_has_13 : decode cX0_has 13 = .ok (.goto 4, 3) := by decide +kernel
theorem dX0_has_16 : decode cX0_has 16 = .ok (.iconst 0, 1) := by decide +kernel
theorem dX0_has_17 : decode cX0_has 17 = .ok (.ireturn, 1) := by decide +kernel
set_option maxRecDepth 20000 in
theorem ggX0_chipAt_J6_bitCount_0f7a4 : GoodIn wsX0_chipAt wsJ6_bitCount_0f7a4 := goodIn_r _ [4, 5, 6, 7] (by decide +kernel) (by decide +kernel)
set_option maxRecDepth 20000 in
theorem gX0_chipAt_J6_bitCount_0f7a4 : GoodIn wsX0_chipAt (va_wsS RX0 15 yJ6_bitCount_0f7a4 wsJ6_bitCount_0f7a4) := goodIn_app (goodIn_of _ (by decide +kernel)) ggX0_chipAt_J6_bitCount_0f7a4
theorem dX0_chipAt_0 : decode cX0_chipAt 0 = .ok (.iload_n 1, 1) := by decide +kernel
theorem dX0_chipAt_1 : decode cX0_chipAt 1 = .ok (.iload_n 2, 1) := by decide +kernel
theorem dX0_chipAt_2 : decode cX0_chipAt 2 = .ok (.iand, 1) := by decide +kernel
theorem dX0_chipAt_3 : decode cX0_chipAt 3 = .ok (.invokestatic 15, 3) := by decide +kernel
theorem dX0_chipAt_6 : decode cX0_chipAt 6 = .ok (.iconst 1, 1) := by decide +kernel
theorem dX0_chipAt_7 : decode cX0_chipAt 7 = .ok (.iand, 1) := by decide +kernel
theorem dX0_chipAt_8 : decode cX0_chipAt 8 = .ok (.ifCond .ne 7, 3) := by decide +kernel
theorem dX0_chipAt_11 : decode cX0_chipAt 11 = .ok (.iconst 1, 1) := by decide +kernel
theorem dX0_chipAt_12 : decode cX0_chipAt 12 = .ok (.goto 4, 3) := by decide +kernel
theorem dX0_chipAt_15 : decode cX0_chipAt 15 = .ok (.iconst (-1), 1) := by decide +kernel
theorem dX0_chipAt_16 : decode cX0_chipAt 16 = .ok (.ireturn, 1) := by decide +kernel
set_option maxRecDepth 20000 in
theorem ggX0_likeness_X0_chipAt : GoodIn wsX0_likeness wsX0_chipAt := goodIn_r _ [10, 11, 12, 13, 14, 15, 16, 17] (by decide +kernel) (by decide +kernel)
set_option maxRecDepth 20000 in
theorem gX0_likeness_X0_chipAt : GoodIn wsX0_likeness (wsV RX0 21 RX0 yX0_chipAt wsX0_chipAt) := goodIn_app (goodIn_of _ (by decide +kernel)) ggX0_likeness_X0_chipAt
theorem dX0_likeness_0 : decode cX0_likeness 0 = .ok (.iconst 0, 1) := by decide +kernel
theorem dX0_likeness_1 : decode cX0_likeness 1 = .ok (.istore 4, 2) := by decide +kernel
theorem dX0_likeness_3 : decode cX0_likeness 3 = .ok (.iconst 0, 1) := by decide +kernel
theorem dX0_likeness_4 : decode cX0_likeness 4 = .ok (.istore 5, 2) := by decide +kernel
theorem dX0_likeness_6 : decode cX0_likeness 6 = .ok (.iload 5, 2) := by decide +kernel
theorem dX0_likeness_8 : decode cX0_likeness 8 = .ok (.aload_n 0, 1) := by decide +kernel
theorem dX0_likeness_9 : decode cX0_likeness 9 = .ok (.getfield 9, 3) := by decide +kernel
theorem dX0_likeness_12 : decode cX0_likeness 12 = .ok (.if_icmp .ge 53, 3) := by decide +kernel
theorem dX0_likeness_15 : decode cX0_likeness 15 = .ok (.iload 5, 2) := by decide +kernel
theorem dX0_likeness_17 : decode cX0_likeness 17 = .ok (.iload_n 3, 1) := by decide +kernel
theorem dX0_likeness_18 : decode cX0_likeness 18 = .ok (.iadd, 1) := by decide +kernel
theorem dX0_likeness_19 : decode cX0_likeness 19 = .ok (.istore 6, 2) := by decide +kernel
theorem dX0_likeness_21 : decode cX0_likeness 21 = .ok (.iload 6, 2) := by decide +kernel
theorem dX0_likeness_23 : decode cX0_likeness 23 = .ok (.aload_n 0, 1) := by decide +kernel
theorem dX0_likeness_24 : decode cX0_likeness 24 = .ok (.getfield 9, 3) := by decide +kernel
theorem dX0_likeness_27 : decode cX0_likeness 27 = .ok (.if_icmp .lt 12, 3) := by decide +kernel
theorem dX0_likeness_30 : decode cX0_likeness 30 = .ok (.iload 6, 2) := by decide +kernel
theorem dX0_likeness_32 : decode cX0_likeness 32 = .ok (.aload_n 0, 1) := by decide +kernel
theorem dX0_likeness_33 : decode cX0_likeness 33 = .ok (.getfield 9, 3) := by decide +kernel
theorem dX0_likeness_36 : decode cX0_likeness 36 = .ok (.isub, 1) := by decide +kernel
theorem dX0_likeness_37 : decode cX0_likeness 37 = .ok (.istore 6, 2) := by decide +kernel
theorem dX0_likeness_39 : decode cX0_likeness 39 = .ok (.iload 4, 2) := by decide +kernel
theorem dX0_likeness_41 : decode cX0_likeness 41 = .ok (.aload_n 0, 1) := by decide +kernel
theorem dX0_likeness_42 : decode cX0_likeness 42 = .ok (.iload_n 1, 1) := by decide +kernel
theorem dX0_likeness_43 : decode cX0_likeness 43 = .ok (.iload 5, 2) := by decide +kernel
theorem dX0_likeness_45 : decode cX0_likeness 45 = .ok (.invokevirtual 21, 3) := by decide +kernel
theorem dX0_likeness_48 : decode cX0_likeness 48 = .ok (.aload_n 0, 1) := by decide +kernel
theorem dX0_likeness_49 : decode cX0_likeness 49 = .ok (.iload_n 2, 1) := by decide +kernel
theorem dX0_likeness_50 : decode cX0_likeness 50 = .ok (.iload 6, 2) := by decide +kernel
theorem dX0_likeness_52 : decode cX0_likeness 52 = .ok (.invokevirtual 21, 3) := by decide +kernel
theorem dX0_likeness_55 : decode cX0_likeness 55 = .ok (.imul, 1) := by decide +kernel
theorem dX0_likeness_56 : decode cX0_likeness 56 = .ok (.iadd, 1) := by decide +kernel
theorem dX0_likeness_57 : decode cX0_likeness 57 = .ok (.istore 4, 2) := by decide +kernel
theorem dX0_likeness_59 : decode cX0_likeness 59 = .ok (.iinc 5 1, 3) := by decide +kernel
theorem dX0_likeness_62 : decode cX0_likeness 62 = .ok (.goto (-56), 3) := by decide +kernel
theorem dX0_likeness_65 : decode cX0_likeness 65 = .ok (.iload 4, 2) := by decide +kernel
theorem dX0_likeness_67 : decode cX0_likeness 67 = .ok (.invokestatic 25, 3) := by decide +kernel
theorem dX0_likeness_70 : decode cX0_likeness 70 = .ok (.ireturn, 1) := by decide +kernel
theorem dX1_init_0 : decode cX1_init 0 = .ok (.aload_n 0, 1) := by decide +kernel
theorem dX1_init_1 : decode cX1_init 1 = .ok (.invokespecial 3, 3) := by decide +kernel
theorem dX1_init_4 : decode cX1_init 4 = .ok (.aload_n 0, 1) := by decide +kernel
theorem dX1_init_5 : decode cX1_init 5 = .ok (.iconst 0, 1) := by decide +kernel
theorem dX1_init_6 : decode cX1_init 6 = .ok (.putfield 9, 3) := by decide +kernel
theorem dX1_init_9 : decode cX1_init 9 = .ok (.aload_n 0, 1) := by decide +kernel
theorem dX1_init_10 : decode cX1_init 10 = .ok (.iconst 0, 1) := by decide +kernel
theorem dX1_init_11 : decode cX1_init 11 = .ok (.putfield 15, 3) := by decide +kernel
theorem dX1_init_14 : decode cX1_init 14 = .ok (.aload_n 0, 1) := by decide +kernel
theorem dX1_init_15 : decode cX1_init 15 = .ok (.bipush 12, 2) := by decide +kernel
theorem dX1_init_17 : decode cX1_init 17 = .ok (.newarray .int, 2) := by decide +kernel
theorem dX1_init_19 : decode cX1_init 19 = .ok (.putfield 18, 3) := by decide +kernel
theorem dX1_init_22 : decode cX1_init 22 = .ok (.aload_n 0, 1) := by decide +kernel
theorem dX1_init_23 : decode cX1_init 23 = .ok (.iload_n 1, 1) := by decide +kernel
theorem dX1_init_24 : decode cX1_init 24 = .ok (.putfield 22, 3) := by decide +kernel
theorem dX1_init_27 : decode cX1_init 27 = .ok (.aload_n 0, 1) := by decide +kernel
theorem dX1_init_28 : decode cX1_init 28 = .ok (.iload_n 2, 1) := by decide +kernel
theorem dX1_init_29 : decode cX1_init 29 = .ok (.putfield 25, 3) := by decide +kernel
theorem dX1_init_32 : decode cX1_init 32 = .ok (.return_, 1) := by decide +kernel
theorem dX1_isFull_0 : decode cX1_isFull 0 = .ok (.aload_n 0, 1) := by decide +kernel
theorem dX1_isFull_1 : decode cX1_isFull 1 = .ok (.getfield 15, 3) := by decide +kernel
theorem dX1_isFull_4 : decode cX1_isFull 4 = .ok (.aload_n 0, 1) := by decide +kernel
theorem dX1_isFull_5 : decode cX1_isFull 5 = .ok (.getfield 18, 3) := by decide +kernel
theorem dX1_isFull_8 : decode cX1_isFull 8 = .ok (.arraylength, 1) := by decide +kernel
theorem dX1_isFull_9 : decode cX1_isFull 9 = .ok (.if_icmp .lt 7, 3) := by decide +kernel
theorem dX1_isFull_12 : decode cX1_isFull 12 = .ok (.iconst 1, 1) := by decide +kernel
theorem dX1_isFull_13 : decode cX1_isFull 13 = .ok (.goto 4, 3) := by decide +kernel
theorem dX1_isFull_16 : decode cX1_isFull 16 = .ok (.iconst 0, 1) := by decide +kernel
theorem dX1_isFull_17 : decode cX1_isFull 17 = .ok (.ireturn, 1) := by decide +kernel
set_option maxRecDepth 20000 in
theorem ggX1_add_X1_isFull : GoodIn wsX1_add wsX1_isFull := goodIn_r _ [7, 2, 1, 8, 9, 10, 11, 12] (by decide +kernel) (by decide +kernel)
set_option maxRecDepth 20000 in
theorem gX1_add_X1_isFull : GoodIn wsX1_add (wsV RX1 28 RX1 yX1_isFull wsX1_isFull) := goodIn_app (goodIn_of _ (by decide +kernel)) ggX1_add_X1_isFull
theorem dX1_add_0 : decode cX1_add 0 = .ok (.aload_n 0, 1) := by decide +kernel
theorem dX1_add_1 : decode cX1_add 1 = .ok (.invokevirtual 28, 3) := by decide +kernel
theorem dX1_add_4 : decode cX1_add 4 = .ok (.ifCond .ne 23, 3) := by decide +kernel
theorem dX1_add_7 : decode cX1_add 7 = .ok (.aload_n 0, 1) := by decide +kernel
theorem dX1_add_8 : decode cX1_add 8 = .ok (.getfield 18, 3) := by decide +kernel
theorem dX1_add_11 : decode cX1_add 11 = .ok (.aload_n 0, 1) := by decide +kernel
theorem dX1_add_12 : decode cX1_add 12 = .ok (.getfield 15, 3) := by decide +kernel
theorem dX1_add_15 : decode cX1_add 15 = .ok (.iload_n 1, 1) := by decide +kernel
theorem dX1_add_16 : decode cX1_add 16 = .ok (.iastore, 1) := by decide +kernel
theorem dX1_add_17 : decode cX1_add 17 = .ok (.aload_n 0, 1) := by decide +kernel
theorem dX1_add_18 : decode cX1_add 18 = .ok (.dup, 1) := by decide +kernel
theorem dX1_add_19 : decode cX1_add 19 = .ok (.getfield 15, 3) := by decide +kernel
theorem dX1_add_22 : decode cX1_add 22 = .ok (.iconst 1, 1) := by decide +kernel
theorem dX1_add_23 : decode cX1_add 23 = .ok (.iadd, 1) := by decide +kernel
theorem dX1_add_24 : decode cX1_add 24 = .ok (.putfield 15, 3) := by decide +kernel
theorem dX1_add_27 : decode cX1_add 27 = .ok (.return_, 1) := by decide +kernel
theorem dX1_wordAt_0 : decode cX1_wordAt 0 = .ok (.iload_n 1, 1) := by decide +kernel
theorem dX1_wordAt_1 : decode cX1_wordAt 1 = .ok (.ifCond .lt 21, 3) := by decide +kernel
theorem dX1_wordAt_4 : decode cX1_wordAt 4 = .ok (.iload_n 1, 1) := by decide +kernel
theorem dX1_wordAt_5 : decode cX1_wordAt 5 = .ok (.aload_n 0, 1) := by decide +kernel
theorem dX1_wordAt_6 : decode cX1_wordAt 6 = .ok (.getfield 18, 3) := by decide +kernel
theorem dX1_wordAt_9 : decode cX1_wordAt 9 = .ok (.arraylength, 1) := by decide +kernel
theorem dX1_wordAt_10 : decode cX1_wordAt 10 = .ok (.if_icmp .ge 12, 3) := by decide +kernel
theorem dX1_wordAt_13 : decode cX1_wordAt 13 = .ok (.aload_n 0, 1) := by decide +kernel
theorem dX1_wordAt_14 : decode cX1_wordAt 14 = .ok (.getfield 18, 3) := by decide +kernel
theorem dX1_wordAt_17 : decode cX1_wordAt 17 = .ok (.iload_n 1, 1) := by decide +kernel
theorem dX1_wordAt_18 : decode cX1_wordAt 18 = .ok (.iaload, 1) := by decide +kernel
theorem dX1_wordAt_19 : decode cX1_wordAt 19 = .ok (.goto 4, 3) := by decide +kernel
theorem dX1_wordAt_22 : decode cX1_wordAt 22 = .ok (.iconst 0, 1) := by decide +kernel
theorem dX1_wordAt_23 : decode cX1_wordAt 23 = .ok (.ireturn, 1) := by decide +kernel
set_option maxRecDepth 20000 in
theorem ggX1_isWrong_X1_wordAt : GoodIn wsX1_isWrong wsX1_wordAt := goodIn_r _ [5, 6, 7, 8, 9, 10, 11] (by decide +kernel) (by decide +kernel)
set_option maxRecDepth 20000 in
theorem gX1_isWrong_X1_wordAt : GoodIn wsX1_isWrong (wsV RX1 32 RX1 yX1_wordAt wsX1_wordAt) := goodIn_app (goodIn_of _ (by decide +kernel)) ggX1_isWrong_X1_wordAt
theorem dX1_isWrong_0 : decode cX1_isWrong 0 = .ok (.iload_n 2, 1) := by decide +kernel
theorem dX1_isWrong_1 : decode cX1_isWrong 1 = .ok (.aload_n 0, 1) := by decide +kernel
theorem dX1_isWrong_2 : decode cX1_isWrong 2 = .ok (.iload_n 1, 1) := by decide +kernel
theorem dX1_isWrong_3 : decode cX1_isWrong 3 = .ok (.invokevirtual 32, 3) := by decide +kernel
theorem dX1_isWrong_6 : decode cX1_isWrong 6 = .ok (.imul, 1) := by decide +kernel
theorem dX1_isWrong_7 : decode cX1_isWrong 7 = .ok (.ifCond .gt 7, 3) := by decide +kernel
theorem dX1_isWrong_10 : decode cX1_isWrong 10 = .ok (.iconst 1, 1) := by decide +kernel
theorem dX1_isWrong_11 : decode cX1_isWrong 11 = .ok (.goto 4, 3) := by decide +kernel
theorem dX1_isWrong_14 : decode cX1_isWrong 14 = .ok (.iconst 0, 1) := by decide +kernel
theorem dX1_isWrong_15 : decode cX1_isWrong 15 = .ok (.ireturn, 1) := by decide +kernel
theorem dX1_start_0 : decode cX1_start 0 = .ok (.iload_n 1, 1) := by decide +kernel
theorem dX1_start_1 : decode cX1_start 1 = .ok (.iload_n 2, 1) := by decide +kernel
theorem dX1_start_2 : decode cX1_start 2 = .ok (.imul, 1) := by decide +kernel
theorem dX1_start_3 : decode cX1_start 3 = .ok (.aload_n 0, 1) := by decide +kernel
theorem dX1_start_4 : decode cX1_start 4 = .ok (.getfield 9, 3) := by decide +kernel
theorem dX1_start_7 : decode cX1_start 7 = .ok (.iadd, 1) := by decide +kernel
theorem dX1_start_8 : decode cX1_start 8 = .ok (.ireturn, 1) := by decide +kernel
set_option maxRecDepth 20000 in
theorem ggX1_end_X1_start : GoodIn wsX1_end wsX1_start := goodIn_r _ [6, 7, 8, 9, 10, 11, 12] (by decide +kernel) (by decide +kernel)
set_option maxRecDepth 20000 in
theorem gX1_end_X1_start : GoodIn wsX1_end (wsV RX1 36 RX1 yX1_start wsX1_start) := goodIn_app (goodIn_of _ (by decide +kernel)) ggX1_end_X1_start
theorem dX1_end_0 : decode cX1_end 0 = .ok (.aload_n 0, 1) := by decide +kernel
theorem dX1_end_1 : decode cX1_end 1 = .ok (.getfield 15, 3) := by decide +kernel
theorem dX1_end_4 : decode cX1_end 4 = .ok (.ifCond .ne 7, 3) := by decide +kernel
theorem dX1_end_7 : decode cX1_end 7 = .ok (.iconst 0, 1) := by decide +kernel
theorem dX1_end_8 : decode cX1_end 8 = .ok (.goto 12, 3) := by decide +kernel
theorem dX1_end_11 : decode cX1_end 11 = .ok (.aload_n 0, 1) := by decide +kernel
theorem dX1_end_12 : decode cX1_end 12 = .ok (.aload_n 0, 1) := by decide +kernel
theorem dX1_end_13 : decode cX1_end 13 = .ok (.getfield 15, 3) := by decide +kernel
theorem dX1_end_16 : decode cX1_end 16 = .ok (.iload_n 1, 1) := by decide +kernel
theorem dX1_end_17 : decode cX1_end 17 = .ok (.invokevirtual 36, 3) := by decide +kernel
theorem dX1_end_20 : decode cX1_end 20 = .ok (.ireturn, 1) := by decide +kernel
theorem dX2_init_0 : decode cX2_init 0 = .ok (.aload_n 0, 1) := by decide +kernel
theorem dX2_init_1 : decode cX2_init 1 = .ok (.invokespecial 3, 3) := by decide +kernel
theorem dX2_init_4 : decode cX2_init 4 = .ok (.aload_n 0, 1) := by decide +kernel
theorem dX2_init_5 : decode cX2_init 5 = .ok (.bipush 20, 2) := by decide +kernel
theorem dX2_init_7 : decode cX2_init 7 = .ok (.newarray .int, 2) := by decide +kernel
theorem dX2_init_9 : decode cX2_init 9 = .ok (.putfield 9, 3) := by decide +kernel
theorem dX2_init_12 : decode cX2_init 12 = .ok (.aload_n 0, 1) := by decide +kernel
theorem dX2_init_13 : decode cX2_init 13 = .ok (.sipush 207, 3) := by decide +kernel
theorem dX2_init_16 : decode cX2_init 16 = .ok (.newarray .int, 2) := by decide +kernel
theorem dX2_init_18 : decode cX2_init 18 = .ok (.putfield 15, 3) := by decide +kernel
theorem dX2_init_21 : decode cX2_init 21 = .ok (.aload_n 0, 1) := by decide +kernel
theorem dX2_init_22 : decode cX2_init 22 = .ok (.aload_n 1, 1) := by decide +kernel
theorem dX2_init_23 : decode cX2_init 23 = .ok (.putfield 18, 3) := by decide +kernel
theorem dX2_init_26 : decode cX2_init 26 = .ok (.return_, 1) := by decide +kernel
set_option maxRecDepth 20000 in
theorem ggX2_silence_J7_fill_53178 : GoodIn wsX2_silence wsJ7_fill_53178 := goodIn_r _ [5] (by decide +kernel) (by decide +kernel)
set_option maxRecDepth 20000 in
theorem gX2_silence_J7_fill_53178 : GoodIn wsX2_silence (va_wsS RX2 22 yJ7_fill_53178 wsJ7_fill_53178) := goodIn_app (goodIn_of _ (by decide +kernel)) ggX2_silence_J7_fill_53178
theorem dX2_silence_0 : decode cX2_silence 0 = .ok (.aload_n 0, 1) := by decide +kernel
theorem dX2_silence_1 : decode cX2_silence 1 = .ok (.getfield 15, 3) := by decide +kernel
theorem dX2_silence_4 : decode cX2_silence 4 = .ok (.iconst 0, 1) := by decide +kernel
theorem dX2_silence_5 : decode cX2_silence 5 = .ok (.invokestatic 22, 3) := by decide +kernel
theorem dX2_silence_8 : decode cX2_silence 8 = .ok (.return_, 1) := by decide +kernel
set_option maxRecDepth 20000 in
theorem ggX2_addWords_X2_addWord : GoodIn wsX2_addWords wsX2_addWord := goodIn_r _ [6, 7, 8, 9, 10, 11, 12, 13, 14, 15, 16, 17, 18, 19, 20, 21, 22, 23, 24, 25, 26, 27, 28, 29, 30, 31, 32, 33, 39, 40, 41, 42, 34, 35, 36, 37, 38] (by decide +kernel) (by decide +kernel)
set_option maxRecDepth 20000 in
theorem gX2_addWords_X2_addWord : GoodIn wsX2_addWords (wsV RX2 34 RX2 yX2_addWord wsX2_addWord) := goodIn_app (goodIn_of _ (by decide +kernel)) ggX2_addWords_X2_addWord
theorem dX2_addWords_0 : decode cX2_addWords 0 = .ok (.iconst 0, 1) := by decide +kernel
theorem dX2_addWords_1 : decode cX2_addWords 1 = .ok (.istore_n 3, 1) := by decide +kernel
theorem dX2_addWords_2 : decode cX2_addWords 2 = .ok (.iload_n 3, 1) := by decide +kernel
theorem dX2_addWords_3 : decode cX2_addWords 3 = .ok (.aload_n 1, 1) := by decide +kernel
theorem dX2_addWords_4 : decode cX2_addWords 4 = .ok (.getfield 28, 3) := by decide +kernel
theorem dX2_addWords_7 : decode cX2_addWords 7 = .ok (.if_icmp .ge 16, 3) := by decide +kernel
theorem dX2_addWords_10 : decode cX2_addWords 10 = .ok (.aload_n 0, 1) := by decide +kernel
theorem dX2_addWords_11 : decode cX2_addWords 11 = .ok (.aload_n 1, 1) := by decide +kernel
theorem dX2_addWords_12 : decode cX2_addWords 12 = .ok (.iload_n 3, 1) := by decide +kernel
theorem dX2_addWords_13 : decode cX2_addWords 13 = .ok (.iload_n 2, 1) := by decide +kernel
theorem dX2_addWords_14 : decode cX2_addWords 14 = .ok (.invokevirtual 34, 3) := by decide +kernel
theorem dX2_addWords_17 : decode cX2_addWords 17 = .ok (.iinc 3 1, 3) := by decide +kernel
theorem dX2_addWords_20 : decode cX2_addWords 20 = .ok (.goto (-18), 3) := by decide +kernel
theorem dX2_addWords_23 : decode cX2_addWords 23 = .ok (.return_, 1) := by decide +kernel
set_option maxRecDepth 20000 in
theorem ggX2_addWord_X1_wordAt : GoodIn wsX2_addWord wsX1_wordAt := goodIn_r _ [9, 10, 32, 33, 34, 35, 36] (by decide +kernel) (by decide +kernel)
set_option maxRecDepth 20000 in
theorem gX2_addWord_X1_wordAt : GoodIn wsX2_addWord (wsV RX2 38 RX1 yX1_wordAt wsX1_wordAt) := goodIn_app (goodIn_of _ (by decide +kernel)) ggX2_addWord_X1_wordAt
set_option maxRecDepth 20000 in
theorem ggX2_addWord_X1_start : GoodIn wsX2_addWord wsX1_start := goodIn_r _ [14, 15, 32, 33, 34, 35, 36] (by decide +kernel) (by decide +kernel)
set_option maxRecDepth 20000 in
theorem gX2_addWord_X1_start : GoodIn wsX2_addWord (wsV RX2 47 RX1 yX1_start wsX1_start) := goodIn_app (goodIn_of _ (by decide +kernel)) ggX2_addWord_X1_start
set_option maxRecDepth 20000 in
theorem ggX2_addWord_X0_chipAt : GoodIn wsX2_addWord wsX0_chipAt := goodIn_r _ [20, 21, 22, 23, 24, 25, 26, 27] (by decide +kernel) (by decide +kernel)
set_option maxRecDepth 20000 in
theorem gX2_addWord_X0_chipAt : GoodIn wsX2_addWord (wsV RX2 54 RX0 yX0_chipAt wsX0_chipAt) := goodIn_app (goodIn_of _ (by decide +kernel)) ggX2_addWord_X0_chipAt
theorem dX2_addWord_0 : decode cX2_addWord 0 = .ok (.iload_n 3, 1) := by decide +kernel
theorem dX2_addWord_1 : decode cX2_addWord 1 = .ok (.aload_n 1, 1) := by decide +kernel
theorem dX2_addWord_2 : decode cX2_addWord 2 = .ok (.iload_n 2, 1) := by decide +kernel
theorem dX2_addWord_3 : decode cX2_addWord 3 = .ok (.invokevirtual 38, 3) := by decide +kernel
theorem dX2_addWord_6 : decode cX2_addWord 6 = .ok (.imul, 1) := by decide +kernel
theorem dX2_addWord_7 : decode cX2_addWord 7 = .ok (.istore 4, 2) := by decide +kernel
theorem dX2_addWord_9 : decode cX2_addWord 9 = .ok (.aload_n 1, 1) := by decide +kernel
theorem dX2_addWord_10 : decode cX2_addWord 10 = .ok (.iload_n 2, 1) := by decide +kernel
theorem dX2_addWord_11 : decode cX2_addWord 11 = .ok (.aload_n 0, 1) := by decide +kernel
theorem dX2_addWord_12 : decode cX2_addWord 12 = .ok (.getfield 18, 3) := by decide +kernel
theorem dX2_addWord_15 : decode cX2_addWord 15 = .ok (.getfield 42, 3) := by decide +kernel
theorem dX2_addWord_18 : decode cX2_addWord 18 = .ok (.invokevirtual 47, 3) := by decide +kernel
theorem dX2_addWord_21 : decode cX2_addWord 21 = .ok (.istore 5, 2) := by decide +kernel
theorem dX2_addWord_23 : decode cX2_addWord 23 = .ok (.iconst 0, 1) := by decide +kernel
theorem dX2_addWord_24 : decode cX2_addWord 24 = .ok (.istore 6, 2) := by decide +kernel
theorem dX2_addWord_26 : decode cX2_addWord 26 = .ok (.iload 6, 2) := by decide +kernel
theorem dX2_addWord_28 : decode cX2_addWord 28 = .ok (.aload_n 0, 1) := by decide +kernel
theorem dX2_addWord_29 : decode cX2_addWord 29 = .ok (.getfield 18, 3) := by decide +kernel
theorem dX2_addWord_32 : decode cX2_addWord 32 = .ok (.getfield 42, 3) := by decide +kernel
theorem dX2_addWord_35 : decode cX2_addWord 35 = .ok (.if_icmp .ge 57, 3) := by decide +kernel
theorem dX2_addWord_38 : decode cX2_addWord 38 = .ok (.iload 5, 2) := by decide +kernel
theorem dX2_addWord_40 : decode cX2_addWord 40 = .ok (.iload 6, 2) := by decide +kernel
theorem dX2_addWord_42 : decode cX2_addWord 42 = .ok (.iadd, 1) := by decide +kernel
theorem dX2_addWord_43 : decode cX2_addWord 43 = .ok (.istore 7, 2) := by decide +kernel
theorem dX2_addWord_45 : decode cX2_addWord 45 = .ok (.iload 7, 2) := by decide +kernel
theorem dX2_addWord_47 : decode cX2_addWord 47 = .ok (.ifCond .lt 39, 3) := by decide +kernel
theorem dX2_addWord_50 : decode cX2_addWord 50 = .ok (.iload 7, 2) := by decide +kernel
theorem dX2_addWord_52 : decode cX2_addWord 52 = .ok (.aload_n 0, 1) := by decide +kernel
theorem dX2_addWord_53 : decode cX2_addWord 53 = .ok (.getfield 15, 3) := by decide +kernel
theorem dX2_addWord_56 : decode cX2_addWord 56 = .ok (.arraylength, 1) := by decide +kernel
theorem dX2_addWord_57 : decode cX2_addWord 57 = .ok (.if_icmp .ge 29, 3) := by decide +kernel
theorem dX2_addWord_60 : decode cX2_addWord 60 = .ok (.aload_n 0, 1) := by decide +kernel
theorem dX2_addWord_61 : decode cX2_addWord 61 = .ok (.getfield 15, 3) := by decide +kernel
theorem dX2_addWord_64 : decode cX2_addWord 64 = .ok (.iload 7, 2) := by decide +kernel
theorem dX2_addWord_66 : decode cX2_addWord 66 = .ok (.dup2, 1) := by decide +kernel
theorem dX2_addWord_67 : decode cX2_addWord 67 = .ok (.iaload, 1) := by decide +kernel
theorem dX2_addWord_68 : decode cX2_addWord 68 = .ok (.iload 4, 2) := by decide +kernel
theorem dX2_addWord_70 : decode cX2_addWord 70 = .ok (.aload_n 0, 1) := by decide +kernel
theorem dX2_addWord_71 : decode cX2_addWord 71 = .ok (.getfield 18, 3) := by decide +kernel
theorem dX2_addWord_74 : decode cX2_addWord 74 = .ok (.aload_n 1, 1) := by decide +kernel
theorem dX2_addWord_75 : decode cX2_addWord 75 = .ok (.getfield 51, 3) := by decide +kernel
theorem dX2_addWord_78 : decode cX2_addWord 78 = .ok (.iload 6, 2) := by decide +kernel
theorem dX2_addWord_80 : decode cX2_addWord 80 = .ok (.invokevirtual 54, 3) := by decide +kernel
theorem dX2_addWord_83 : decode cX2_addWord 83 = .ok (.imul, 1) := by decide +kernel
theorem dX2_addWord_84 : decode cX2_addWord 84 = .ok (.iadd, 1) := by decide +kernel
theorem dX2_addWord_85 : decode cX2_addWord 85 = .ok (.iastore, 1) := by decide +kernel
theorem dX2_addWord_86 : decode cX2_addWord 86 = .ok (.iinc 6 1, 3) := by decide +kernel
theorem dX2_addWord_89 : decode cX2_addWord 89 = .ok (.goto (-63), 3) := by decide +kernel
theorem dX2_addWord_92 : decode cX2_addWord 92 = .ok (.return_, 1) := by decide +kernel
theorem dX2_at_0 : decode cX2_at 0 = .ok (.iload_n 1, 1) := by decide +kernel
theorem dX2_at_1 : decode cX2_at 1 = .ok (.ifCond .ge 5, 3) := by decide +kernel
theorem dX2_at_4 : decode cX2_at 4 = .ok (.iconst 0, 1) := by decide +kernel
theorem dX2_at_5 : decode cX2_at 5 = .ok (.ireturn, 1) := by decide +kernel
theorem dX2_at_6 : decode cX2_at 6 = .ok (.aload_n 0, 1) := by decide +kernel
theorem dX2_at_7 : decode cX2_at 7 = .ok (.getfield 9, 3) := by decide +kernel
theorem dX2_at_10 : decode cX2_at 10 = .ok (.iload_n 1, 1) := by decide +kernel
theorem dX2_at_11 : decode cX2_at 11 = .ok (.bipush 20, 2) := by decide +kernel
theorem dX2_at_13 : decode cX2_at 13 = .ok (.irem, 1) := by decide +kernel
theorem dX2_at_14 : decode cX2_at 14 = .ok (.iaload, 1) := by decide +kernel
theorem dX2_at_15 : decode cX2_at 15 = .ok (.istore_n 2, 1) := by decide +kernel
theorem dX2_at_16 : decode cX2_at 16 = .ok (.iload_n 1, 1) := by decide +kernel
theorem dX2_at_17 : decode cX2_at 17 = .ok (.aload_n 0, 1) := by decide +kernel
theorem dX2_at_18 : decode cX2_at 18 = .ok (.getfield 15, 3) := by decide +kernel
theorem dX2_at_21 : decode cX2_at 21 = .ok (.arraylength, 1) := by decide +kernel
theorem dX2_at_22 : decode cX2_at 22 = .ok (.if_icmp .ge 14, 3) := by decide +kernel
theorem dX2_at_25 : decode cX2_at 25 = .ok (.aload_n 0, 1) := by decide +kernel
theorem dX2_at_26 : decode cX2_at 26 = .ok (.getfield 15, 3) := by decide +kernel
theorem dX2_at_29 : decode cX2_at 29 = .ok (.iload_n 1, 1) := by decide +kernel
theorem dX2_at_30 : decode cX2_at 30 = .ok (.iaload, 1) := by decide +kernel
theorem dX2_at_31 : decode cX2_at 31 = .ok (.iload_n 2, 1) := by decide +kernel
theorem dX2_at_32 : decode cX2_at 32 = .ok (.iadd, 1) := by decide +kernel
theorem dX2_at_33 : decode cX2_at 33 = .ok (.goto 4, 3) := by decide +kernel
theorem dX2_at_36 : decode cX2_at 36 = .ok (.iload_n 2, 1) := by decide +kernel
theorem dX2_at_37 : decode cX2_at 37 = .ok (.ireturn, 1) := by decide +kernel
set_option maxRecDepth 20000 in
theorem ggX2_heard_X2_at : GoodIn wsX2_heard wsX2_at := goodIn_r _ [7, 8, 9, 22, 23, 24] (by decide +kernel) (by decide +kernel)
set_option maxRecDepth 20000 in
theorem gX2_heard_X2_at : GoodIn wsX2_heard (wsV RX2 57 RX2 yX2_at wsX2_at) := goodIn_app (goodIn_of _ (by decide +kernel)) ggX2_heard_X2_at
set_option maxRecDepth 20000 in
theorem ggX2_heard_X0_chipAt : GoodIn wsX2_heard wsX0_chipAt := goodIn_r _ [14, 15, 16, 17, 18, 19, 20, 21] (by decide +kernel) (by decide +kernel)
set_option maxRecDepth 20000 in
theorem gX2_heard_X0_chipAt : GoodIn wsX2_heard (wsV RX2 54 RX0 yX0_chipAt wsX0_chipAt) := goodIn_app (goodIn_of _ (by decide +kernel)) ggX2_heard_X0_chipAt
theorem dX2_heard_0 : decode cX2_heard 0 = .ok (.iconst 0, 1) := by decide +kernel
theorem dX2_heard_1 : decode cX2_heard 1 = .ok (.istore_n 3, 1) := by decide +kernel
theorem dX2_heard_2 : decode cX2_heard 2 = .ok (.iconst 0, 1) := by decide +kernel
theorem dX2_heard_3 : decode cX2_heard 3 = .ok (.istore 4, 2) := by decide +kernel
theorem dX2_heard_5 : decode cX2_heard 5 = .ok (.iload 4, 2) := by decide +kernel
theorem dX2_heard_7 : decode cX2_heard 7 = .ok (.aload_n 0, 1) := by decide +kernel
theorem dX2_heard_8 : decode cX2_heard 8 = .ok (.getfield 18, 3) := by decide +kernel
theorem dX2_heard_11 : decode cX2_heard 11 = .ok (.getfield 42, 3) := by decide +kernel
theorem dX2_heard_14 : decode cX2_heard 14 = .ok (.if_icmp .ge 31, 3) := by decide +kernel
theorem dX2_heard_17 : decode cX2_heard 17 = .ok (.iload_n 3, 1) := by decide +kernel
theorem dX2_heard_18 : decode cX2_heard 18 = .ok (.aload_n 0, 1) := by decide +kernel
theorem dX2_heard_19 : decode cX2_heard 19 = .ok (.iload_n 2, 1) := by decide +kernel
theorem dX2_heard_20 : decode cX2_heard 20 = .ok (.iload 4, 2) := by decide +kernel
theorem dX2_heard_22 : decode cX2_heard 22 = .ok (.iadd, 1) := by decide +kernel
theorem dX2_heard_23 : decode cX2_heard 23 = .ok (.invokevirtual 57, 3) := by decide +kernel
theorem dX2_heard_26 : decode cX2_heard 26 = .ok (.aload_n 0, 1) := by decide +kernel
theorem dX2_heard_27 : decode cX2_heard 27 = .ok (.getfield 18, 3) := by decide +kernel
theorem dX2_heard_30 : decode cX2_heard 30 = .ok (.iload_n 1, 1) := by decide +kernel
theorem dX2_heard_31 : decode cX2_heard 31 = .ok (.iload 4, 2) := by decide +kernel
theorem dX2_heard_33 : decode cX2_heard 33 = .ok (.invokevirtual 54, 3) := by decide +kernel
theorem dX2_heard_36 : decode cX2_heard 36 = .ok (.imul, 1) := by decide +kernel
theorem dX2_heard_37 : decode cX2_heard 37 = .ok (.iadd, 1) := by decide +kernel
theorem dX2_heard_38 : decode cX2_heard 38 = .ok (.istore_n 3, 1) := by decide +kernel
theorem dX2_heard_39 : decode cX2_heard 39 = .ok (.iinc 4 1, 3) := by decide +kernel
theorem dX2_heard_42 : decode cX2_heard 42 = .ok (.goto (-37), 3) := by decide +kernel
theorem dX2_heard_45 : decode cX2_heard 45 = .ok (.iload_n 3, 1) := by decide +kernel
theorem dX2_heard_46 : decode cX2_heard 46 = .ok (.ireturn, 1) := by decide +kernel
set_option maxRecDepth 20000 in
theorem ggX2_heardWord_X1_start : GoodIn wsX2_heardWord wsX1_start := goodIn_r _ [8, 9, 33, 34, 35, 36, 37] (by decide +kernel) (by decide +kernel)
set_option maxRecDepth 20000 in
theorem gX2_heardWord_X1_start : GoodIn wsX2_heardWord (wsV RX2 47 RX1 yX1_start wsX1_start) := goodIn_app (goodIn_of _ (by decide +kernel)) ggX2_heardWord_X1_start
set_option maxRecDepth 20000 in
theorem ggX2_heardWord_X2_heard : GoodIn wsX2_heardWord wsX2_heard := goodIn_r _ [14, 2, 3, 15, 16, 17, 13, 18, 19, 20, 21, 22, 23, 24, 25, 26, 27, 28, 29, 30, 31, 32, 38, 39, 40, 41] (by decide +kernel) (by decide +kernel)
set_option maxRecDepth 20000 in
theorem gX2_heardWord_X2_heard : GoodIn wsX2_heardWord (wsV RX2 60 RX2 yX2_heard wsX2_heard) := goodIn_app (goodIn_of _ (by decide +kernel)) ggX2_heardWord_X2_heard
theorem dX2_heardWord_0 : decode cX2_heardWord 0 = .ok (.aload_n 0, 1) := by decide +kernel
theorem dX2_heardWord_1 : decode cX2_heardWord 1 = .ok (.aload_n 1, 1) := by decide +kernel
theorem dX2_heardWord_2 : decode cX2_heardWord 2 = .ok (.getfield 51, 3) := by decide +kernel
theorem dX2_heardWord_5 : decode cX2_heardWord 5 = .ok (.aload_n 1, 1) := by decide +kernel
theorem dX2_heardWord_6 : decode cX2_heardWord 6 = .ok (.iload_n 2, 1) := by decide +kernel
theorem dX2_heardWord_7 : decode cX2_heardWord 7 = .ok (.aload_n 0, 1) := by decide +kernel
theorem dX2_heardWord_8 : decode cX2_heardWord 8 = .ok (.getfield 18, 3) := by decide +kernel
theorem dX2_heardWord_11 : decode cX2_heardWord 11 = .ok (.getfield 42, 3) := by decide +kernel
theorem dX2_heardWord_14 : decode cX2_heardWord 14 = .ok (.invokevirtual 47, 3) := by decide +kernel
theorem dX2_heardWord_17 : decode cX2_heardWord 17 = .ok (.invokevirtual 60, 3) := by decide +kernel
theorem dX2_heardWord_20 : decode cX2_heardWord 20 = .ok (.ireturn, 1) := by decide +kernel
set_option maxRecDepth 20000 in
theorem ggX2_wrongWords_X2_heardWord : GoodIn wsX2_wrongWords wsX2_heardWord := goodIn_r _ [6, 7, 8, 9, 10, 11, 12, 13, 14, 15, 16, 17, 18, 5, 19, 20, 21, 22, 23, 24, 25, 26, 27, 28, 29, 30, 31, 32, 33, 34, 35, 36, 37, 47, 48, 49, 50, 51, 52, 53, 54, 55] (by decide +kernel) (by decide +kernel)
set_option maxRecDepth 20000 in
theorem gX2_wrongWords_X2_heardWord : GoodIn wsX2_wrongWords (wsV RX2 63 RX2 yX2_heardWord wsX2_heardWord) := goodIn_app (goodIn_of _ (by decide +kernel)) ggX2_wrongWords_X2_heardWord
set_option maxRecDepth 20000 in
theorem ggX2_wrongWords_X1_isWrong : GoodIn wsX2_wrongWords wsX1_isWrong := goodIn_r _ [41, 42, 43, 44, 13, 45, 46, 47, 48, 49, 50, 51] (by decide +kernel) (by decide +kernel)
set_option maxRecDepth 20000 in
theorem gX2_wrongWords_X1_isWrong : GoodIn wsX2_wrongWords (wsV RX2 67 RX1 yX1_isWrong wsX1_isWrong) := goodIn_app (goodIn_of _ (by decide +kernel)) ggX2_wrongWords_X1_isWrong
theorem dX2_wrongWords_0 : decode cX2_wrongWords 0 = .ok (.iconst 0, 1) := by decide +kernel
theorem dX2_wrongWords_1 : decode cX2_wrongWords 1 = .ok (.istore_n 2, 1) := by decide +kernel
theorem dX2_wrongWords_2 : decode cX2_wrongWords 2 = .ok (.iconst 0, 1) := by decide +kernel
theorem dX2_wrongWords_3 : decode cX2_wrongWords 3 = .ok (.istore_n 3, 1) := by decide +kernel
theorem dX2_wrongWords_4 : decode cX2_wrongWords 4 = .ok (.iload_n 3, 1) := by decide +kernel
theorem dX2_wrongWords_5 : decode cX2_wrongWords 5 = .ok (.aload_n 1, 1) := by decide +kernel
theorem dX2_wrongWords_6 : decode cX2_wrongWords 6 = .ok (.getfield 28, 3) := by decide +kernel
theorem dX2_wrongWords_9 : decode cX2_wrongWords 9 = .ok (.if_icmp .ge 26, 3) := by decide +kernel
theorem dX2_wrongWords_12 : decode cX2_wrongWords 12 = .ok (.aload_n 1, 1) := by decide +kernel
theorem dX2_wrongWords_13 : decode cX2_wrongWords 13 = .ok (.iload_n 3, 1) := by decide +kernel
theorem dX2_wrongWords_14 : decode cX2_wrongWords 14 = .ok (.aload_n 0, 1) := by decide +kernel
theorem dX2_wrongWords_15 : decode cX2_wrongWords 15 = .ok (.aload_n 1, 1) := by decide +kernel
theorem dX2_wrongWords_16 : decode cX2_wrongWords 16 = .ok (.iload_n 3, 1) := by decide +kernel
theorem dX2_wrongWords_17 : decode cX2_wrongWords 17 = .ok (.invokevirtual 63, 3) := by decide +kernel
theorem dX2_wrongWords_20 : decode cX2_wrongWords 20 = .ok (.invokevirtual 67, 3) := by decide +kernel
theorem dX2_wrongWords_23 : decode cX2_wrongWords 23 = .ok (.ifCond .eq 6, 3) := by decide +kernel
theorem dX2_wrongWords_26 : decode cX2_wrongWords 26 = .ok (.iinc 2 1, 3) := by decide +kernel
theorem dX2_wrongWords_29 : decode cX2_wrongWords 29 = .ok (.iinc 3 1, 3) := by decide +kernel
theorem dX2_wrongWords_32 : decode cX2_wrongWords 32 = .ok (.goto (-28), 3) := by decide +kernel
theorem dX2_wrongWords_35 : decode cX2_wrongWords 35 = .ok (.iload_n 2, 1) := by decide +kernel
theorem dX2_wrongWords_36 : decode cX2_wrongWords 36 = .ok (.ireturn, 1) := by decide +kernel
set_option maxRecDepth 20000 in
theorem ggX2_faintest_X2_heardWord : GoodIn wsX2_faintest wsX2_heardWord := goodIn_r _ [10, 11, 12, 13, 14, 15, 16, 17, 18, 19, 20, 21, 22, 9, 23, 24, 25, 26, 27, 28, 29, 30, 31, 32, 33, 34, 35, 36, 37, 38, 39, 40, 41, 42, 43, 44, 45, 46, 47, 48, 49, 50] (by decide +kernel) (by decide +kernel)
set_option maxRecDepth 20000 in
theorem gX2_faintest_X2_heardWord : GoodIn wsX2_faintest (wsV RX2 63 RX2 yX2_heardWord wsX2_heardWord) := goodIn_app (goodIn_of _ (by decide +kernel)) ggX2_faintest_X2_heardWord
theorem dX2_faintest_0 : decode cX2_faintest 0 = .ok (.iconst 0, 1) := by decide +kernel
theorem dX2_faintest_1 : decode cX2_faintest 1 = .ok (.istore_n 2, 1) := by decide +kernel
theorem dX2_faintest_2 : decode cX2_faintest 2 = .ok (.iconst 0, 1) := by decide +kernel
theorem dX2_faintest_3 : decode cX2_faintest 3 = .ok (.istore_n 3, 1) := by decide +kernel
theorem dX2_faintest_4 : decode cX2_faintest 4 = .ok (.iload_n 3, 1) := by decide +kernel
theorem dX2_faintest_5 : decode cX2_faintest 5 = .ok (.aload_n 1, 1) := by decide +kernel
theorem dX2_faintest_6 : decode cX2_faintest 6 = .ok (.getfield 28, 3) := by decide +kernel
theorem dX2_faintest_9 : decode cX2_faintest 9 = .ok (.if_icmp .ge 33, 3) := by decide +kernel
theorem dX2_faintest_12 : decode cX2_faintest 12 = .ok (.aload_n 0, 1) := by decide +kernel
theorem dX2_faintest_13 : decode cX2_faintest 13 = .ok (.aload_n 1, 1) := by decide +kernel
theorem dX2_faintest_14 : decode cX2_faintest 14 = .ok (.iload_n 3, 1) := by decide +kernel
theorem dX2_faintest_15 : decode cX2_faintest 15 = .ok (.invokevirtual 63, 3) := by decide +kernel
theorem dX2_faintest_18 : decode cX2_faintest 18 = .ok (.invokestatic 71, 3) := by decide +kernel
theorem dX2_faintest_21 : decode cX2_faintest 21 = .ok (.istore 4, 2) := by decide +kernel
theorem dX2_faintest_23 : decode cX2_faintest 23 = .ok (.iload_n 3, 1) := by decide +kernel
theorem dX2_faintest_24 : decode cX2_faintest 24 = .ok (.ifCond .eq 9, 3) := by decide +kernel
theorem dX2_faintest_27 : decode cX2_faintest 27 = .ok (.iload 4, 2) := by decide +kernel
theorem dX2_faintest_29 : decode cX2_faintest 29 = .ok (.iload_n 2, 1) := by decide +kernel
theorem dX2_faintest_30 : decode cX2_faintest 30 = .ok (.if_icmp .ge 6, 3) := by decide +kernel
theorem dX2_faintest_33 : decode cX2_faintest 33 = .ok (.iload 4, 2) := by decide +kernel
theorem dX2_faintest_35 : decode cX2_faintest 35 = .ok (.istore_n 2, 1) := by decide +kernel
theorem dX2_faintest_36 : decode cX2_faintest 36 = .ok (.iinc 3 1, 3) := by decide +kernel
theorem dX2_faintest_39 : decode cX2_faintest 39 = .ok (.goto (-35), 3) := by decide +kernel
theorem dX2_faintest_42 : decode cX2_faintest 42 = .ok (.iload_n 2, 1) := by decide +kernel
theorem dX2_faintest_43 : decode cX2_faintest 43 = .ok (.ireturn, 1) := by decide +kernel
set_option maxRecDepth 20000 in
theorem ggX2_highest_X2_at : GoodIn wsX2_highest wsX2_at := goodIn_r _ [12, 13, 14, 15, 16, 17] (by decide +kernel) (by decide +kernel)
set_option maxRecDepth 20000 in
theorem gX2_highest_X2_at : GoodIn wsX2_highest (wsV RX2 57 RX2 yX2_at wsX2_at) := goodIn_app (goodIn_of _ (by decide +kernel)) ggX2_highest_X2_at
theorem dX2_highest_0 : decode cX2_highest 0 = .ok (.iconst 0, 1) := by decide +kernel
theorem dX2_highest_1 : decode cX2_highest 1 = .ok (.istore_n 2, 1) := by decide +kernel
theorem dX2_highest_2 : decode cX2_highest 2 = .ok (.iconst 0, 1) := by decide +kernel
theorem dX2_highest_3 : decode cX2_highest 3 = .ok (.istore_n 3, 1) := by decide +kernel
theorem dX2_highest_4 : decode cX2_highest 4 = .ok (.iload_n 3, 1) := by decide +kernel
theorem dX2_highest_5 : decode cX2_highest 5 = .ok (.iload_n 1, 1) := by decide +kernel
theorem dX2_highest_6 : decode cX2_highest 6 = .ok (.if_icmp .ge 22, 3) := by decide +kernel
theorem dX2_highest_9 : decode cX2_highest 9 = .ok (.iload_n 2, 1) := by decide +kernel
theorem dX2_highest_10 : decode cX2_highest 10 = .ok (.aload_n 0, 1) := by decide +kernel
theorem dX2_highest_11 : decode cX2_highest 11 = .ok (.iload_n 3, 1) := by decide +kernel
theorem dX2_highest_12 : decode cX2_highest 12 = .ok (.invokevirtual 57, 3) := by decide +kernel
theorem dX2_highest_15 : decode cX2_highest 15 = .ok (.invokestatic 71, 3) := by decide +kernel
theorem dX2_highest_18 : decode cX2_highest 18 = .ok (.invokestatic 76, 3) := by decide +kernel
theorem dX2_highest_21 : decode cX2_highest 21 = .ok (.istore_n 2, 1) := by decide +kernel
theorem dX2_highest_22 : decode cX2_highest 22 = .ok (.iinc 3 1, 3) := by decide +kernel
theorem dX2_highest_25 : decode cX2_highest 25 = .ok (.goto (-21), 3) := by decide +kernel
theorem dX2_highest_28 : decode cX2_highest 28 = .ok (.iload_n 2, 1) := by decide +kernel
theorem dX2_highest_29 : decode cX2_highest 29 = .ok (.ireturn, 1) := by decide +kernel
set_option maxRecDepth 20000 in
theorem ggX2_sum_X2_at : GoodIn wsX2_sum wsX2_at := goodIn_r _ [5, 6, 7, 8, 9, 10] (by decide +kernel) (by decide +kernel)
set_option maxRecDepth 20000 in
theorem gX2_sum_X2_at : GoodIn wsX2_sum (wsV RX2 57 RX2 yX2_at wsX2_at) := goodIn_app (goodIn_of _ (by decide +kernel)) ggX2_sum_X2_at
theorem dX2_sum_0 : decode cX2_sum 0 = .ok (.iconst 0, 1) := by decide +kernel
theorem dX2_sum_1 : decode cX2_sum 1 = .ok (.istore_n 2, 1) := by decide +kernel
theorem dX2_sum_2 : decode cX2_sum 2 = .ok (.iconst 0, 1) := by decide +kernel
theorem dX2_sum_3 : decode cX2_sum 3 = .ok (.istore_n 3, 1) := by decide +kernel
theorem dX2_sum_4 : decode cX2_sum 4 = .ok (.iload_n 3, 1) := by decide +kernel
theorem dX2_sum_5 : decode cX2_sum 5 = .ok (.iload_n 1, 1) := by decide +kernel
theorem dX2_sum_6 : decode cX2_sum 6 = .ok (.if_icmp .ge 17, 3) := by decide +kernel
theorem dX2_sum_9 : decode cX2_sum 9 = .ok (.iload_n 2, 1) := by decide +kernel
theorem dX2_sum_10 : decode cX2_sum 10 = .ok (.aload_n 0, 1) := by decide +kernel
theorem dX2_sum_11 : decode cX2_sum 11 = .ok (.iload_n 3, 1) := by decide +kernel
theorem dX2_sum_12 : decode cX2_sum 12 = .ok (.invokevirtual 57, 3) := by decide +kernel
theorem dX2_sum_15 : decode cX2_sum 15 = .ok (.iadd, 1) := by decide +kernel
theorem dX2_sum_16 : decode cX2_sum 16 = .ok (.istore_n 2, 1) := by decide +kernel
theorem dX2_sum_17 : decode cX2_sum 17 = .ok (.iinc 3 1, 3) := by decide +kernel
theorem dX2_sum_20 : decode cX2_sum 20 = .ok (.goto (-16), 3) := by decide +kernel
theorem dX2_sum_23 : decode cX2_sum 23 = .ok (.iload_n 2, 1) := by decide +kernel
theorem dX2_sum_24 : decode cX2_sum 24 = .ok (.ireturn, 1) := by decide +kernel
set_option maxRecDepth 20000 in
theorem ggX3_init_X0_init : GoodIn wsX3_init wsX0_init := goodIn_r _ [17, 18, 2, 3, 19, 43] (by decide +kernel) (by decide +kernel)
set_option maxRecDepth 20000 in
theorem gX3_init_X0_init_n11 : GoodIn wsX3_init (wsX0_init) := ggX3_init_X0_init
set_option maxRecDepth 20000 in
theorem ggX3_init_X2_init : GoodIn wsX3_init wsX2_init := goodIn_r _ [22, 23, 2, 3, 24, 25, 26, 27, 47, 48, 49] (by decide +kernel) (by decide +kernel)
set_option maxRecDepth 20000 in
theorem gX3_init_X2_init : GoodIn wsX3_init (wsX2_init) := ggX3_init_X2_init
set_option maxRecDepth 20000 in
theorem ggX3_init_Jx4a65c_init_da8c8 : GoodIn wsX3_init wsJx4a65c_init_da8c8 := goodIn_r _ [30, 31, 32, 33, 34, 35, 36, 37, 38, 39, 40, 41, 42, 2, 3, 50, 51, 52] (by decide +kernel) (by decide +kernel)
set_option maxRecDepth 20000 in
theorem gX3_init_Jx4a65c_init_da8c8 : GoodIn wsX3_init (wsJx4a65c_init_da8c8) := ggX3_init_Jx4a65c_init_da8c8
theorem dX3_init_0 : decode cX3_init 0 = .ok (.aload_n 0, 1) := by decide +kernel
theorem dX3_init_1 : decode cX3_init 1 = .ok (.invokespecial 3, 3) := by decide +kernel
theorem dX3_init_4 : decode cX3_init 4 = .ok (.aload_n 0, 1) := by decide +kernel
theorem dX3_init_5 : decode cX3_init 5 = .ok (.new 9, 3) := by decide +kernel
theorem dX3_init_8 : decode cX3_init 8 = .ok (.dup, 1) := by decide +kernel
theorem dX3_init_9 : decode cX3_init 9 = .ok (.invokespecial 11, 3) := by decide +kernel
theorem dX3_init_12 : decode cX3_init 12 = .ok (.putfield 12, 3) := by decide +kernel
theorem dX3_init_15 : decode cX3_init 15 = .ok (.aload_n 0, 1) := by decide +kernel
theorem dX3_init_16 : decode cX3_init 16 = .ok (.new 16, 3) := by decide +kernel
theorem dX3_init_19 : decode cX3_init 19 = .ok (.dup, 1) := by decide +kernel
theorem dX3_init_20 : decode cX3_init 20 = .ok (.aload_n 0, 1) := by decide +kernel
theorem dX3_init_21 : decode cX3_init 21 = .ok (.getfield 12, 3) := by decide +kernel
theorem dX3_init_24 : decode cX3_init 24 = .ok (.invokespecial 18, 3) := by decide +kernel
theorem dX3_init_27 : decode cX3_init 27 = .ok (.putfield 21, 3) := by decide +kernel
theorem dX3_init_30 : decode cX3_init 30 = .ok (.aload_n 0, 1) := by decide +kernel
theorem dX3_init_31 : decode cX3_init 31 = .ok (.new 25, 3) := by decide +kernel
theorem dX3_init_34 : decode cX3_init 34 = .ok (.dup, 1) := by decide +kernel
theorem dX3_init_35 : decode cX3_init 35 = .ok (.invokespecial 27, 3) := by decide +kernel
theorem dX3_init_38 : decode cX3_init 38 = .ok (.putfield 28, 3) := by decide +kernel
theorem dX3_init_41 : decode cX3_init 41 = .ok (.return_, 1) := by decide +kernel
set_option maxRecDepth 20000 in
theorem ggX3_setCodes_Jx4a65c_clear_da8c8 : GoodIn wsX3_setCodes wsJx4a65c_clear_da8c8 := goodIn_r _ [11, 12, 13, 14, 15, 30, 31, 32] (by decide +kernel) (by decide +kernel)
set_option maxRecDepth 20000 in
theorem gX3_setCodes_Jx4a65c_clear_da8c8 : GoodIn wsX3_setCodes (wsV RX3 43 RJx4a65c yJx4a65c_clear_da8c8 wsJx4a65c_clear_da8c8) := goodIn_app (goodIn_of _ (by decide +kernel)) ggX3_setCodes_Jx4a65c_clear_da8c8
set_option maxRecDepth 20000 in
theorem ggX3_setCodes_X2_silence : GoodIn wsX3_setCodes wsX2_silence := goodIn_r _ [20, 21, 22, 23, 24, 25, 33, 34, 35] (by decide +kernel) (by decide +kernel)
set_option maxRecDepth 20000 in
theorem gX3_setCodes_X2_silence : GoodIn wsX3_setCodes (wsV RX3 46 RX2 yX2_silence wsX2_silence) := goodIn_app (goodIn_of _ (by decide +kernel)) ggX3_setCodes_X2_silence
theorem dX3_setCodes_0 : decode cX3_setCodes 0 = .ok (.iload_n 1, 1) := by decide +kernel
theorem dX3_setCodes_1 : decode cX3_setCodes 1 = .ok (.ifCond .lt 8, 3) := by decide +kernel
theorem dX3_setCodes_4 : decode cX3_setCodes 4 = .ok (.iload_n 1, 1) := by decide +kernel
theorem dX3_setCodes_5 : decode cX3_setCodes 5 = .ok (.iconst 4, 1) := by decide +kernel
theorem dX3_setCodes_6 : decode cX3_setCodes 6 = .ok (.if_icmp .le 13, 3) := by decide +kernel
theorem dX3_setCodes_9 : decode cX3_setCodes 9 = .ok (.new 32, 3) := by decide +kernel
theorem dX3_setCodes_12 : decode cX3_setCodes 12 = .ok (.dup, 1) := by decide +kernel
theorem dX3_setCodes_13 : decode cX3_setCodes 13 = .ok (.ldc 34, 2) := by decide +kernel
theorem dX3_setCodes_15 : decode cX3_setCodes 15 = .ok (.invokespecial 36, 3) := by decide +kernel
theorem dX3_setCodes_18 : decode cX3_setCodes 18 = .ok (.athrow, 1) := by decide +kernel
theorem dX3_setCodes_19 : decode cX3_setCodes 19 = .ok (.aload_n 0, 1) := by decide +kernel
theorem dX3_setCodes_20 : decode cX3_setCodes 20 = .ok (.getfield 12, 3) := by decide +kernel
theorem dX3_setCodes_23 : decode cX3_setCodes 23 = .ok (.getfield 39, 3) := by decide +kernel
theorem dX3_setCodes_26 : decode cX3_setCodes 26 = .ok (.istore_n 2, 1) := by decide +kernel
theorem dX3_setCodes_27 : decode cX3_setCodes 27 = .ok (.aload_n 0, 1) := by decide +kernel
theorem dX3_setCodes_28 : decode cX3_setCodes 28 = .ok (.getfield 12, 3) := by decide +kernel
theorem dX3_setCodes_31 : decode cX3_setCodes 31 = .ok (.iconst 1, 1) := by decide +kernel
theorem dX3_setCodes_32 : decode cX3_setCodes 32 = .ok (.iload_n 1, 1) := by decide +kernel
theorem dX3_setCodes_33 : decode cX3_setCodes 33 = .ok (.ishl, 1) := by decide +kernel
theorem dX3_setCodes_34 : decode cX3_setCodes 34 = .ok (.putfield 39, 3) := by decide +kernel
theorem dX3_setCodes_37 : decode cX3_setCodes 37 = .ok (.aload_n 0, 1) := by decide +kernel
theorem dX3_setCodes_38 : decode cX3_setCodes 38 = .ok (.getfield 28, 3) := by decide +kernel
theorem dX3_setCodes_41 : decode cX3_setCodes 41 = .ok (.invokevirtual 43, 3) := by decide +kernel
theorem dX3_setCodes_44 : decode cX3_setCodes 44 = .ok (.aload_n 0, 1) := by decide +kernel
theorem dX3_setCodes_45 : decode cX3_setCodes 45 = .ok (.getfield 21, 3) := by decide +kernel
theorem dX3_setCodes_48 : decode cX3_setCodes 48 = .ok (.invokevirtual 46, 3) := by decide +kernel
theorem dX3_setCodes_51 : decode cX3_setCodes 51 = .ok (.iload_n 2, 1) := by decide +kernel
theorem dX3_setCodes_52 : decode cX3_setCodes 52 = .ok (.ireturn, 1) := by decide +kernel
set_option maxRecDepth 20000 in
theorem ggX3_hill_X3_checkCode : GoodIn wsX3_hill wsX3_checkCode := goodIn_ca (goodIn_r _ [11, 12, 13, 14, 15, 16, 17, 18, 19, 20, 99, 100, 101, 107] (by decide +kernel) (by decide +kernel)) (goodIn_sub (fun _ h => List.mem_cons_of_mem _ (List.mem_append_left _ (List.mem_append_right _ h))) (by decide +kernel))
set_option maxRecDepth 20000 in
theorem gX3_hill_X3_checkCode : GoodIn wsX3_hill (wsV RX3 49 RX3 yX3_checkCode wsX3_checkCode) := goodIn_app (goodIn_of _ (by decide +kernel)) ggX3_hill_X3_checkCode
set_option maxRecDepth 20000 in
theorem ggX3_hill_X3_checkStrength : GoodIn wsX3_hill wsX3_checkStrength := goodIn_ca (goodIn_r _ [24, 25, 26] (by decide +kernel) (by decide +kernel)) (goodIn_sub (fun _ h => List.mem_cons_of_mem _ (List.mem_append_right _ h)) (by decide +kernel))
set_option maxRecDepth 20000 in
theorem gX3_hill_X3_checkStrength : GoodIn wsX3_hill (wsV RX3 53 RX3 yX3_checkStrength wsX3_checkStrength) := goodIn_app (goodIn_of _ (by decide +kernel)) ggX3_hill_X3_checkStrength
set_option maxRecDepth 20000 in
theorem ggX3_hill_Jx4a65c_size_8abf5 : GoodIn wsX3_hill wsJx4a65c_size_8abf5 := goodIn_r _ [31, 32, 108, 109, 110] (by decide +kernel) (by decide +kernel)
set_option maxRecDepth 20000 in
theorem gX3_hill_Jx4a65c_size_8abf5 : GoodIn wsX3_hill (wsV RX3 56 RJx4a65c yJx4a65c_size_8abf5 wsJx4a65c_size_8abf5) := goodIn_app (goodIn_of _ (by decide +kernel)) ggX3_hill_Jx4a65c_size_8abf5
set_option maxRecDepth 20000 in
theorem ggX3_hill_X1_init : GoodIn wsX3_hill wsX1_init := goodIn_r _ [35, 36, 37, 38, 39, 40, 41, 42, 43, 44, 102, 103, 104, 105, 106] (by decide +kernel) (by decide +kernel)
set_option maxRecDepth 20000 in
theorem gX3_hill_X1_init : GoodIn wsX3_hill (wsX1_init) := ggX3_hill_X1_init
set_option maxRecDepth 20000 in
theorem ggX3_hill_Jx4a65c_add_9ea2d : GoodIn wsX3_hill wsJx4a65c_add_9ea2d := goodIn_r _ [48, 49, 50, 51, 32, 52, 53, 54, 30, 55, 56, 57, 58, 59, 60, 61, 62, 63, 64, 65, 66, 67, 68, 69, 70, 71, 72, 73, 74, 75, 76, 77, 78, 79, 80, 81, 82, 83, 84, 85, 86, 87, 88, 89, 90, 91, 92, 93, 94, 95, 96, 97, 98, 108, 109, 110] (by decide +kernel) (by decide +kernel)
set_option maxRecDepth 20000 in
theorem gX3_hill_Jx4a65c_add_9ea2d : GoodIn wsX3_hill (wsV RX3 70 RJx4a65c yJx4a65c_add_9ea2d wsJx4a65c_add_9ea2d) := goodIn_app (goodIn_of _ (by decide +kernel)) ggX3_hill_Jx4a65c_add_9ea2d
theorem dX3_hill_0 : decode cX3_hill 0 = .ok (.aload_n 0, 1) := by decide +kernel
theorem dX3_hill_1 : decode cX3_hill 1 = .ok (.iload_n 1, 1) := by decide +kernel
theorem dX3_hill_2 : decode cX3_hill 2 = .ok (.invokevirtual 49, 3) := by decide +kernel
theorem dX3_hill_5 : decode cX3_hill 5 = .ok (.aload_n 0, 1) := by decide +kernel
theorem dX3_hill_6 : decode cX3_hill 6 = .ok (.iload_n 2, 1) := by decide +kernel
theorem dX3_hill_7 : decode cX3_hill 7 = .ok (.invokevirtual 53, 3) := by decide +kernel
theorem dX3_hill_10 : decode cX3_hill 10 = .ok (.aload_n 0, 1) := by decide +kernel
theorem dX3_hill_11 : decode cX3_hill 11 = .ok (.getfield 28, 3) := by decide +kernel
theorem dX3_hill_14 : decode cX3_hill 14 = .ok (.invokevirtual 56, 3) := by decide +kernel
theorem dX3_hill_17 : decode cX3_hill 17 = .ok (.bipush 8, 2) := by decide +kernel
theorem dX3_hill_19 : decode cX3_hill 19 = .ok (.if_icmp .lt 13, 3) := by decide +kernel
theorem dX3_hill_22 : decode cX3_hill 22 = .ok (.new 60, 3) := by decide +kernel
theorem dX3_hill_25 : decode cX3_hill 25 = .ok (.dup, 1) := by decide +kernel
theorem dX3_hill_26 : decode cX3_hill 26 = .ok (.ldc 62, 2) := by decide +kernel
theorem dX3_hill_28 : decode cX3_hill 28 = .ok (.invokespecial 64, 3) := by decide +kernel
theorem dX3_hill_31 : decode cX3_hill 31 = .ok (.athrow, 1) := by decide +kernel
theorem dX3_hill_32 : decode cX3_hill 32 = .ok (.aload_n 0, 1) := by decide +kernel
theorem dX3_hill_33 : decode cX3_hill 33 = .ok (.getfield 28, 3) := by decide +kernel
theorem dX3_hill_36 : decode cX3_hill 36 = .ok (.new 65, 3) := by decide +kernel
theorem dX3_hill_39 : decode cX3_hill 39 = .ok (.dup, 1) := by decide +kernel
theorem dX3_hill_40 : decode cX3_hill 40 = .ok (.iload_n 1, 1) := by decide +kernel
theorem dX3_hill_41 : decode cX3_hill 41 = .ok (.iload_n 2, 1) := by decide +kernel
theorem dX3_hill_42 : decode cX3_hill 42 = .ok (.invokespecial 67, 3) := by decide +kernel
theorem dX3_hill_45 : decode cX3_hill 45 = .ok (.invokevirtual 70, 3) := by decide +kernel
theorem dX3_hill_48 : decode cX3_hill 48 = .ok (.pop, 1) := by decide +kernel
theorem dX3_hill_49 : decode cX3_hill 49 = .ok (.aload_n 0, 1) := by decide +kernel
theorem dX3_hill_50 : decode cX3_hill 50 = .ok (.getfield 28, 3) := by decide +kernel
theorem dX3_hill_53 : decode cX3_hill 53 = .ok (.invokevirtual 56, 3) := by decide +kernel
theorem dX3_hill_56 : decode cX3_hill 56 = .ok (.iconst 1, 1) := by decide +kernel
theorem dX3_hill_57 : decode cX3_hill 57 = .ok (.isub, 1) := by decide +kernel
theorem dX3_hill_58 : decode cX3_hill 58 = .ok (.ireturn, 1) := by decide +kernel
set_option maxRecDepth 20000 in
theorem ggX3_say_X3_hillAt : GoodIn wsX3_say wsX3_hillAt := goodIn_ca (goodIn_r _ [10, 11, 12, 13, 14, 15, 16, 17, 18, 19, 20, 21, 22, 23, 24, 25, 26, 27, 28, 29, 30, 31, 32, 33, 34, 35, 36, 37, 80, 81, 82, 88, 89, 90] (by decide +kernel) (by decide +kernel)) (goodIn_sub (fun _ h => List.mem_cons_of_mem _ (List.mem_append_right _ h)) (by decide +kernel))
set_option maxRecDepth 20000 in
theorem gX3_say_X3_hillAt : GoodIn wsX3_say (wsV RX3 74 RX3 yX3_hillAt wsX3_hillAt) := goodIn_app (goodIn_of _ (by decide +kernel)) ggX3_say_X3_hillAt
set_option maxRecDepth 20000 in
theorem ggX3_say_X1_isFull : GoodIn wsX3_say wsX1_isFull := goodIn_r _ [42, 43, 44, 83, 84, 85, 86, 87] (by decide +kernel) (by decide +kernel)
set_option maxRecDepth 20000 in
theorem gX3_say_X1_isFull : GoodIn wsX3_say (wsV RX3 78 RX1 yX1_isFull wsX1_isFull) := goodIn_app (goodIn_of _ (by decide +kernel)) ggX3_say_X1_isFull
set_option maxRecDepth 20000 in
theorem ggX3_say_X1_add : GoodIn wsX3_say wsX1_add := goodIn_r _ [48, 44, 43, 49, 39, 40, 41, 42, 83, 84, 85, 86, 87] (by decide +kernel) (by decide +kernel)
set_option maxRecDepth 20000 in
theorem gX3_say_X1_add : GoodIn wsX3_say (wsV RX3 84 RX1 yX1_add wsX1_add) := goodIn_app (goodIn_of _ (by decide +kernel)) ggX3_say_X1_add
set_option maxRecDepth 20000 in
theorem ggX3_say_X2_addWord : GoodIn wsX3_say wsX2_addWord := goodIn_r _ [54, 55, 56, 57, 58, 59, 60, 61, 41, 62, 44, 63, 64, 65, 66, 67, 68, 69, 70, 71, 72, 73, 74, 75, 76, 77, 78, 79, 91, 92, 93, 94, 83, 84, 85, 86, 87] (by decide +kernel) (by decide +kernel)
set_option maxRecDepth 20000 in
theorem gX3_say_X2_addWord : GoodIn wsX3_say (wsV RX3 92 RX2 yX2_addWord wsX2_addWord) := goodIn_app (goodIn_of _ (by decide +kernel)) ggX3_say_X2_addWord
theorem dX3_say_0 : decode cX3_say 0 = .ok (.aload_n 0, 1) := by decide +kernel
theorem dX3_say_1 : decode cX3_say 1 = .ok (.iload_n 1, 1) := by decide +kernel
theorem dX3_say_2 : decode cX3_say 2 = .ok (.invokevirtual 74, 3) := by decide +kernel
theorem dX3_say_5 : decode cX3_say 5 = .ok (.astore_n 3, 1) := by decide +kernel
theorem dX3_say_6 : decode cX3_say 6 = .ok (.aload_n 3, 1) := by decide +kernel
theorem dX3_say_7 : decode cX3_say 7 = .ok (.invokevirtual 78, 3) := by decide +kernel
theorem dX3_say_10 : decode cX3_say 10 = .ok (.ifCond .eq 13, 3) := by decide +kernel
theorem dX3_say_13 : decode cX3_say 13 = .ok (.new 60, 3) := by decide +kernel
theorem dX3_say_16 : decode cX3_say 16 = .ok (.dup, 1) := by decide +kernel
theorem dX3_say_17 : decode cX3_say 17 = .ok (.ldc 82, 2) := by decide +kernel
theorem dX3_say_19 : decode cX3_say 19 = .ok (.invokespecial 64, 3) := by decide +kernel
theorem dX3_say_22 : decode cX3_say 22 = .ok (.athrow, 1) := by decide +kernel
theorem dX3_say_23 : decode cX3_say 23 = .ok (.aload_n 3, 1) := by decide +kernel
theorem dX3_say_24 : decode cX3_say 24 = .ok (.iload_n 2, 1) := by decide +kernel
theorem dX3_say_25 : decode cX3_say 25 = .ok (.ifCond .eq 7, 3) := by decide +kernel
theorem dX3_say_28 : decode cX3_say 28 = .ok (.iconst 1, 1) := by decide +kernel
theorem dX3_say_29 : decode cX3_say 29 = .ok (.goto 4, 3) := by decide +kernel
theorem dX3_say_32 : decode cX3_say 32 = .ok (.iconst (-1), 1) := by decide +kernel
theorem dX3_say_33 : decode cX3_say 33 = .ok (.invokevirtual 84, 3) := by decide +kernel
theorem dX3_say_36 : decode cX3_say 36 = .ok (.aload_n 0, 1) := by decide +kernel
theorem dX3_say_37 : decode cX3_say 37 = .ok (.getfield 21, 3) := by decide +kernel
theorem dX3_say_40 : decode cX3_say 40 = .ok (.aload_n 3, 1) := by decide +kernel
theorem dX3_say_41 : decode cX3_say 41 = .ok (.aload_n 3, 1) := by decide +kernel
theorem dX3_say_42 : decode cX3_say 42 = .ok (.getfield 86, 3) := by decide +kernel
theorem dX3_say_45 : decode cX3_say 45 = .ok (.iconst 1, 1) := by decide +kernel
theorem dX3_say_46 : decode cX3_say 46 = .ok (.isub, 1) := by decide +kernel
theorem dX3_say_47 : decode cX3_say 47 = .ok (.aload_n 3, 1) := by decide +kernel
theorem dX3_say_48 : decode cX3_say 48 = .ok (.getfield 89, 3) := by decide +kernel
theorem dX3_say_51 : decode cX3_say 51 = .ok (.invokevirtual 92, 3) := by decide +kernel
theorem dX3_say_54 : decode cX3_say 54 = .ok (.aload_n 3, 1) := by decide +kernel
theorem dX3_say_55 : decode cX3_say 55 = .ok (.getfield 86, 3) := by decide +kernel
theorem dX3_say_58 : decode cX3_say 58 = .ok (.ireturn, 1) := by decide +kernel
set_option maxRecDepth 20000 in
theorem ggX3_hush_X3_hillAt : GoodIn wsX3_hush wsX3_hillAt := goodIn_ca (goodIn_r _ [8, 9, 10, 11, 12, 13, 14, 15, 16, 17, 18, 19, 20, 21, 22, 23, 24, 25, 26, 27, 28, 29, 30, 31, 32, 33, 34, 35, 78, 79, 80, 81, 82, 83] (by decide +kernel) (by decide +kernel)) (goodIn_sub (fun _ h => List.mem_cons_of_mem _ (List.mem_append_right _ h)) (by decide +kernel))
set_option maxRecDepth 20000 in
theorem gX3_hush_X3_hillAt : GoodIn wsX3_hush (wsV RX3 74 RX3 yX3_hillAt wsX3_hillAt) := goodIn_app (goodIn_of _ (by decide +kernel)) ggX3_hush_X3_hillAt
set_option maxRecDepth 20000 in
theorem ggX3_hush_X2_addWords : GoodIn wsX3_hush wsX2_addWords := goodIn_r _ [40, 41, 42, 43, 44, 39, 45, 46, 47, 48, 49, 50, 51, 52, 53, 54, 55, 56, 57, 58, 59, 60, 61, 62, 63, 64, 65, 66, 67, 68, 69, 70, 71, 72, 73, 74, 75, 76, 77, 84, 85, 86, 87] (by decide +kernel) (by decide +kernel)
set_option maxRecDepth 20000 in
theorem gX3_hush_X2_addWords : GoodIn wsX3_hush (wsV RX3 96 RX2 yX2_addWords wsX2_addWords) := goodIn_app (goodIn_of _ (by decide +kernel)) ggX3_hush_X2_addWords
theorem dX3_hush_0 : decode cX3_hush 0 = .ok (.aload_n 0, 1) := by decide +kernel
theorem dX3_hush_1 : decode cX3_hush 1 = .ok (.iload_n 1, 1) := by decide +kernel
theorem dX3_hush_2 : decode cX3_hush 2 = .ok (.invokevirtual 74, 3) := by decide +kernel
theorem dX3_hush_5 : decode cX3_hush 5 = .ok (.astore_n 2, 1) := by decide +kernel
theorem dX3_hush_6 : decode cX3_hush 6 = .ok (.aload_n 2, 1) := by decide +kernel
theorem dX3_hush_7 : decode cX3_hush 7 = .ok (.getfield 86, 3) := by decide +kernel
theorem dX3_hush_10 : decode cX3_hush 10 = .ok (.istore_n 3, 1) := by decide +kernel
theorem dX3_hush_11 : decode cX3_hush 11 = .ok (.aload_n 0, 1) := by decide +kernel
theorem dX3_hush_12 : decode cX3_hush 12 = .ok (.getfield 21, 3) := by decide +kernel
theorem dX3_hush_15 : decode cX3_hush 15 = .ok (.aload_n 2, 1) := by decide +kernel
theorem dX3_hush_16 : decode cX3_hush 16 = .ok (.aload_n 2, 1) := by decide +kernel
theorem dX3_hush_17 : decode cX3_hush 17 = .ok (.getfield 89, 3) := by decide +kernel
theorem dX3_hush_20 : decode cX3_hush 20 = .ok (.ineg, 1) := by decide +kernel
theorem dX3_hush_21 : decode cX3_hush 21 = .ok (.invokevirtual 96, 3) := by decide +kernel
theorem dX3_hush_24 : decode cX3_hush 24 = .ok (.aload_n 2, 1) := by decide +kernel
theorem dX3_hush_25 : decode cX3_hush 25 = .ok (.iconst 0, 1) := by decide +kernel
theorem dX3_hush_26 : decode cX3_hush 26 = .ok (.putfield 86, 3) := by decide +kernel
theorem dX3_hush_29 : decode cX3_hush 29 = .ok (.iload_n 3, 1) := by decide +kernel
theorem dX3_hush_30 : decode cX3_hush 30 = .ok (.ireturn, 1) := by decide +kernel
set_option maxRecDepth 20000 in
theorem ggX3_setDelay_X3_hillAt : GoodIn wsX3_setDelay wsX3_hillAt := goodIn_ca (goodIn_r _ [8, 9, 10, 11, 12, 13, 14, 15, 16, 17, 18, 19, 20, 21, 22, 23, 24, 25, 26, 27, 28, 29, 30, 31, 32, 33, 34, 35, 86, 87, 88, 89, 90, 91] (by decide +kernel) (by decide +kernel)) (goodIn_sub (fun _ h => List.mem_cons_of_mem _ (List.mem_append_left _ (List.mem_append_right _ h))) (by decide +kernel))
set_option maxRecDepth 20000 in
theorem gX3_setDelay_X3_hillAt : GoodIn wsX3_setDelay (wsV RX3 74 RX3 yX3_hillAt wsX3_hillAt) := goodIn_app (goodIn_of _ (by decide +kernel)) ggX3_setDelay_X3_hillAt
set_option maxRecDepth 20000 in
theorem ggX3_setDelay_X3_checkDelay : GoodIn wsX3_setDelay wsX3_checkDelay := goodIn_ca (goodIn_r _ [39, 40, 41, 42, 43, 86, 87, 88, 92] (by decide +kernel) (by decide +kernel)) (goodIn_sub (fun _ h => List.mem_cons_of_mem _ (List.mem_append_right _ h)) (by decide +kernel))
set_option maxRecDepth 20000 in
theorem gX3_setDelay_X3_checkDelay : GoodIn wsX3_setDelay (wsV RX3 100 RX3 yX3_checkDelay wsX3_checkDelay) := goodIn_app (goodIn_of _ (by decide +kernel)) ggX3_setDelay_X3_checkDelay
set_option maxRecDepth 20000 in
theorem ggX3_setDelay_X2_addWords : GoodIn wsX3_setDelay wsX2_addWords := goodIn_r _ [48, 49, 50, 51, 52, 47, 53, 54, 55, 56, 57, 58, 59, 60, 61, 62, 63, 64, 65, 66, 67, 68, 69, 70, 71, 72, 73, 74, 75, 76, 77, 78, 79, 80, 81, 82, 83, 84, 85, 93, 94, 95, 92] (by decide +kernel) (by decide +kernel)
set_option maxRecDepth 20000 in
theorem gX3_setDelay_X2_addWords : GoodIn wsX3_setDelay (wsV RX3 96 RX2 yX2_addWords wsX2_addWords) := goodIn_app (goodIn_of _ (by decide +kernel)) ggX3_setDelay_X2_addWords
theorem dX3_setDelay_0 : decode cX3_setDelay 0 = .ok (.aload_n 0, 1) := by decide +kernel
theorem dX3_setDelay_1 : decode cX3_setDelay 1 = .ok (.iload_n 1, 1) := by decide +kernel
theorem dX3_setDelay_2 : decode cX3_setDelay 2 = .ok (.invokevirtual 74, 3) := by decide +kernel
theorem dX3_setDelay_5 : decode cX3_setDelay 5 = .ok (.astore_n 3, 1) := by decide +kernel
theorem dX3_setDelay_6 : decode cX3_setDelay 6 = .ok (.aload_n 0, 1) := by decide +kernel
theorem dX3_setDelay_7 : decode cX3_setDelay 7 = .ok (.iload_n 2, 1) := by decide +kernel
theorem dX3_setDelay_8 : decode cX3_setDelay 8 = .ok (.invokevirtual 100, 3) := by decide +kernel
theorem dX3_setDelay_11 : decode cX3_setDelay 11 = .ok (.aload_n 3, 1) := by decide +kernel
theorem dX3_setDelay_12 : decode cX3_setDelay 12 = .ok (.getfield 103, 3) := by decide +kernel
theorem dX3_setDelay_15 : decode cX3_setDelay 15 = .ok (.istore 4, 2) := by decide +kernel
theorem dX3_setDelay_17 : decode cX3_setDelay 17 = .ok (.aload_n 0, 1) := by decide +kernel
theorem dX3_setDelay_18 : decode cX3_setDelay 18 = .ok (.getfield 21, 3) := by decide +kernel
theorem dX3_setDelay_21 : decode cX3_setDelay 21 = .ok (.aload_n 3, 1) := by decide +kernel
theorem dX3_setDelay_22 : decode cX3_setDelay 22 = .ok (.aload_n 3, 1) := by decide +kernel
theorem dX3_setDelay_23 : decode cX3_setDelay 23 = .ok (.getfield 89, 3) := by decide +kernel
theorem dX3_setDelay_26 : decode cX3_setDelay 26 = .ok (.ineg, 1) := by decide +kernel
theorem dX3_setDelay_27 : decode cX3_setDelay 27 = .ok (.invokevirtual 96, 3) := by decide +kernel
theorem dX3_setDelay_30 : decode cX3_setDelay 30 = .ok (.aload_n 3, 1) := by decide +kernel
theorem dX3_setDelay_31 : decode cX3_setDelay 31 = .ok (.iload_n 2, 1) := by decide +kernel
theorem dX3_setDelay_32 : decode cX3_setDelay 32 = .ok (.putfield 103, 3) := by decide +kernel
theorem dX3_setDelay_35 : decode cX3_setDelay 35 = .ok (.aload_n 0, 1) := by decide +kernel
theorem dX3_setDelay_36 : decode cX3_setDelay 36 = .ok (.getfield 21, 3) := by decide +kernel
theorem dX3_setDelay_39 : decode cX3_setDelay 39 = .ok (.aload_n 3, 1) := by decide +kernel
theorem dX3_setDelay_40 : decode cX3_setDelay 40 = .ok (.aload_n 3, 1) := by decide +kernel
theorem dX3_setDelay_41 : decode cX3_setDelay 41 = .ok (.getfield 89, 3) := by decide +kernel
theorem dX3_setDelay_44 : decode cX3_setDelay 44 = .ok (.invokevirtual 96, 3) := by decide +kernel
theorem dX3_setDelay_47 : decode cX3_setDelay 47 = .ok (.iload 4, 2) := by decide +kernel
theorem dX3_setDelay_49 : decode cX3_setDelay 49 = .ok (.ireturn, 1) := by decide +kernel
set_option maxRecDepth 20000 in
theorem ggX3_setStrength_X3_hillAt : GoodIn wsX3_setStrength wsX3_hillAt := goodIn_ca (goodIn_r _ [7, 8, 9, 10, 11, 12, 13, 14, 15, 16, 17, 18, 19, 20, 21, 22, 23, 24, 25, 26, 27, 28, 29, 30, 31, 32, 33, 34, 83, 84, 85, 86, 87, 88] (by decide +kernel) (by decide +kernel)) (goodIn_sub (fun _ h => List.mem_cons_of_mem _ (List.mem_append_left _ (List.mem_append_right _ h))) (by decide +kernel))
set_option maxRecDepth 20000 in
theorem gX3_setStrength_X3_hillAt : GoodIn wsX3_setStrength (wsV RX3 74 RX3 yX3_hillAt wsX3_hillAt) := goodIn_app (goodIn_of _ (by decide +kernel)) ggX3_setStrength_X3_hillAt
set_option maxRecDepth 20000 in
theorem ggX3_setStrength_X3_checkStrength : GoodIn wsX3_setStrength wsX3_checkStrength := goodIn_ca (goodIn_r _ [38, 39, 40] (by decide +kernel) (by decide +kernel)) (goodIn_sub (fun _ h => List.mem_cons_of_mem _ (List.mem_append_right _ h)) (by decide +kernel))
set_option maxRecDepth 20000 in
theorem gX3_setStrength_X3_checkStrength : GoodIn wsX3_setStrength (wsV RX3 53 RX3 yX3_checkStrength wsX3_checkStrength) := goodIn_app (goodIn_of _ (by decide +kernel)) ggX3_setStrength_X3_checkStrength
set_option maxRecDepth 20000 in
theorem ggX3_setStrength_X2_addWords : GoodIn wsX3_setStrength wsX2_addWords := goodIn_r _ [45, 46, 47, 48, 49, 44, 50, 51, 52, 53, 54, 55, 56, 57, 58, 59, 60, 61, 62, 63, 64, 65, 66, 67, 68, 69, 70, 71, 72, 73, 74, 75, 76, 77, 78, 79, 80, 81, 82, 89, 90, 91, 92] (by decide +kernel) (by decide +kernel)
set_option maxRecDepth 20000 in
theorem gX3_setStrength_X2_addWords : GoodIn wsX3_setStrength (wsV RX3 96 RX2 yX2_addWords wsX2_addWords) := goodIn_app (goodIn_of _ (by decide +kernel)) ggX3_setStrength_X2_addWords
theorem dX3_setStrength_0 : decode cX3_setStrength 0 = .ok (.aload_n 0, 1) := by decide +kernel
theorem dX3_setStrength_1 : decode cX3_setStrength 1 = .ok (.iload_n 1, 1) := by decide +kernel
theorem dX3_setStrength_2 : decode cX3_setStrength 2 = .ok (.invokevirtual 74, 3) := by decide +kernel
theorem dX3_setStrength_5 : decode cX3_setStrength 5 = .ok (.astore_n 3, 1) := by decide +kernel
theorem dX3_setStrength_6 : decode cX3_setStrength 6 = .ok (.aload_n 0, 1) := by decide +kernel
theorem dX3_setStrength_7 : decode cX3_setStrength 7 = .ok (.iload_n 2, 1) := by decide +kernel
theorem dX3_setStrength_8 : decode cX3_setStrength 8 = .ok (.invokevirtual 53, 3) := by decide +kernel
theorem dX3_setStrength_11 : decode cX3_setStrength 11 = .ok (.aload_n 3, 1) := by decide +kernel
theorem dX3_setStrength_12 : decode cX3_setStrength 12 = .ok (.getfield 89, 3) := by decide +kernel
theorem dX3_setStrength_15 : decode cX3_setStrength 15 = .ok (.istore 4, 2) := by decide +kernel
theorem dX3_setStrength_17 : decode cX3_setStrength 17 = .ok (.aload_n 0, 1) := by decide +kernel
theorem dX3_setStrength_18 : decode cX3_setStrength 18 = .ok (.getfield 21, 3) := by decide +kernel
theorem dX3_setStrength_21 : decode cX3_setStrength 21 = .ok (.aload_n 3, 1) := by decide +kernel
theorem dX3_setStrength_22 : decode cX3_setStrength 22 = .ok (.iload_n 2, 1) := by decide +kernel
theorem dX3_setStrength_23 : decode cX3_setStrength 23 = .ok (.iload 4, 2) := by decide +kernel
theorem dX3_setStrength_25 : decode cX3_setStrength 25 = .ok (.isub, 1) := by decide +kernel
theorem dX3_setStrength_26 : decode cX3_setStrength 26 = .ok (.invokevirtual 96, 3) := by decide +kernel
theorem dX3_setStrength_29 : decode cX3_setStrength 29 = .ok (.aload_n 3, 1) := by decide +kernel
theorem dX3_setStrength_30 : decode cX3_setStrength 30 = .ok (.iload_n 2, 1) := by decide +kernel
theorem dX3_setStrength_31 : decode cX3_setStrength 31 = .ok (.putfield 89, 3) := by decide +kernel
theorem dX3_setStrength_34 : decode cX3_setStrength 34 = .ok (.iload 4, 2) := by decide +kernel
theorem dX3_setStrength_36 : decode cX3_setStrength 36 = .ok (.ireturn, 1) := by decide +kernel
end
section
theorem dX3_setStorm_0 : decode cX3_setStorm 0 = .ok (.iload_n 1, 1) := by decide +kernel
theorem dX3_setStorm_1 : decode cX3_setStorm 1 = .ok (.ifCond .lt 9, 3) := by decide +kernel
theorem dX3_setStorm_4 : decode cX3_setStorm 4 = .ok (.iload_n 1, 1) := by decide +kernel
theorem dX3_setStorm_5 : decode cX3_setStorm 5 = .ok (.bipush 20, 2) := by decide +kernel
theorem dX3_setStorm_7 : decode cX3_setStorm 7 = .ok (.if_icmp .lt 13, 3) := by decide +kernel
theorem dX3_setStorm_10 : decode cX3_setStorm 10 = .ok (.new 106, 3) := by decide +kernel
theorem dX3_setStorm_13 : decode cX3_setStorm 13 = .ok (.dup, 1) := by decide +kernel
theorem dX3_setStorm_14 : decode cX3_setStorm 14 = .ok (.ldc 108, 2) := by decide +kernel
theorem dX3_setStorm_16 : decode cX3_setStorm 16 = .ok (.invokespecial 110, 3) := by decide +kernel
theorem dX3_setStorm_19 : decode cX3_setStorm 19 = .ok (.athrow, 1) := by decide +kernel
theorem dX3_setStorm_20 : decode cX3_setStorm 20 = .ok (.iload_n 2, 1) := by decide +kernel
theorem dX3_setStorm_21 : decode cX3_setStorm 21 = .ok (.bipush (-99), 2) := by decide +kernel
theorem dX3_setStorm_23 : decode cX3_setStorm 23 = .ok (.if_icmp .lt 9, 3) := by decide +kernel
theorem dX3_setStorm_26 : decode cX3_setStorm 26 = .ok (.iload_n 2, 1) := by decide +kernel
theorem dX3_setStorm_27 : decode cX3_setStorm 27 = .ok (.bipush 99, 2) := by decide +kernel
theorem dX3_setStorm_29 : decode cX3_setStorm 29 = .ok (.if_icmp .le 13, 3) := by decide +kernel
theorem dX3_setStorm_32 : decode cX3_setStorm 32 = .ok (.new 32, 3) := by decide +kernel
theorem dX3_setStorm_35 : decode cX3_setStorm 35 = .ok (.dup, 1) := by decide +kernel
theorem dX3_setStorm_36 : decode cX3_setStorm 36 = .ok (.ldc 111, 2) := by decide +kernel
theorem dX3_setStorm_38 : decode cX3_setStorm 38 = .ok (.invokespecial 36, 3) := by decide +kernel
theorem dX3_setStorm_41 : decode cX3_setStorm 41 = .ok (.athrow, 1) := by decide +kernel
theorem dX3_setStorm_42 : decode cX3_setStorm 42 = .ok (.aload_n 0, 1) := by decide +kernel
theorem dX3_setStorm_43 : decode cX3_setStorm 43 = .ok (.getfield 21, 3) := by decide +kernel
theorem dX3_setStorm_46 : decode cX3_setStorm 46 = .ok (.getfield 113, 3) := by decide +kernel
theorem dX3_setStorm_49 : decode cX3_setStorm 49 = .ok (.iload_n 1, 1) := by decide +kernel
theorem dX3_setStorm_50 : decode cX3_setStorm 50 = .ok (.iaload, 1) := by decide +kernel
theorem dX3_setStorm_51 : decode cX3_setStorm 51 = .ok (.istore_n 3, 1) := by decide +kernel
theorem dX3_setStorm_52 : decode cX3_setStorm 52 = .ok (.aload_n 0, 1) := by decide +kernel
theorem dX3_setStorm_53 : decode cX3_setStorm 53 = .ok (.getfield 21, 3) := by decide +kernel
theorem dX3_setStorm_56 : decode cX3_setStorm 56 = .ok (.getfield 113, 3) := by decide +kernel
theorem dX3_setStorm_59 : decode cX3_setStorm 59 = .ok (.iload_n 1, 1) := by decide +kernel
theorem dX3_setStorm_60 : decode cX3_setStorm 60 = .ok (.iload_n 2, 1) := by decide +kernel
theorem dX3_setStorm_61 : decode cX3_setStorm 61 = .ok (.iastore, 1) := by decide +kernel
theorem dX3_setStorm_62 : decode cX3_setStorm 62 = .ok (.iload_n 3, 1) := by decide +kernel
theorem dX3_setStorm_63 : decode cX3_setStorm 63 = .ok (.ireturn, 1) := by decide +kernel
set_option maxRecDepth 20000 in
theorem ggX3_chip_X3_checkCode : GoodIn wsX3_chip wsX3_checkCode := goodIn_ca (goodIn_r _ [8, 1, 2, 3, 9, 10, 11, 12, 13, 14, 26, 27, 28, 29] (by decide +kernel) (by decide +kernel)) (goodIn_sub (fun _ h => List.mem_cons_of_mem _ (List.mem_append_right _ h)) (by decide +kernel))
set_option maxRecDepth 20000 in
theorem gX3_chip_X3_checkCode : GoodIn wsX3_chip (wsV RX3 49 RX3 yX3_checkCode wsX3_checkCode) := goodIn_app (goodIn_of _ (by decide +kernel)) ggX3_chip_X3_checkCode
set_option maxRecDepth 20000 in
theorem ggX3_chip_X0_has : GoodIn wsX3_chip wsX0_has := goodIn_r _ [13, 14, 29] (by decide +kernel) (by decide +kernel)
set_option maxRecDepth 20000 in
theorem gX3_chip_X0_has : GoodIn wsX3_chip (wsV RX3 117 RX0 yX0_has wsX0_has) := goodIn_app (goodIn_of _ (by decide +kernel)) ggX3_chip_X0_has
set_option maxRecDepth 20000 in
theorem ggX3_chip_X0_chipAt : GoodIn wsX3_chip wsX0_chipAt := goodIn_r _ [18, 19, 20, 21, 22, 23, 24, 25] (by decide +kernel) (by decide +kernel)
set_option maxRecDepth 20000 in
theorem gX3_chip_X0_chipAt : GoodIn wsX3_chip (wsV RX3 123 RX0 yX0_chipAt wsX0_chipAt) := goodIn_app (goodIn_of _ (by decide +kernel)) ggX3_chip_X0_chipAt
theorem dX3_chip_0 : decode cX3_chip 0 = .ok (.aload_n 0, 1) := by decide +kernel
theorem dX3_chip_1 : decode cX3_chip 1 = .ok (.iload_n 1, 1) := by decide +kernel
theorem dX3_chip_2 : decode cX3_chip 2 = .ok (.invokevirtual 49, 3) := by decide +kernel
theorem dX3_chip_5 : decode cX3_chip 5 = .ok (.aload_n 0, 1) := by decide +kernel
theorem dX3_chip_6 : decode cX3_chip 6 = .ok (.getfield 12, 3) := by decide +kernel
theorem dX3_chip_9 : decode cX3_chip 9 = .ok (.iload_n 2, 1) := by decide +kernel
theorem dX3_chip_10 : decode cX3_chip 10 = .ok (.invokevirtual 117, 3) := by decide +kernel
theorem dX3_chip_13 : decode cX3_chip 13 = .ok (.ifCond .ne 13, 3) := by decide +kernel
theorem dX3_chip_16 : decode cX3_chip 16 = .ok (.new 106, 3) := by decide +kernel
theorem dX3_chip_19 : decode cX3_chip 19 = .ok (.dup, 1) := by decide +kernel
theorem dX3_chip_20 : decode cX3_chip 20 = .ok (.ldc 121, 2) := by decide +kernel
theorem dX3_chip_22 : decode cX3_chip 22 = .ok (.invokespecial 110, 3) := by decide +kernel
theorem dX3_chip_25 : decode cX3_chip 25 = .ok (.athrow, 1) := by decide +kernel
theorem dX3_chip_26 : decode cX3_chip 26 = .ok (.aload_n 0, 1) := by decide +kernel
theorem dX3_chip_27 : decode cX3_chip 27 = .ok (.getfield 12, 3) := by decide +kernel
theorem dX3_chip_30 : decode cX3_chip 30 = .ok (.iload_n 1, 1) := by decide +kernel
theorem dX3_chip_31 : decode cX3_chip 31 = .ok (.iload_n 2, 1) := by decide +kernel
theorem dX3_chip_32 : decode cX3_chip 32 = .ok (.invokevirtual 123, 3) := by decide +kernel
theorem dX3_chip_35 : decode cX3_chip 35 = .ok (.ireturn, 1) := by decide +kernel
set_option maxRecDepth 20000 in
theorem ggX3_sky_X3_checkTime : GoodIn wsX3_sky wsX3_checkTime := goodIn_ca (goodIn_r _ [6, 7, 8] (by decide +kernel) (by decide +kernel)) (goodIn_sub (fun _ h => List.mem_cons_of_mem _ (List.mem_append_right _ h)) (by decide +kernel))
set_option maxRecDepth 20000 in
theorem gX3_sky_X3_checkTime : GoodIn wsX3_sky (wsV RX3 127 RX3 yX3_checkTime wsX3_checkTime) := goodIn_app (goodIn_of _ (by decide +kernel)) ggX3_sky_X3_checkTime
set_option maxRecDepth 20000 in
theorem ggX3_sky_X2_at : GoodIn wsX3_sky wsX2_at := goodIn_r _ [13, 14, 15, 19, 20, 21] (by decide +kernel) (by decide +kernel)
set_option maxRecDepth 20000 in
theorem gX3_sky_X2_at : GoodIn wsX3_sky (wsV RX3 130 RX2 yX2_at wsX2_at) := goodIn_app (goodIn_of _ (by decide +kernel)) ggX3_sky_X2_at
theorem dX3_sky_0 : decode cX3_sky 0 = .ok (.aload_n 0, 1) := by decide +kernel
theorem dX3_sky_1 : decode cX3_sky 1 = .ok (.iload_n 1, 1) := by decide +kernel
theorem dX3_sky_2 : decode cX3_sky 2 = .ok (.invokevirtual 127, 3) := by decide +kernel
theorem dX3_sky_5 : decode cX3_sky 5 = .ok (.aload_n 0, 1) := by decide +kernel
theorem dX3_sky_6 : decode cX3_sky 6 = .ok (.getfield 21, 3) := by decide +kernel
theorem dX3_sky_9 : decode cX3_sky 9 = .ok (.iload_n 1, 1) := by decide +kernel
theorem dX3_sky_10 : decode cX3_sky 10 = .ok (.invokevirtual 130, 3) := by decide +kernel
theorem dX3_sky_13 : decode cX3_sky 13 = .ok (.ireturn, 1) := by decide +kernel
set_option maxRecDepth 20000 in
theorem ggX3_hear_X3_checkCode : GoodIn wsX3_hear wsX3_checkCode := goodIn_ca (goodIn_r _ [6, 7, 8, 9, 10, 11, 12, 13, 14, 15, 46, 47, 48, 49] (by decide +kernel) (by decide +kernel)) (goodIn_sub (fun _ h => List.mem_cons_of_mem _ (List.mem_append_left _ (List.mem_append_right _ h))) (by decide +kernel))
set_option maxRecDepth 20000 in
theorem gX3_hear_X3_checkCode : GoodIn wsX3_hear (wsV RX3 49 RX3 yX3_checkCode wsX3_checkCode) := goodIn_app (goodIn_of _ (by decide +kernel)) ggX3_hear_X3_checkCode
set_option maxRecDepth 20000 in
theorem ggX3_hear_X3_checkTime : GoodIn wsX3_hear wsX3_checkTime := goodIn_ca (goodIn_r _ [19, 20, 21] (by decide +kernel) (by decide +kernel)) (goodIn_sub (fun _ h => List.mem_cons_of_mem _ (List.mem_append_right _ h)) (by decide +kernel))
set_option maxRecDepth 20000 in
theorem gX3_hear_X3_checkTime : GoodIn wsX3_hear (wsV RX3 127 RX3 yX3_checkTime wsX3_checkTime) := goodIn_app (goodIn_of _ (by decide +kernel)) ggX3_hear_X3_checkTime
set_option maxRecDepth 20000 in
theorem ggX3_hear_X2_heard : GoodIn wsX3_hear wsX2_heard := goodIn_r _ [26, 27, 28, 29, 30, 31, 25, 32, 33, 34, 35, 36, 37, 13, 38, 39, 40, 41, 42, 43, 44, 45, 50, 51, 52, 49] (by decide +kernel) (by decide +kernel)
set_option maxRecDepth 20000 in
theorem gX3_hear_X2_heard : GoodIn wsX3_hear (wsV RX3 134 RX2 yX2_heard wsX2_heard) := goodIn_app (goodIn_of _ (by decide +kernel)) ggX3_hear_X2_heard
theorem dX3_hear_0 : decode cX3_hear 0 = .ok (.aload_n 0, 1) := by decide +kernel
theorem dX3_hear_1 : decode cX3_hear 1 = .ok (.iload_n 1, 1) := by decide +kernel
theorem dX3_hear_2 : decode cX3_hear 2 = .ok (.invokevirtual 49, 3) := by decide +kernel
theorem dX3_hear_5 : decode cX3_hear 5 = .ok (.aload_n 0, 1) := by decide +kernel
theorem dX3_hear_6 : decode cX3_hear 6 = .ok (.iload_n 2, 1) := by decide +kernel
theorem dX3_hear_7 : decode cX3_hear 7 = .ok (.invokevirtual 127, 3) := by decide +kernel
theorem dX3_hear_10 : decode cX3_hear 10 = .ok (.aload_n 0, 1) := by decide +kernel
theorem dX3_hear_11 : decode cX3_hear 11 = .ok (.getfield 21, 3) := by decide +kernel
theorem dX3_hear_14 : decode cX3_hear 14 = .ok (.iload_n 1, 1) := by decide +kernel
theorem dX3_hear_15 : decode cX3_hear 15 = .ok (.iload_n 2, 1) := by decide +kernel
theorem dX3_hear_16 : decode cX3_hear 16 = .ok (.invokevirtual 134, 3) := by decide +kernel
theorem dX3_hear_19 : decode cX3_hear 19 = .ok (.ireturn, 1) := by decide +kernel
set_option maxRecDepth 20000 in
theorem ggX3_word_X3_hillAt : GoodIn wsX3_word wsX3_hillAt := goodIn_ca (goodIn_r _ [9, 1, 2, 10, 11, 12, 13, 14, 15, 16, 17, 18, 19, 20, 21, 22, 23, 24, 25, 26, 27, 28, 29, 30, 31, 32, 33, 34, 86, 87, 88, 89, 90, 91] (by decide +kernel) (by decide +kernel)) (goodIn_sub (fun _ h => List.mem_cons_of_mem _ (List.mem_append_right _ h)) (by decide +kernel))
set_option maxRecDepth 20000 in
theorem gX3_word_X3_hillAt : GoodIn wsX3_word (wsV RX3 74 RX3 yX3_hillAt wsX3_hillAt) := goodIn_app (goodIn_of _ (by decide +kernel)) ggX3_word_X3_hillAt
set_option maxRecDepth 20000 in
theorem ggX3_word_X1_wordAt : GoodIn wsX3_word wsX1_wordAt := goodIn_r _ [39, 40, 81, 82, 83, 84, 85] (by decide +kernel) (by decide +kernel)
set_option maxRecDepth 20000 in
theorem gX3_word_X1_wordAt : GoodIn wsX3_word (wsV RX3 139 RX1 yX1_wordAt wsX1_wordAt) := goodIn_app (goodIn_of _ (by decide +kernel)) ggX3_word_X1_wordAt
set_option maxRecDepth 20000 in
theorem ggX3_word_X2_heardWord : GoodIn wsX3_word wsX2_heardWord := goodIn_r _ [45, 46, 47, 48, 49, 50, 51, 38, 52, 53, 54, 55, 56, 44, 57, 58, 59, 60, 61, 62, 63, 64, 65, 66, 67, 68, 69, 70, 71, 72, 73, 74, 75, 81, 82, 83, 84, 85, 92, 93, 94, 95] (by decide +kernel) (by decide +kernel)
set_option maxRecDepth 20000 in
theorem gX3_word_X2_heardWord : GoodIn wsX3_word (wsV RX3 142 RX2 yX2_heardWord wsX2_heardWord) := goodIn_app (goodIn_of _ (by decide +kernel)) ggX3_word_X2_heardWord
set_option maxRecDepth 20000 in
theorem ggX3_word_X1_isWrong : GoodIn wsX3_word wsX1_isWrong := goodIn_r _ [79, 80, 36, 37, 38, 39, 40, 81, 82, 83, 84, 85] (by decide +kernel) (by decide +kernel)
set_option maxRecDepth 20000 in
theorem gX3_word_X1_isWrong : GoodIn wsX3_word (wsV RX3 146 RX1 yX1_isWrong wsX1_isWrong) := goodIn_app (goodIn_of _ (by decide +kernel)) ggX3_word_X1_isWrong
theorem dX3_word_0 : decode cX3_word 0 = .ok (.aload_n 0, 1) := by decide +kernel
theorem dX3_word_1 : decode cX3_word 1 = .ok (.iload_n 1, 1) := by decide +kernel
theorem dX3_word_2 : decode cX3_word 2 = .ok (.invokevirtual 74, 3) := by decide +kernel
theorem dX3_word_5 : decode cX3_word 5 = .ok (.astore 4, 2) := by decide +kernel
theorem dX3_word_7 : decode cX3_word 7 = .ok (.iload_n 2, 1) := by decide +kernel
theorem dX3_word_8 : decode cX3_word 8 = .ok (.ifCond .lt 12, 3) := by decide +kernel
theorem dX3_word_11 : decode cX3_word 11 = .ok (.iload_n 2, 1) := by decide +kernel
theorem dX3_word_12 : decode cX3_word 12 = .ok (.aload 4, 2) := by decide +kernel
theorem dX3_word_14 : decode cX3_word 14 = .ok (.getfield 86, 3) := by decide +kernel
theorem dX3_word_17 : decode cX3_word 17 = .ok (.if_icmp .lt 13, 3) := by decide +kernel
theorem dX3_word_20 : decode cX3_word 20 = .ok (.new 106, 3) := by decide +kernel
theorem dX3_word_23 : decode cX3_word 23 = .ok (.dup, 1) := by decide +kernel
theorem dX3_word_24 : decode cX3_word 24 = .ok (.ldc 137, 2) := by decide +kernel
theorem dX3_word_26 : decode cX3_word 26 = .ok (.invokespecial 110, 3) := by decide +kernel
theorem dX3_word_29 : decode cX3_word 29 = .ok (.athrow, 1) := by decide +kernel
theorem dX3_word_30 : decode cX3_word 30 = .ok (.iload_n 3, 1) := by decide +kernel
theorem dX3_word_31 : decode cX3_word 31 = .ok (.tableswitch 68 0 2 #[25, 32, 43], 25) := by decide +kernel
theorem dX3_word_56 : decode cX3_word 56 = .ok (.aload 4, 2) := by decide +kernel
theorem dX3_word_58 : decode cX3_word 58 = .ok (.iload_n 2, 1) := by decide +kernel
theorem dX3_word_59 : decode cX3_word 59 = .ok (.invokevirtual 139, 3) := by decide +kernel
theorem dX3_word_62 : decode cX3_word 62 = .ok (.ireturn, 1) := by decide +kernel
theorem dX3_word_63 : decode cX3_word 63 = .ok (.aload_n 0, 1) := by decide +kernel
theorem dX3_word_64 : decode cX3_word 64 = .ok (.getfield 21, 3) := by decide +kernel
theorem dX3_word_67 : decode cX3_word 67 = .ok (.aload 4, 2) := by decide +kernel
theorem dX3_word_69 : decode cX3_word 69 = .ok (.iload_n 2, 1) := by decide +kernel
theorem dX3_word_70 : decode cX3_word 70 = .ok (.invokevirtual 142, 3) := by decide +kernel
theorem dX3_word_73 : decode cX3_word 73 = .ok (.ireturn, 1) := by decide +kernel
theorem dX3_word_74 : decode cX3_word 74 = .ok (.aload 4, 2) := by decide +kernel
theorem dX3_word_76 : decode cX3_word 76 = .ok (.iload_n 2, 1) := by decide +kernel
theorem dX3_word_77 : decode cX3_word 77 = .ok (.aload_n 0, 1) := by decide +kernel
theorem dX3_word_78 : decode cX3_word 78 = .ok (.getfield 21, 3) := by decide +kernel
theorem dX3_word_81 : decode cX3_word 81 = .ok (.aload 4, 2) := by decide +kernel
theorem dX3_word_83 : decode cX3_word 83 = .ok (.iload_n 2, 1) := by decide +kernel
theorem dX3_word_84 : decode cX3_word 84 = .ok (.invokevirtual 142, 3) := by decide +kernel
theorem dX3_word_87 : decode cX3_word 87 = .ok (.invokevirtual 146, 3) := by decide +kernel
theorem dX3_word_90 : decode cX3_word 90 = .ok (.ifCond .eq 7, 3) := by decide +kernel
theorem dX3_word_93 : decode cX3_word 93 = .ok (.iconst 1, 1) := by decide +kernel
theorem dX3_word_94 : decode cX3_word 94 = .ok (.goto 4, 3) := by decide +kernel
theorem dX3_word_97 : decode cX3_word 97 = .ok (.iconst 0, 1) := by decide +kernel
theorem dX3_word_98 : decode cX3_word 98 = .ok (.ireturn, 1) := by decide +kernel
theorem dX3_word_99 : decode cX3_word 99 = .ok (.new 106, 3) := by decide +kernel
theorem dX3_word_102 : decode cX3_word 102 = .ok (.dup, 1) := by decide +kernel
theorem dX3_word_103 : decode cX3_word 103 = .ok (.ldc 150, 2) := by decide +kernel
theorem dX3_word_105 : decode cX3_word 105 = .ok (.invokespecial 110, 3) := by decide +kernel
theorem dX3_word_108 : decode cX3_word 108 = .ok (.athrow, 1) := by decide +kernel
set_option maxRecDepth 20000 in
theorem ggX3_about_X3_hillAt : GoodIn wsX3_about wsX3_hillAt := goodIn_ca (goodIn_r _ [14, 1, 2, 15, 16, 17, 18, 19, 20, 21, 22, 23, 24, 25, 26, 27, 28, 29, 30, 31, 32, 33, 34, 35, 36, 37, 38, 39, 109, 110, 111, 113, 114, 115] (by decide +kernel) (by decide +kernel)) (goodIn_sub (fun _ h => List.mem_cons_of_mem _ (List.mem_append_right _ h)) (by decide +kernel))
set_option maxRecDepth 20000 in
theorem gX3_about_X3_hillAt : GoodIn wsX3_about (wsV RX3 74 RX3 yX3_hillAt wsX3_hillAt) := goodIn_app (goodIn_of _ (by decide +kernel)) ggX3_about_X3_hillAt
set_option maxRecDepth 20000 in
theorem ggX3_about_X2_wrongWords : GoodIn wsX3_about wsX2_wrongWords := goodIn_r _ [44, 45, 46, 47, 48, 43, 49, 50, 51, 52, 53, 54, 55, 56, 57, 58, 59, 60, 61, 62, 63, 64, 65, 66, 67, 68, 69, 70, 71, 72, 73, 74, 75, 76, 77, 78, 79, 80, 81, 82, 83, 84, 85, 86, 87, 88, 89, 104, 105, 106, 107, 108, 116, 117, 118, 112] (by decide +kernel) (by decide +kernel)
set_option maxRecDepth 20000 in
theorem gX3_about_X2_wrongWords : GoodIn wsX3_about (wsV RX3 155 RX2 yX2_wrongWords wsX2_wrongWords) := goodIn_app (goodIn_of _ (by decide +kernel)) ggX3_about_X2_wrongWords
set_option maxRecDepth 20000 in
theorem ggX3_about_X1_end : GoodIn wsX3_about wsX1_end := goodIn_r _ [93, 94, 95, 54, 55, 56, 57, 58, 104, 105, 106, 107, 108] (by decide +kernel) (by decide +kernel)
set_option maxRecDepth 20000 in
theorem gX3_about_X1_end : GoodIn wsX3_about (wsV RX3 159 RX1 yX1_end wsX1_end) := goodIn_app (goodIn_of _ (by decide +kernel)) ggX3_about_X1_end
set_option maxRecDepth 20000 in
theorem ggX3_about_X2_faintest : GoodIn wsX3_about wsX2_faintest := goodIn_r _ [99, 45, 100, 101, 102, 103, 46, 47, 48, 43, 49, 50, 51, 52, 53, 54, 55, 56, 57, 58, 59, 60, 61, 62, 63, 64, 65, 66, 67, 68, 69, 70, 71, 72, 73, 74, 75, 76, 77, 78, 79, 80, 104, 105, 106, 107, 108, 116, 117, 118, 112] (by decide +kernel) (by decide +kernel)
set_option maxRecDepth 20000 in
theorem gX3_about_X2_faintest : GoodIn wsX3_about (wsV RX3 162 RX2 yX2_faintest wsX2_faintest) := goodIn_app (goodIn_of _ (by decide +kernel)) ggX3_about_X2_faintest
theorem dX3_about_0 : decode cX3_about 0 = .ok (.aload_n 0, 1) := by decide +kernel
theorem dX3_about_1 : decode cX3_about 1 = .ok (.iload_n 1, 1) := by decide +kernel
theorem dX3_about_2 : decode cX3_about 2 = .ok (.invokevirtual 74, 3) := by decide +kernel
theorem dX3_about_5 : decode cX3_about 5 = .ok (.astore_n 3, 1) := by decide +kernel
theorem dX3_about_6 : decode cX3_about 6 = .ok (.iload_n 2, 1) := by decide +kernel
theorem dX3_about_7 : decode cX3_about 7 = .ok (.tableswitch 91 0 6 #[41, 46, 51, 56, 61, 70, 82], 41) := by decide +kernel
theorem dX3_about_48 : decode cX3_about 48 = .ok (.aload_n 3, 1) := by decide +kernel
theorem dX3_about_49 : decode cX3_about 49 = .ok (.getfield 152, 3) := by decide +kernel
theorem dX3_about_52 : decode cX3_about 52 = .ok (.ireturn, 1) := by decide +kernel
theorem dX3_about_53 : decode cX3_about 53 = .ok (.aload_n 3, 1) := by decide +kernel
theorem dX3_about_54 : decode cX3_about 54 = .ok (.getfield 89, 3) := by decide +kernel
theorem dX3_about_57 : decode cX3_about 57 = .ok (.ireturn, 1) := by decide +kernel
theorem dX3_about_58 : decode cX3_about 58 = .ok (.aload_n 3, 1) := by decide +kernel
theorem dX3_about_59 : decode cX3_about 59 = .ok (.getfield 103, 3) := by decide +kernel
theorem dX3_about_62 : decode cX3_about 62 = .ok (.ireturn, 1) := by decide +kernel
theorem dX3_about_63 : decode cX3_about 63 = .ok (.aload_n 3, 1) := by decide +kernel
theorem dX3_about_64 : decode cX3_about 64 = .ok (.getfield 86, 3) := by decide +kernel
theorem dX3_about_67 : decode cX3_about 67 = .ok (.ireturn, 1) := by decide +kernel
theorem dX3_about_68 : decode cX3_about 68 = .ok (.aload_n 0, 1) := by decide +kernel
theorem dX3_about_69 : decode cX3_about 69 = .ok (.getfield 21, 3) := by decide +kernel
theorem dX3_about_72 : decode cX3_about 72 = .ok (.aload_n 3, 1) := by decide +kernel
theorem dX3_about_73 : decode cX3_about 73 = .ok (.invokevirtual 155, 3) := by decide +kernel
theorem dX3_about_76 : decode cX3_about 76 = .ok (.ireturn, 1) := by decide +kernel
theorem dX3_about_77 : decode cX3_about 77 = .ok (.aload_n 3, 1) := by decide +kernel
theorem dX3_about_78 : decode cX3_about 78 = .ok (.aload_n 0, 1) := by decide +kernel
theorem dX3_about_79 : decode cX3_about 79 = .ok (.getfield 12, 3) := by decide +kernel
theorem dX3_about_82 : decode cX3_about 82 = .ok (.getfield 39, 3) := by decide +kernel
theorem dX3_about_85 : decode cX3_about 85 = .ok (.invokevirtual 159, 3) := by decide +kernel
theorem dX3_about_88 : decode cX3_about 88 = .ok (.ireturn, 1) := by decide +kernel
theorem dX3_about_89 : decode cX3_about 89 = .ok (.aload_n 0, 1) := by decide +kernel
theorem dX3_about_90 : decode cX3_about 90 = .ok (.getfield 21, 3) := by decide +kernel
theorem dX3_about_93 : decode cX3_about 93 = .ok (.aload_n 3, 1) := by decide +kernel
theorem dX3_about_94 : decode cX3_about 94 = .ok (.invokevirtual 162, 3) := by decide +kernel
theorem dX3_about_97 : decode cX3_about 97 = .ok (.ireturn, 1) := by decide +kernel
theorem dX3_about_98 : decode cX3_about 98 = .ok (.new 106, 3) := by decide +kernel
theorem dX3_about_101 : decode cX3_about 101 = .ok (.dup, 1) := by decide +kernel
theorem dX3_about_102 : decode cX3_about 102 = .ok (.ldc 165, 2) := by decide +kernel
theorem dX3_about_104 : decode cX3_about 104 = .ok (.invokespecial 110, 3) := by decide +kernel
theorem dX3_about_107 : decode cX3_about 107 = .ok (.athrow, 1) := by decide +kernel
set_option maxRecDepth 20000 in
theorem ggX3_count_Jx4a65c_size_8abf5 : GoodIn wsX3_count wsJx4a65c_size_8abf5 := goodIn_r _ [11, 12, 126, 127, 128] (by decide +kernel) (by decide +kernel)
set_option maxRecDepth 20000 in
theorem gX3_count_Jx4a65c_size_8abf5 : GoodIn wsX3_count (wsV RX3 56 RJx4a65c yJx4a65c_size_8abf5 wsJx4a65c_size_8abf5) := goodIn_app (goodIn_of _ (by decide +kernel)) ggX3_count_Jx4a65c_size_8abf5
set_option maxRecDepth 20000 in
theorem ggX3_count_X3_allWords : GoodIn wsX3_count wsX3_allWords := goodIn_r _ [17, 5, 18, 19, 7, 8, 9, 10, 11, 12, 20, 21, 22, 23, 24, 25, 26, 27, 28, 29, 30, 31, 32, 33, 34, 35, 36, 122, 123, 124, 129, 130, 131, 132, 133, 126, 127, 128] (by decide +kernel) (by decide +kernel)
set_option maxRecDepth 20000 in
theorem gX3_count_X3_allWords : GoodIn wsX3_count (wsV RX3 167 RX3 yX3_allWords wsX3_allWords) := goodIn_app (goodIn_of _ (by decide +kernel)) ggX3_count_X3_allWords
set_option maxRecDepth 20000 in
theorem ggX3_count_X3_allWrongWords : GoodIn wsX3_count wsX3_allWrongWords := goodIn_r _ [40, 5, 6, 18, 7, 8, 9, 10, 11, 12, 20, 21, 22, 23, 24, 25, 26, 27, 28, 29, 30, 31, 32, 33, 34, 35, 36, 41, 42, 43, 44, 45, 46, 47, 48, 49, 50, 51, 52, 53, 54, 55, 56, 57, 58, 59, 60, 61, 62, 63, 64, 65, 66, 67, 68, 69, 70, 71, 72, 73, 74, 75, 76, 77, 78, 79, 80, 81, 82, 83, 84, 85, 86, 87, 88, 89, 90, 122, 123, 124, 126, 127, 128, 129, 130, 131, 132, 133, 134, 135, 136, 125] (by decide +kernel) (by decide +kernel)
set_option maxRecDepth 20000 in
theorem gX3_count_X3_allWrongWords : GoodIn wsX3_count (wsV RX3 170 RX3 yX3_allWrongWords wsX3_allWrongWords) := goodIn_app (goodIn_of _ (by decide +kernel)) ggX3_count_X3_allWrongWords
set_option maxRecDepth 20000 in
theorem ggX3_count_X3_endOfAll : GoodIn wsX3_count wsX3_endOfAll := goodIn_r _ [94, 5, 18, 3, 4, 95, 96, 97, 98, 7, 8, 9, 10, 11, 12, 20, 21, 22, 23, 24, 25, 26, 27, 28, 29, 30, 31, 32, 33, 34, 35, 36, 99, 100, 101, 57, 102, 103, 104, 55, 56, 58, 59, 122, 123, 124, 125, 126, 127, 128, 129, 130, 131, 132, 133] (by decide +kernel) (by decide +kernel)
set_option maxRecDepth 20000 in
theorem gX3_count_X3_endOfAll : GoodIn wsX3_count (wsV RX3 173 RX3 yX3_endOfAll wsX3_endOfAll) := goodIn_app (goodIn_of _ (by decide +kernel)) ggX3_count_X3_endOfAll
set_option maxRecDepth 20000 in
theorem ggX3_count_X2_highest : GoodIn wsX3_count wsX2_highest := goodIn_r _ [108, 109, 110, 97, 111, 112, 96, 98, 64, 65, 66, 44, 67, 68, 69, 134, 135, 136] (by decide +kernel) (by decide +kernel)
set_option maxRecDepth 20000 in
theorem gX3_count_X2_highest : GoodIn wsX3_count (wsV RX3 176 RX2 yX2_highest wsX2_highest) := goodIn_app (goodIn_of _ (by decide +kernel)) ggX3_count_X2_highest
set_option maxRecDepth 20000 in
theorem ggX3_count_X3_freeCodes : GoodIn wsX3_count wsX3_freeCodes := goodIn_r _ [116, 3, 4, 117, 118, 119, 16, 120, 5, 18, 121, 7, 8, 9, 10, 11, 12, 20, 21, 22, 23, 24, 25, 26, 27, 28, 29, 30, 31, 32, 33, 34, 35, 36, 122, 123, 124, 125, 129, 130, 131, 132, 133, 126, 127, 128] (by decide +kernel) (by decide +kernel)
set_option maxRecDepth 20000 in
theorem gX3_count_X3_freeCodes : GoodIn wsX3_count (wsV RX3 179 RX3 yX3_freeCodes wsX3_freeCodes) := goodIn_app (goodIn_of _ (by decide +kernel)) ggX3_count_X3_freeCodes
theorem dX3_count_0 : decode cX3_count 0 = .ok (.iload_n 1, 1) := by decide +kernel
theorem dX3_count_1 : decode cX3_count 1 = .ok (.tableswitch 91 0 6 #[43, 51, 59, 64, 69, 74, 86], 43) := by decide +kernel
theorem dX3_count_44 : decode cX3_count 44 = .ok (.aload_n 0, 1) := by decide +kernel
theorem dX3_count_45 : decode cX3_count 45 = .ok (.getfield 12, 3) := by decide +kernel
theorem dX3_count_48 : decode cX3_count 48 = .ok (.getfield 39, 3) := by decide +kernel
theorem dX3_count_51 : decode cX3_count 51 = .ok (.ireturn, 1) := by decide +kernel
theorem dX3_count_52 : decode cX3_count 52 = .ok (.aload_n 0, 1) := by decide +kernel
theorem dX3_count_53 : decode cX3_count 53 = .ok (.getfield 28, 3) := by decide +kernel
theorem dX3_count_56 : decode cX3_count 56 = .ok (.invokevirtual 56, 3) := by decide +kernel
theorem dX3_count_59 : decode cX3_count 59 = .ok (.ireturn, 1) := by decide +kernel
theorem dX3_count_60 : decode cX3_count 60 = .ok (.aload_n 0, 1) := by decide +kernel
theorem dX3_count_61 : decode cX3_count 61 = .ok (.invokevirtual 167, 3) := by decide +kernel
theorem dX3_count_64 : decode cX3_count 64 = .ok (.ireturn, 1) := by decide +kernel
theorem dX3_count_65 : decode cX3_count 65 = .ok (.aload_n 0, 1) := by decide +kernel
theorem dX3_count_66 : decode cX3_count 66 = .ok (.invokevirtual 170, 3) := by decide +kernel
theorem dX3_count_69 : decode cX3_count 69 = .ok (.ireturn, 1) := by decide +kernel
theorem dX3_count_70 : decode cX3_count 70 = .ok (.aload_n 0, 1) := by decide +kernel
theorem dX3_count_71 : decode cX3_count 71 = .ok (.invokevirtual 173, 3) := by decide +kernel
theorem dX3_count_74 : decode cX3_count 74 = .ok (.ireturn, 1) := by decide +kernel
theorem dX3_count_75 : decode cX3_count 75 = .ok (.aload_n 0, 1) := by decide +kernel
theorem dX3_count_76 : decode cX3_count 76 = .ok (.getfield 21, 3) := by decide +kernel
theorem dX3_count_79 : decode cX3_count 79 = .ok (.aload_n 0, 1) := by decide +kernel
theorem dX3_count_80 : decode cX3_count 80 = .ok (.invokevirtual 173, 3) := by decide +kernel
theorem dX3_count_83 : decode cX3_count 83 = .ok (.invokevirtual 176, 3) := by decide +kernel
theorem dX3_count_86 : decode cX3_count 86 = .ok (.ireturn, 1) := by decide +kernel
theorem dX3_count_87 : decode cX3_count 87 = .ok (.aload_n 0, 1) := by decide +kernel
theorem dX3_count_88 : decode cX3_count 88 = .ok (.invokevirtual 179, 3) := by decide +kernel
theorem dX3_count_91 : decode cX3_count 91 = .ok (.ireturn, 1) := by decide +kernel
theorem dX3_count_92 : decode cX3_count 92 = .ok (.new 106, 3) := by decide +kernel
theorem dX3_count_95 : decode cX3_count 95 = .ok (.dup, 1) := by decide +kernel
theorem dX3_count_96 : decode cX3_count 96 = .ok (.ldc 165, 2) := by decide +kernel
theorem dX3_count_98 : decode cX3_count 98 = .ok (.invokespecial 110, 3) := by decide +kernel
theorem dX3_count_101 : decode cX3_count 101 = .ok (.athrow, 1) := by decide +kernel
set_option maxRecDepth 20000 in
theorem ggX3_alike_X3_checkCode : GoodIn wsX3_alike wsX3_checkCode := goodIn_ca (goodIn_r _ [8, 9, 10, 3, 11, 12, 13, 14, 15, 16, 36, 37, 38, 39] (by decide +kernel) (by decide +kernel)) (goodIn_sub (fun _ h => List.mem_cons_of_mem _ (List.mem_append_right _ h)) (by decide +kernel))
set_option maxRecDepth 20000 in
theorem gX3_alike_X3_checkCode : GoodIn wsX3_alike (wsV RX3 49 RX3 yX3_checkCode wsX3_checkCode) := goodIn_app (goodIn_of _ (by decide +kernel)) ggX3_alike_X3_checkCode
set_option maxRecDepth 20000 in
theorem ggX3_alike_X0_has : GoodIn wsX3_alike wsX0_has := goodIn_r _ [15, 16, 39] (by decide +kernel) (by decide +kernel)
set_option maxRecDepth 20000 in
theorem gX3_alike_X0_has : GoodIn wsX3_alike (wsV RX3 117 RX0 yX0_has wsX0_has) := goodIn_app (goodIn_of _ (by decide +kernel)) ggX3_alike_X0_has
set_option maxRecDepth 20000 in
theorem ggX3_alike_X0_likeness : GoodIn wsX3_alike wsX0_likeness := goodIn_r _ [20, 16, 21, 22, 23, 24, 25, 26, 27, 14, 28, 29, 30, 31, 32, 33, 34, 35, 39] (by decide +kernel) (by decide +kernel)
set_option maxRecDepth 20000 in
theorem gX3_alike_X0_likeness : GoodIn wsX3_alike (wsV RX3 184 RX0 yX0_likeness wsX0_likeness) := goodIn_app (goodIn_of _ (by decide +kernel)) ggX3_alike_X0_likeness
theorem dX3_alike_0 : decode cX3_alike 0 = .ok (.aload_n 0, 1) := by decide +kernel
theorem dX3_alike_1 : decode cX3_alike 1 = .ok (.iload_n 1, 1) := by decide +kernel
theorem dX3_alike_2 : decode cX3_alike 2 = .ok (.invokevirtual 49, 3) := by decide +kernel
theorem dX3_alike_5 : decode cX3_alike 5 = .ok (.aload_n 0, 1) := by decide +kernel
theorem dX3_alike_6 : decode cX3_alike 6 = .ok (.iload_n 2, 1) := by decide +kernel
theorem dX3_alike_7 : decode cX3_alike 7 = .ok (.invokevirtual 49, 3) := by decide +kernel
theorem dX3_alike_10 : decode cX3_alike 10 = .ok (.aload_n 0, 1) := by decide +kernel
theorem dX3_alike_11 : decode cX3_alike 11 = .ok (.getfield 12, 3) := by decide +kernel
theorem dX3_alike_14 : decode cX3_alike 14 = .ok (.iload_n 3, 1) := by decide +kernel
theorem dX3_alike_15 : decode cX3_alike 15 = .ok (.invokevirtual 117, 3) := by decide +kernel
theorem dX3_alike_18 : decode cX3_alike 18 = .ok (.ifCond .ne 13, 3) := by decide +kernel
theorem dX3_alike_21 : decode cX3_alike 21 = .ok (.new 32, 3) := by decide +kernel
theorem dX3_alike_24 : decode cX3_alike 24 = .ok (.dup, 1) := by decide +kernel
theorem dX3_alike_25 : decode cX3_alike 25 = .ok (.ldc 182, 2) := by decide +kernel
theorem dX3_alike_27 : decode cX3_alike 27 = .ok (.invokespecial 36, 3) := by decide +kernel
theorem dX3_alike_30 : decode cX3_alike 30 = .ok (.athrow, 1) := by decide +kernel
theorem dX3_alike_31 : decode cX3_alike 31 = .ok (.aload_n 0, 1) := by decide +kernel
theorem dX3_alike_32 : decode cX3_alike 32 = .ok (.getfield 12, 3) := by decide +kernel
theorem dX3_alike_35 : decode cX3_alike 35 = .ok (.iload_n 1, 1) := by decide +kernel
theorem dX3_alike_36 : decode cX3_alike 36 = .ok (.iload_n 2, 1) := by decide +kernel
theorem dX3_alike_37 : decode cX3_alike 37 = .ok (.iload_n 3, 1) := by decide +kernel
theorem dX3_alike_38 : decode cX3_alike 38 = .ok (.invokevirtual 184, 3) := by decide +kernel
theorem dX3_alike_41 : decode cX3_alike 41 = .ok (.ireturn, 1) := by decide +kernel
set_option maxRecDepth 20000 in
theorem ggX3_shift_X3_checkCode : GoodIn wsX3_shift wsX3_checkCode := goodIn_ca (goodIn_r _ [7, 8, 9, 1, 10, 11, 12, 13, 14, 15, 35, 36, 37, 38] (by decide +kernel) (by decide +kernel)) (goodIn_sub (fun _ h => List.mem_cons_of_mem _ (List.mem_append_right _ h)) (by decide +kernel))
set_option maxRecDepth 20000 in
theorem gX3_shift_X3_checkCode : GoodIn wsX3_shift (wsV RX3 49 RX3 yX3_checkCode wsX3_checkCode) := goodIn_app (goodIn_of _ (by decide +kernel)) ggX3_shift_X3_checkCode
set_option maxRecDepth 20000 in
theorem ggX3_shift_X0_likeness : GoodIn wsX3_shift wsX0_likeness := goodIn_r _ [19, 15, 20, 21, 22, 23, 24, 25, 26, 13, 27, 28, 29, 30, 31, 32, 33, 34, 38] (by decide +kernel) (by decide +kernel)
set_option maxRecDepth 20000 in
theorem gX3_shift_X0_likeness : GoodIn wsX3_shift (wsV RX3 184 RX0 yX0_likeness wsX0_likeness) := goodIn_app (goodIn_of _ (by decide +kernel)) ggX3_shift_X0_likeness
theorem dX3_shift_0 : decode cX3_shift 0 = .ok (.aload_n 0, 1) := by decide +kernel
theorem dX3_shift_1 : decode cX3_shift 1 = .ok (.iload_n 1, 1) := by decide +kernel
theorem dX3_shift_2 : decode cX3_shift 2 = .ok (.invokevirtual 49, 3) := by decide +kernel
theorem dX3_shift_5 : decode cX3_shift 5 = .ok (.aload_n 0, 1) := by decide +kernel
theorem dX3_shift_6 : decode cX3_shift 6 = .ok (.iload_n 2, 1) := by decide +kernel
theorem dX3_shift_7 : decode cX3_shift 7 = .ok (.invokevirtual 49, 3) := by decide +kernel
theorem dX3_shift_10 : decode cX3_shift 10 = .ok (.iconst 0, 1) := by decide +kernel
theorem dX3_shift_11 : decode cX3_shift 11 = .ok (.istore_n 3, 1) := by decide +kernel
theorem dX3_shift_12 : decode cX3_shift 12 = .ok (.aload_n 0, 1) := by decide +kernel
theorem dX3_shift_13 : decode cX3_shift 13 = .ok (.getfield 12, 3) := by decide +kernel
theorem dX3_shift_16 : decode cX3_shift 16 = .ok (.iload_n 1, 1) := by decide +kernel
theorem dX3_shift_17 : decode cX3_shift 17 = .ok (.iload_n 2, 1) := by decide +kernel
theorem dX3_shift_18 : decode cX3_shift 18 = .ok (.iconst 0, 1) := by decide +kernel
theorem dX3_shift_19 : decode cX3_shift 19 = .ok (.invokevirtual 184, 3) := by decide +kernel
theorem dX3_shift_22 : decode cX3_shift 22 = .ok (.istore 4, 2) := by decide +kernel
theorem dX3_shift_24 : decode cX3_shift 24 = .ok (.iconst 1, 1) := by decide +kernel
theorem dX3_shift_25 : decode cX3_shift 25 = .ok (.istore 5, 2) := by decide +kernel
theorem dX3_shift_27 : decode cX3_shift 27 = .ok (.iload 5, 2) := by decide +kernel
theorem dX3_shift_29 : decode cX3_shift 29 = .ok (.aload_n 0, 1) := by decide +kernel
theorem dX3_shift_30 : decode cX3_shift 30 = .ok (.getfield 12, 3) := by decide +kernel
theorem dX3_shift_33 : decode cX3_shift 33 = .ok (.getfield 39, 3) := by decide +kernel
theorem dX3_shift_36 : decode cX3_shift 36 = .ok (.if_icmp .ge 36, 3) := by decide +kernel
theorem dX3_shift_39 : decode cX3_shift 39 = .ok (.aload_n 0, 1) := by decide +kernel
theorem dX3_shift_40 : decode cX3_shift 40 = .ok (.getfield 12, 3) := by decide +kernel
theorem dX3_shift_43 : decode cX3_shift 43 = .ok (.iload_n 1, 1) := by decide +kernel
theorem dX3_shift_44 : decode cX3_shift 44 = .ok (.iload_n 2, 1) := by decide +kernel
theorem dX3_shift_45 : decode cX3_shift 45 = .ok (.iload 5, 2) := by decide +kernel
theorem dX3_shift_47 : decode cX3_shift 47 = .ok (.invokevirtual 184, 3) := by decide +kernel
theorem dX3_shift_50 : decode cX3_shift 50 = .ok (.istore 6, 2) := by decide +kernel
theorem dX3_shift_52 : decode cX3_shift 52 = .ok (.iload 6, 2) := by decide +kernel
theorem dX3_shift_54 : decode cX3_shift 54 = .ok (.iload 4, 2) := by decide +kernel
theorem dX3_shift_56 : decode cX3_shift 56 = .ok (.if_icmp .le 10, 3) := by decide +kernel
theorem dX3_shift_59 : decode cX3_shift 59 = .ok (.iload 6, 2) := by decide +kernel
theorem dX3_shift_61 : decode cX3_shift 61 = .ok (.istore 4, 2) := by decide +kernel
theorem dX3_shift_63 : decode cX3_shift 63 = .ok (.iload 5, 2) := by decide +kernel
theorem dX3_shift_65 : decode cX3_shift 65 = .ok (.istore_n 3, 1) := by decide +kernel
theorem dX3_shift_66 : decode cX3_shift 66 = .ok (.iinc 5 1, 3) := by decide +kernel
theorem dX3_shift_69 : decode cX3_shift 69 = .ok (.goto (-42), 3) := by decide +kernel
theorem dX3_shift_72 : decode cX3_shift 72 = .ok (.iload_n 3, 1) := by decide +kernel
theorem dX3_shift_73 : decode cX3_shift 73 = .ok (.ireturn, 1) := by decide +kernel
set_option maxRecDepth 20000 in
theorem ggX3_advise_X3_checkDelay : GoodIn wsX3_advise wsX3_checkDelay := goodIn_ca (goodIn_r _ [7, 8, 9, 1, 2, 67, 68, 69, 70] (by decide +kernel) (by decide +kernel)) (goodIn_sub (fun _ h => List.mem_cons_of_mem _ (List.mem_append_right _ h)) (by decide +kernel))
set_option maxRecDepth 20000 in
theorem gX3_advise_X3_checkDelay : GoodIn wsX3_advise (wsV RX3 100 RX3 yX3_checkDelay wsX3_checkDelay) := goodIn_app (goodIn_of _ (by decide +kernel)) ggX3_advise_X3_checkDelay
set_option maxRecDepth 20000 in
theorem ggX3_advise_X3_isTaken : GoodIn wsX3_advise wsX3_isTaken := goodIn_r _ [13, 14, 15, 16, 17, 18, 19, 20, 21, 22, 23, 24, 25, 26, 27, 28, 29, 30, 31, 32, 33, 34, 35, 36, 37, 38, 39, 67, 68, 69, 71, 72, 73, 74, 75, 76, 77, 78] (by decide +kernel) (by decide +kernel)
set_option maxRecDepth 20000 in
theorem gX3_advise_X3_isTaken : GoodIn wsX3_advise (wsV RX3 188 RX3 yX3_isTaken wsX3_isTaken) := goodIn_app (goodIn_of _ (by decide +kernel)) ggX3_advise_X3_isTaken
set_option maxRecDepth 20000 in
theorem ggX3_advise_X3_likenessToAll : GoodIn wsX3_advise wsX3_likenessToAll := goodIn_r _ [43, 14, 15, 44, 1, 2, 45, 16, 17, 18, 19, 20, 21, 22, 23, 24, 25, 26, 27, 28, 29, 30, 31, 32, 33, 34, 35, 36, 37, 38, 39, 46, 47, 48, 49, 50, 51, 52, 53, 54, 55, 56, 57, 58, 59, 60, 61, 62, 63, 64, 65, 66, 67, 68, 69, 71, 72, 73, 74, 75, 70, 76, 77, 78] (by decide +kernel) (by decide +kernel)
set_option maxRecDepth 20000 in
theorem gX3_advise_X3_likenessToAll : GoodIn wsX3_advise (wsV RX3 191 RX3 yX3_likenessToAll wsX3_likenessToAll) := goodIn_app (goodIn_of _ (by decide +kernel)) ggX3_advise_X3_likenessToAll
theorem dX3_advise_0 : decode cX3_advise 0 = .ok (.aload_n 0, 1) := by decide +kernel
theorem dX3_advise_1 : decode cX3_advise 1 = .ok (.iload_n 1, 1) := by decide +kernel
theorem dX3_advise_2 : decode cX3_advise 2 = .ok (.invokevirtual 100, 3) := by decide +kernel
theorem dX3_advise_5 : decode cX3_advise 5 = .ok (.iconst (-1), 1) := by decide +kernel
theorem dX3_advise_6 : decode cX3_advise 6 = .ok (.istore_n 2, 1) := by decide +kernel
theorem dX3_advise_7 : decode cX3_advise 7 = .ok (.iconst 0, 1) := by decide +kernel
theorem dX3_advise_8 : decode cX3_advise 8 = .ok (.istore_n 3, 1) := by decide +kernel
theorem dX3_advise_9 : decode cX3_advise 9 = .ok (.iconst 0, 1) := by decide +kernel
theorem dX3_advise_10 : decode cX3_advise 10 = .ok (.istore 4, 2) := by decide +kernel
theorem dX3_advise_12 : decode cX3_advise 12 = .ok (.iload 4, 2) := by decide +kernel
theorem dX3_advise_14 : decode cX3_advise 14 = .ok (.aload_n 0, 1) := by decide +kernel
theorem dX3_advise_15 : decode cX3_advise 15 = .ok (.getfield 12, 3) := by decide +kernel
theorem dX3_advise_18 : decode cX3_advise 18 = .ok (.getfield 39, 3) := by decide +kernel
theorem dX3_advise_21 : decode cX3_advise 21 = .ok (.if_icmp .ge 46, 3) := by decide +kernel
theorem dX3_advise_24 : decode cX3_advise 24 = .ok (.aload_n 0, 1) := by decide +kernel
theorem dX3_advise_25 : decode cX3_advise 25 = .ok (.iload 4, 2) := by decide +kernel
theorem dX3_advise_27 : decode cX3_advise 27 = .ok (.invokevirtual 188, 3) := by decide +kernel
theorem dX3_advise_30 : decode cX3_advise 30 = .ok (.ifCond .eq 6, 3) := by decide +kernel
theorem dX3_advise_33 : decode cX3_advise 33 = .ok (.goto 28, 3) := by decide +kernel
theorem dX3_advise_36 : decode cX3_advise 36 = .ok (.aload_n 0, 1) := by decide +kernel
theorem dX3_advise_37 : decode cX3_advise 37 = .ok (.iload 4, 2) := by decide +kernel
theorem dX3_advise_39 : decode cX3_advise 39 = .ok (.iload_n 1, 1) := by decide +kernel
theorem dX3_advise_40 : decode cX3_advise 40 = .ok (.invokevirtual 191, 3) := by decide +kernel
theorem dX3_advise_43 : decode cX3_advise 43 = .ok (.istore 5, 2) := by decide +kernel
theorem dX3_advise_45 : decode cX3_advise 45 = .ok (.iload_n 2, 1) := by decide +kernel
theorem dX3_advise_46 : decode cX3_advise 46 = .ok (.ifCond .lt 9, 3) := by decide +kernel
theorem dX3_advise_49 : decode cX3_advise 49 = .ok (.iload 5, 2) := by decide +kernel
theorem dX3_advise_51 : decode cX3_advise 51 = .ok (.iload_n 3, 1) := by decide +kernel
theorem dX3_advise_52 : decode cX3_advise 52 = .ok (.if_icmp .ge 9, 3) := by decide +kernel
theorem dX3_advise_55 : decode cX3_advise 55 = .ok (.iload 5, 2) := by decide +kernel
theorem dX3_advise_57 : decode cX3_advise 57 = .ok (.istore_n 3, 1) := by decide +kernel
theorem dX3_advise_58 : decode cX3_advise 58 = .ok (.iload 4, 2) := by decide +kernel
theorem dX3_advise_60 : decode cX3_advise 60 = .ok (.istore_n 2, 1) := by decide +kernel
theorem dX3_advise_61 : decode cX3_advise 61 = .ok (.iinc 4 1, 3) := by decide +kernel
theorem dX3_advise_64 : decode cX3_advise 64 = .ok (.goto (-52), 3) := by decide +kernel
theorem dX3_advise_67 : decode cX3_advise 67 = .ok (.iload_n 2, 1) := by decide +kernel
theorem dX3_advise_68 : decode cX3_advise 68 = .ok (.ireturn, 1) := by decide +kernel
set_option maxRecDepth 20000 in
theorem ggX3_would_X3_hillAt : GoodIn wsX3_would wsX3_hillAt := goodIn_ca (goodIn_r _ [5, 6, 7, 8, 9, 10, 11, 12, 13, 14, 15, 16, 17, 18, 19, 20, 21, 22, 23, 24, 25, 26, 27, 28, 29, 30, 31, 32, 108, 109, 110, 111, 112, 113] (by decide +kernel) (by decide +kernel)) (goodIn_sub (fun _ h => List.mem_cons_of_mem _ (List.mem_append_left _ (List.mem_append_right _ h))) (by decide +kernel))
set_option maxRecDepth 20000 in
theorem gX3_would_X3_hillAt : GoodIn wsX3_would (wsV RX3 74 RX3 yX3_hillAt wsX3_hillAt) := goodIn_app (goodIn_of _ (by decide +kernel)) ggX3_would_X3_hillAt
set_option maxRecDepth 20000 in
theorem ggX3_would_X3_checkStrength : GoodIn wsX3_would wsX3_checkStrength := goodIn_ca (goodIn_r _ [36, 37, 38] (by decide +kernel) (by decide +kernel)) (goodIn_sub (fun _ h => List.mem_cons_of_mem _ (List.mem_append_right _ h)) (by decide +kernel))
set_option maxRecDepth 20000 in
theorem gX3_would_X3_checkStrength : GoodIn wsX3_would (wsV RX3 53 RX3 yX3_checkStrength wsX3_checkStrength) := goodIn_app (goodIn_of _ (by decide +kernel)) ggX3_would_X3_checkStrength
set_option maxRecDepth 20000 in
theorem ggX3_would_X3_wrongWordsWith : GoodIn wsX3_would wsX3_wrongWordsWith := goodIn_r _ [42, 43, 44, 45, 46, 47, 48, 49, 50, 51, 52, 53, 54, 55, 56, 57, 58, 59, 60, 61, 62, 63, 64, 65, 66, 67, 68, 69, 70, 71, 72, 73, 74, 75, 76, 77, 78, 79, 80, 81, 82, 83, 84, 4, 85, 8, 9, 10, 11, 12, 13, 14, 15, 16, 17, 18, 19, 20, 21, 22, 23, 24, 25, 26, 27, 28, 29, 30, 31, 32, 86, 87, 88, 89, 90, 91, 92, 93, 94, 95, 96, 97, 98, 99, 100, 101, 102, 103, 104, 105, 106, 107, 114, 115, 116, 117, 118, 108, 109, 110, 119, 120, 121, 122, 111, 112, 113] (by decide +kernel) (by decide +kernel)
set_option maxRecDepth 20000 in
theorem gX3_would_X3_wrongWordsWith : GoodIn wsX3_would (wsV RX3 194 RX3 yX3_wrongWordsWith wsX3_wrongWordsWith) := goodIn_app (goodIn_of _ (by decide +kernel)) ggX3_would_X3_wrongWordsWith
theorem dX3_would_0 : decode cX3_would 0 = .ok (.aload_n 0, 1) := by decide +kernel
theorem dX3_would_1 : decode cX3_would 1 = .ok (.iload_n 1, 1) := by decide +kernel
theorem dX3_would_2 : decode cX3_would 2 = .ok (.invokevirtual 74, 3) := by decide +kernel
theorem dX3_would_5 : decode cX3_would 5 = .ok (.astore_n 3, 1) := by decide +kernel
theorem dX3_would_6 : decode cX3_would 6 = .ok (.aload_n 0, 1) := by decide +kernel
theorem dX3_would_7 : decode cX3_would 7 = .ok (.iload_n 2, 1) := by decide +kernel
theorem dX3_would_8 : decode cX3_would 8 = .ok (.invokevirtual 53, 3) := by decide +kernel
theorem dX3_would_11 : decode cX3_would 11 = .ok (.aload_n 0, 1) := by decide +kernel
theorem dX3_would_12 : decode cX3_would 12 = .ok (.aload_n 3, 1) := by decide +kernel
theorem dX3_would_13 : decode cX3_would 13 = .ok (.iload_n 2, 1) := by decide +kernel
theorem dX3_would_14 : decode cX3_would 14 = .ok (.invokevirtual 194, 3) := by decide +kernel
theorem dX3_would_17 : decode cX3_would 17 = .ok (.ireturn, 1) := by decide +kernel
set_option maxRecDepth 20000 in
theorem ggX3_tune_X3_hillAt : GoodIn wsX3_tune wsX3_hillAt := goodIn_ca (goodIn_r _ [5, 6, 7, 8, 9, 10, 11, 12, 13, 14, 15, 16, 17, 18, 19, 20, 21, 22, 23, 24, 25, 26, 27, 28, 29, 30, 31, 32, 102, 103, 104, 105, 106, 107] (by decide +kernel) (by decide +kernel)) (goodIn_sub (fun _ h => List.mem_cons_of_mem _ (List.mem_append_right _ h)) (by decide +kernel))
set_option maxRecDepth 20000 in
theorem gX3_tune_X3_hillAt : GoodIn wsX3_tune (wsV RX3 74 RX3 yX3_hillAt wsX3_hillAt) := goodIn_app (goodIn_of _ (by decide +kernel)) ggX3_tune_X3_hillAt
set_option maxRecDepth 20000 in
theorem ggX3_tune_X3_wrongWordsWith : GoodIn wsX3_tune wsX3_wrongWordsWith := goodIn_r _ [36, 37, 38, 39, 40, 41, 42, 43, 44, 45, 46, 47, 48, 49, 50, 51, 52, 53, 54, 55, 56, 57, 58, 59, 60, 61, 62, 63, 64, 65, 66, 67, 68, 69, 70, 71, 72, 73, 74, 75, 76, 77, 78, 4, 79, 8, 9, 10, 11, 12, 13, 14, 15, 16, 17, 18, 19, 20, 21, 22, 23, 24, 25, 26, 27, 28, 29, 30, 31, 32, 80, 81, 82, 83, 84, 85, 86, 87, 88, 89, 90, 91, 92, 93, 94, 95, 96, 97, 98, 99, 100, 101, 108, 109, 110, 111, 112, 102, 103, 104, 113, 114, 115, 116, 105, 106, 107] (by decide +kernel) (by decide +kernel)
set_option maxRecDepth 20000 in
theorem gX3_tune_X3_wrongWordsWith : GoodIn wsX3_tune (wsV RX3 194 RX3 yX3_wrongWordsWith wsX3_wrongWordsWith) := goodIn_app (goodIn_of _ (by decide +kernel)) ggX3_tune_X3_wrongWordsWith
theorem dX3_tune_0 : decode cX3_tune 0 = .ok (.aload_n 0, 1) := by decide +kernel
theorem dX3_tune_1 : decode cX3_tune 1 = .ok (.iload_n 1, 1) := by decide +kernel
theorem dX3_tune_2 : decode cX3_tune 2 = .ok (.invokevirtual 74, 3) := by decide +kernel
theorem dX3_tune_5 : decode cX3_tune 5 = .ok (.astore_n 2, 1) := by decide +kernel
theorem dX3_tune_6 : decode cX3_tune 6 = .ok (.iconst 1, 1) := by decide +kernel
theorem dX3_tune_7 : decode cX3_tune 7 = .ok (.istore_n 3, 1) := by decide +kernel
theorem dX3_tune_8 : decode cX3_tune 8 = .ok (.aload_n 0, 1) := by decide +kernel
theorem dX3_tune_9 : decode cX3_tune 9 = .ok (.aload_n 2, 1) := by decide +kernel
theorem dX3_tune_10 : decode cX3_tune 10 = .ok (.iconst 1, 1) := by decide +kernel
theorem dX3_tune_11 : decode cX3_tune 11 = .ok (.invokevirtual 194, 3) := by decide +kernel
theorem dX3_tune_14 : decode cX3_tune 14 = .ok (.istore 4, 2) := by decide +kernel
theorem dX3_tune_16 : decode cX3_tune 16 = .ok (.iconst 2, 1) := by decide +kernel
theorem dX3_tune_17 : decode cX3_tune 17 = .ok (.istore 5, 2) := by decide +kernel
theorem dX3_tune_19 : decode cX3_tune 19 = .ok (.iload 5, 2) := by decide +kernel
theorem dX3_tune_21 : decode cX3_tune 21 = .ok (.bipush 9, 2) := by decide +kernel
theorem dX3_tune_23 : decode cX3_tune 23 = .ok (.if_icmp .gt 32, 3) := by decide +kernel
theorem dX3_tune_26 : decode cX3_tune 26 = .ok (.aload_n 0, 1) := by decide +kernel
theorem dX3_tune_27 : decode cX3_tune 27 = .ok (.aload_n 2, 1) := by decide +kernel
theorem dX3_tune_28 : decode cX3_tune 28 = .ok (.iload 5, 2) := by decide +kernel
theorem dX3_tune_30 : decode cX3_tune 30 = .ok (.invokevirtual 194, 3) := by decide +kernel
theorem dX3_tune_33 : decode cX3_tune 33 = .ok (.istore 6, 2) := by decide +kernel
theorem dX3_tune_35 : decode cX3_tune 35 = .ok (.iload 6, 2) := by decide +kernel
theorem dX3_tune_37 : decode cX3_tune 37 = .ok (.iload 4, 2) := by decide +kernel
theorem dX3_tune_39 : decode cX3_tune 39 = .ok (.if_icmp .ge 10, 3) := by decide +kernel
theorem dX3_tune_42 : decode cX3_tune 42 = .ok (.iload 6, 2) := by decide +kernel
theorem dX3_tune_44 : decode cX3_tune 44 = .ok (.istore 4, 2) := by decide +kernel
theorem dX3_tune_46 : decode cX3_tune 46 = .ok (.iload 5, 2) := by decide +kernel
theorem dX3_tune_48 : decode cX3_tune 48 = .ok (.istore_n 3, 1) := by decide +kernel
theorem dX3_tune_49 : decode cX3_tune 49 = .ok (.iinc 5 1, 3) := by decide +kernel
theorem dX3_tune_52 : decode cX3_tune 52 = .ok (.goto (-33), 3) := by decide +kernel
theorem dX3_tune_55 : decode cX3_tune 55 = .ok (.iload_n 3, 1) := by decide +kernel
theorem dX3_tune_56 : decode cX3_tune 56 = .ok (.ireturn, 1) := by decide +kernel
set_option maxRecDepth 20000 in
theorem ggX3_mean_X3_endOfAll : GoodIn wsX3_mean wsX3_endOfAll := goodIn_r _ [6, 7, 8, 9, 10, 11, 12, 13, 14, 15, 16, 17, 18, 19, 20, 21, 22, 23, 24, 25, 26, 27, 28, 29, 30, 31, 32, 33, 34, 35, 36, 37, 38, 39, 40, 41, 42, 43, 44, 45, 46, 47, 48, 60, 61, 62, 63, 64, 65, 66, 67, 68, 69, 70, 71] (by decide +kernel) (by decide +kernel)
set_option maxRecDepth 20000 in
theorem gX3_mean_X3_endOfAll : GoodIn wsX3_mean (wsV RX3 173 RX3 yX3_endOfAll wsX3_endOfAll) := goodIn_app (goodIn_of _ (by decide +kernel)) ggX3_mean_X3_endOfAll
set_option maxRecDepth 20000 in
theorem ggX3_mean_X2_sum : GoodIn wsX3_mean wsX2_sum := goodIn_r _ [53, 54, 55, 56, 52, 57, 58, 59, 72, 73, 74] (by decide +kernel) (by decide +kernel)
set_option maxRecDepth 20000 in
theorem gX3_mean_X2_sum : GoodIn wsX3_mean (wsV RX3 197 RX2 yX2_sum wsX2_sum) := goodIn_app (goodIn_of _ (by decide +kernel)) ggX3_mean_X2_sum
theorem dX3_mean_0 : decode cX3_mean 0 = .ok (.aload_n 0, 1) := by decide +kernel
theorem dX3_mean_1 : decode cX3_mean 1 = .ok (.invokevirtual 173, 3) := by decide +kernel
theorem dX3_mean_4 : decode cX3_mean 4 = .ok (.istore_n 1, 1) := by decide +kernel
theorem dX3_mean_5 : decode cX3_mean 5 = .ok (.iload_n 1, 1) := by decide +kernel
theorem dX3_mean_6 : decode cX3_mean 6 = .ok (.ifCond .gt 5, 3) := by decide +kernel
theorem dX3_mean_9 : decode cX3_mean 9 = .ok (.dconst 0, 1) := by decide +kernel
theorem dX3_mean_10 : decode cX3_mean 10 = .ok (.dreturn, 1) := by decide +kernel
theorem dX3_mean_11 : decode cX3_mean 11 = .ok (.aload_n 0, 1) := by decide +kernel
theorem dX3_mean_12 : decode cX3_mean 12 = .ok (.getfield 21, 3) := by decide +kernel
theorem dX3_mean_15 : decode cX3_mean 15 = .ok (.iload_n 1, 1) := by decide +kernel
theorem dX3_mean_16 : decode cX3_mean 16 = .ok (.invokevirtual 197, 3) := by decide +kernel
theorem dX3_mean_19 : decode cX3_mean 19 = .ok (.i2d, 1) := by decide +kernel
theorem dX3_mean_20 : decode cX3_mean 20 = .ok (.iload_n 1, 1) := by decide +kernel
theorem dX3_mean_21 : decode cX3_mean 21 = .ok (.i2d, 1) := by decide +kernel
theorem dX3_mean_22 : decode cX3_mean 22 = .ok (.ddiv, 1) := by decide +kernel
theorem dX3_mean_23 : decode cX3_mean 23 = .ok (.dreturn, 1) := by decide +kernel
set_option maxRecDepth 20000 in
theorem ggX3_digest_X3_count : GoodIn wsX3_digest wsX3_count := goodIn_ca (goodIn_r _ [10, 11, 12, 13, 14, 5, 3, 15, 16, 17, 18, 19, 20, 21, 22, 23, 9, 24, 25, 26, 27, 28, 29, 30, 31, 32, 33, 34, 35, 36, 37, 38, 39, 40, 41, 42, 43, 44, 45, 46, 47, 48, 49, 50, 51, 52, 53, 54, 55, 56, 57, 58, 59, 60, 61, 62, 63, 64, 65, 66, 67, 68, 69, 70, 71, 72, 73, 74, 75, 76, 77, 78, 79, 80, 81, 82, 83, 84, 85, 86, 87, 88, 89, 90, 91, 92, 93, 94, 95, 96, 97, 98, 99, 100, 101, 102, 103, 104, 105, 106, 107, 108, 109, 110, 111, 112, 113, 114, 115, 116, 117, 118, 119, 120, 121, 122, 123, 124, 125, 126, 127, 128, 154, 155, 156, 160, 161, 162, 163, 164, 165, 166, 167, 168, 157, 158, 159] (by decide +kernel) (by decide +kernel)) (goodIn_sub (fun _ h => List.mem_cons_of_mem _ (List.mem_append_right _ h)) (by decide +kernel))
set_option maxRecDepth 20000 in
theorem gX3_digest_X3_count : GoodIn wsX3_digest (wsV RX3 204 RX3 yX3_count wsX3_count) := goodIn_app (goodIn_of _ (by decide +kernel)) ggX3_digest_X3_count
set_option maxRecDepth 20000 in
theorem ggX3_digest_Jx4a65c_size_8abf5 : GoodIn wsX3_digest wsJx4a65c_size_8abf5 := goodIn_r _ [19, 20, 161, 162, 163] (by decide +kernel) (by decide +kernel)
set_option maxRecDepth 20000 in
theorem gX3_digest_Jx4a65c_size_8abf5 : GoodIn wsX3_digest (wsV RX3 56 RJx4a65c yJx4a65c_size_8abf5 wsJx4a65c_size_8abf5) := goodIn_app (goodIn_of _ (by decide +kernel)) ggX3_digest_Jx4a65c_size_8abf5
set_option maxRecDepth 20000 in
theorem ggX3_digest_X3_digestHill : GoodIn wsX3_digest wsX3_digestHill := goodIn_ca (goodIn_r _ [132, 2, 26, 133, 134, 135, 9, 136, 11, 12, 128, 137, 138, 3, 13, 14, 139, 140, 141, 142, 5, 25, 15, 16, 17, 18, 19, 20, 27, 28, 29, 30, 31, 32, 33, 34, 35, 36, 37, 38, 39, 40, 41, 42, 43, 48, 49, 50, 51, 52, 53, 54, 55, 56, 57, 58, 59, 60, 61, 62, 63, 64, 65, 66, 67, 68, 69, 70, 71, 72, 73, 74, 75, 76, 77, 78, 79, 80, 81, 82, 83, 84, 85, 86, 87, 88, 89, 90, 91, 92, 93, 94, 95, 96, 97, 106, 107, 108, 109, 110, 111, 143, 144, 145, 146, 116, 117, 104, 118, 147, 148, 149, 150, 151, 152, 153, 164, 165, 166, 167, 168, 154, 155, 156, 160, 161, 162, 163, 157, 158, 159] (by decide +kernel) (by decide +kernel)) (goodIn_sub (fun _ h => List.mem_cons_of_mem _ (List.mem_append_right _ h)) (by decide +kernel))
set_option maxRecDepth 20000 in
theorem gX3_digest_X3_digestHill : GoodIn wsX3_digest (wsV RX3 207 RX3 yX3_digestHill wsX3_digestHill) := goodIn_app (goodIn_of _ (by decide +kernel)) ggX3_digest_X3_digestHill
theorem dX3_digest_0 : decode cX3_digest 0 = .ok (.ldc2_w 200, 3) := by decide +kernel
theorem dX3_digest_3 : decode cX3_digest 3 = .ok (.lstore_n 1, 1) := by decide +kernel
theorem dX3_digest_4 : decode cX3_digest 4 = .ok (.iconst 0, 1) := by decide +kernel
theorem dX3_digest_5 : decode cX3_digest 5 = .ok (.istore_n 3, 1) := by decide +kernel
theorem dX3_digest_6 : decode cX3_digest 6 = .ok (.iload_n 3, 1) := by decide +kernel
theorem dX3_digest_7 : decode cX3_digest 7 = .ok (.bipush 7, 2) := by decide +kernel
theorem dX3_digest_9 : decode cX3_digest 9 = .ok (.if_icmp .ge 22, 3) := by decide +kernel
theorem dX3_digest_12 : decode cX3_digest 12 = .ok (.lload_n 1, 1) := by decide +kernel
theorem dX3_digest_13 : decode cX3_digest 13 = .ok (.ldc2_w 202, 3) := by decide +kernel
theorem dX3_digest_16 : decode cX3_digest 16 = .ok (.lmul, 1) := by decide +kernel
theorem dX3_digest_17 : decode cX3_digest 17 = .ok (.aload_n 0, 1) := by decide +kernel
theorem dX3_digest_18 : decode cX3_digest 18 = .ok (.iload_n 3, 1) := by decide +kernel
theorem dX3_digest_19 : decode cX3_digest 19 = .ok (.invokevirtual 204, 3) := by decide +kernel
theorem dX3_digest_22 : decode cX3_digest 22 = .ok (.i2l, 1) := by decide +kernel
theorem dX3_digest_23 : decode cX3_digest 23 = .ok (.ladd, 1) := by decide +kernel
theorem dX3_digest_24 : decode cX3_digest 24 = .ok (.lstore_n 1, 1) := by decide +kernel
theorem dX3_digest_25 : decode cX3_digest 25 = .ok (.iinc 3 1, 3) := by decide +kernel
theorem dX3_digest_28 : decode cX3_digest 28 = .ok (.goto (-22), 3) := by decide +kernel
theorem dX3_digest_31 : decode cX3_digest 31 = .ok (.aload_n 0, 1) := by decide +kernel
theorem dX3_digest_32 : decode cX3_digest 32 = .ok (.getfield 21, 3) := by decide +kernel
theorem dX3_digest_35 : decode cX3_digest 35 = .ok (.getfield 113, 3) := by decide +kernel
theorem dX3_digest_38 : decode cX3_digest 38 = .ok (.astore_n 3, 1) := by decide +kernel
theorem dX3_digest_39 : decode cX3_digest 39 = .ok (.aload_n 3, 1) := by decide +kernel
theorem dX3_digest_40 : decode cX3_digest 40 = .ok (.arraylength, 1) := by decide +kernel
theorem dX3_digest_41 : decode cX3_digest 41 = .ok (.istore 4, 2) := by decide +kernel
theorem dX3_digest_43 : decode cX3_digest 43 = .ok (.iconst 0, 1) := by decide +kernel
theorem dX3_digest_44 : decode cX3_digest 44 = .ok (.istore 5, 2) := by decide +kernel
theorem dX3_digest_46 : decode cX3_digest 46 = .ok (.iload 5, 2) := by decide +kernel
theorem dX3_digest_48 : decode cX3_digest 48 = .ok (.iload 4, 2) := by decide +kernel
theorem dX3_digest_50 : decode cX3_digest 50 = .ok (.if_icmp .ge 25, 3) := by decide +kernel
theorem dX3_digest_53 : decode cX3_digest 53 = .ok (.aload_n 3, 1) := by decide +kernel
theorem dX3_digest_54 : decode cX3_digest 54 = .ok (.iload 5, 2) := by decide +kernel
theorem dX3_digest_56 : decode cX3_digest 56 = .ok (.iaload, 1) := by decide +kernel
theorem dX3_digest_57 : decode cX3_digest 57 = .ok (.istore 6, 2) := by decide +kernel
theorem dX3_digest_59 : decode cX3_digest 59 = .ok (.lload_n 1, 1) := by decide +kernel
theorem dX3_digest_60 : decode cX3_digest 60 = .ok (.ldc2_w 202, 3) := by decide +kernel
theorem dX3_digest_63 : decode cX3_digest 63 = .ok (.lmul, 1) := by decide +kernel
theorem dX3_digest_64 : decode cX3_digest 64 = .ok (.iload 6, 2) := by decide +kernel
theorem dX3_digest_66 : decode cX3_digest 66 = .ok (.i2l, 1) := by decide +kernel
theorem dX3_digest_67 : decode cX3_digest 67 = .ok (.ladd, 1) := by decide +kernel
theorem dX3_digest_68 : decode cX3_digest 68 = .ok (.lstore_n 1, 1) := by decide +kernel
theorem dX3_digest_69 : decode cX3_digest 69 = .ok (.iinc 5 1, 3) := by decide +kernel
theorem dX3_digest_72 : decode cX3_digest 72 = .ok (.goto (-26), 3) := by decide +kernel
theorem dX3_digest_75 : decode cX3_digest 75 = .ok (.iconst 0, 1) := by decide +kernel
theorem dX3_digest_76 : decode cX3_digest 76 = .ok (.istore_n 3, 1) := by decide +kernel
theorem dX3_digest_77 : decode cX3_digest 77 = .ok (.iload_n 3, 1) := by decide +kernel
theorem dX3_digest_78 : decode cX3_digest 78 = .ok (.aload_n 0, 1) := by decide +kernel
theorem dX3_digest_79 : decode cX3_digest 79 = .ok (.getfield 28, 3) := by decide +kernel
theorem dX3_digest_82 : decode cX3_digest 82 = .ok (.invokevirtual 56, 3) := by decide +kernel
theorem dX3_digest_85 : decode cX3_digest 85 = .ok (.if_icmp .ge 16, 3) := by decide +kernel
theorem dX3_digest_88 : decode cX3_digest 88 = .ok (.aload_n 0, 1) := by decide +kernel
theorem dX3_digest_89 : decode cX3_digest 89 = .ok (.lload_n 1, 1) := by decide +kernel
theorem dX3_digest_90 : decode cX3_digest 90 = .ok (.iload_n 3, 1) := by decide +kernel
theorem dX3_digest_91 : decode cX3_digest 91 = .ok (.invokevirtual 207, 3) := by decide +kernel
theorem dX3_digest_94 : decode cX3_digest 94 = .ok (.lstore_n 1, 1) := by decide +kernel
theorem dX3_digest_95 : decode cX3_digest 95 = .ok (.iinc 3 1, 3) := by decide +kernel
theorem dX3_digest_98 : decode cX3_digest 98 = .ok (.goto (-21), 3) := by decide +kernel
theorem dX3_digest_101 : decode cX3_digest 101 = .ok (.lload_n 1, 1) := by decide +kernel
theorem dX3_digest_102 : decode cX3_digest 102 = .ok (.lreturn, 1) := by decide +kernel
set_option maxRecDepth 20000 in
theorem ggX3_digestHill_X3_about : GoodIn wsX3_digestHill wsX3_about := goodIn_ca (goodIn_r _ [7, 8, 9, 10, 11, 12, 2, 13, 14, 15, 16, 17, 18, 6, 19, 20, 21, 22, 23, 24, 25, 26, 27, 28, 29, 30, 31, 32, 33, 34, 35, 36, 37, 38, 39, 40, 41, 42, 43, 44, 45, 46, 47, 48, 49, 50, 51, 52, 53, 54, 55, 56, 57, 58, 59, 60, 61, 62, 63, 64, 65, 66, 67, 68, 69, 70, 71, 72, 73, 74, 75, 76, 77, 78, 79, 80, 81, 82, 83, 84, 85, 86, 87, 88, 89, 90, 91, 92, 93, 94, 95, 96, 97, 98, 99, 100, 101, 102, 103, 104, 105, 106, 107, 108, 116, 117, 118, 119, 120, 121, 122, 123, 124, 125, 126, 127, 128, 129, 130] (by decide +kernel) (by decide +kernel)) (goodIn_sub (fun _ h => List.mem_cons_of_mem _ (List.mem_append_right _ h)) (by decide +kernel))
set_option maxRecDepth 20000 in
theorem gX3_digestHill_X3_about : GoodIn wsX3_digestHill (wsV RX3 211 RX3 yX3_about wsX3_about) := goodIn_app (goodIn_of _ (by decide +kernel)) ggX3_digestHill_X3_about
set_option maxRecDepth 20000 in
theorem ggX3_digestHill_X3_hillAt : GoodIn wsX3_digestHill wsX3_hillAt := goodIn_ca (goodIn_r _ [19, 8, 9, 20, 21, 22, 23, 24, 25, 26, 27, 28, 29, 30, 31, 32, 33, 34, 35, 36, 37, 38, 39, 40, 41, 42, 43, 44, 121, 122, 123, 125, 126, 127] (by decide +kernel) (by decide +kernel)) (goodIn_sub (fun _ h => List.mem_cons_of_mem _ (List.mem_append_right _ h)) (by decide +kernel))
set_option maxRecDepth 20000 in
theorem gX3_digestHill_X3_hillAt : GoodIn wsX3_digestHill (wsV RX3 74 RX3 yX3_hillAt wsX3_hillAt) := goodIn_app (goodIn_of _ (by decide +kernel)) ggX3_digestHill_X3_hillAt
set_option maxRecDepth 20000 in
theorem ggX3_digestHill_X3_word : GoodIn wsX3_digestHill wsX3_word := goodIn_ca (goodIn_r _ [112, 8, 9, 2, 13, 16, 17, 18, 6, 19, 20, 21, 22, 23, 24, 25, 26, 27, 28, 29, 30, 31, 32, 33, 34, 35, 36, 37, 38, 39, 40, 41, 42, 43, 44, 113, 91, 92, 61, 93, 94, 114, 52, 53, 48, 54, 55, 56, 57, 58, 59, 60, 62, 63, 64, 65, 66, 67, 68, 69, 70, 71, 72, 73, 74, 75, 76, 77, 78, 79, 80, 81, 82, 83, 84, 85, 115, 87, 88, 89, 90, 116, 117, 118, 119, 120, 121, 122, 123, 125, 126, 127, 128, 129, 130, 124] (by decide +kernel) (by decide +kernel)) (goodIn_sub (fun _ h => List.mem_cons_of_mem _ (List.mem_append_right _ h)) (by decide +kernel))
set_option maxRecDepth 20000 in
theorem gX3_digestHill_X3_word : GoodIn wsX3_digestHill (wsV RX3 214 RX3 yX3_word wsX3_word) := goodIn_app (goodIn_of _ (by decide +kernel)) ggX3_digestHill_X3_word
theorem dX3_digestHill_0 : decode cX3_digestHill 0 = .ok (.lload_n 1, 1) := by decide +kernel
theorem dX3_digestHill_1 : decode cX3_digestHill 1 = .ok (.lstore 4, 2) := by decide +kernel
theorem dX3_digestHill_3 : decode cX3_digestHill 3 = .ok (.iconst 0, 1) := by decide +kernel
theorem dX3_digestHill_4 : decode cX3_digestHill 4 = .ok (.istore 6, 2) := by decide +kernel
theorem dX3_digestHill_6 : decode cX3_digestHill 6 = .ok (.iload 6, 2) := by decide +kernel
theorem dX3_digestHill_8 : decode cX3_digestHill 8 = .ok (.bipush 7, 2) := by decide +kernel
theorem dX3_digestHill_10 : decode cX3_digestHill 10 = .ok (.if_icmp .ge 26, 3) := by decide +kernel
theorem dX3_digestHill_13 : decode cX3_digestHill 13 = .ok (.lload 4, 2) := by decide +kernel
theorem dX3_digestHill_15 : decode cX3_digestHill 15 = .ok (.ldc2_w 202, 3) := by decide +kernel
theorem dX3_digestHill_18 : decode cX3_digestHill 18 = .ok (.lmul, 1) := by decide +kernel
theorem dX3_digestHill_19 : decode cX3_digestHill 19 = .ok (.aload_n 0, 1) := by decide +kernel
theorem dX3_digestHill_20 : decode cX3_digestHill 20 = .ok (.iload_n 3, 1) := by decide +kernel
theorem dX3_digestHill_21 : decode cX3_digestHill 21 = .ok (.iload 6, 2) := by decide +kernel
theorem dX3_digestHill_23 : decode cX3_digestHill 23 = .ok (.invokevirtual 211, 3) := by decide +kernel
theorem dX3_digestHill_26 : decode cX3_digestHill 26 = .ok (.i2l, 1) := by decide +kernel
theorem dX3_digestHill_27 : decode cX3_digestHill 27 = .ok (.ladd, 1) := by decide +kernel
theorem dX3_digestHill_28 : decode cX3_digestHill 28 = .ok (.lstore 4, 2) := by decide +kernel
theorem dX3_digestHill_30 : decode cX3_digestHill 30 = .ok (.iinc 6 1, 3) := by decide +kernel
theorem dX3_digestHill_33 : decode cX3_digestHill 33 = .ok (.goto (-27), 3) := by decide +kernel
theorem dX3_digestHill_36 : decode cX3_digestHill 36 = .ok (.aload_n 0, 1) := by decide +kernel
theorem dX3_digestHill_37 : decode cX3_digestHill 37 = .ok (.iload_n 3, 1) := by decide +kernel
theorem dX3_digestHill_38 : decode cX3_digestHill 38 = .ok (.invokevirtual 74, 3) := by decide +kernel
theorem dX3_digestHill_41 : decode cX3_digestHill 41 = .ok (.getfield 86, 3) := by decide +kernel
theorem dX3_digestHill_44 : decode cX3_digestHill 44 = .ok (.istore 6, 2) := by decide +kernel
theorem dX3_digestHill_46 : decode cX3_digestHill 46 = .ok (.iconst 0, 1) := by decide +kernel
theorem dX3_digestHill_47 : decode cX3_digestHill 47 = .ok (.istore 7, 2) := by decide +kernel
theorem dX3_digestHill_49 : decode cX3_digestHill 49 = .ok (.iload 7, 2) := by decide +kernel
theorem dX3_digestHill_51 : decode cX3_digestHill 51 = .ok (.iload 6, 2) := by decide +kernel
theorem dX3_digestHill_53 : decode cX3_digestHill 53 = .ok (.if_icmp .ge 43, 3) := by decide +kernel
theorem dX3_digestHill_56 : decode cX3_digestHill 56 = .ok (.iconst 0, 1) := by decide +kernel
theorem dX3_digestHill_57 : decode cX3_digestHill 57 = .ok (.istore 8, 2) := by decide +kernel
theorem dX3_digestHill_59 : decode cX3_digestHill 59 = .ok (.iload 8, 2) := by decide +kernel
theorem dX3_digestHill_61 : decode cX3_digestHill 61 = .ok (.iconst 3, 1) := by decide +kernel
theorem dX3_digestHill_62 : decode cX3_digestHill 62 = .ok (.if_icmp .ge 28, 3) := by decide +kernel
theorem dX3_digestHill_65 : decode cX3_digestHill 65 = .ok (.lload 4, 2) := by decide +kernel
theorem dX3_digestHill_67 : decode cX3_digestHill 67 = .ok (.ldc2_w 202, 3) := by decide +kernel
theorem dX3_digestHill_70 : decode cX3_digestHill 70 = .ok (.lmul, 1) := by decide +kernel
theorem dX3_digestHill_71 : decode cX3_digestHill 71 = .ok (.aload_n 0, 1) := by decide +kernel
theorem dX3_digestHill_72 : decode cX3_digestHill 72 = .ok (.iload_n 3, 1) := by decide +kernel
theorem dX3_digestHill_73 : decode cX3_digestHill 73 = .ok (.iload 7, 2) := by decide +kernel
theorem dX3_digestHill_75 : decode cX3_digestHill 75 = .ok (.iload 8, 2) := by decide +kernel
theorem dX3_digestHill_77 : decode cX3_digestHill 77 = .ok (.invokevirtual 214, 3) := by decide +kernel
theorem dX3_digestHill_80 : decode cX3_digestHill 80 = .ok (.i2l, 1) := by decide +kernel
theorem dX3_digestHill_81 : decode cX3_digestHill 81 = .ok (.ladd, 1) := by decide +kernel
theorem dX3_digestHill_82 : decode cX3_digestHill 82 = .ok (.lstore 4, 2) := by decide +kernel
theorem dX3_digestHill_84 : decode cX3_digestHill 84 = .ok (.iinc 8 1, 3) := by decide +kernel
theorem dX3_digestHill_87 : decode cX3_digestHill 87 = .ok (.goto (-28), 3) := by decide +kernel
theorem dX3_digestHill_90 : decode cX3_digestHill 90 = .ok (.iinc 7 1, 3) := by decide +kernel
theorem dX3_digestHill_93 : decode cX3_digestHill 93 = .ok (.goto (-44), 3) := by decide +kernel
theorem dX3_digestHill_96 : decode cX3_digestHill 96 = .ok (.lload 4, 2) := by decide +kernel
theorem dX3_digestHill_98 : decode cX3_digestHill 98 = .ok (.lreturn, 1) := by decide +kernel
set_option maxRecDepth 20000 in
theorem ggX3_hillAt_Jx4a65c_size_8abf5 : GoodIn wsX3_hillAt wsJx4a65c_size_8abf5 := goodIn_r _ [9, 10, 31, 32, 33] (by decide +kernel) (by decide +kernel)
set_option maxRecDepth 20000 in
theorem gX3_hillAt_Jx4a65c_size_8abf5 : GoodIn wsX3_hillAt (wsV RX3 56 RJx4a65c yJx4a65c_size_8abf5 wsJx4a65c_size_8abf5) := goodIn_app (goodIn_of _ (by decide +kernel)) ggX3_hillAt_Jx4a65c_size_8abf5
set_option maxRecDepth 20000 in
theorem ggX3_hillAt_Jx4a65c_get_915e3 : GoodIn wsX3_hillAt wsJx4a65c_get_915e3 := goodIn_r _ [14, 10, 15, 16, 17, 18, 19, 20, 21, 22, 23, 24, 25, 8, 26, 27, 31, 32, 33] (by decide +kernel) (by decide +kernel)
set_option maxRecDepth 20000 in
theorem gX3_hillAt_Jx4a65c_get_915e3 : GoodIn wsX3_hillAt (wsV RX3 219 RJx4a65c yJx4a65c_get_915e3 wsJx4a65c_get_915e3) := goodIn_app (goodIn_of _ (by decide +kernel)) ggX3_hillAt_Jx4a65c_get_915e3
theorem dX3_hillAt_0 : decode cX3_hillAt 0 = .ok (.iload_n 1, 1) := by decide +kernel
theorem dX3_hillAt_1 : decode cX3_hillAt 1 = .ok (.ifCond .lt 14, 3) := by decide +kernel
theorem dX3_hillAt_4 : decode cX3_hillAt 4 = .ok (.iload_n 1, 1) := by decide +kernel
theorem dX3_hillAt_5 : decode cX3_hillAt 5 = .ok (.aload_n 0, 1) := by decide +kernel
theorem dX3_hillAt_6 : decode cX3_hillAt 6 = .ok (.getfield 28, 3) := by decide +kernel
theorem dX3_hillAt_9 : decode cX3_hillAt 9 = .ok (.invokevirtual 56, 3) := by decide +kernel
theorem dX3_hillAt_12 : decode cX3_hillAt 12 = .ok (.if_icmp .lt 13, 3) := by decide +kernel
theorem dX3_hillAt_15 : decode cX3_hillAt 15 = .ok (.new 106, 3) := by decide +kernel
theorem dX3_hillAt_18 : decode cX3_hillAt 18 = .ok (.dup, 1) := by decide +kernel
theorem dX3_hillAt_19 : decode cX3_hillAt 19 = .ok (.ldc 217, 2) := by decide +kernel
theorem dX3_hillAt_21 : decode cX3_hillAt 21 = .ok (.invokespecial 110, 3) := by decide +kernel
theorem dX3_hillAt_24 : decode cX3_hillAt 24 = .ok (.athrow, 1) := by decide +kernel
theorem dX3_hillAt_25 : decode cX3_hillAt 25 = .ok (.aload_n 0, 1) := by decide +kernel
theorem dX3_hillAt_26 : decode cX3_hillAt 26 = .ok (.getfield 28, 3) := by decide +kernel
theorem dX3_hillAt_29 : decode cX3_hillAt 29 = .ok (.iload_n 1, 1) := by decide +kernel
theorem dX3_hillAt_30 : decode cX3_hillAt 30 = .ok (.invokevirtual 219, 3) := by decide +kernel
theorem dX3_hillAt_33 : decode cX3_hillAt 33 = .ok (.checkcast 65, 3) := by decide +kernel
theorem dX3_hillAt_36 : decode cX3_hillAt 36 = .ok (.areturn, 1) := by decide +kernel
set_option maxRecDepth 20000 in
theorem ggX3_checkCode_X0_has : GoodIn wsX3_checkCode wsX0_has := goodIn_r _ [8, 9, 13] (by decide +kernel) (by decide +kernel)
set_option maxRecDepth 20000 in
theorem gX3_checkCode_X0_has : GoodIn wsX3_checkCode (wsV RX3 117 RX0 yX0_has wsX0_has) := goodIn_app (goodIn_of _ (by decide +kernel)) ggX3_checkCode_X0_has
theorem dX3_checkCode_0 : decode cX3_checkCode 0 = .ok (.aload_n 0, 1) := by decide +kernel
theorem dX3_checkCode_1 : decode cX3_checkCode 1 = .ok (.getfield 12, 3) := by decide +kernel
theorem dX3_checkCode_4 : decode cX3_checkCode 4 = .ok (.iload_n 1, 1) := by decide +kernel
theorem dX3_checkCode_5 : decode cX3_checkCode 5 = .ok (.invokevirtual 117, 3) := by decide +kernel
theorem dX3_checkCode_8 : decode cX3_checkCode 8 = .ok (.ifCond .ne 13, 3) := by decide +kernel
theorem dX3_checkCode_11 : decode cX3_checkCode 11 = .ok (.new 106, 3) := by decide +kernel
theorem dX3_checkCode_14 : decode cX3_checkCode 14 = .ok (.dup, 1) := by decide +kernel
theorem dX3_checkCode_15 : decode cX3_checkCode 15 = .ok (.ldc 223, 2) := by decide +kernel
theorem dX3_checkCode_17 : decode cX3_checkCode 17 = .ok (.invokespecial 110, 3) := by decide +kernel
theorem dX3_checkCode_20 : decode cX3_checkCode 20 = .ok (.athrow, 1) := by decide +kernel
theorem dX3_checkCode_21 : decode cX3_checkCode 21 = .ok (.return_, 1) := by decide +kernel
theorem dX3_checkStrength_0 : decode cX3_checkStrength 0 = .ok (.iload_n 1, 1) := by decide +kernel
theorem dX3_checkStrength_1 : decode cX3_checkStrength 1 = .ok (.iconst 1, 1) := by decide +kernel
theorem dX3_checkStrength_2 : decode cX3_checkStrength 2 = .ok (.if_icmp .lt 9, 3) := by decide +kernel
theorem dX3_checkStrength_5 : decode cX3_checkStrength 5 = .ok (.iload_n 1, 1) := by decide +kernel
theorem dX3_checkStrength_6 : decode cX3_checkStrength 6 = .ok (.bipush 9, 2) := by decide +kernel
theorem dX3_checkStrength_8 : decode cX3_checkStrength 8 = .ok (.if_icmp .le 13, 3) := by decide +kernel
theorem dX3_checkStrength_11 : decode cX3_checkStrength 11 = .ok (.new 32, 3) := by decide +kernel
theorem dX3_checkStrength_14 : decode cX3_checkStrength 14 = .ok (.dup, 1) := by decide +kernel
theorem dX3_checkStrength_15 : decode cX3_checkStrength 15 = .ok (.ldc 225, 2) := by decide +kernel
theorem dX3_checkStrength_17 : decode cX3_checkStrength 17 = .ok (.invokespecial 36, 3) := by decide +kernel
theorem dX3_checkStrength_20 : decode cX3_checkStrength 20 = .ok (.athrow, 1) := by decide +kernel
theorem dX3_checkStrength_21 : decode cX3_checkStrength 21 = .ok (.return_, 1) := by decide +kernel
theorem dX3_checkDelay_0 : decode cX3_checkDelay 0 = .ok (.iload_n 1, 1) := by decide +kernel
theorem dX3_checkDelay_1 : decode cX3_checkDelay 1 = .ok (.ifCond .lt 14, 3) := by decide +kernel
theorem dX3_checkDelay_4 : decode cX3_checkDelay 4 = .ok (.iload_n 1, 1) := by decide +kernel
theorem dX3_checkDelay_5 : decode cX3_checkDelay 5 = .ok (.aload_n 0, 1) := by decide +kernel
theorem dX3_checkDelay_6 : decode cX3_checkDelay 6 = .ok (.getfield 12, 3) := by decide +kernel
theorem dX3_checkDelay_9 : decode cX3_checkDelay 9 = .ok (.getfield 39, 3) := by decide +kernel
theorem dX3_checkDelay_12 : decode cX3_checkDelay 12 = .ok (.if_icmp .lt 13, 3) := by decide +kernel
theorem dX3_checkDelay_15 : decode cX3_checkDelay 15 = .ok (.new 32, 3) := by decide +kernel
theorem dX3_checkDelay_18 : decode cX3_checkDelay 18 = .ok (.dup, 1) := by decide +kernel
theorem dX3_checkDelay_19 : decode cX3_checkDelay 19 = .ok (.ldc 227, 2) := by decide +kernel
theorem dX3_checkDelay_21 : decode cX3_checkDelay 21 = .ok (.invokespecial 36, 3) := by decide +kernel
theorem dX3_checkDelay_24 : decode cX3_checkDelay 24 = .ok (.athrow, 1) := by decide +kernel
theorem dX3_checkDelay_25 : decode cX3_checkDelay 25 = .ok (.return_, 1) := by decide +kernel
theorem dX3_checkTime_0 : decode cX3_checkTime 0 = .ok (.iload_n 1, 1) := by decide +kernel
theorem dX3_checkTime_1 : decode cX3_checkTime 1 = .ok (.ifCond .lt 10, 3) := by decide +kernel
theorem dX3_checkTime_4 : decode cX3_checkTime 4 = .ok (.iload_n 1, 1) := by decide +kernel
theorem dX3_checkTime_5 : decode cX3_checkTime 5 = .ok (.sipush 999, 3) := by decide +kernel
theorem dX3_checkTime_8 : decode cX3_checkTime 8 = .ok (.if_icmp .le 13, 3) := by decide +kernel
theorem dX3_checkTime_11 : decode cX3_checkTime 11 = .ok (.new 32, 3) := by decide +kernel
theorem dX3_checkTime_14 : decode cX3_checkTime 14 = .ok (.dup, 1) := by decide +kernel
theorem dX3_checkTime_15 : decode cX3_checkTime 15 = .ok (.ldc 229, 2) := by decide +kernel
theorem dX3_checkTime_17 : decode cX3_checkTime 17 = .ok (.invokespecial 36, 3) := by decide +kernel
theorem dX3_checkTime_20 : decode cX3_checkTime 20 = .ok (.athrow, 1) := by decide +kernel
theorem dX3_checkTime_21 : decode cX3_checkTime 21 = .ok (.return_, 1) := by decide +kernel
set_option maxRecDepth 20000 in
theorem ggX3_allWords_Jx4a65c_size_8abf5 : GoodIn wsX3_allWords wsJx4a65c_size_8abf5 := goodIn_r _ [8, 9, 35, 36, 37] (by decide +kernel) (by decide +kernel)
set_option maxRecDepth 20000 in
theorem gX3_allWords_Jx4a65c_size_8abf5 : GoodIn wsX3_allWords (wsV RX3 56 RJx4a65c yJx4a65c_size_8abf5 wsJx4a65c_size_8abf5) := goodIn_app (goodIn_of _ (by decide +kernel)) ggX3_allWords_Jx4a65c_size_8abf5
set_option maxRecDepth 20000 in
theorem ggX3_allWords_Jx4a65c_get_915e3 : GoodIn wsX3_allWords wsJx4a65c_get_915e3 := goodIn_r _ [13, 9, 14, 15, 16, 17, 18, 19, 20, 21, 22, 23, 24, 7, 25, 26, 35, 36, 37] (by decide +kernel) (by decide +kernel)
set_option maxRecDepth 20000 in
theorem gX3_allWords_Jx4a65c_get_915e3 : GoodIn wsX3_allWords (wsV RX3 219 RJx4a65c yJx4a65c_get_915e3 wsJx4a65c_get_915e3) := goodIn_app (goodIn_of _ (by decide +kernel)) ggX3_allWords_Jx4a65c_get_915e3
theorem dX3_allWords_0 : decode cX3_allWords 0 = .ok (.iconst 0, 1) := by decide +kernel
theorem dX3_allWords_1 : decode cX3_allWords 1 = .ok (.istore_n 1, 1) := by decide +kernel
theorem dX3_allWords_2 : decode cX3_allWords 2 = .ok (.iconst 0, 1) := by decide +kernel
theorem dX3_allWords_3 : decode cX3_allWords 3 = .ok (.istore_n 2, 1) := by decide +kernel
theorem dX3_allWords_4 : decode cX3_allWords 4 = .ok (.iload_n 2, 1) := by decide +kernel
theorem dX3_allWords_5 : decode cX3_allWords 5 = .ok (.aload_n 0, 1) := by decide +kernel
theorem dX3_allWords_6 : decode cX3_allWords 6 = .ok (.getfield 28, 3) := by decide +kernel
theorem dX3_allWords_9 : decode cX3_allWords 9 = .ok (.invokevirtual 56, 3) := by decide +kernel
theorem dX3_allWords_12 : decode cX3_allWords 12 = .ok (.if_icmp .ge 26, 3) := by decide +kernel
theorem dX3_allWords_15 : decode cX3_allWords 15 = .ok (.iload_n 1, 1) := by decide +kernel
theorem dX3_allWords_16 : decode cX3_allWords 16 = .ok (.aload_n 0, 1) := by decide +kernel
theorem dX3_allWords_17 : decode cX3_allWords 17 = .ok (.getfield 28, 3) := by decide +kernel
theorem dX3_allWords_20 : decode cX3_allWords 20 = .ok (.iload_n 2, 1) := by decide +kernel
theorem dX3_allWords_21 : decode cX3_allWords 21 = .ok (.invokevirtual 219, 3) := by decide +kernel
theorem dX3_allWords_24 : decode cX3_allWords 24 = .ok (.checkcast 65, 3) := by decide +kernel
theorem dX3_allWords_27 : decode cX3_allWords 27 = .ok (.getfield 86, 3) := by decide +kernel
theorem dX3_allWords_30 : decode cX3_allWords 30 = .ok (.iadd, 1) := by decide +kernel
theorem dX3_allWords_31 : decode cX3_allWords 31 = .ok (.istore_n 1, 1) := by decide +kernel
end
section
theorem dX3_allWords_32 : decode cX3_allWords 32 = .ok (.iinc 2 1, 3) := by decide +kernel
theorem dX3_allWords_35 : decode cX3_allWords 35 = .ok (.goto (-31), 3) := by decide +kernel
theorem dX3_allWords_38 : decode cX3_allWords 38 = .ok (.iload_n 1, 1) := by decide +kernel
theorem dX3_allWords_39 : decode cX3_allWords 39 = .ok (.ireturn, 1) := by decide +kernel
set_option maxRecDepth 20000 in
theorem ggX3_allWrongWords_Jx4a65c_size_8abf5 : GoodIn wsX3_allWrongWords wsJx4a65c_size_8abf5 := goodIn_r _ [8, 9, 80, 81, 82] (by decide +kernel) (by decide +kernel)
set_option maxRecDepth 20000 in
theorem gX3_allWrongWords_Jx4a65c_size_8abf5 : GoodIn wsX3_allWrongWords (wsV RX3 56 RJx4a65c yJx4a65c_size_8abf5 wsJx4a65c_size_8abf5) := goodIn_app (goodIn_of _ (by decide +kernel)) ggX3_allWrongWords_Jx4a65c_size_8abf5
set_option maxRecDepth 20000 in
theorem ggX3_allWrongWords_Jx4a65c_get_915e3 : GoodIn wsX3_allWrongWords wsJx4a65c_get_915e3 := goodIn_r _ [13, 9, 14, 15, 16, 17, 18, 19, 20, 21, 22, 23, 24, 7, 25, 26, 80, 81, 82] (by decide +kernel) (by decide +kernel)
set_option maxRecDepth 20000 in
theorem gX3_allWrongWords_Jx4a65c_get_915e3 : GoodIn wsX3_allWrongWords (wsV RX3 219 RJx4a65c yJx4a65c_get_915e3 wsJx4a65c_get_915e3) := goodIn_app (goodIn_of _ (by decide +kernel)) ggX3_allWrongWords_Jx4a65c_get_915e3
set_option maxRecDepth 20000 in
theorem ggX3_allWrongWords_X2_wrongWords : GoodIn wsX3_allWrongWords wsX2_wrongWords := goodIn_r _ [31, 32, 33, 34, 35, 30, 36, 37, 38, 39, 40, 41, 42, 43, 44, 45, 46, 47, 48, 49, 50, 51, 52, 53, 54, 55, 56, 57, 58, 59, 60, 61, 62, 63, 64, 65, 66, 67, 68, 69, 70, 71, 72, 73, 74, 75, 76, 83, 84, 85, 86, 87, 88, 89, 90, 91] (by decide +kernel) (by decide +kernel)
set_option maxRecDepth 20000 in
theorem gX3_allWrongWords_X2_wrongWords : GoodIn wsX3_allWrongWords (wsV RX3 155 RX2 yX2_wrongWords wsX2_wrongWords) := goodIn_app (goodIn_of _ (by decide +kernel)) ggX3_allWrongWords_X2_wrongWords
theorem dX3_allWrongWords_0 : decode cX3_allWrongWords 0 = .ok (.iconst 0, 1) := by decide +kernel
theorem dX3_allWrongWords_1 : decode cX3_allWrongWords 1 = .ok (.istore_n 1, 1) := by decide +kernel
theorem dX3_allWrongWords_2 : decode cX3_allWrongWords 2 = .ok (.iconst 0, 1) := by decide +kernel
theorem dX3_allWrongWords_3 : decode cX3_allWrongWords 3 = .ok (.istore_n 2, 1) := by decide +kernel
theorem dX3_allWrongWords_4 : decode cX3_allWrongWords 4 = .ok (.iload_n 2, 1) := by decide +kernel
theorem dX3_allWrongWords_5 : decode cX3_allWrongWords 5 = .ok (.aload_n 0, 1) := by decide +kernel
theorem dX3_allWrongWords_6 : decode cX3_allWrongWords 6 = .ok (.getfield 28, 3) := by decide +kernel
theorem dX3_allWrongWords_9 : decode cX3_allWrongWords 9 = .ok (.invokevirtual 56, 3) := by decide +kernel
theorem dX3_allWrongWords_12 : decode cX3_allWrongWords 12 = .ok (.if_icmp .ge 30, 3) := by decide +kernel
theorem dX3_allWrongWords_15 : decode cX3_allWrongWords 15 = .ok (.iload_n 1, 1) := by decide +kernel
theorem dX3_allWrongWords_16 : decode cX3_allWrongWords 16 = .ok (.aload_n 0, 1) := by decide +kernel
theorem dX3_allWrongWords_17 : decode cX3_allWrongWords 17 = .ok (.getfield 21, 3) := by decide +kernel
theorem dX3_allWrongWords_20 : decode cX3_allWrongWords 20 = .ok (.aload_n 0, 1) := by decide +kernel
theorem dX3_allWrongWords_21 : decode cX3_allWrongWords 21 = .ok (.getfield 28, 3) := by decide +kernel
theorem dX3_allWrongWords_24 : decode cX3_allWrongWords 24 = .ok (.iload_n 2, 1) := by decide +kernel
theorem dX3_allWrongWords_25 : decode cX3_allWrongWords 25 = .ok (.invokevirtual 219, 3) := by decide +kernel
theorem dX3_allWrongWords_28 : decode cX3_allWrongWords 28 = .ok (.checkcast 65, 3) := by decide +kernel
theorem dX3_allWrongWords_31 : decode cX3_allWrongWords 31 = .ok (.invokevirtual 155, 3) := by decide +kernel
theorem dX3_allWrongWords_34 : decode cX3_allWrongWords 34 = .ok (.iadd, 1) := by decide +kernel
theorem dX3_allWrongWords_35 : decode cX3_allWrongWords 35 = .ok (.istore_n 1, 1) := by decide +kernel
theorem dX3_allWrongWords_36 : decode cX3_allWrongWords 36 = .ok (.iinc 2 1, 3) := by decide +kernel
theorem dX3_allWrongWords_39 : decode cX3_allWrongWords 39 = .ok (.goto (-35), 3) := by decide +kernel
theorem dX3_allWrongWords_42 : decode cX3_allWrongWords 42 = .ok (.iload_n 1, 1) := by decide +kernel
theorem dX3_allWrongWords_43 : decode cX3_allWrongWords 43 = .ok (.ireturn, 1) := by decide +kernel
set_option maxRecDepth 20000 in
theorem ggX3_wrongWordsWith_X2_addWords : GoodIn wsX3_wrongWordsWith wsX2_addWords := goodIn_r _ [7, 8, 9, 10, 11, 6, 12, 13, 14, 15, 16, 17, 18, 19, 20, 21, 22, 23, 24, 25, 26, 27, 28, 29, 30, 31, 32, 33, 34, 35, 36, 37, 38, 39, 92, 93, 94, 95, 96, 100, 101, 102, 103] (by decide +kernel) (by decide +kernel)
set_option maxRecDepth 20000 in
theorem gX3_wrongWordsWith_X2_addWords : GoodIn wsX3_wrongWordsWith (wsV RX3 96 RX2 yX2_addWords wsX2_addWords) := goodIn_app (goodIn_of _ (by decide +kernel)) ggX3_wrongWordsWith_X2_addWords
set_option maxRecDepth 20000 in
theorem ggX3_wrongWordsWith_X3_allWrongWords : GoodIn wsX3_wrongWordsWith wsX3_allWrongWords := goodIn_r _ [44, 45, 2, 46, 47, 48, 49, 50, 51, 52, 53, 54, 55, 56, 57, 58, 59, 60, 61, 62, 63, 64, 65, 66, 67, 68, 69, 70, 71, 72, 6, 73, 8, 74, 75, 76, 77, 16, 13, 14, 23, 24, 25, 20, 26, 27, 78, 79, 80, 81, 82, 83, 84, 85, 86, 15, 28, 29, 30, 31, 32, 33, 34, 35, 36, 37, 38, 39, 87, 88, 89, 90, 91, 18, 19, 21, 22, 97, 98, 99, 104, 105, 106, 92, 93, 94, 95, 96, 100, 101, 102, 103] (by decide +kernel) (by decide +kernel)
set_option maxRecDepth 20000 in
theorem gX3_wrongWordsWith_X3_allWrongWords : GoodIn wsX3_wrongWordsWith (wsV RX3 170 RX3 yX3_allWrongWords wsX3_allWrongWords) := goodIn_app (goodIn_of _ (by decide +kernel)) ggX3_wrongWordsWith_X3_allWrongWords
theorem dX3_wrongWordsWith_0 : decode cX3_wrongWordsWith 0 = .ok (.iload_n 2, 1) := by decide +kernel
theorem dX3_wrongWordsWith_1 : decode cX3_wrongWordsWith 1 = .ok (.aload_n 1, 1) := by decide +kernel
theorem dX3_wrongWordsWith_2 : decode cX3_wrongWordsWith 2 = .ok (.getfield 89, 3) := by decide +kernel
theorem dX3_wrongWordsWith_5 : decode cX3_wrongWordsWith 5 = .ok (.isub, 1) := by decide +kernel
theorem dX3_wrongWordsWith_6 : decode cX3_wrongWordsWith 6 = .ok (.istore_n 3, 1) := by decide +kernel
theorem dX3_wrongWordsWith_7 : decode cX3_wrongWordsWith 7 = .ok (.aload_n 0, 1) := by decide +kernel
theorem dX3_wrongWordsWith_8 : decode cX3_wrongWordsWith 8 = .ok (.getfield 21, 3) := by decide +kernel
theorem dX3_wrongWordsWith_11 : decode cX3_wrongWordsWith 11 = .ok (.aload_n 1, 1) := by decide +kernel
theorem dX3_wrongWordsWith_12 : decode cX3_wrongWordsWith 12 = .ok (.iload_n 3, 1) := by decide +kernel
theorem dX3_wrongWordsWith_13 : decode cX3_wrongWordsWith 13 = .ok (.invokevirtual 96, 3) := by decide +kernel
theorem dX3_wrongWordsWith_16 : decode cX3_wrongWordsWith 16 = .ok (.aload_n 0, 1) := by decide +kernel
theorem dX3_wrongWordsWith_17 : decode cX3_wrongWordsWith 17 = .ok (.invokevirtual 170, 3) := by decide +kernel
theorem dX3_wrongWordsWith_20 : decode cX3_wrongWordsWith 20 = .ok (.istore 4, 2) := by decide +kernel
theorem dX3_wrongWordsWith_22 : decode cX3_wrongWordsWith 22 = .ok (.aload_n 0, 1) := by decide +kernel
theorem dX3_wrongWordsWith_23 : decode cX3_wrongWordsWith 23 = .ok (.getfield 21, 3) := by decide +kernel
theorem dX3_wrongWordsWith_26 : decode cX3_wrongWordsWith 26 = .ok (.aload_n 1, 1) := by decide +kernel
theorem dX3_wrongWordsWith_27 : decode cX3_wrongWordsWith 27 = .ok (.iload_n 3, 1) := by decide +kernel
theorem dX3_wrongWordsWith_28 : decode cX3_wrongWordsWith 28 = .ok (.ineg, 1) := by decide +kernel
theorem dX3_wrongWordsWith_29 : decode cX3_wrongWordsWith 29 = .ok (.invokevirtual 96, 3) := by decide +kernel
theorem dX3_wrongWordsWith_32 : decode cX3_wrongWordsWith 32 = .ok (.iload 4, 2) := by decide +kernel
theorem dX3_wrongWordsWith_34 : decode cX3_wrongWordsWith 34 = .ok (.ireturn, 1) := by decide +kernel
set_option maxRecDepth 20000 in
theorem ggX3_endOfAll_Jx4a65c_size_8abf5 : GoodIn wsX3_endOfAll wsJx4a65c_size_8abf5 := goodIn_r _ [13, 14, 47, 48, 49] (by decide +kernel) (by decide +kernel)
set_option maxRecDepth 20000 in
theorem gX3_endOfAll_Jx4a65c_size_8abf5 : GoodIn wsX3_endOfAll (wsV RX3 56 RJx4a65c yJx4a65c_size_8abf5 wsJx4a65c_size_8abf5) := goodIn_app (goodIn_of _ (by decide +kernel)) ggX3_endOfAll_Jx4a65c_size_8abf5
set_option maxRecDepth 20000 in
theorem ggX3_endOfAll_Jx4a65c_get_915e3 : GoodIn wsX3_endOfAll wsJx4a65c_get_915e3 := goodIn_r _ [18, 14, 19, 20, 21, 22, 23, 24, 25, 26, 27, 28, 29, 12, 30, 31, 47, 48, 49] (by decide +kernel) (by decide +kernel)
set_option maxRecDepth 20000 in
theorem gX3_endOfAll_Jx4a65c_get_915e3 : GoodIn wsX3_endOfAll (wsV RX3 219 RJx4a65c yJx4a65c_get_915e3 wsJx4a65c_get_915e3) := goodIn_app (goodIn_of _ (by decide +kernel)) ggX3_endOfAll_Jx4a65c_get_915e3
set_option maxRecDepth 20000 in
theorem ggX3_endOfAll_X1_end : GoodIn wsX3_endOfAll wsX1_end := goodIn_r _ [36, 37, 38, 39, 40, 35, 41, 42, 50, 51, 52, 53, 54] (by decide +kernel) (by decide +kernel)
set_option maxRecDepth 20000 in
theorem gX3_endOfAll_X1_end : GoodIn wsX3_endOfAll (wsV RX3 159 RX1 yX1_end wsX1_end) := goodIn_app (goodIn_of _ (by decide +kernel)) ggX3_endOfAll_X1_end
theorem dX3_endOfAll_0 : decode cX3_endOfAll 0 = .ok (.iconst 0, 1) := by decide +kernel
theorem dX3_endOfAll_1 : decode cX3_endOfAll 1 = .ok (.istore_n 1, 1) := by decide +kernel
theorem dX3_endOfAll_2 : decode cX3_endOfAll 2 = .ok (.iconst 0, 1) := by decide +kernel
theorem dX3_endOfAll_3 : decode cX3_endOfAll 3 = .ok (.istore_n 2, 1) := by decide +kernel
theorem dX3_endOfAll_4 : decode cX3_endOfAll 4 = .ok (.iload_n 2, 1) := by decide +kernel
theorem dX3_endOfAll_5 : decode cX3_endOfAll 5 = .ok (.aload_n 0, 1) := by decide +kernel
theorem dX3_endOfAll_6 : decode cX3_endOfAll 6 = .ok (.getfield 28, 3) := by decide +kernel
theorem dX3_endOfAll_9 : decode cX3_endOfAll 9 = .ok (.invokevirtual 56, 3) := by decide +kernel
theorem dX3_endOfAll_12 : decode cX3_endOfAll 12 = .ok (.if_icmp .ge 35, 3) := by decide +kernel
theorem dX3_endOfAll_15 : decode cX3_endOfAll 15 = .ok (.iload_n 1, 1) := by decide +kernel
theorem dX3_endOfAll_16 : decode cX3_endOfAll 16 = .ok (.aload_n 0, 1) := by decide +kernel
theorem dX3_endOfAll_17 : decode cX3_endOfAll 17 = .ok (.getfield 28, 3) := by decide +kernel
theorem dX3_endOfAll_20 : decode cX3_endOfAll 20 = .ok (.iload_n 2, 1) := by decide +kernel
theorem dX3_endOfAll_21 : decode cX3_endOfAll 21 = .ok (.invokevirtual 219, 3) := by decide +kernel
theorem dX3_endOfAll_24 : decode cX3_endOfAll 24 = .ok (.checkcast 65, 3) := by decide +kernel
theorem dX3_endOfAll_27 : decode cX3_endOfAll 27 = .ok (.aload_n 0, 1) := by decide +kernel
theorem dX3_endOfAll_28 : decode cX3_endOfAll 28 = .ok (.getfield 12, 3) := by decide +kernel
theorem dX3_endOfAll_31 : decode cX3_endOfAll 31 = .ok (.getfield 39, 3) := by decide +kernel
theorem dX3_endOfAll_34 : decode cX3_endOfAll 34 = .ok (.invokevirtual 159, 3) := by decide +kernel
theorem dX3_endOfAll_37 : decode cX3_endOfAll 37 = .ok (.invokestatic 231, 3) := by decide +kernel
theorem dX3_endOfAll_40 : decode cX3_endOfAll 40 = .ok (.istore_n 1, 1) := by decide +kernel
theorem dX3_endOfAll_41 : decode cX3_endOfAll 41 = .ok (.iinc 2 1, 3) := by decide +kernel
theorem dX3_endOfAll_44 : decode cX3_endOfAll 44 = .ok (.goto (-40), 3) := by decide +kernel
theorem dX3_endOfAll_47 : decode cX3_endOfAll 47 = .ok (.iload_n 1, 1) := by decide +kernel
theorem dX3_endOfAll_48 : decode cX3_endOfAll 48 = .ok (.ireturn, 1) := by decide +kernel
set_option maxRecDepth 20000 in
theorem ggX3_isTaken_Jx4a65c_size_8abf5 : GoodIn wsX3_isTaken wsJx4a65c_size_8abf5 := goodIn_r _ [8, 9, 35, 36, 37] (by decide +kernel) (by decide +kernel)
set_option maxRecDepth 20000 in
theorem gX3_isTaken_Jx4a65c_size_8abf5 : GoodIn wsX3_isTaken (wsV RX3 56 RJx4a65c yJx4a65c_size_8abf5 wsJx4a65c_size_8abf5) := goodIn_app (goodIn_of _ (by decide +kernel)) ggX3_isTaken_Jx4a65c_size_8abf5
set_option maxRecDepth 20000 in
theorem ggX3_isTaken_Jx4a65c_get_915e3 : GoodIn wsX3_isTaken wsJx4a65c_get_915e3 := goodIn_r _ [13, 9, 14, 15, 16, 17, 18, 19, 20, 21, 22, 23, 24, 7, 25, 26, 35, 36, 37] (by decide +kernel) (by decide +kernel)
set_option maxRecDepth 20000 in
theorem gX3_isTaken_Jx4a65c_get_915e3 : GoodIn wsX3_isTaken (wsV RX3 219 RJx4a65c yJx4a65c_get_915e3 wsJx4a65c_get_915e3) := goodIn_app (goodIn_of _ (by decide +kernel)) ggX3_isTaken_Jx4a65c_get_915e3
theorem dX3_isTaken_0 : decode cX3_isTaken 0 = .ok (.iconst 0, 1) := by decide +kernel
theorem dX3_isTaken_1 : decode cX3_isTaken 1 = .ok (.istore_n 2, 1) := by decide +kernel
theorem dX3_isTaken_2 : decode cX3_isTaken 2 = .ok (.iload_n 2, 1) := by decide +kernel
theorem dX3_isTaken_3 : decode cX3_isTaken 3 = .ok (.aload_n 0, 1) := by decide +kernel
theorem dX3_isTaken_4 : decode cX3_isTaken 4 = .ok (.getfield 28, 3) := by decide +kernel
theorem dX3_isTaken_7 : decode cX3_isTaken 7 = .ok (.invokevirtual 56, 3) := by decide +kernel
theorem dX3_isTaken_10 : decode cX3_isTaken 10 = .ok (.if_icmp .ge 29, 3) := by decide +kernel
theorem dX3_isTaken_13 : decode cX3_isTaken 13 = .ok (.aload_n 0, 1) := by decide +kernel
theorem dX3_isTaken_14 : decode cX3_isTaken 14 = .ok (.getfield 28, 3) := by decide +kernel
theorem dX3_isTaken_17 : decode cX3_isTaken 17 = .ok (.iload_n 2, 1) := by decide +kernel
theorem dX3_isTaken_18 : decode cX3_isTaken 18 = .ok (.invokevirtual 219, 3) := by decide +kernel
theorem dX3_isTaken_21 : decode cX3_isTaken 21 = .ok (.checkcast 65, 3) := by decide +kernel
theorem dX3_isTaken_24 : decode cX3_isTaken 24 = .ok (.getfield 152, 3) := by decide +kernel
theorem dX3_isTaken_27 : decode cX3_isTaken 27 = .ok (.iload_n 1, 1) := by decide +kernel
theorem dX3_isTaken_28 : decode cX3_isTaken 28 = .ok (.if_icmp .ne 5, 3) := by decide +kernel
theorem dX3_isTaken_31 : decode cX3_isTaken 31 = .ok (.iconst 1, 1) := by decide +kernel
theorem dX3_isTaken_32 : decode cX3_isTaken 32 = .ok (.ireturn, 1) := by decide +kernel
theorem dX3_isTaken_33 : decode cX3_isTaken 33 = .ok (.iinc 2 1, 3) := by decide +kernel
theorem dX3_isTaken_36 : decode cX3_isTaken 36 = .ok (.goto (-34), 3) := by decide +kernel
theorem dX3_isTaken_39 : decode cX3_isTaken 39 = .ok (.iconst 0, 1) := by decide +kernel
theorem dX3_isTaken_40 : decode cX3_isTaken 40 = .ok (.ireturn, 1) := by decide +kernel
set_option maxRecDepth 20000 in
theorem ggX3_freeCodes_X3_isTaken : GoodIn wsX3_freeCodes wsX3_isTaken := goodIn_r _ [7, 8, 9, 10, 11, 12, 13, 14, 15, 16, 17, 18, 19, 20, 21, 22, 23, 24, 25, 26, 27, 28, 29, 30, 31, 32, 33, 34, 35, 36, 38, 39, 40, 41, 42, 43, 44, 45] (by decide +kernel) (by decide +kernel)
set_option maxRecDepth 20000 in
theorem gX3_freeCodes_X3_isTaken : GoodIn wsX3_freeCodes (wsV RX3 188 RX3 yX3_isTaken wsX3_isTaken) := goodIn_app (goodIn_of _ (by decide +kernel)) ggX3_freeCodes_X3_isTaken
theorem dX3_freeCodes_0 : decode cX3_freeCodes 0 = .ok (.iconst 0, 1) := by decide +kernel
theorem dX3_freeCodes_1 : decode cX3_freeCodes 1 = .ok (.istore_n 1, 1) := by decide +kernel
theorem dX3_freeCodes_2 : decode cX3_freeCodes 2 = .ok (.iconst 0, 1) := by decide +kernel
theorem dX3_freeCodes_3 : decode cX3_freeCodes 3 = .ok (.istore_n 2, 1) := by decide +kernel
theorem dX3_freeCodes_4 : decode cX3_freeCodes 4 = .ok (.iload_n 2, 1) := by decide +kernel
theorem dX3_freeCodes_5 : decode cX3_freeCodes 5 = .ok (.aload_n 0, 1) := by decide +kernel
theorem dX3_freeCodes_6 : decode cX3_freeCodes 6 = .ok (.getfield 12, 3) := by decide +kernel
theorem dX3_freeCodes_9 : decode cX3_freeCodes 9 = .ok (.getfield 39, 3) := by decide +kernel
theorem dX3_freeCodes_12 : decode cX3_freeCodes 12 = .ok (.if_icmp .ge 20, 3) := by decide +kernel
theorem dX3_freeCodes_15 : decode cX3_freeCodes 15 = .ok (.aload_n 0, 1) := by decide +kernel
theorem dX3_freeCodes_16 : decode cX3_freeCodes 16 = .ok (.iload_n 2, 1) := by decide +kernel
theorem dX3_freeCodes_17 : decode cX3_freeCodes 17 = .ok (.invokevirtual 188, 3) := by decide +kernel
theorem dX3_freeCodes_20 : decode cX3_freeCodes 20 = .ok (.ifCond .ne 6, 3) := by decide +kernel
theorem dX3_freeCodes_23 : decode cX3_freeCodes 23 = .ok (.iinc 1 1, 3) := by decide +kernel
theorem dX3_freeCodes_26 : decode cX3_freeCodes 26 = .ok (.iinc 2 1, 3) := by decide +kernel
theorem dX3_freeCodes_29 : decode cX3_freeCodes 29 = .ok (.goto (-25), 3) := by decide +kernel
theorem dX3_freeCodes_32 : decode cX3_freeCodes 32 = .ok (.iload_n 1, 1) := by decide +kernel
theorem dX3_freeCodes_33 : decode cX3_freeCodes 33 = .ok (.ireturn, 1) := by decide +kernel
set_option maxRecDepth 20000 in
theorem ggX3_likenessToAll_Jx4a65c_size_8abf5 : GoodIn wsX3_likenessToAll wsJx4a65c_size_8abf5 := goodIn_r _ [12, 13, 61, 62, 63] (by decide +kernel) (by decide +kernel)
set_option maxRecDepth 20000 in
theorem gX3_likenessToAll_Jx4a65c_size_8abf5 : GoodIn wsX3_likenessToAll (wsV RX3 56 RJx4a65c yJx4a65c_size_8abf5 wsJx4a65c_size_8abf5) := goodIn_app (goodIn_of _ (by decide +kernel)) ggX3_likenessToAll_Jx4a65c_size_8abf5
set_option maxRecDepth 20000 in
theorem ggX3_likenessToAll_Jx4a65c_get_915e3 : GoodIn wsX3_likenessToAll wsJx4a65c_get_915e3 := goodIn_r _ [17, 13, 18, 19, 20, 21, 22, 23, 24, 25, 26, 27, 28, 11, 29, 30, 61, 62, 63] (by decide +kernel) (by decide +kernel)
set_option maxRecDepth 20000 in
theorem gX3_likenessToAll_Jx4a65c_get_915e3 : GoodIn wsX3_likenessToAll (wsV RX3 219 RJx4a65c yJx4a65c_get_915e3 wsJx4a65c_get_915e3) := goodIn_app (goodIn_of _ (by decide +kernel)) ggX3_likenessToAll_Jx4a65c_get_915e3
set_option maxRecDepth 20000 in
theorem ggX3_likenessToAll_X0_likeness : GoodIn wsX3_likenessToAll wsX0_likeness := goodIn_r _ [35, 36, 37, 38, 39, 40, 41, 42, 43, 34, 44, 45, 46, 47, 48, 49, 50, 51, 60] (by decide +kernel) (by decide +kernel)
set_option maxRecDepth 20000 in
theorem gX3_likenessToAll_X0_likeness : GoodIn wsX3_likenessToAll (wsV RX3 184 RX0 yX0_likeness wsX0_likeness) := goodIn_app (goodIn_of _ (by decide +kernel)) ggX3_likenessToAll_X0_likeness
theorem dX3_likenessToAll_0 : decode cX3_likenessToAll 0 = .ok (.iconst 0, 1) := by decide +kernel
theorem dX3_likenessToAll_1 : decode cX3_likenessToAll 1 = .ok (.istore_n 3, 1) := by decide +kernel
theorem dX3_likenessToAll_2 : decode cX3_likenessToAll 2 = .ok (.iconst 0, 1) := by decide +kernel
theorem dX3_likenessToAll_3 : decode cX3_likenessToAll 3 = .ok (.istore 4, 2) := by decide +kernel
theorem dX3_likenessToAll_5 : decode cX3_likenessToAll 5 = .ok (.iload 4, 2) := by decide +kernel
theorem dX3_likenessToAll_7 : decode cX3_likenessToAll 7 = .ok (.aload_n 0, 1) := by decide +kernel
theorem dX3_likenessToAll_8 : decode cX3_likenessToAll 8 = .ok (.getfield 28, 3) := by decide +kernel
theorem dX3_likenessToAll_11 : decode cX3_likenessToAll 11 = .ok (.invokevirtual 56, 3) := by decide +kernel
theorem dX3_likenessToAll_14 : decode cX3_likenessToAll 14 = .ok (.if_icmp .ge 73, 3) := by decide +kernel
theorem dX3_likenessToAll_17 : decode cX3_likenessToAll 17 = .ok (.aload_n 0, 1) := by decide +kernel
theorem dX3_likenessToAll_18 : decode cX3_likenessToAll 18 = .ok (.getfield 28, 3) := by decide +kernel
theorem dX3_likenessToAll_21 : decode cX3_likenessToAll 21 = .ok (.iload 4, 2) := by decide +kernel
theorem dX3_likenessToAll_23 : decode cX3_likenessToAll 23 = .ok (.invokevirtual 219, 3) := by decide +kernel
theorem dX3_likenessToAll_26 : decode cX3_likenessToAll 26 = .ok (.checkcast 65, 3) := by decide +kernel
theorem dX3_likenessToAll_29 : decode cX3_likenessToAll 29 = .ok (.astore 5, 2) := by decide +kernel
theorem dX3_likenessToAll_31 : decode cX3_likenessToAll 31 = .ok (.iload_n 2, 1) := by decide +kernel
theorem dX3_likenessToAll_32 : decode cX3_likenessToAll 32 = .ok (.aload 5, 2) := by decide +kernel
theorem dX3_likenessToAll_34 : decode cX3_likenessToAll 34 = .ok (.getfield 103, 3) := by decide +kernel
theorem dX3_likenessToAll_37 : decode cX3_likenessToAll 37 = .ok (.isub, 1) := by decide +kernel
theorem dX3_likenessToAll_38 : decode cX3_likenessToAll 38 = .ok (.istore 6, 2) := by decide +kernel
theorem dX3_likenessToAll_40 : decode cX3_likenessToAll 40 = .ok (.iload 6, 2) := by decide +kernel
theorem dX3_likenessToAll_42 : decode cX3_likenessToAll 42 = .ok (.ifCond .ge 15, 3) := by decide +kernel
theorem dX3_likenessToAll_45 : decode cX3_likenessToAll 45 = .ok (.iload 6, 2) := by decide +kernel
theorem dX3_likenessToAll_47 : decode cX3_likenessToAll 47 = .ok (.aload_n 0, 1) := by decide +kernel
theorem dX3_likenessToAll_48 : decode cX3_likenessToAll 48 = .ok (.getfield 12, 3) := by decide +kernel
theorem dX3_likenessToAll_51 : decode cX3_likenessToAll 51 = .ok (.getfield 39, 3) := by decide +kernel
theorem dX3_likenessToAll_54 : decode cX3_likenessToAll 54 = .ok (.iadd, 1) := by decide +kernel
theorem dX3_likenessToAll_55 : decode cX3_likenessToAll 55 = .ok (.istore 6, 2) := by decide +kernel
theorem dX3_likenessToAll_57 : decode cX3_likenessToAll 57 = .ok (.iload_n 3, 1) := by decide +kernel
theorem dX3_likenessToAll_58 : decode cX3_likenessToAll 58 = .ok (.aload 5, 2) := by decide +kernel
theorem dX3_likenessToAll_60 : decode cX3_likenessToAll 60 = .ok (.getfield 89, 3) := by decide +kernel
theorem dX3_likenessToAll_63 : decode cX3_likenessToAll 63 = .ok (.aload_n 0, 1) := by decide +kernel
theorem dX3_likenessToAll_64 : decode cX3_likenessToAll 64 = .ok (.getfield 12, 3) := by decide +kernel
theorem dX3_likenessToAll_67 : decode cX3_likenessToAll 67 = .ok (.iload_n 1, 1) := by decide +kernel
theorem dX3_likenessToAll_68 : decode cX3_likenessToAll 68 = .ok (.aload 5, 2) := by decide +kernel
theorem dX3_likenessToAll_70 : decode cX3_likenessToAll 70 = .ok (.getfield 152, 3) := by decide +kernel
theorem dX3_likenessToAll_73 : decode cX3_likenessToAll 73 = .ok (.iload 6, 2) := by decide +kernel
theorem dX3_likenessToAll_75 : decode cX3_likenessToAll 75 = .ok (.invokevirtual 184, 3) := by decide +kernel
theorem dX3_likenessToAll_78 : decode cX3_likenessToAll 78 = .ok (.imul, 1) := by decide +kernel
theorem dX3_likenessToAll_79 : decode cX3_likenessToAll 79 = .ok (.iadd, 1) := by decide +kernel
theorem dX3_likenessToAll_80 : decode cX3_likenessToAll 80 = .ok (.istore_n 3, 1) := by decide +kernel
theorem dX3_likenessToAll_81 : decode cX3_likenessToAll 81 = .ok (.iinc 4 1, 3) := by decide +kernel
theorem dX3_likenessToAll_84 : decode cX3_likenessToAll 84 = .ok (.goto (-79), 3) := by decide +kernel
theorem dX3_likenessToAll_87 : decode cX3_likenessToAll 87 = .ok (.iload_n 3, 1) := by decide +kernel
theorem dX3_likenessToAll_88 : decode cX3_likenessToAll 88 = .ok (.ireturn, 1) := by decide +kernel
theorem dX4_init_0 : decode cX4_init 0 = .ok (.aload_n 0, 1) := by decide +kernel
theorem dX4_init_1 : decode cX4_init 1 = .ok (.invokespecial 1, 3) := by decide +kernel
theorem dX4_init_4 : decode cX4_init 4 = .ok (.aload_n 0, 1) := by decide +kernel
theorem dX4_init_5 : decode cX4_init 5 = .ok (.bipush 8, 2) := by decide +kernel
theorem dX4_init_7 : decode cX4_init 7 = .ok (.putfield 7, 3) := by decide +kernel
theorem dX4_init_10 : decode cX4_init 10 = .ok (.aload_n 0, 1) := by decide +kernel
theorem dX4_init_11 : decode cX4_init 11 = .ok (.bipush 8, 2) := by decide +kernel
theorem dX4_init_13 : decode cX4_init 13 = .ok (.newarray .int, 2) := by decide +kernel
theorem dX4_init_15 : decode cX4_init 15 = .ok (.putfield 13, 3) := by decide +kernel
theorem dX4_init_18 : decode cX4_init 18 = .ok (.aload_n 0, 1) := by decide +kernel
theorem dX4_init_19 : decode cX4_init 19 = .ok (.bipush 8, 2) := by decide +kernel
theorem dX4_init_21 : decode cX4_init 21 = .ok (.newarray .int, 2) := by decide +kernel
theorem dX4_init_23 : decode cX4_init 23 = .ok (.putfield 17, 3) := by decide +kernel
theorem dX4_init_26 : decode cX4_init 26 = .ok (.aload_n 0, 1) := by decide +kernel
theorem dX4_init_27 : decode cX4_init 27 = .ok (.bipush 8, 2) := by decide +kernel
theorem dX4_init_29 : decode cX4_init 29 = .ok (.newarray .int, 2) := by decide +kernel
theorem dX4_init_31 : decode cX4_init 31 = .ok (.putfield 20, 3) := by decide +kernel
theorem dX4_init_34 : decode cX4_init 34 = .ok (.aload_n 0, 1) := by decide +kernel
theorem dX4_init_35 : decode cX4_init 35 = .ok (.bipush 8, 2) := by decide +kernel
theorem dX4_init_37 : decode cX4_init 37 = .ok (.newarray .int, 2) := by decide +kernel
theorem dX4_init_39 : decode cX4_init 39 = .ok (.putfield 23, 3) := by decide +kernel
theorem dX4_init_42 : decode cX4_init 42 = .ok (.aload_n 0, 1) := by decide +kernel
theorem dX4_init_43 : decode cX4_init 43 = .ok (.bipush 96, 2) := by decide +kernel
theorem dX4_init_45 : decode cX4_init 45 = .ok (.newarray .int, 2) := by decide +kernel
theorem dX4_init_47 : decode cX4_init 47 = .ok (.putfield 26, 3) := by decide +kernel
theorem dX4_init_50 : decode cX4_init 50 = .ok (.aload_n 0, 1) := by decide +kernel
theorem dX4_init_51 : decode cX4_init 51 = .ok (.bipush 20, 2) := by decide +kernel
theorem dX4_init_53 : decode cX4_init 53 = .ok (.newarray .int, 2) := by decide +kernel
theorem dX4_init_55 : decode cX4_init 55 = .ok (.putfield 29, 3) := by decide +kernel
theorem dX4_init_58 : decode cX4_init 58 = .ok (.return_, 1) := by decide +kernel
theorem dX4_thrown_0 : decode cX4_thrown 0 = .ok (.aload_n 0, 1) := by decide +kernel
theorem dX4_thrown_1 : decode cX4_thrown 1 = .ok (.getfield 32, 3) := by decide +kernel
theorem dX4_thrown_4 : decode cX4_thrown 4 = .ok (.ireturn, 1) := by decide +kernel
theorem dX4_no_0 : decode cX4_no 0 = .ok (.aload_n 0, 1) := by decide +kernel
theorem dX4_no_1 : decode cX4_no 1 = .ok (.iload_n 1, 1) := by decide +kernel
theorem dX4_no_2 : decode cX4_no 2 = .ok (.putfield 32, 3) := by decide +kernel
theorem dX4_no_5 : decode cX4_no 5 = .ok (.iconst 0, 1) := by decide +kernel
theorem dX4_no_6 : decode cX4_no 6 = .ok (.ireturn, 1) := by decide +kernel
theorem dX4_isIn_0 : decode cX4_isIn 0 = .ok (.iload_n 0, 1) := by decide +kernel
theorem dX4_isIn_1 : decode cX4_isIn 1 = .ok (.iload_n 1, 1) := by decide +kernel
theorem dX4_isIn_2 : decode cX4_isIn 2 = .ok (.if_icmp .lt 12, 3) := by decide +kernel
theorem dX4_isIn_5 : decode cX4_isIn 5 = .ok (.iload_n 0, 1) := by decide +kernel
theorem dX4_isIn_6 : decode cX4_isIn 6 = .ok (.iload_n 2, 1) := by decide +kernel
theorem dX4_isIn_7 : decode cX4_isIn 7 = .ok (.if_icmp .gt 7, 3) := by decide +kernel
theorem dX4_isIn_10 : decode cX4_isIn 10 = .ok (.iconst 1, 1) := by decide +kernel
theorem dX4_isIn_11 : decode cX4_isIn 11 = .ok (.goto 4, 3) := by decide +kernel
theorem dX4_isIn_14 : decode cX4_isIn 14 = .ok (.iconst 0, 1) := by decide +kernel
theorem dX4_isIn_15 : decode cX4_isIn 15 = .ok (.ireturn, 1) := by decide +kernel
set_option maxRecDepth 20000 in
theorem ggX4_isCode_X4_isIn : GoodIn wsX4_isCode wsX4_isIn := goodIn_r _ [5] (by decide +kernel) (by decide +kernel)
set_option maxRecDepth 20000 in
theorem gX4_isCode_X4_isIn : GoodIn wsX4_isCode (va_wsS RX4 35 yX4_isIn wsX4_isIn) := goodIn_app (goodIn_of _ (by decide +kernel)) ggX4_isCode_X4_isIn
theorem dX4_isCode_0 : decode cX4_isCode 0 = .ok (.iload_n 1, 1) := by decide +kernel
theorem dX4_isCode_1 : decode cX4_isCode 1 = .ok (.iconst 0, 1) := by decide +kernel
theorem dX4_isCode_2 : decode cX4_isCode 2 = .ok (.aload_n 0, 1) := by decide +kernel
theorem dX4_isCode_3 : decode cX4_isCode 3 = .ok (.getfield 7, 3) := by decide +kernel
theorem dX4_isCode_6 : decode cX4_isCode 6 = .ok (.iconst 1, 1) := by decide +kernel
theorem dX4_isCode_7 : decode cX4_isCode 7 = .ok (.isub, 1) := by decide +kernel
theorem dX4_isCode_8 : decode cX4_isCode 8 = .ok (.invokestatic 35, 3) := by decide +kernel
theorem dX4_isCode_11 : decode cX4_isCode 11 = .ok (.ireturn, 1) := by decide +kernel
set_option maxRecDepth 20000 in
theorem ggX4_isHill_X4_isIn : GoodIn wsX4_isHill wsX4_isIn := goodIn_r _ [5] (by decide +kernel) (by decide +kernel)
set_option maxRecDepth 20000 in
theorem gX4_isHill_X4_isIn : GoodIn wsX4_isHill (va_wsS RX4 35 yX4_isIn wsX4_isIn) := goodIn_app (goodIn_of _ (by decide +kernel)) ggX4_isHill_X4_isIn
theorem dX4_isHill_0 : decode cX4_isHill 0 = .ok (.iload_n 1, 1) := by decide +kernel
theorem dX4_isHill_1 : decode cX4_isHill 1 = .ok (.iconst 0, 1) := by decide +kernel
theorem dX4_isHill_2 : decode cX4_isHill 2 = .ok (.aload_n 0, 1) := by decide +kernel
theorem dX4_isHill_3 : decode cX4_isHill 3 = .ok (.getfield 39, 3) := by decide +kernel
theorem dX4_isHill_6 : decode cX4_isHill 6 = .ok (.iconst 1, 1) := by decide +kernel
theorem dX4_isHill_7 : decode cX4_isHill 7 = .ok (.isub, 1) := by decide +kernel
theorem dX4_isHill_8 : decode cX4_isHill 8 = .ok (.invokestatic 35, 3) := by decide +kernel
theorem dX4_isHill_11 : decode cX4_isHill 11 = .ok (.ireturn, 1) := by decide +kernel
set_option maxRecDepth 20000 in
theorem ggX4_isTime_X4_isIn : GoodIn wsX4_isTime wsX4_isIn := goodIn_r _ [4] (by decide +kernel) (by decide +kernel)
set_option maxRecDepth 20000 in
theorem gX4_isTime_X4_isIn : GoodIn wsX4_isTime (va_wsS RX4 35 yX4_isIn wsX4_isIn) := goodIn_app (goodIn_of _ (by decide +kernel)) ggX4_isTime_X4_isIn
theorem dX4_isTime_0 : decode cX4_isTime 0 = .ok (.iload_n 0, 1) := by decide +kernel
theorem dX4_isTime_1 : decode cX4_isTime 1 = .ok (.iconst 0, 1) := by decide +kernel
theorem dX4_isTime_2 : decode cX4_isTime 2 = .ok (.sipush 999, 3) := by decide +kernel
theorem dX4_isTime_5 : decode cX4_isTime 5 = .ok (.invokestatic 35, 3) := by decide +kernel
theorem dX4_isTime_8 : decode cX4_isTime 8 = .ok (.ireturn, 1) := by decide +kernel
set_option maxRecDepth 20000 in
theorem ggX4_isStrength_X4_isIn : GoodIn wsX4_isStrength wsX4_isIn := goodIn_r _ [4] (by decide +kernel) (by decide +kernel)
set_option maxRecDepth 20000 in
theorem gX4_isStrength_X4_isIn : GoodIn wsX4_isStrength (va_wsS RX4 35 yX4_isIn wsX4_isIn) := goodIn_app (goodIn_of _ (by decide +kernel)) ggX4_isStrength_X4_isIn
theorem dX4_isStrength_0 : decode cX4_isStrength 0 = .ok (.iload_n 0, 1) := by decide +kernel
theorem dX4_isStrength_1 : decode cX4_isStrength 1 = .ok (.iconst 1, 1) := by decide +kernel
theorem dX4_isStrength_2 : decode cX4_isStrength 2 = .ok (.bipush 9, 2) := by decide +kernel
theorem dX4_isStrength_4 : decode cX4_isStrength 4 = .ok (.invokestatic 35, 3) := by decide +kernel
theorem dX4_isStrength_7 : decode cX4_isStrength 7 = .ok (.ireturn, 1) := by decide +kernel
theorem dX4_sign_0 : decode cX4_sign 0 = .ok (.iload_n 0, 1) := by decide +kernel
theorem dX4_sign_1 : decode cX4_sign 1 = .ok (.ifCond .le 7, 3) := by decide +kernel
theorem dX4_sign_4 : decode cX4_sign 4 = .ok (.iconst 1, 1) := by decide +kernel
theorem dX4_sign_5 : decode cX4_sign 5 = .ok (.goto 12, 3) := by decide +kernel
theorem dX4_sign_8 : decode cX4_sign 8 = .ok (.iload_n 0, 1) := by decide +kernel
theorem dX4_sign_9 : decode cX4_sign 9 = .ok (.ifCond .ge 7, 3) := by decide +kernel
theorem dX4_sign_12 : decode cX4_sign 12 = .ok (.iconst (-1), 1) := by decide +kernel
theorem dX4_sign_13 : decode cX4_sign 13 = .ok (.goto 4, 3) := by decide +kernel
theorem dX4_sign_16 : decode cX4_sign 16 = .ok (.iconst 0, 1) := by decide +kernel
theorem dX4_sign_17 : decode cX4_sign 17 = .ok (.ireturn, 1) := by decide +kernel
set_option maxRecDepth 20000 in
theorem ggX4_chipOf_J6_bitCount_0f7a4 : GoodIn wsX4_chipOf wsJ6_bitCount_0f7a4 := goodIn_r _ [4, 5, 6, 7] (by decide +kernel) (by decide +kernel)
set_option maxRecDepth 20000 in
theorem gX4_chipOf_J6_bitCount_0f7a4 : GoodIn wsX4_chipOf (va_wsS RX4 42 yJ6_bitCount_0f7a4 wsJ6_bitCount_0f7a4) := goodIn_app (goodIn_of _ (by decide +kernel)) ggX4_chipOf_J6_bitCount_0f7a4
theorem dX4_chipOf_0 : decode cX4_chipOf 0 = .ok (.iload_n 0, 1) := by decide +kernel
theorem dX4_chipOf_1 : decode cX4_chipOf 1 = .ok (.iload_n 1, 1) := by decide +kernel
theorem dX4_chipOf_2 : decode cX4_chipOf 2 = .ok (.iand, 1) := by decide +kernel
theorem dX4_chipOf_3 : decode cX4_chipOf 3 = .ok (.invokestatic 42, 3) := by decide +kernel
theorem dX4_chipOf_6 : decode cX4_chipOf 6 = .ok (.iconst 2, 1) := by decide +kernel
theorem dX4_chipOf_7 : decode cX4_chipOf 7 = .ok (.irem, 1) := by decide +kernel
theorem dX4_chipOf_8 : decode cX4_chipOf 8 = .ok (.ifCond .ne 7, 3) := by decide +kernel
theorem dX4_chipOf_11 : decode cX4_chipOf 11 = .ok (.iconst 1, 1) := by decide +kernel
theorem dX4_chipOf_12 : decode cX4_chipOf 12 = .ok (.goto 4, 3) := by decide +kernel
theorem dX4_chipOf_15 : decode cX4_chipOf 15 = .ok (.iconst (-1), 1) := by decide +kernel
theorem dX4_chipOf_16 : decode cX4_chipOf 16 = .ok (.ireturn, 1) := by decide +kernel
theorem dX4_beginOf_0 : decode cX4_beginOf 0 = .ok (.aload_n 0, 1) := by decide +kernel
theorem dX4_beginOf_1 : decode cX4_beginOf 1 = .ok (.getfield 20, 3) := by decide +kernel
theorem dX4_beginOf_4 : decode cX4_beginOf 4 = .ok (.iload_n 1, 1) := by decide +kernel
theorem dX4_beginOf_5 : decode cX4_beginOf 5 = .ok (.iaload, 1) := by decide +kernel
theorem dX4_beginOf_6 : decode cX4_beginOf 6 = .ok (.aload_n 0, 1) := by decide +kernel
theorem dX4_beginOf_7 : decode cX4_beginOf 7 = .ok (.getfield 7, 3) := by decide +kernel
theorem dX4_beginOf_10 : decode cX4_beginOf 10 = .ok (.iload_n 2, 1) := by decide +kernel
theorem dX4_beginOf_11 : decode cX4_beginOf 11 = .ok (.imul, 1) := by decide +kernel
theorem dX4_beginOf_12 : decode cX4_beginOf 12 = .ok (.iadd, 1) := by decide +kernel
theorem dX4_beginOf_13 : decode cX4_beginOf 13 = .ok (.ireturn, 1) := by decide +kernel
set_option maxRecDepth 20000 in
theorem ggX4_signal_X4_chipOf : GoodIn wsX4_signal wsX4_chipOf := goodIn_r _ [10, 11, 12, 13, 14, 15, 16, 17] (by decide +kernel) (by decide +kernel)
set_option maxRecDepth 20000 in
theorem gX4_signal_X4_chipOf : GoodIn wsX4_signal (va_wsS RX4 48 yX4_chipOf wsX4_chipOf) := goodIn_app (goodIn_of _ (by decide +kernel)) ggX4_signal_X4_chipOf
theorem dX4_signal_0 : decode cX4_signal 0 = .ok (.iload_n 2, 1) := by decide +kernel
theorem dX4_signal_1 : decode cX4_signal 1 = .ok (.aload_n 0, 1) := by decide +kernel
theorem dX4_signal_2 : decode cX4_signal 2 = .ok (.getfield 20, 3) := by decide +kernel
theorem dX4_signal_5 : decode cX4_signal 5 = .ok (.iload_n 1, 1) := by decide +kernel
theorem dX4_signal_6 : decode cX4_signal 6 = .ok (.iaload, 1) := by decide +kernel
theorem dX4_signal_7 : decode cX4_signal 7 = .ok (.isub, 1) := by decide +kernel
theorem dX4_signal_8 : decode cX4_signal 8 = .ok (.istore_n 3, 1) := by decide +kernel
theorem dX4_signal_9 : decode cX4_signal 9 = .ok (.iload_n 3, 1) := by decide +kernel
theorem dX4_signal_10 : decode cX4_signal 10 = .ok (.ifCond .lt 18, 3) := by decide +kernel
theorem dX4_signal_13 : decode cX4_signal 13 = .ok (.iload_n 3, 1) := by decide +kernel
theorem dX4_signal_14 : decode cX4_signal 14 = .ok (.aload_n 0, 1) := by decide +kernel
theorem dX4_signal_15 : decode cX4_signal 15 = .ok (.getfield 7, 3) := by decide +kernel
theorem dX4_signal_18 : decode cX4_signal 18 = .ok (.aload_n 0, 1) := by decide +kernel
theorem dX4_signal_19 : decode cX4_signal 19 = .ok (.getfield 23, 3) := by decide +kernel
theorem dX4_signal_22 : decode cX4_signal 22 = .ok (.iload_n 1, 1) := by decide +kernel
theorem dX4_signal_23 : decode cX4_signal 23 = .ok (.iaload, 1) := by decide +kernel
theorem dX4_signal_24 : decode cX4_signal 24 = .ok (.imul, 1) := by decide +kernel
theorem dX4_signal_25 : decode cX4_signal 25 = .ok (.if_icmp .lt 5, 3) := by decide +kernel
theorem dX4_signal_28 : decode cX4_signal 28 = .ok (.iconst 0, 1) := by decide +kernel
theorem dX4_signal_29 : decode cX4_signal 29 = .ok (.ireturn, 1) := by decide +kernel
theorem dX4_signal_30 : decode cX4_signal 30 = .ok (.aload_n 0, 1) := by decide +kernel
theorem dX4_signal_31 : decode cX4_signal 31 = .ok (.getfield 17, 3) := by decide +kernel
theorem dX4_signal_34 : decode cX4_signal 34 = .ok (.iload_n 1, 1) := by decide +kernel
theorem dX4_signal_35 : decode cX4_signal 35 = .ok (.iaload, 1) := by decide +kernel
theorem dX4_signal_36 : decode cX4_signal 36 = .ok (.aload_n 0, 1) := by decide +kernel
theorem dX4_signal_37 : decode cX4_signal 37 = .ok (.getfield 26, 3) := by decide +kernel
theorem dX4_signal_40 : decode cX4_signal 40 = .ok (.bipush 12, 2) := by decide +kernel
theorem dX4_signal_42 : decode cX4_signal 42 = .ok (.iload_n 1, 1) := by decide +kernel
theorem dX4_signal_43 : decode cX4_signal 43 = .ok (.imul, 1) := by decide +kernel
theorem dX4_signal_44 : decode cX4_signal 44 = .ok (.iload_n 3, 1) := by decide +kernel
theorem dX4_signal_45 : decode cX4_signal 45 = .ok (.aload_n 0, 1) := by decide +kernel
theorem dX4_signal_46 : decode cX4_signal 46 = .ok (.getfield 7, 3) := by decide +kernel
theorem dX4_signal_49 : decode cX4_signal 49 = .ok (.idiv, 1) := by decide +kernel
theorem dX4_signal_50 : decode cX4_signal 50 = .ok (.iadd, 1) := by decide +kernel
theorem dX4_signal_51 : decode cX4_signal 51 = .ok (.iaload, 1) := by decide +kernel
theorem dX4_signal_52 : decode cX4_signal 52 = .ok (.imul, 1) := by decide +kernel
theorem dX4_signal_53 : decode cX4_signal 53 = .ok (.aload_n 0, 1) := by decide +kernel
theorem dX4_signal_54 : decode cX4_signal 54 = .ok (.getfield 13, 3) := by decide +kernel
theorem dX4_signal_57 : decode cX4_signal 57 = .ok (.iload_n 1, 1) := by decide +kernel
theorem dX4_signal_58 : decode cX4_signal 58 = .ok (.iaload, 1) := by decide +kernel
theorem dX4_signal_59 : decode cX4_signal 59 = .ok (.iload_n 3, 1) := by decide +kernel
theorem dX4_signal_60 : decode cX4_signal 60 = .ok (.aload_n 0, 1) := by decide +kernel
theorem dX4_signal_61 : decode cX4_signal 61 = .ok (.getfield 7, 3) := by decide +kernel
theorem dX4_signal_64 : decode cX4_signal 64 = .ok (.irem, 1) := by decide +kernel
theorem dX4_signal_65 : decode cX4_signal 65 = .ok (.invokestatic 48, 3) := by decide +kernel
theorem dX4_signal_68 : decode cX4_signal 68 = .ok (.imul, 1) := by decide +kernel
theorem dX4_signal_69 : decode cX4_signal 69 = .ok (.ireturn, 1) := by decide +kernel
set_option maxRecDepth 20000 in
theorem ggX4_skyAt_X4_signal : GoodIn wsX4_skyAt wsX4_signal := goodIn_r _ [7, 8, 9, 10, 11, 12, 13, 14, 15, 6, 16, 17, 18, 19, 20, 21, 22, 23, 24, 25, 26, 27, 28, 29, 30, 31, 32] (by decide +kernel) (by decide +kernel)
set_option maxRecDepth 20000 in
theorem gX4_skyAt_X4_signal : GoodIn wsX4_skyAt (wsV RX4 52 RX4 yX4_signal wsX4_signal) := goodIn_app (goodIn_of _ (by decide +kernel)) ggX4_skyAt_X4_signal
theorem dX4_skyAt_0 : decode cX4_skyAt 0 = .ok (.aload_n 0, 1) := by decide +kernel
theorem dX4_skyAt_1 : decode cX4_skyAt 1 = .ok (.getfield 29, 3) := by decide +kernel
theorem dX4_skyAt_4 : decode cX4_skyAt 4 = .ok (.iload_n 1, 1) := by decide +kernel
theorem dX4_skyAt_5 : decode cX4_skyAt 5 = .ok (.bipush 20, 2) := by decide +kernel
theorem dX4_skyAt_7 : decode cX4_skyAt 7 = .ok (.irem, 1) := by decide +kernel
theorem dX4_skyAt_8 : decode cX4_skyAt 8 = .ok (.iaload, 1) := by decide +kernel
theorem dX4_skyAt_9 : decode cX4_skyAt 9 = .ok (.istore_n 2, 1) := by decide +kernel
theorem dX4_skyAt_10 : decode cX4_skyAt 10 = .ok (.iconst 0, 1) := by decide +kernel
theorem dX4_skyAt_11 : decode cX4_skyAt 11 = .ok (.istore_n 3, 1) := by decide +kernel
theorem dX4_skyAt_12 : decode cX4_skyAt 12 = .ok (.iload_n 3, 1) := by decide +kernel
theorem dX4_skyAt_13 : decode cX4_skyAt 13 = .ok (.aload_n 0, 1) := by decide +kernel
theorem dX4_skyAt_14 : decode cX4_skyAt 14 = .ok (.getfield 39, 3) := by decide +kernel
theorem dX4_skyAt_17 : decode cX4_skyAt 17 = .ok (.if_icmp .ge 18, 3) := by decide +kernel
theorem dX4_skyAt_20 : decode cX4_skyAt 20 = .ok (.iload_n 2, 1) := by decide +kernel
theorem dX4_skyAt_21 : decode cX4_skyAt 21 = .ok (.aload_n 0, 1) := by decide +kernel
theorem dX4_skyAt_22 : decode cX4_skyAt 22 = .ok (.iload_n 3, 1) := by decide +kernel
theorem dX4_skyAt_23 : decode cX4_skyAt 23 = .ok (.iload_n 1, 1) := by decide +kernel
theorem dX4_skyAt_24 : decode cX4_skyAt 24 = .ok (.invokevirtual 52, 3) := by decide +kernel
theorem dX4_skyAt_27 : decode cX4_skyAt 27 = .ok (.iadd, 1) := by decide +kernel
theorem dX4_skyAt_28 : decode cX4_skyAt 28 = .ok (.istore_n 2, 1) := by decide +kernel
theorem dX4_skyAt_29 : decode cX4_skyAt 29 = .ok (.iinc 3 1, 3) := by decide +kernel
theorem dX4_skyAt_32 : decode cX4_skyAt 32 = .ok (.goto (-20), 3) := by decide +kernel
theorem dX4_skyAt_35 : decode cX4_skyAt 35 = .ok (.iload_n 2, 1) := by decide +kernel
theorem dX4_skyAt_36 : decode cX4_skyAt 36 = .ok (.ireturn, 1) := by decide +kernel
set_option maxRecDepth 20000 in
theorem ggX4_heard_X4_skyAt : GoodIn wsX4_heard wsX4_skyAt := goodIn_r _ [6, 7, 8, 9, 10, 11, 5, 12, 13, 1, 14, 15, 16, 17, 18, 19, 20, 21, 22, 23, 24, 25, 26, 27, 28, 29, 30, 31, 32, 33, 34, 35, 36] (by decide +kernel) (by decide +kernel)
set_option maxRecDepth 20000 in
theorem gX4_heard_X4_skyAt : GoodIn wsX4_heard (wsV RX4 55 RX4 yX4_skyAt wsX4_skyAt) := goodIn_app (goodIn_of _ (by decide +kernel)) ggX4_heard_X4_skyAt
set_option maxRecDepth 20000 in
theorem ggX4_heard_X4_chipOf : GoodIn wsX4_heard wsX4_chipOf := goodIn_r _ [20, 21, 22, 23, 24, 25, 26, 27] (by decide +kernel) (by decide +kernel)
set_option maxRecDepth 20000 in
theorem gX4_heard_X4_chipOf : GoodIn wsX4_heard (va_wsS RX4 48 yX4_chipOf wsX4_chipOf) := goodIn_app (goodIn_of _ (by decide +kernel)) ggX4_heard_X4_chipOf
theorem dX4_heard_0 : decode cX4_heard 0 = .ok (.iconst 0, 1) := by decide +kernel
theorem dX4_heard_1 : decode cX4_heard 1 = .ok (.istore_n 3, 1) := by decide +kernel
theorem dX4_heard_2 : decode cX4_heard 2 = .ok (.iconst 0, 1) := by decide +kernel
theorem dX4_heard_3 : decode cX4_heard 3 = .ok (.istore 4, 2) := by decide +kernel
theorem dX4_heard_5 : decode cX4_heard 5 = .ok (.iload 4, 2) := by decide +kernel
theorem dX4_heard_7 : decode cX4_heard 7 = .ok (.aload_n 0, 1) := by decide +kernel
theorem dX4_heard_8 : decode cX4_heard 8 = .ok (.getfield 7, 3) := by decide +kernel
theorem dX4_heard_11 : decode cX4_heard 11 = .ok (.if_icmp .ge 27, 3) := by decide +kernel
theorem dX4_heard_14 : decode cX4_heard 14 = .ok (.iload_n 3, 1) := by decide +kernel
theorem dX4_heard_15 : decode cX4_heard 15 = .ok (.aload_n 0, 1) := by decide +kernel
theorem dX4_heard_16 : decode cX4_heard 16 = .ok (.iload_n 2, 1) := by decide +kernel
theorem dX4_heard_17 : decode cX4_heard 17 = .ok (.iload 4, 2) := by decide +kernel
theorem dX4_heard_19 : decode cX4_heard 19 = .ok (.iadd, 1) := by decide +kernel
theorem dX4_heard_20 : decode cX4_heard 20 = .ok (.invokevirtual 55, 3) := by decide +kernel
theorem dX4_heard_23 : decode cX4_heard 23 = .ok (.iload_n 1, 1) := by decide +kernel
theorem dX4_heard_24 : decode cX4_heard 24 = .ok (.iload 4, 2) := by decide +kernel
theorem dX4_heard_26 : decode cX4_heard 26 = .ok (.invokestatic 48, 3) := by decide +kernel
theorem dX4_heard_29 : decode cX4_heard 29 = .ok (.imul, 1) := by decide +kernel
theorem dX4_heard_30 : decode cX4_heard 30 = .ok (.iadd, 1) := by decide +kernel
theorem dX4_heard_31 : decode cX4_heard 31 = .ok (.istore_n 3, 1) := by decide +kernel
theorem dX4_heard_32 : decode cX4_heard 32 = .ok (.iinc 4 1, 3) := by decide +kernel
theorem dX4_heard_35 : decode cX4_heard 35 = .ok (.goto (-30), 3) := by decide +kernel
theorem dX4_heard_38 : decode cX4_heard 38 = .ok (.iload_n 3, 1) := by decide +kernel
theorem dX4_heard_39 : decode cX4_heard 39 = .ok (.ireturn, 1) := by decide +kernel
set_option maxRecDepth 20000 in
theorem ggX4_heardOf_X4_beginOf : GoodIn wsX4_heardOf wsX4_beginOf := goodIn_r _ [6, 7, 8, 36, 37, 38, 39, 40, 41, 42, 43, 44] (by decide +kernel) (by decide +kernel)
set_option maxRecDepth 20000 in
theorem gX4_heardOf_X4_beginOf : GoodIn wsX4_heardOf (wsV RX4 58 RX4 yX4_beginOf wsX4_beginOf) := goodIn_app (goodIn_of _ (by decide +kernel)) ggX4_heardOf_X4_beginOf
set_option maxRecDepth 20000 in
theorem ggX4_heardOf_X4_heard : GoodIn wsX4_heardOf wsX4_heard := goodIn_r _ [12, 8, 13, 14, 15, 5, 16, 17, 18, 19, 20, 21, 22, 7, 23, 24, 25, 1, 26, 27, 28, 29, 30, 31, 32, 33, 34, 35, 36, 37, 38, 39, 40, 41, 42, 43, 44] (by decide +kernel) (by decide +kernel)
set_option maxRecDepth 20000 in
theorem gX4_heardOf_X4_heard : GoodIn wsX4_heardOf (wsV RX4 61 RX4 yX4_heard wsX4_heard) := goodIn_app (goodIn_of _ (by decide +kernel)) ggX4_heardOf_X4_heard
theorem dX4_heardOf_0 : decode cX4_heardOf 0 = .ok (.aload_n 0, 1) := by decide +kernel
theorem dX4_heardOf_1 : decode cX4_heardOf 1 = .ok (.aload_n 0, 1) := by decide +kernel
theorem dX4_heardOf_2 : decode cX4_heardOf 2 = .ok (.getfield 13, 3) := by decide +kernel
theorem dX4_heardOf_5 : decode cX4_heardOf 5 = .ok (.iload_n 1, 1) := by decide +kernel
theorem dX4_heardOf_6 : decode cX4_heardOf 6 = .ok (.iaload, 1) := by decide +kernel
theorem dX4_heardOf_7 : decode cX4_heardOf 7 = .ok (.aload_n 0, 1) := by decide +kernel
theorem dX4_heardOf_8 : decode cX4_heardOf 8 = .ok (.iload_n 1, 1) := by decide +kernel
theorem dX4_heardOf_9 : decode cX4_heardOf 9 = .ok (.iload_n 2, 1) := by decide +kernel
theorem dX4_heardOf_10 : decode cX4_heardOf 10 = .ok (.invokevirtual 58, 3) := by decide +kernel
theorem dX4_heardOf_13 : decode cX4_heardOf 13 = .ok (.invokevirtual 61, 3) := by decide +kernel
theorem dX4_heardOf_16 : decode cX4_heardOf 16 = .ok (.ireturn, 1) := by decide +kernel
set_option maxRecDepth 20000 in
theorem ggX4_isWrong_X4_heardOf : GoodIn wsX4_isWrong wsX4_heardOf := goodIn_r _ [6, 7, 8, 9, 10, 5, 11, 12, 13, 14, 15, 16, 17, 18, 19, 20, 21, 22, 23, 24, 25, 26, 27, 28, 29, 1, 30, 31, 32, 33, 34, 35, 36, 37, 38, 39, 43, 44, 45, 46, 47, 48, 49, 50, 51] (by decide +kernel) (by decide +kernel)
set_option maxRecDepth 20000 in
theorem gX4_isWrong_X4_heardOf : GoodIn wsX4_isWrong (wsV RX4 64 RX4 yX4_heardOf wsX4_heardOf) := goodIn_app (goodIn_of _ (by decide +kernel)) ggX4_isWrong_X4_heardOf
set_option maxRecDepth 20000 in
theorem ggX4_isWrong_X4_sign : GoodIn wsX4_isWrong wsX4_sign := goodIn_r _ [42] (by decide +kernel) (by decide +kernel)
set_option maxRecDepth 20000 in
theorem gX4_isWrong_X4_sign : GoodIn wsX4_isWrong (va_wsS RX4 67 yX4_sign wsX4_sign) := goodIn_app (goodIn_of _ (by decide +kernel)) ggX4_isWrong_X4_sign
theorem dX4_isWrong_0 : decode cX4_isWrong 0 = .ok (.aload_n 0, 1) := by decide +kernel
theorem dX4_isWrong_1 : decode cX4_isWrong 1 = .ok (.iload_n 1, 1) := by decide +kernel
theorem dX4_isWrong_2 : decode cX4_isWrong 2 = .ok (.iload_n 2, 1) := by decide +kernel
theorem dX4_isWrong_3 : decode cX4_isWrong 3 = .ok (.invokevirtual 64, 3) := by decide +kernel
theorem dX4_isWrong_6 : decode cX4_isWrong 6 = .ok (.invokestatic 67, 3) := by decide +kernel
theorem dX4_isWrong_9 : decode cX4_isWrong 9 = .ok (.aload_n 0, 1) := by decide +kernel
theorem dX4_isWrong_10 : decode cX4_isWrong 10 = .ok (.getfield 26, 3) := by decide +kernel
theorem dX4_isWrong_13 : decode cX4_isWrong 13 = .ok (.bipush 12, 2) := by decide +kernel
theorem dX4_isWrong_15 : decode cX4_isWrong 15 = .ok (.iload_n 1, 1) := by decide +kernel
theorem dX4_isWrong_16 : decode cX4_isWrong 16 = .ok (.imul, 1) := by decide +kernel
theorem dX4_isWrong_17 : decode cX4_isWrong 17 = .ok (.iload_n 2, 1) := by decide +kernel
theorem dX4_isWrong_18 : decode cX4_isWrong 18 = .ok (.iadd, 1) := by decide +kernel
theorem dX4_isWrong_19 : decode cX4_isWrong 19 = .ok (.iaload, 1) := by decide +kernel
theorem dX4_isWrong_20 : decode cX4_isWrong 20 = .ok (.if_icmp .ne 7, 3) := by decide +kernel
theorem dX4_isWrong_23 : decode cX4_isWrong 23 = .ok (.iconst 0, 1) := by decide +kernel
theorem dX4_isWrong_24 : decode cX4_isWrong 24 = .ok (.goto 4, 3) := by decide +kernel
theorem dX4_isWrong_27 : decode cX4_isWrong 27 = .ok (.iconst 1, 1) := by decide +kernel
theorem dX4_isWrong_28 : decode cX4_isWrong 28 = .ok (.ireturn, 1) := by decide +kernel
set_option maxRecDepth 20000 in
theorem ggX4_wrongOf_X4_isWrong : GoodIn wsX4_wrongOf wsX4_isWrong := goodIn_r _ [6, 7, 8, 9, 10, 5, 11, 12, 13, 14, 15, 16, 17, 18, 19, 20, 21, 22, 23, 24, 25, 26, 27, 28, 29, 30, 31, 32, 1, 33, 34, 35, 36, 37, 38, 39, 40, 41, 42, 43, 44, 45, 46, 47, 48, 49, 50, 51, 52, 53, 54, 55] (by decide +kernel) (by decide +kernel)
set_option maxRecDepth 20000 in
theorem gX4_wrongOf_X4_isWrong : GoodIn wsX4_wrongOf (wsV RX4 70 RX4 yX4_isWrong wsX4_isWrong) := goodIn_app (goodIn_of _ (by decide +kernel)) ggX4_wrongOf_X4_isWrong
theorem dX4_wrongOf_0 : decode cX4_wrongOf 0 = .ok (.iconst 0, 1) := by decide +kernel
theorem dX4_wrongOf_1 : decode cX4_wrongOf 1 = .ok (.istore_n 2, 1) := by decide +kernel
theorem dX4_wrongOf_2 : decode cX4_wrongOf 2 = .ok (.iconst 0, 1) := by decide +kernel
theorem dX4_wrongOf_3 : decode cX4_wrongOf 3 = .ok (.istore_n 3, 1) := by decide +kernel
theorem dX4_wrongOf_4 : decode cX4_wrongOf 4 = .ok (.iload_n 3, 1) := by decide +kernel
theorem dX4_wrongOf_5 : decode cX4_wrongOf 5 = .ok (.aload_n 0, 1) := by decide +kernel
theorem dX4_wrongOf_6 : decode cX4_wrongOf 6 = .ok (.getfield 23, 3) := by decide +kernel
theorem dX4_wrongOf_9 : decode cX4_wrongOf 9 = .ok (.iload_n 1, 1) := by decide +kernel
theorem dX4_wrongOf_10 : decode cX4_wrongOf 10 = .ok (.iaload, 1) := by decide +kernel
theorem dX4_wrongOf_11 : decode cX4_wrongOf 11 = .ok (.if_icmp .ge 18, 3) := by decide +kernel
theorem dX4_wrongOf_14 : decode cX4_wrongOf 14 = .ok (.iload_n 2, 1) := by decide +kernel
theorem dX4_wrongOf_15 : decode cX4_wrongOf 15 = .ok (.aload_n 0, 1) := by decide +kernel
theorem dX4_wrongOf_16 : decode cX4_wrongOf 16 = .ok (.iload_n 1, 1) := by decide +kernel
theorem dX4_wrongOf_17 : decode cX4_wrongOf 17 = .ok (.iload_n 3, 1) := by decide +kernel
theorem dX4_wrongOf_18 : decode cX4_wrongOf 18 = .ok (.invokevirtual 70, 3) := by decide +kernel
theorem dX4_wrongOf_21 : decode cX4_wrongOf 21 = .ok (.iadd, 1) := by decide +kernel
theorem dX4_wrongOf_22 : decode cX4_wrongOf 22 = .ok (.istore_n 2, 1) := by decide +kernel
theorem dX4_wrongOf_23 : decode cX4_wrongOf 23 = .ok (.iinc 3 1, 3) := by decide +kernel
theorem dX4_wrongOf_26 : decode cX4_wrongOf 26 = .ok (.goto (-22), 3) := by decide +kernel
theorem dX4_wrongOf_29 : decode cX4_wrongOf 29 = .ok (.iload_n 2, 1) := by decide +kernel
theorem dX4_wrongOf_30 : decode cX4_wrongOf 30 = .ok (.ireturn, 1) := by decide +kernel
set_option maxRecDepth 20000 in
theorem ggX4_allWrong_X4_wrongOf : GoodIn wsX4_allWrong wsX4_wrongOf := goodIn_r _ [6, 7, 8, 9, 10, 5, 11, 12, 13, 14, 15, 16, 17, 18, 19, 20, 21, 22, 23, 24, 25, 26, 27, 28, 29, 30, 31, 32, 1, 33, 34, 35, 36, 37, 38, 39, 40, 41, 42, 43, 44, 45, 46, 47, 48, 49, 50, 51, 52, 53, 54, 55, 56, 57, 58, 59] (by decide +kernel) (by decide +kernel)
set_option maxRecDepth 20000 in
theorem gX4_allWrong_X4_wrongOf : GoodIn wsX4_allWrong (wsV RX4 73 RX4 yX4_wrongOf wsX4_wrongOf) := goodIn_app (goodIn_of _ (by decide +kernel)) ggX4_allWrong_X4_wrongOf
theorem dX4_allWrong_0 : decode cX4_allWrong 0 = .ok (.iconst 0, 1) := by decide +kernel
theorem dX4_allWrong_1 : decode cX4_allWrong 1 = .ok (.istore_n 1, 1) := by decide +kernel
theorem dX4_allWrong_2 : decode cX4_allWrong 2 = .ok (.iconst 0, 1) := by decide +kernel
theorem dX4_allWrong_3 : decode cX4_allWrong 3 = .ok (.istore_n 2, 1) := by decide +kernel
theorem dX4_allWrong_4 : decode cX4_allWrong 4 = .ok (.iload_n 2, 1) := by decide +kernel
theorem dX4_allWrong_5 : decode cX4_allWrong 5 = .ok (.aload_n 0, 1) := by decide +kernel
theorem dX4_allWrong_6 : decode cX4_allWrong 6 = .ok (.getfield 39, 3) := by decide +kernel
theorem dX4_allWrong_9 : decode cX4_allWrong 9 = .ok (.if_icmp .ge 17, 3) := by decide +kernel
theorem dX4_allWrong_12 : decode cX4_allWrong 12 = .ok (.iload_n 1, 1) := by decide +kernel
theorem dX4_allWrong_13 : decode cX4_allWrong 13 = .ok (.aload_n 0, 1) := by decide +kernel
theorem dX4_allWrong_14 : decode cX4_allWrong 14 = .ok (.iload_n 2, 1) := by decide +kernel
theorem dX4_allWrong_15 : decode cX4_allWrong 15 = .ok (.invokevirtual 73, 3) := by decide +kernel
theorem dX4_allWrong_18 : decode cX4_allWrong 18 = .ok (.iadd, 1) := by decide +kernel
theorem dX4_allWrong_19 : decode cX4_allWrong 19 = .ok (.istore_n 1, 1) := by decide +kernel
theorem dX4_allWrong_20 : decode cX4_allWrong 20 = .ok (.iinc 2 1, 3) := by decide +kernel
theorem dX4_allWrong_23 : decode cX4_allWrong 23 = .ok (.goto (-19), 3) := by decide +kernel
theorem dX4_allWrong_26 : decode cX4_allWrong 26 = .ok (.iload_n 1, 1) := by decide +kernel
theorem dX4_allWrong_27 : decode cX4_allWrong 27 = .ok (.ireturn, 1) := by decide +kernel
set_option maxRecDepth 20000 in
theorem ggX4_endOf_X4_beginOf : GoodIn wsX4_endOf wsX4_beginOf := goodIn_r _ [6, 7, 8, 9, 10, 11, 12, 13, 14, 15, 16, 17] (by decide +kernel) (by decide +kernel)
set_option maxRecDepth 20000 in
theorem gX4_endOf_X4_beginOf : GoodIn wsX4_endOf (wsV RX4 58 RX4 yX4_beginOf wsX4_beginOf) := goodIn_app (goodIn_of _ (by decide +kernel)) ggX4_endOf_X4_beginOf
theorem dX4_endOf_0 : decode cX4_endOf 0 = .ok (.aload_n 0, 1) := by decide +kernel
theorem dX4_endOf_1 : decode cX4_endOf 1 = .ok (.getfield 23, 3) := by decide +kernel
theorem dX4_endOf_4 : decode cX4_endOf 4 = .ok (.iload_n 1, 1) := by decide +kernel
theorem dX4_endOf_5 : decode cX4_endOf 5 = .ok (.iaload, 1) := by decide +kernel
theorem dX4_endOf_6 : decode cX4_endOf 6 = .ok (.ifCond .ne 7, 3) := by decide +kernel
theorem dX4_endOf_9 : decode cX4_endOf 9 = .ok (.iconst 0, 1) := by decide +kernel
theorem dX4_endOf_10 : decode cX4_endOf 10 = .ok (.goto 14, 3) := by decide +kernel
theorem dX4_endOf_13 : decode cX4_endOf 13 = .ok (.aload_n 0, 1) := by decide +kernel
theorem dX4_endOf_14 : decode cX4_endOf 14 = .ok (.iload_n 1, 1) := by decide +kernel
theorem dX4_endOf_15 : decode cX4_endOf 15 = .ok (.aload_n 0, 1) := by decide +kernel
theorem dX4_endOf_16 : decode cX4_endOf 16 = .ok (.getfield 23, 3) := by decide +kernel
theorem dX4_endOf_19 : decode cX4_endOf 19 = .ok (.iload_n 1, 1) := by decide +kernel
theorem dX4_endOf_20 : decode cX4_endOf 20 = .ok (.iaload, 1) := by decide +kernel
theorem dX4_endOf_21 : decode cX4_endOf 21 = .ok (.invokevirtual 58, 3) := by decide +kernel
theorem dX4_endOf_24 : decode cX4_endOf 24 = .ok (.ireturn, 1) := by decide +kernel
set_option maxRecDepth 20000 in
theorem ggX4_end_X4_endOf : GoodIn wsX4_end wsX4_endOf := goodIn_r _ [10, 11, 12, 13, 14, 9, 15, 16, 17, 18, 19, 20, 21, 22, 23, 24, 25, 26] (by decide +kernel) (by decide +kernel)
set_option maxRecDepth 20000 in
theorem gX4_end_X4_endOf : GoodIn wsX4_end (wsV RX4 76 RX4 yX4_endOf wsX4_endOf) := goodIn_app (goodIn_of _ (by decide +kernel)) ggX4_end_X4_endOf
theorem dX4_end_0 : decode cX4_end 0 = .ok (.iconst 0, 1) := by decide +kernel
theorem dX4_end_1 : decode cX4_end 1 = .ok (.istore_n 1, 1) := by decide +kernel
theorem dX4_end_2 : decode cX4_end 2 = .ok (.iconst 0, 1) := by decide +kernel
theorem dX4_end_3 : decode cX4_end 3 = .ok (.istore_n 2, 1) := by decide +kernel
theorem dX4_end_4 : decode cX4_end 4 = .ok (.iload_n 2, 1) := by decide +kernel
theorem dX4_end_5 : decode cX4_end 5 = .ok (.aload_n 0, 1) := by decide +kernel
theorem dX4_end_6 : decode cX4_end 6 = .ok (.getfield 39, 3) := by decide +kernel
theorem dX4_end_9 : decode cX4_end 9 = .ok (.if_icmp .ge 19, 3) := by decide +kernel
theorem dX4_end_12 : decode cX4_end 12 = .ok (.iload_n 1, 1) := by decide +kernel
theorem dX4_end_13 : decode cX4_end 13 = .ok (.aload_n 0, 1) := by decide +kernel
theorem dX4_end_14 : decode cX4_end 14 = .ok (.iload_n 2, 1) := by decide +kernel
theorem dX4_end_15 : decode cX4_end 15 = .ok (.invokevirtual 76, 3) := by decide +kernel
theorem dX4_end_18 : decode cX4_end 18 = .ok (.invokestatic 79, 3) := by decide +kernel
theorem dX4_end_21 : decode cX4_end 21 = .ok (.istore_n 1, 1) := by decide +kernel
theorem dX4_end_22 : decode cX4_end 22 = .ok (.iinc 2 1, 3) := by decide +kernel
theorem dX4_end_25 : decode cX4_end 25 = .ok (.goto (-21), 3) := by decide +kernel
theorem dX4_end_28 : decode cX4_end 28 = .ok (.iload_n 1, 1) := by decide +kernel
theorem dX4_end_29 : decode cX4_end 29 = .ok (.ireturn, 1) := by decide +kernel
set_option maxRecDepth 20000 in
theorem ggX4_highest_X4_end : GoodIn wsX4_highest wsX4_end := goodIn_r _ [12, 13, 5, 6, 3, 7, 14, 15, 16, 11, 17, 18, 19, 20, 21, 22, 23, 24, 47, 48, 49, 50, 51, 52, 53, 54, 55] (by decide +kernel) (by decide +kernel)
set_option maxRecDepth 20000 in
theorem gX4_highest_X4_end : GoodIn wsX4_highest (wsV RX4 84 RX4 yX4_end wsX4_end) := goodIn_app (goodIn_of _ (by decide +kernel)) ggX4_highest_X4_end
set_option maxRecDepth 20000 in
theorem ggX4_highest_X4_skyAt : GoodIn wsX4_highest wsX4_skyAt := goodIn_r _ [28, 29, 13, 30, 31, 32, 11, 33, 23, 24, 18, 34, 35, 36, 37, 38, 39, 40, 41, 42, 43, 44, 45, 46, 47, 48, 49, 50, 51, 52, 53, 54, 55] (by decide +kernel) (by decide +kernel)
set_option maxRecDepth 20000 in
theorem gX4_highest_X4_skyAt : GoodIn wsX4_highest (wsV RX4 55 RX4 yX4_skyAt wsX4_skyAt) := goodIn_app (goodIn_of _ (by decide +kernel)) ggX4_highest_X4_skyAt
theorem dX4_highest_0 : decode cX4_highest 0 = .ok (.iconst 0, 1) := by decide +kernel
theorem dX4_highest_1 : decode cX4_highest 1 = .ok (.istore_n 1, 1) := by decide +kernel
theorem dX4_highest_2 : decode cX4_highest 2 = .ok (.aload_n 0, 1) := by decide +kernel
theorem dX4_highest_3 : decode cX4_highest 3 = .ok (.invokevirtual 84, 3) := by decide +kernel
theorem dX4_highest_6 : decode cX4_highest 6 = .ok (.istore_n 2, 1) := by decide +kernel
theorem dX4_highest_7 : decode cX4_highest 7 = .ok (.iconst 0, 1) := by decide +kernel
theorem dX4_highest_8 : decode cX4_highest 8 = .ok (.istore_n 3, 1) := by decide +kernel
theorem dX4_highest_9 : decode cX4_highest 9 = .ok (.iload_n 3, 1) := by decide +kernel
theorem dX4_highest_10 : decode cX4_highest 10 = .ok (.iload_n 2, 1) := by decide +kernel
theorem dX4_highest_11 : decode cX4_highest 11 = .ok (.if_icmp .ge 22, 3) := by decide +kernel
theorem dX4_highest_14 : decode cX4_highest 14 = .ok (.iload_n 1, 1) := by decide +kernel
theorem dX4_highest_15 : decode cX4_highest 15 = .ok (.aload_n 0, 1) := by decide +kernel
theorem dX4_highest_16 : decode cX4_highest 16 = .ok (.iload_n 3, 1) := by decide +kernel
theorem dX4_highest_17 : decode cX4_highest 17 = .ok (.invokevirtual 55, 3) := by decide +kernel
theorem dX4_highest_20 : decode cX4_highest 20 = .ok (.invokestatic 88, 3) := by decide +kernel
theorem dX4_highest_23 : decode cX4_highest 23 = .ok (.invokestatic 79, 3) := by decide +kernel
theorem dX4_highest_26 : decode cX4_highest 26 = .ok (.istore_n 1, 1) := by decide +kernel
theorem dX4_highest_27 : decode cX4_highest 27 = .ok (.iinc 3 1, 3) := by decide +kernel
theorem dX4_highest_30 : decode cX4_highest 30 = .ok (.goto (-21), 3) := by decide +kernel
theorem dX4_highest_33 : decode cX4_highest 33 = .ok (.iload_n 1, 1) := by decide +kernel
theorem dX4_highest_34 : decode cX4_highest 34 = .ok (.ireturn, 1) := by decide +kernel
theorem dX4_isTaken_0 : decode cX4_isTaken 0 = .ok (.iconst 0, 1) := by decide +kernel
theorem dX4_isTaken_1 : decode cX4_isTaken 1 = .ok (.istore_n 2, 1) := by decide +kernel
theorem dX4_isTaken_2 : decode cX4_isTaken 2 = .ok (.iload_n 2, 1) := by decide +kernel
theorem dX4_isTaken_3 : decode cX4_isTaken 3 = .ok (.aload_n 0, 1) := by decide +kernel
theorem dX4_isTaken_4 : decode cX4_isTaken 4 = .ok (.getfield 39, 3) := by decide +kernel
theorem dX4_isTaken_7 : decode cX4_isTaken 7 = .ok (.if_icmp .ge 21, 3) := by decide +kernel
theorem dX4_isTaken_10 : decode cX4_isTaken 10 = .ok (.aload_n 0, 1) := by decide +kernel
theorem dX4_isTaken_11 : decode cX4_isTaken 11 = .ok (.getfield 13, 3) := by decide +kernel
theorem dX4_isTaken_14 : decode cX4_isTaken 14 = .ok (.iload_n 2, 1) := by decide +kernel
theorem dX4_isTaken_15 : decode cX4_isTaken 15 = .ok (.iaload, 1) := by decide +kernel
theorem dX4_isTaken_16 : decode cX4_isTaken 16 = .ok (.iload_n 1, 1) := by decide +kernel
theorem dX4_isTaken_17 : decode cX4_isTaken 17 = .ok (.if_icmp .ne 5, 3) := by decide +kernel
theorem dX4_isTaken_20 : decode cX4_isTaken 20 = .ok (.iconst 1, 1) := by decide +kernel
theorem dX4_isTaken_21 : decode cX4_isTaken 21 = .ok (.ireturn, 1) := by decide +kernel
theorem dX4_isTaken_22 : decode cX4_isTaken 22 = .ok (.iinc 2 1, 3) := by decide +kernel
theorem dX4_isTaken_25 : decode cX4_isTaken 25 = .ok (.goto (-23), 3) := by decide +kernel
theorem dX4_isTaken_28 : decode cX4_isTaken 28 = .ok (.iconst 0, 1) := by decide +kernel
theorem dX4_isTaken_29 : decode cX4_isTaken 29 = .ok (.ireturn, 1) := by decide +kernel
set_option maxRecDepth 20000 in
theorem ggX4_likeness_X4_chipOf : GoodIn wsX4_likeness wsX4_chipOf := goodIn_r _ [9, 10, 11, 12, 13, 14, 15, 16] (by decide +kernel) (by decide +kernel)
set_option maxRecDepth 20000 in
theorem gX4_likeness_X4_chipOf : GoodIn wsX4_likeness (va_wsS RX4 48 yX4_chipOf wsX4_chipOf) := goodIn_app (goodIn_of _ (by decide +kernel)) ggX4_likeness_X4_chipOf
theorem dX4_likeness_0 : decode cX4_likeness 0 = .ok (.iconst 0, 1) := by decide +kernel
theorem dX4_likeness_1 : decode cX4_likeness 1 = .ok (.istore 4, 2) := by decide +kernel
theorem dX4_likeness_3 : decode cX4_likeness 3 = .ok (.iconst 0, 1) := by decide +kernel
theorem dX4_likeness_4 : decode cX4_likeness 4 = .ok (.istore 5, 2) := by decide +kernel
theorem dX4_likeness_6 : decode cX4_likeness 6 = .ok (.iload 5, 2) := by decide +kernel
theorem dX4_likeness_8 : decode cX4_likeness 8 = .ok (.aload_n 0, 1) := by decide +kernel
theorem dX4_likeness_9 : decode cX4_likeness 9 = .ok (.getfield 7, 3) := by decide +kernel
theorem dX4_likeness_12 : decode cX4_likeness 12 = .ok (.if_icmp .ge 34, 3) := by decide +kernel
theorem dX4_likeness_15 : decode cX4_likeness 15 = .ok (.iload 4, 2) := by decide +kernel
theorem dX4_likeness_17 : decode cX4_likeness 17 = .ok (.iload_n 1, 1) := by decide +kernel
theorem dX4_likeness_18 : decode cX4_likeness 18 = .ok (.iload 5, 2) := by decide +kernel
theorem dX4_likeness_20 : decode cX4_likeness 20 = .ok (.invokestatic 48, 3) := by decide +kernel
theorem dX4_likeness_23 : decode cX4_likeness 23 = .ok (.iload_n 2, 1) := by decide +kernel
theorem dX4_likeness_24 : decode cX4_likeness 24 = .ok (.iload 5, 2) := by decide +kernel
theorem dX4_likeness_26 : decode cX4_likeness 26 = .ok (.iload_n 3, 1) := by decide +kernel
theorem dX4_likeness_27 : decode cX4_likeness 27 = .ok (.iadd, 1) := by decide +kernel
theorem dX4_likeness_28 : decode cX4_likeness 28 = .ok (.aload_n 0, 1) := by decide +kernel
theorem dX4_likeness_29 : decode cX4_likeness 29 = .ok (.getfield 7, 3) := by decide +kernel
theorem dX4_likeness_32 : decode cX4_likeness 32 = .ok (.irem, 1) := by decide +kernel
theorem dX4_likeness_33 : decode cX4_likeness 33 = .ok (.invokestatic 48, 3) := by decide +kernel
theorem dX4_likeness_36 : decode cX4_likeness 36 = .ok (.imul, 1) := by decide +kernel
theorem dX4_likeness_37 : decode cX4_likeness 37 = .ok (.iadd, 1) := by decide +kernel
theorem dX4_likeness_38 : decode cX4_likeness 38 = .ok (.istore 4, 2) := by decide +kernel
theorem dX4_likeness_40 : decode cX4_likeness 40 = .ok (.iinc 5 1, 3) := by decide +kernel
theorem dX4_likeness_43 : decode cX4_likeness 43 = .ok (.goto (-37), 3) := by decide +kernel
theorem dX4_likeness_46 : decode cX4_likeness 46 = .ok (.iload 4, 2) := by decide +kernel
theorem dX4_likeness_48 : decode cX4_likeness 48 = .ok (.invokestatic 88, 3) := by decide +kernel
theorem dX4_likeness_51 : decode cX4_likeness 51 = .ok (.ireturn, 1) := by decide +kernel
set_option maxRecDepth 20000 in
theorem ggX4_setCodes_X4_isIn : GoodIn wsX4_setCodes wsX4_isIn := goodIn_r _ [7] (by decide +kernel) (by decide +kernel)
set_option maxRecDepth 20000 in
theorem gX4_setCodes_X4_isIn : GoodIn wsX4_setCodes (va_wsS RX4 35 yX4_isIn wsX4_isIn) := goodIn_app (goodIn_of _ (by decide +kernel)) ggX4_setCodes_X4_isIn
set_option maxRecDepth 20000 in
theorem ggX4_setCodes_X4_no : GoodIn wsX4_setCodes wsX4_no := goodIn_r _ [11, 1, 12, 13, 14, 15, 16, 17, 18, 19, 20] (by decide +kernel) (by decide +kernel)
set_option maxRecDepth 20000 in
theorem gX4_setCodes_X4_no : GoodIn wsX4_setCodes (wsV RX4 91 RX4 yX4_no wsX4_no) := goodIn_app (goodIn_of _ (by decide +kernel)) ggX4_setCodes_X4_no
theorem dX4_setCodes_0 : decode cX4_setCodes 0 = .ok (.aload_n 0, 1) := by decide +kernel
theorem dX4_setCodes_1 : decode cX4_setCodes 1 = .ok (.iconst 0, 1) := by decide +kernel
theorem dX4_setCodes_2 : decode cX4_setCodes 2 = .ok (.putfield 32, 3) := by decide +kernel
theorem dX4_setCodes_5 : decode cX4_setCodes 5 = .ok (.iload_n 1, 1) := by decide +kernel
theorem dX4_setCodes_6 : decode cX4_setCodes 6 = .ok (.iconst 0, 1) := by decide +kernel
theorem dX4_setCodes_7 : decode cX4_setCodes 7 = .ok (.iconst 4, 1) := by decide +kernel
theorem dX4_setCodes_8 : decode cX4_setCodes 8 = .ok (.invokestatic 35, 3) := by decide +kernel
theorem dX4_setCodes_11 : decode cX4_setCodes 11 = .ok (.ifCond .ne 9, 3) := by decide +kernel
theorem dX4_setCodes_14 : decode cX4_setCodes 14 = .ok (.aload_n 0, 1) := by decide +kernel
theorem dX4_setCodes_15 : decode cX4_setCodes 15 = .ok (.iconst 1, 1) := by decide +kernel
theorem dX4_setCodes_16 : decode cX4_setCodes 16 = .ok (.invokevirtual 91, 3) := by decide +kernel
theorem dX4_setCodes_19 : decode cX4_setCodes 19 = .ok (.ireturn, 1) := by decide +kernel
theorem dX4_setCodes_20 : decode cX4_setCodes 20 = .ok (.aload_n 0, 1) := by decide +kernel
theorem dX4_setCodes_21 : decode cX4_setCodes 21 = .ok (.getfield 7, 3) := by decide +kernel
theorem dX4_setCodes_24 : decode cX4_setCodes 24 = .ok (.istore_n 2, 1) := by decide +kernel
theorem dX4_setCodes_25 : decode cX4_setCodes 25 = .ok (.aload_n 0, 1) := by decide +kernel
theorem dX4_setCodes_26 : decode cX4_setCodes 26 = .ok (.iconst 1, 1) := by decide +kernel
theorem dX4_setCodes_27 : decode cX4_setCodes 27 = .ok (.iload_n 1, 1) := by decide +kernel
theorem dX4_setCodes_28 : decode cX4_setCodes 28 = .ok (.ishl, 1) := by decide +kernel
theorem dX4_setCodes_29 : decode cX4_setCodes 29 = .ok (.putfield 7, 3) := by decide +kernel
theorem dX4_setCodes_32 : decode cX4_setCodes 32 = .ok (.aload_n 0, 1) := by decide +kernel
theorem dX4_setCodes_33 : decode cX4_setCodes 33 = .ok (.iconst 0, 1) := by decide +kernel
theorem dX4_setCodes_34 : decode cX4_setCodes 34 = .ok (.putfield 39, 3) := by decide +kernel
theorem dX4_setCodes_37 : decode cX4_setCodes 37 = .ok (.iload_n 2, 1) := by decide +kernel
theorem dX4_setCodes_38 : decode cX4_setCodes 38 = .ok (.ireturn, 1) := by decide +kernel
set_option maxRecDepth 20000 in
theorem ggX4_hill_X4_isCode : GoodIn wsX4_hill wsX4_isCode := goodIn_r _ [11, 12, 13, 14, 10, 15, 23, 24, 25, 26, 27, 28, 29, 30, 31] (by decide +kernel) (by decide +kernel)
set_option maxRecDepth 20000 in
theorem gX4_hill_X4_isCode : GoodIn wsX4_hill (wsV RX4 94 RX4 yX4_isCode wsX4_isCode) := goodIn_app (goodIn_of _ (by decide +kernel)) ggX4_hill_X4_isCode
set_option maxRecDepth 20000 in
theorem ggX4_hill_X4_no : GoodIn wsX4_hill wsX4_no := goodIn_r _ [19, 1, 23, 24, 25, 26, 27, 28, 29, 30, 31] (by decide +kernel) (by decide +kernel)
set_option maxRecDepth 20000 in
theorem gX4_hill_X4_no : GoodIn wsX4_hill (wsV RX4 91 RX4 yX4_no wsX4_no) := goodIn_app (goodIn_of _ (by decide +kernel)) ggX4_hill_X4_no
set_option maxRecDepth 20000 in
theorem ggX4_hill_X4_isStrength : GoodIn wsX4_hill wsX4_isStrength := goodIn_r _ [22, 13, 14, 10, 15] (by decide +kernel) (by decide +kernel)
set_option maxRecDepth 20000 in
theorem gX4_hill_X4_isStrength : GoodIn wsX4_hill (va_wsS RX4 98 yX4_isStrength wsX4_isStrength) := goodIn_app (goodIn_of _ (by decide +kernel)) ggX4_hill_X4_isStrength
theorem dX4_hill_0 : decode cX4_hill 0 = .ok (.aload_n 0, 1) := by decide +kernel
theorem dX4_hill_1 : decode cX4_hill 1 = .ok (.iconst 0, 1) := by decide +kernel
theorem dX4_hill_2 : decode cX4_hill 2 = .ok (.putfield 32, 3) := by decide +kernel
theorem dX4_hill_5 : decode cX4_hill 5 = .ok (.aload_n 0, 1) := by decide +kernel
theorem dX4_hill_6 : decode cX4_hill 6 = .ok (.iload_n 1, 1) := by decide +kernel
theorem dX4_hill_7 : decode cX4_hill 7 = .ok (.invokevirtual 94, 3) := by decide +kernel
theorem dX4_hill_10 : decode cX4_hill 10 = .ok (.ifCond .ne 9, 3) := by decide +kernel
theorem dX4_hill_13 : decode cX4_hill 13 = .ok (.aload_n 0, 1) := by decide +kernel
theorem dX4_hill_14 : decode cX4_hill 14 = .ok (.iconst 1, 1) := by decide +kernel
theorem dX4_hill_15 : decode cX4_hill 15 = .ok (.invokevirtual 91, 3) := by decide +kernel
theorem dX4_hill_18 : decode cX4_hill 18 = .ok (.ireturn, 1) := by decide +kernel
end
section
theorem dX4_hill_19 : decode cX4_hill 19 = .ok (.iload_n 2, 1) := by decide +kernel
theorem dX4_hill_20 : decode cX4_hill 20 = .ok (.invokestatic 98, 3) := by decide +kernel
theorem dX4_hill_23 : decode cX4_hill 23 = .ok (.ifCond .ne 9, 3) := by decide +kernel
theorem dX4_hill_26 : decode cX4_hill 26 = .ok (.aload_n 0, 1) := by decide +kernel
theorem dX4_hill_27 : decode cX4_hill 27 = .ok (.iconst 2, 1) := by decide +kernel
theorem dX4_hill_28 : decode cX4_hill 28 = .ok (.invokevirtual 91, 3) := by decide +kernel
theorem dX4_hill_31 : decode cX4_hill 31 = .ok (.ireturn, 1) := by decide +kernel
theorem dX4_hill_32 : decode cX4_hill 32 = .ok (.aload_n 0, 1) := by decide +kernel
theorem dX4_hill_33 : decode cX4_hill 33 = .ok (.getfield 39, 3) := by decide +kernel
theorem dX4_hill_36 : decode cX4_hill 36 = .ok (.bipush 8, 2) := by decide +kernel
theorem dX4_hill_38 : decode cX4_hill 38 = .ok (.if_icmp .ne 9, 3) := by decide +kernel
theorem dX4_hill_41 : decode cX4_hill 41 = .ok (.aload_n 0, 1) := by decide +kernel
theorem dX4_hill_42 : decode cX4_hill 42 = .ok (.iconst 3, 1) := by decide +kernel
theorem dX4_hill_43 : decode cX4_hill 43 = .ok (.invokevirtual 91, 3) := by decide +kernel
theorem dX4_hill_46 : decode cX4_hill 46 = .ok (.ireturn, 1) := by decide +kernel
theorem dX4_hill_47 : decode cX4_hill 47 = .ok (.aload_n 0, 1) := by decide +kernel
theorem dX4_hill_48 : decode cX4_hill 48 = .ok (.getfield 13, 3) := by decide +kernel
theorem dX4_hill_51 : decode cX4_hill 51 = .ok (.aload_n 0, 1) := by decide +kernel
theorem dX4_hill_52 : decode cX4_hill 52 = .ok (.getfield 39, 3) := by decide +kernel
theorem dX4_hill_55 : decode cX4_hill 55 = .ok (.iload_n 1, 1) := by decide +kernel
theorem dX4_hill_56 : decode cX4_hill 56 = .ok (.iastore, 1) := by decide +kernel
theorem dX4_hill_57 : decode cX4_hill 57 = .ok (.aload_n 0, 1) := by decide +kernel
theorem dX4_hill_58 : decode cX4_hill 58 = .ok (.getfield 17, 3) := by decide +kernel
theorem dX4_hill_61 : decode cX4_hill 61 = .ok (.aload_n 0, 1) := by decide +kernel
theorem dX4_hill_62 : decode cX4_hill 62 = .ok (.getfield 39, 3) := by decide +kernel
theorem dX4_hill_65 : decode cX4_hill 65 = .ok (.iload_n 2, 1) := by decide +kernel
theorem dX4_hill_66 : decode cX4_hill 66 = .ok (.iastore, 1) := by decide +kernel
theorem dX4_hill_67 : decode cX4_hill 67 = .ok (.aload_n 0, 1) := by decide +kernel
theorem dX4_hill_68 : decode cX4_hill 68 = .ok (.getfield 20, 3) := by decide +kernel
theorem dX4_hill_71 : decode cX4_hill 71 = .ok (.aload_n 0, 1) := by decide +kernel
theorem dX4_hill_72 : decode cX4_hill 72 = .ok (.getfield 39, 3) := by decide +kernel
theorem dX4_hill_75 : decode cX4_hill 75 = .ok (.iconst 0, 1) := by decide +kernel
theorem dX4_hill_76 : decode cX4_hill 76 = .ok (.iastore, 1) := by decide +kernel
theorem dX4_hill_77 : decode cX4_hill 77 = .ok (.aload_n 0, 1) := by decide +kernel
theorem dX4_hill_78 : decode cX4_hill 78 = .ok (.getfield 23, 3) := by decide +kernel
theorem dX4_hill_81 : decode cX4_hill 81 = .ok (.aload_n 0, 1) := by decide +kernel
theorem dX4_hill_82 : decode cX4_hill 82 = .ok (.getfield 39, 3) := by decide +kernel
theorem dX4_hill_85 : decode cX4_hill 85 = .ok (.iconst 0, 1) := by decide +kernel
theorem dX4_hill_86 : decode cX4_hill 86 = .ok (.iastore, 1) := by decide +kernel
theorem dX4_hill_87 : decode cX4_hill 87 = .ok (.aload_n 0, 1) := by decide +kernel
theorem dX4_hill_88 : decode cX4_hill 88 = .ok (.dup, 1) := by decide +kernel
theorem dX4_hill_89 : decode cX4_hill 89 = .ok (.getfield 39, 3) := by decide +kernel
theorem dX4_hill_92 : decode cX4_hill 92 = .ok (.iconst 1, 1) := by decide +kernel
theorem dX4_hill_93 : decode cX4_hill 93 = .ok (.iadd, 1) := by decide +kernel
theorem dX4_hill_94 : decode cX4_hill 94 = .ok (.putfield 39, 3) := by decide +kernel
theorem dX4_hill_97 : decode cX4_hill 97 = .ok (.aload_n 0, 1) := by decide +kernel
theorem dX4_hill_98 : decode cX4_hill 98 = .ok (.getfield 39, 3) := by decide +kernel
theorem dX4_hill_101 : decode cX4_hill 101 = .ok (.iconst 1, 1) := by decide +kernel
theorem dX4_hill_102 : decode cX4_hill 102 = .ok (.isub, 1) := by decide +kernel
theorem dX4_hill_103 : decode cX4_hill 103 = .ok (.ireturn, 1) := by decide +kernel
set_option maxRecDepth 20000 in
theorem ggX4_say_X4_isHill : GoodIn wsX4_say wsX4_isHill := goodIn_r _ [8, 9, 10, 11, 7, 12, 17, 18, 19, 20, 21, 22, 23, 24, 25] (by decide +kernel) (by decide +kernel)
set_option maxRecDepth 20000 in
theorem gX4_say_X4_isHill : GoodIn wsX4_say (wsV RX4 101 RX4 yX4_isHill wsX4_isHill) := goodIn_app (goodIn_of _ (by decide +kernel)) ggX4_say_X4_isHill
set_option maxRecDepth 20000 in
theorem ggX4_say_X4_no : GoodIn wsX4_say wsX4_no := goodIn_r _ [16, 1, 17, 18, 19, 20, 21, 22, 23, 24, 25] (by decide +kernel) (by decide +kernel)
set_option maxRecDepth 20000 in
theorem gX4_say_X4_no : GoodIn wsX4_say (wsV RX4 91 RX4 yX4_no wsX4_no) := goodIn_app (goodIn_of _ (by decide +kernel)) ggX4_say_X4_no
theorem dX4_say_0 : decode cX4_say 0 = .ok (.aload_n 0, 1) := by decide +kernel
theorem dX4_say_1 : decode cX4_say 1 = .ok (.iconst 0, 1) := by decide +kernel
theorem dX4_say_2 : decode cX4_say 2 = .ok (.putfield 32, 3) := by decide +kernel
theorem dX4_say_5 : decode cX4_say 5 = .ok (.aload_n 0, 1) := by decide +kernel
theorem dX4_say_6 : decode cX4_say 6 = .ok (.iload_n 1, 1) := by decide +kernel
theorem dX4_say_7 : decode cX4_say 7 = .ok (.invokevirtual 101, 3) := by decide +kernel
theorem dX4_say_10 : decode cX4_say 10 = .ok (.ifCond .ne 9, 3) := by decide +kernel
theorem dX4_say_13 : decode cX4_say 13 = .ok (.aload_n 0, 1) := by decide +kernel
theorem dX4_say_14 : decode cX4_say 14 = .ok (.iconst 1, 1) := by decide +kernel
theorem dX4_say_15 : decode cX4_say 15 = .ok (.invokevirtual 91, 3) := by decide +kernel
theorem dX4_say_18 : decode cX4_say 18 = .ok (.ireturn, 1) := by decide +kernel
theorem dX4_say_19 : decode cX4_say 19 = .ok (.aload_n 0, 1) := by decide +kernel
theorem dX4_say_20 : decode cX4_say 20 = .ok (.getfield 23, 3) := by decide +kernel
theorem dX4_say_23 : decode cX4_say 23 = .ok (.iload_n 1, 1) := by decide +kernel
theorem dX4_say_24 : decode cX4_say 24 = .ok (.iaload, 1) := by decide +kernel
theorem dX4_say_25 : decode cX4_say 25 = .ok (.bipush 12, 2) := by decide +kernel
theorem dX4_say_27 : decode cX4_say 27 = .ok (.if_icmp .ne 9, 3) := by decide +kernel
theorem dX4_say_30 : decode cX4_say 30 = .ok (.aload_n 0, 1) := by decide +kernel
theorem dX4_say_31 : decode cX4_say 31 = .ok (.iconst 2, 1) := by decide +kernel
theorem dX4_say_32 : decode cX4_say 32 = .ok (.invokevirtual 91, 3) := by decide +kernel
theorem dX4_say_35 : decode cX4_say 35 = .ok (.ireturn, 1) := by decide +kernel
theorem dX4_say_36 : decode cX4_say 36 = .ok (.aload_n 0, 1) := by decide +kernel
theorem dX4_say_37 : decode cX4_say 37 = .ok (.getfield 26, 3) := by decide +kernel
theorem dX4_say_40 : decode cX4_say 40 = .ok (.bipush 12, 2) := by decide +kernel
theorem dX4_say_42 : decode cX4_say 42 = .ok (.iload_n 1, 1) := by decide +kernel
theorem dX4_say_43 : decode cX4_say 43 = .ok (.imul, 1) := by decide +kernel
theorem dX4_say_44 : decode cX4_say 44 = .ok (.aload_n 0, 1) := by decide +kernel
theorem dX4_say_45 : decode cX4_say 45 = .ok (.getfield 23, 3) := by decide +kernel
theorem dX4_say_48 : decode cX4_say 48 = .ok (.iload_n 1, 1) := by decide +kernel
theorem dX4_say_49 : decode cX4_say 49 = .ok (.iaload, 1) := by decide +kernel
theorem dX4_say_50 : decode cX4_say 50 = .ok (.iadd, 1) := by decide +kernel
theorem dX4_say_51 : decode cX4_say 51 = .ok (.iload_n 2, 1) := by decide +kernel
theorem dX4_say_52 : decode cX4_say 52 = .ok (.ifCond .eq 7, 3) := by decide +kernel
theorem dX4_say_55 : decode cX4_say 55 = .ok (.iconst 1, 1) := by decide +kernel
theorem dX4_say_56 : decode cX4_say 56 = .ok (.goto 4, 3) := by decide +kernel
theorem dX4_say_59 : decode cX4_say 59 = .ok (.iconst (-1), 1) := by decide +kernel
theorem dX4_say_60 : decode cX4_say 60 = .ok (.iastore, 1) := by decide +kernel
theorem dX4_say_61 : decode cX4_say 61 = .ok (.aload_n 0, 1) := by decide +kernel
theorem dX4_say_62 : decode cX4_say 62 = .ok (.getfield 23, 3) := by decide +kernel
theorem dX4_say_65 : decode cX4_say 65 = .ok (.iload_n 1, 1) := by decide +kernel
theorem dX4_say_66 : decode cX4_say 66 = .ok (.dup2, 1) := by decide +kernel
theorem dX4_say_67 : decode cX4_say 67 = .ok (.iaload, 1) := by decide +kernel
theorem dX4_say_68 : decode cX4_say 68 = .ok (.iconst 1, 1) := by decide +kernel
theorem dX4_say_69 : decode cX4_say 69 = .ok (.iadd, 1) := by decide +kernel
theorem dX4_say_70 : decode cX4_say 70 = .ok (.iastore, 1) := by decide +kernel
theorem dX4_say_71 : decode cX4_say 71 = .ok (.aload_n 0, 1) := by decide +kernel
theorem dX4_say_72 : decode cX4_say 72 = .ok (.getfield 23, 3) := by decide +kernel
theorem dX4_say_75 : decode cX4_say 75 = .ok (.iload_n 1, 1) := by decide +kernel
theorem dX4_say_76 : decode cX4_say 76 = .ok (.iaload, 1) := by decide +kernel
theorem dX4_say_77 : decode cX4_say 77 = .ok (.ireturn, 1) := by decide +kernel
set_option maxRecDepth 20000 in
theorem ggX4_hush_X4_isHill : GoodIn wsX4_hush wsX4_isHill := goodIn_r _ [7, 8, 9, 10, 6, 11, 16, 17, 18, 19, 20, 21, 22, 23, 24] (by decide +kernel) (by decide +kernel)
set_option maxRecDepth 20000 in
theorem gX4_hush_X4_isHill : GoodIn wsX4_hush (wsV RX4 101 RX4 yX4_isHill wsX4_isHill) := goodIn_app (goodIn_of _ (by decide +kernel)) ggX4_hush_X4_isHill
set_option maxRecDepth 20000 in
theorem ggX4_hush_X4_no : GoodIn wsX4_hush wsX4_no := goodIn_r _ [15, 1, 16, 17, 18, 19, 20, 21, 22, 23, 24] (by decide +kernel) (by decide +kernel)
set_option maxRecDepth 20000 in
theorem gX4_hush_X4_no : GoodIn wsX4_hush (wsV RX4 91 RX4 yX4_no wsX4_no) := goodIn_app (goodIn_of _ (by decide +kernel)) ggX4_hush_X4_no
theorem dX4_hush_0 : decode cX4_hush 0 = .ok (.aload_n 0, 1) := by decide +kernel
theorem dX4_hush_1 : decode cX4_hush 1 = .ok (.iconst 0, 1) := by decide +kernel
theorem dX4_hush_2 : decode cX4_hush 2 = .ok (.putfield 32, 3) := by decide +kernel
theorem dX4_hush_5 : decode cX4_hush 5 = .ok (.aload_n 0, 1) := by decide +kernel
theorem dX4_hush_6 : decode cX4_hush 6 = .ok (.iload_n 1, 1) := by decide +kernel
theorem dX4_hush_7 : decode cX4_hush 7 = .ok (.invokevirtual 101, 3) := by decide +kernel
theorem dX4_hush_10 : decode cX4_hush 10 = .ok (.ifCond .ne 9, 3) := by decide +kernel
theorem dX4_hush_13 : decode cX4_hush 13 = .ok (.aload_n 0, 1) := by decide +kernel
theorem dX4_hush_14 : decode cX4_hush 14 = .ok (.iconst 1, 1) := by decide +kernel
theorem dX4_hush_15 : decode cX4_hush 15 = .ok (.invokevirtual 91, 3) := by decide +kernel
theorem dX4_hush_18 : decode cX4_hush 18 = .ok (.ireturn, 1) := by decide +kernel
theorem dX4_hush_19 : decode cX4_hush 19 = .ok (.aload_n 0, 1) := by decide +kernel
theorem dX4_hush_20 : decode cX4_hush 20 = .ok (.getfield 23, 3) := by decide +kernel
theorem dX4_hush_23 : decode cX4_hush 23 = .ok (.iload_n 1, 1) := by decide +kernel
theorem dX4_hush_24 : decode cX4_hush 24 = .ok (.iaload, 1) := by decide +kernel
theorem dX4_hush_25 : decode cX4_hush 25 = .ok (.istore_n 2, 1) := by decide +kernel
theorem dX4_hush_26 : decode cX4_hush 26 = .ok (.aload_n 0, 1) := by decide +kernel
theorem dX4_hush_27 : decode cX4_hush 27 = .ok (.getfield 23, 3) := by decide +kernel
theorem dX4_hush_30 : decode cX4_hush 30 = .ok (.iload_n 1, 1) := by decide +kernel
theorem dX4_hush_31 : decode cX4_hush 31 = .ok (.iconst 0, 1) := by decide +kernel
theorem dX4_hush_32 : decode cX4_hush 32 = .ok (.iastore, 1) := by decide +kernel
theorem dX4_hush_33 : decode cX4_hush 33 = .ok (.iload_n 2, 1) := by decide +kernel
theorem dX4_hush_34 : decode cX4_hush 34 = .ok (.ireturn, 1) := by decide +kernel
set_option maxRecDepth 20000 in
theorem ggX4_setDelay_X4_isHill : GoodIn wsX4_setDelay wsX4_isHill := goodIn_r _ [7, 8, 9, 10, 6, 11, 21, 22, 23, 24, 25, 26, 27, 28, 29] (by decide +kernel) (by decide +kernel)
set_option maxRecDepth 20000 in
theorem gX4_setDelay_X4_isHill : GoodIn wsX4_setDelay (wsV RX4 101 RX4 yX4_isHill wsX4_isHill) := goodIn_app (goodIn_of _ (by decide +kernel)) ggX4_setDelay_X4_isHill
set_option maxRecDepth 20000 in
theorem ggX4_setDelay_X4_no : GoodIn wsX4_setDelay wsX4_no := goodIn_r _ [15, 1, 21, 22, 23, 24, 25, 26, 27, 28, 29] (by decide +kernel) (by decide +kernel)
set_option maxRecDepth 20000 in
theorem gX4_setDelay_X4_no : GoodIn wsX4_setDelay (wsV RX4 91 RX4 yX4_no wsX4_no) := goodIn_app (goodIn_of _ (by decide +kernel)) ggX4_setDelay_X4_no
set_option maxRecDepth 20000 in
theorem ggX4_setDelay_X4_isCode : GoodIn wsX4_setDelay wsX4_isCode := goodIn_r _ [19, 20, 9, 10, 6, 11, 21, 22, 23, 24, 25, 26, 27, 28, 29] (by decide +kernel) (by decide +kernel)
set_option maxRecDepth 20000 in
theorem gX4_setDelay_X4_isCode : GoodIn wsX4_setDelay (wsV RX4 94 RX4 yX4_isCode wsX4_isCode) := goodIn_app (goodIn_of _ (by decide +kernel)) ggX4_setDelay_X4_isCode
theorem dX4_setDelay_0 : decode cX4_setDelay 0 = .ok (.aload_n 0, 1) := by decide +kernel
theorem dX4_setDelay_1 : decode cX4_setDelay 1 = .ok (.iconst 0, 1) := by decide +kernel
theorem dX4_setDelay_2 : decode cX4_setDelay 2 = .ok (.putfield 32, 3) := by decide +kernel
theorem dX4_setDelay_5 : decode cX4_setDelay 5 = .ok (.aload_n 0, 1) := by decide +kernel
theorem dX4_setDelay_6 : decode cX4_setDelay 6 = .ok (.iload_n 1, 1) := by decide +kernel
theorem dX4_setDelay_7 : decode cX4_setDelay 7 = .ok (.invokevirtual 101, 3) := by decide +kernel
theorem dX4_setDelay_10 : decode cX4_setDelay 10 = .ok (.ifCond .ne 9, 3) := by decide +kernel
theorem dX4_setDelay_13 : decode cX4_setDelay 13 = .ok (.aload_n 0, 1) := by decide +kernel
theorem dX4_setDelay_14 : decode cX4_setDelay 14 = .ok (.iconst 1, 1) := by decide +kernel
theorem dX4_setDelay_15 : decode cX4_setDelay 15 = .ok (.invokevirtual 91, 3) := by decide +kernel
theorem dX4_setDelay_18 : decode cX4_setDelay 18 = .ok (.ireturn, 1) := by decide +kernel
theorem dX4_setDelay_19 : decode cX4_setDelay 19 = .ok (.aload_n 0, 1) := by decide +kernel
theorem dX4_setDelay_20 : decode cX4_setDelay 20 = .ok (.iload_n 2, 1) := by decide +kernel
theorem dX4_setDelay_21 : decode cX4_setDelay 21 = .ok (.invokevirtual 94, 3) := by decide +kernel
theorem dX4_setDelay_24 : decode cX4_setDelay 24 = .ok (.ifCond .ne 9, 3) := by decide +kernel
theorem dX4_setDelay_27 : decode cX4_setDelay 27 = .ok (.aload_n 0, 1) := by decide +kernel
theorem dX4_setDelay_28 : decode cX4_setDelay 28 = .ok (.iconst 2, 1) := by decide +kernel
theorem dX4_setDelay_29 : decode cX4_setDelay 29 = .ok (.invokevirtual 91, 3) := by decide +kernel
theorem dX4_setDelay_32 : decode cX4_setDelay 32 = .ok (.ireturn, 1) := by decide +kernel
theorem dX4_setDelay_33 : decode cX4_setDelay 33 = .ok (.aload_n 0, 1) := by decide +kernel
theorem dX4_setDelay_34 : decode cX4_setDelay 34 = .ok (.getfield 20, 3) := by decide +kernel
theorem dX4_setDelay_37 : decode cX4_setDelay 37 = .ok (.iload_n 1, 1) := by decide +kernel
theorem dX4_setDelay_38 : decode cX4_setDelay 38 = .ok (.iaload, 1) := by decide +kernel
theorem dX4_setDelay_39 : decode cX4_setDelay 39 = .ok (.istore_n 3, 1) := by decide +kernel
theorem dX4_setDelay_40 : decode cX4_setDelay 40 = .ok (.aload_n 0, 1) := by decide +kernel
theorem dX4_setDelay_41 : decode cX4_setDelay 41 = .ok (.getfield 20, 3) := by decide +kernel
theorem dX4_setDelay_44 : decode cX4_setDelay 44 = .ok (.iload_n 1, 1) := by decide +kernel
theorem dX4_setDelay_45 : decode cX4_setDelay 45 = .ok (.iload_n 2, 1) := by decide +kernel
theorem dX4_setDelay_46 : decode cX4_setDelay 46 = .ok (.iastore, 1) := by decide +kernel
theorem dX4_setDelay_47 : decode cX4_setDelay 47 = .ok (.iload_n 3, 1) := by decide +kernel
theorem dX4_setDelay_48 : decode cX4_setDelay 48 = .ok (.ireturn, 1) := by decide +kernel
set_option maxRecDepth 20000 in
theorem ggX4_setStrength_X4_isHill : GoodIn wsX4_setStrength wsX4_isHill := goodIn_r _ [7, 8, 9, 10, 6, 11, 19, 20, 21, 22, 23, 24, 25, 26, 27] (by decide +kernel) (by decide +kernel)
set_option maxRecDepth 20000 in
theorem gX4_setStrength_X4_isHill : GoodIn wsX4_setStrength (wsV RX4 101 RX4 yX4_isHill wsX4_isHill) := goodIn_app (goodIn_of _ (by decide +kernel)) ggX4_setStrength_X4_isHill
set_option maxRecDepth 20000 in
theorem ggX4_setStrength_X4_no : GoodIn wsX4_setStrength wsX4_no := goodIn_r _ [15, 1, 19, 20, 21, 22, 23, 24, 25, 26, 27] (by decide +kernel) (by decide +kernel)
set_option maxRecDepth 20000 in
theorem gX4_setStrength_X4_no : GoodIn wsX4_setStrength (wsV RX4 91 RX4 yX4_no wsX4_no) := goodIn_app (goodIn_of _ (by decide +kernel)) ggX4_setStrength_X4_no
set_option maxRecDepth 20000 in
theorem ggX4_setStrength_X4_isStrength : GoodIn wsX4_setStrength wsX4_isStrength := goodIn_r _ [18, 9, 10, 6, 11] (by decide +kernel) (by decide +kernel)
set_option maxRecDepth 20000 in
theorem gX4_setStrength_X4_isStrength : GoodIn wsX4_setStrength (va_wsS RX4 98 yX4_isStrength wsX4_isStrength) := goodIn_app (goodIn_of _ (by decide +kernel)) ggX4_setStrength_X4_isStrength
theorem dX4_setStrength_0 : decode cX4_setStrength 0 = .ok (.aload_n 0, 1) := by decide +kernel
theorem dX4_setStrength_1 : decode cX4_setStrength 1 = .ok (.iconst 0, 1) := by decide +kernel
theorem dX4_setStrength_2 : decode cX4_setStrength 2 = .ok (.putfield 32, 3) := by decide +kernel
theorem dX4_setStrength_5 : decode cX4_setStrength 5 = .ok (.aload_n 0, 1) := by decide +kernel
theorem dX4_setStrength_6 : decode cX4_setStrength 6 = .ok (.iload_n 1, 1) := by decide +kernel
theorem dX4_setStrength_7 : decode cX4_setStrength 7 = .ok (.invokevirtual 101, 3) := by decide +kernel
theorem dX4_setStrength_10 : decode cX4_setStrength 10 = .ok (.ifCond .ne 9, 3) := by decide +kernel
theorem dX4_setStrength_13 : decode cX4_setStrength 13 = .ok (.aload_n 0, 1) := by decide +kernel
theorem dX4_setStrength_14 : decode cX4_setStrength 14 = .ok (.iconst 1, 1) := by decide +kernel
theorem dX4_setStrength_15 : decode cX4_setStrength 15 = .ok (.invokevirtual 91, 3) := by decide +kernel
theorem dX4_setStrength_18 : decode cX4_setStrength 18 = .ok (.ireturn, 1) := by decide +kernel
theorem dX4_setStrength_19 : decode cX4_setStrength 19 = .ok (.iload_n 2, 1) := by decide +kernel
theorem dX4_setStrength_20 : decode cX4_setStrength 20 = .ok (.invokestatic 98, 3) := by decide +kernel
theorem dX4_setStrength_23 : decode cX4_setStrength 23 = .ok (.ifCond .ne 9, 3) := by decide +kernel
theorem dX4_setStrength_26 : decode cX4_setStrength 26 = .ok (.aload_n 0, 1) := by decide +kernel
theorem dX4_setStrength_27 : decode cX4_setStrength 27 = .ok (.iconst 2, 1) := by decide +kernel
theorem dX4_setStrength_28 : decode cX4_setStrength 28 = .ok (.invokevirtual 91, 3) := by decide +kernel
theorem dX4_setStrength_31 : decode cX4_setStrength 31 = .ok (.ireturn, 1) := by decide +kernel
theorem dX4_setStrength_32 : decode cX4_setStrength 32 = .ok (.aload_n 0, 1) := by decide +kernel
theorem dX4_setStrength_33 : decode cX4_setStrength 33 = .ok (.getfield 17, 3) := by decide +kernel
theorem dX4_setStrength_36 : decode cX4_setStrength 36 = .ok (.iload_n 1, 1) := by decide +kernel
theorem dX4_setStrength_37 : decode cX4_setStrength 37 = .ok (.iaload, 1) := by decide +kernel
theorem dX4_setStrength_38 : decode cX4_setStrength 38 = .ok (.istore_n 3, 1) := by decide +kernel
theorem dX4_setStrength_39 : decode cX4_setStrength 39 = .ok (.aload_n 0, 1) := by decide +kernel
theorem dX4_setStrength_40 : decode cX4_setStrength 40 = .ok (.getfield 17, 3) := by decide +kernel
theorem dX4_setStrength_43 : decode cX4_setStrength 43 = .ok (.iload_n 1, 1) := by decide +kernel
theorem dX4_setStrength_44 : decode cX4_setStrength 44 = .ok (.iload_n 2, 1) := by decide +kernel
theorem dX4_setStrength_45 : decode cX4_setStrength 45 = .ok (.iastore, 1) := by decide +kernel
theorem dX4_setStrength_46 : decode cX4_setStrength 46 = .ok (.iload_n 3, 1) := by decide +kernel
theorem dX4_setStrength_47 : decode cX4_setStrength 47 = .ok (.ireturn, 1) := by decide +kernel
set_option maxRecDepth 20000 in
theorem ggX4_setStorm_X4_isIn : GoodIn wsX4_setStorm wsX4_isIn := goodIn_r _ [6] (by decide +kernel) (by decide +kernel)
set_option maxRecDepth 20000 in
theorem gX4_setStorm_X4_isIn : GoodIn wsX4_setStorm (va_wsS RX4 35 yX4_isIn wsX4_isIn) := goodIn_app (goodIn_of _ (by decide +kernel)) ggX4_setStorm_X4_isIn
set_option maxRecDepth 20000 in
theorem ggX4_setStorm_X4_no : GoodIn wsX4_setStorm wsX4_no := goodIn_r _ [10, 1, 11, 12, 13, 14, 15, 16, 17, 18, 19] (by decide +kernel) (by decide +kernel)
set_option maxRecDepth 20000 in
theorem gX4_setStorm_X4_no : GoodIn wsX4_setStorm (wsV RX4 91 RX4 yX4_no wsX4_no) := goodIn_app (goodIn_of _ (by decide +kernel)) ggX4_setStorm_X4_no
theorem dX4_setStorm_0 : decode cX4_setStorm 0 = .ok (.aload_n 0, 1) := by decide +kernel
theorem dX4_setStorm_1 : decode cX4_setStorm 1 = .ok (.iconst 0, 1) := by decide +kernel
theorem dX4_setStorm_2 : decode cX4_setStorm 2 = .ok (.putfield 32, 3) := by decide +kernel
theorem dX4_setStorm_5 : decode cX4_setStorm 5 = .ok (.iload_n 1, 1) := by decide +kernel
theorem dX4_setStorm_6 : decode cX4_setStorm 6 = .ok (.iconst 0, 1) := by decide +kernel
theorem dX4_setStorm_7 : decode cX4_setStorm 7 = .ok (.bipush 19, 2) := by decide +kernel
theorem dX4_setStorm_9 : decode cX4_setStorm 9 = .ok (.invokestatic 35, 3) := by decide +kernel
theorem dX4_setStorm_12 : decode cX4_setStorm 12 = .ok (.ifCond .ne 9, 3) := by decide +kernel
theorem dX4_setStorm_15 : decode cX4_setStorm 15 = .ok (.aload_n 0, 1) := by decide +kernel
theorem dX4_setStorm_16 : decode cX4_setStorm 16 = .ok (.iconst 1, 1) := by decide +kernel
theorem dX4_setStorm_17 : decode cX4_setStorm 17 = .ok (.invokevirtual 91, 3) := by decide +kernel
theorem dX4_setStorm_20 : decode cX4_setStorm 20 = .ok (.ireturn, 1) := by decide +kernel
theorem dX4_setStorm_21 : decode cX4_setStorm 21 = .ok (.iload_n 2, 1) := by decide +kernel
theorem dX4_setStorm_22 : decode cX4_setStorm 22 = .ok (.bipush (-99), 2) := by decide +kernel
theorem dX4_setStorm_24 : decode cX4_setStorm 24 = .ok (.bipush 99, 2) := by decide +kernel
theorem dX4_setStorm_26 : decode cX4_setStorm 26 = .ok (.invokestatic 35, 3) := by decide +kernel
theorem dX4_setStorm_29 : decode cX4_setStorm 29 = .ok (.ifCond .ne 9, 3) := by decide +kernel
theorem dX4_setStorm_32 : decode cX4_setStorm 32 = .ok (.aload_n 0, 1) := by decide +kernel
theorem dX4_setStorm_33 : decode cX4_setStorm 33 = .ok (.iconst 2, 1) := by decide +kernel
theorem dX4_setStorm_34 : decode cX4_setStorm 34 = .ok (.invokevirtual 91, 3) := by decide +kernel
theorem dX4_setStorm_37 : decode cX4_setStorm 37 = .ok (.ireturn, 1) := by decide +kernel
theorem dX4_setStorm_38 : decode cX4_setStorm 38 = .ok (.aload_n 0, 1) := by decide +kernel
theorem dX4_setStorm_39 : decode cX4_setStorm 39 = .ok (.getfield 29, 3) := by decide +kernel
theorem dX4_setStorm_42 : decode cX4_setStorm 42 = .ok (.iload_n 1, 1) := by decide +kernel
theorem dX4_setStorm_43 : decode cX4_setStorm 43 = .ok (.iaload, 1) := by decide +kernel
theorem dX4_setStorm_44 : decode cX4_setStorm 44 = .ok (.istore_n 3, 1) := by decide +kernel
theorem dX4_setStorm_45 : decode cX4_setStorm 45 = .ok (.aload_n 0, 1) := by decide +kernel
theorem dX4_setStorm_46 : decode cX4_setStorm 46 = .ok (.getfield 29, 3) := by decide +kernel
theorem dX4_setStorm_49 : decode cX4_setStorm 49 = .ok (.iload_n 1, 1) := by decide +kernel
theorem dX4_setStorm_50 : decode cX4_setStorm 50 = .ok (.iload_n 2, 1) := by decide +kernel
theorem dX4_setStorm_51 : decode cX4_setStorm 51 = .ok (.iastore, 1) := by decide +kernel
theorem dX4_setStorm_52 : decode cX4_setStorm 52 = .ok (.iload_n 3, 1) := by decide +kernel
theorem dX4_setStorm_53 : decode cX4_setStorm 53 = .ok (.ireturn, 1) := by decide +kernel
set_option maxRecDepth 20000 in
theorem ggX4_chip_X4_isCode : GoodIn wsX4_chip wsX4_isCode := goodIn_r _ [6, 7, 8, 9, 5, 10, 25, 26, 27, 28, 29, 30, 31, 32, 33] (by decide +kernel) (by decide +kernel)
set_option maxRecDepth 20000 in
theorem gX4_chip_X4_isCode : GoodIn wsX4_chip (wsV RX4 94 RX4 yX4_isCode wsX4_isCode) := goodIn_app (goodIn_of _ (by decide +kernel)) ggX4_chip_X4_isCode
set_option maxRecDepth 20000 in
theorem ggX4_chip_X4_chipOf : GoodIn wsX4_chip wsX4_chipOf := goodIn_r _ [13, 14, 15, 16, 17, 18, 19, 20] (by decide +kernel) (by decide +kernel)
set_option maxRecDepth 20000 in
theorem gX4_chip_X4_chipOf : GoodIn wsX4_chip (va_wsS RX4 48 yX4_chipOf wsX4_chipOf) := goodIn_app (goodIn_of _ (by decide +kernel)) ggX4_chip_X4_chipOf
set_option maxRecDepth 20000 in
theorem ggX4_chip_X4_no : GoodIn wsX4_chip wsX4_no := goodIn_r _ [24, 1, 25, 26, 27, 28, 29, 30, 31, 32, 33] (by decide +kernel) (by decide +kernel)
set_option maxRecDepth 20000 in
theorem gX4_chip_X4_no : GoodIn wsX4_chip (wsV RX4 91 RX4 yX4_no wsX4_no) := goodIn_app (goodIn_of _ (by decide +kernel)) ggX4_chip_X4_no
theorem dX4_chip_0 : decode cX4_chip 0 = .ok (.aload_n 0, 1) := by decide +kernel
theorem dX4_chip_1 : decode cX4_chip 1 = .ok (.iconst 0, 1) := by decide +kernel
theorem dX4_chip_2 : decode cX4_chip 2 = .ok (.putfield 32, 3) := by decide +kernel
theorem dX4_chip_5 : decode cX4_chip 5 = .ok (.aload_n 0, 1) := by decide +kernel
theorem dX4_chip_6 : decode cX4_chip 6 = .ok (.iload_n 1, 1) := by decide +kernel
theorem dX4_chip_7 : decode cX4_chip 7 = .ok (.invokevirtual 94, 3) := by decide +kernel
theorem dX4_chip_10 : decode cX4_chip 10 = .ok (.ifCond .eq 19, 3) := by decide +kernel
theorem dX4_chip_13 : decode cX4_chip 13 = .ok (.aload_n 0, 1) := by decide +kernel
theorem dX4_chip_14 : decode cX4_chip 14 = .ok (.iload_n 2, 1) := by decide +kernel
theorem dX4_chip_15 : decode cX4_chip 15 = .ok (.invokevirtual 94, 3) := by decide +kernel
theorem dX4_chip_18 : decode cX4_chip 18 = .ok (.ifCond .eq 11, 3) := by decide +kernel
theorem dX4_chip_21 : decode cX4_chip 21 = .ok (.iload_n 1, 1) := by decide +kernel
theorem dX4_chip_22 : decode cX4_chip 22 = .ok (.iload_n 2, 1) := by decide +kernel
theorem dX4_chip_23 : decode cX4_chip 23 = .ok (.invokestatic 48, 3) := by decide +kernel
theorem dX4_chip_26 : decode cX4_chip 26 = .ok (.goto 8, 3) := by decide +kernel
theorem dX4_chip_29 : decode cX4_chip 29 = .ok (.aload_n 0, 1) := by decide +kernel
theorem dX4_chip_30 : decode cX4_chip 30 = .ok (.iconst 1, 1) := by decide +kernel
theorem dX4_chip_31 : decode cX4_chip 31 = .ok (.invokevirtual 91, 3) := by decide +kernel
theorem dX4_chip_34 : decode cX4_chip 34 = .ok (.ireturn, 1) := by decide +kernel
set_option maxRecDepth 20000 in
theorem ggX4_sky_X4_isTime : GoodIn wsX4_sky wsX4_isTime := goodIn_r _ [5, 6, 7, 4, 8] (by decide +kernel) (by decide +kernel)
set_option maxRecDepth 20000 in
theorem gX4_sky_X4_isTime : GoodIn wsX4_sky (va_wsS RX4 104 yX4_isTime wsX4_isTime) := goodIn_app (goodIn_of _ (by decide +kernel)) ggX4_sky_X4_isTime
set_option maxRecDepth 20000 in
theorem ggX4_sky_X4_skyAt : GoodIn wsX4_sky wsX4_skyAt := goodIn_r _ [12, 13, 14, 15, 16, 17, 4, 18, 19, 20, 21, 22, 23, 24, 25, 26, 27, 28, 29, 30, 31, 32, 33, 34, 39, 40, 41, 42, 43, 44, 45, 46, 47] (by decide +kernel) (by decide +kernel)
set_option maxRecDepth 20000 in
theorem gX4_sky_X4_skyAt : GoodIn wsX4_sky (wsV RX4 55 RX4 yX4_skyAt wsX4_skyAt) := goodIn_app (goodIn_of _ (by decide +kernel)) ggX4_sky_X4_skyAt
set_option maxRecDepth 20000 in
theorem ggX4_sky_X4_no : GoodIn wsX4_sky wsX4_no := goodIn_r _ [38, 1, 39, 40, 41, 42, 43, 44, 45, 46, 47] (by decide +kernel) (by decide +kernel)
set_option maxRecDepth 20000 in
theorem gX4_sky_X4_no : GoodIn wsX4_sky (wsV RX4 91 RX4 yX4_no wsX4_no) := goodIn_app (goodIn_of _ (by decide +kernel)) ggX4_sky_X4_no
theorem dX4_sky_0 : decode cX4_sky 0 = .ok (.aload_n 0, 1) := by decide +kernel
theorem dX4_sky_1 : decode cX4_sky 1 = .ok (.iconst 0, 1) := by decide +kernel
theorem dX4_sky_2 : decode cX4_sky 2 = .ok (.putfield 32, 3) := by decide +kernel
theorem dX4_sky_5 : decode cX4_sky 5 = .ok (.iload_n 1, 1) := by decide +kernel
theorem dX4_sky_6 : decode cX4_sky 6 = .ok (.invokestatic 104, 3) := by decide +kernel
theorem dX4_sky_9 : decode cX4_sky 9 = .ok (.ifCond .eq 11, 3) := by decide +kernel
theorem dX4_sky_12 : decode cX4_sky 12 = .ok (.aload_n 0, 1) := by decide +kernel
theorem dX4_sky_13 : decode cX4_sky 13 = .ok (.iload_n 1, 1) := by decide +kernel
theorem dX4_sky_14 : decode cX4_sky 14 = .ok (.invokevirtual 55, 3) := by decide +kernel
theorem dX4_sky_17 : decode cX4_sky 17 = .ok (.goto 8, 3) := by decide +kernel
theorem dX4_sky_20 : decode cX4_sky 20 = .ok (.aload_n 0, 1) := by decide +kernel
theorem dX4_sky_21 : decode cX4_sky 21 = .ok (.iconst 1, 1) := by decide +kernel
theorem dX4_sky_22 : decode cX4_sky 22 = .ok (.invokevirtual 91, 3) := by decide +kernel
theorem dX4_sky_25 : decode cX4_sky 25 = .ok (.ireturn, 1) := by decide +kernel
set_option maxRecDepth 20000 in
theorem ggX4_hear_X4_isCode : GoodIn wsX4_hear wsX4_isCode := goodIn_r _ [6, 7, 8, 9, 5, 10, 47, 48, 49, 50, 51, 52, 53, 54, 55] (by decide +kernel) (by decide +kernel)
set_option maxRecDepth 20000 in
theorem gX4_hear_X4_isCode : GoodIn wsX4_hear (wsV RX4 94 RX4 yX4_isCode wsX4_isCode) := goodIn_app (goodIn_of _ (by decide +kernel)) ggX4_hear_X4_isCode
set_option maxRecDepth 20000 in
theorem ggX4_hear_X4_no : GoodIn wsX4_hear wsX4_no := goodIn_r _ [14, 1, 47, 48, 49, 50, 51, 52, 53, 54, 55] (by decide +kernel) (by decide +kernel)
set_option maxRecDepth 20000 in
theorem gX4_hear_X4_no : GoodIn wsX4_hear (wsV RX4 91 RX4 yX4_no wsX4_no) := goodIn_app (goodIn_of _ (by decide +kernel)) ggX4_hear_X4_no
set_option maxRecDepth 20000 in
theorem ggX4_hear_X4_isTime : GoodIn wsX4_hear wsX4_isTime := goodIn_r _ [17, 8, 9, 5, 10] (by decide +kernel) (by decide +kernel)
set_option maxRecDepth 20000 in
theorem gX4_hear_X4_isTime : GoodIn wsX4_hear (va_wsS RX4 104 yX4_isTime wsX4_isTime) := goodIn_app (goodIn_of _ (by decide +kernel)) ggX4_hear_X4_isTime
set_option maxRecDepth 20000 in
theorem ggX4_hear_X4_heard : GoodIn wsX4_hear wsX4_heard := goodIn_r _ [21, 7, 22, 23, 24, 5, 25, 26, 27, 28, 29, 30, 31, 32, 33, 34, 35, 36, 37, 38, 39, 40, 41, 42, 43, 44, 45, 46, 47, 48, 49, 50, 51, 52, 53, 54, 55] (by decide +kernel) (by decide +kernel)
set_option maxRecDepth 20000 in
theorem gX4_hear_X4_heard : GoodIn wsX4_hear (wsV RX4 61 RX4 yX4_heard wsX4_heard) := goodIn_app (goodIn_of _ (by decide +kernel)) ggX4_hear_X4_heard
theorem dX4_hear_0 : decode cX4_hear 0 = .ok (.aload_n 0, 1) := by decide +kernel
theorem dX4_hear_1 : decode cX4_hear 1 = .ok (.iconst 0, 1) := by decide +kernel
theorem dX4_hear_2 : decode cX4_hear 2 = .ok (.putfield 32, 3) := by decide +kernel
theorem dX4_hear_5 : decode cX4_hear 5 = .ok (.aload_n 0, 1) := by decide +kernel
theorem dX4_hear_6 : decode cX4_hear 6 = .ok (.iload_n 1, 1) := by decide +kernel
theorem dX4_hear_7 : decode cX4_hear 7 = .ok (.invokevirtual 94, 3) := by decide +kernel
theorem dX4_hear_10 : decode cX4_hear 10 = .ok (.ifCond .ne 9, 3) := by decide +kernel
theorem dX4_hear_13 : decode cX4_hear 13 = .ok (.aload_n 0, 1) := by decide +kernel
theorem dX4_hear_14 : decode cX4_hear 14 = .ok (.iconst 1, 1) := by decide +kernel
theorem dX4_hear_15 : decode cX4_hear 15 = .ok (.invokevirtual 91, 3) := by decide +kernel
theorem dX4_hear_18 : decode cX4_hear 18 = .ok (.ireturn, 1) := by decide +kernel
theorem dX4_hear_19 : decode cX4_hear 19 = .ok (.iload_n 2, 1) := by decide +kernel
theorem dX4_hear_20 : decode cX4_hear 20 = .ok (.invokestatic 104, 3) := by decide +kernel
theorem dX4_hear_23 : decode cX4_hear 23 = .ok (.ifCond .eq 12, 3) := by decide +kernel
theorem dX4_hear_26 : decode cX4_hear 26 = .ok (.aload_n 0, 1) := by decide +kernel
theorem dX4_hear_27 : decode cX4_hear 27 = .ok (.iload_n 1, 1) := by decide +kernel
theorem dX4_hear_28 : decode cX4_hear 28 = .ok (.iload_n 2, 1) := by decide +kernel
theorem dX4_hear_29 : decode cX4_hear 29 = .ok (.invokevirtual 61, 3) := by decide +kernel
theorem dX4_hear_32 : decode cX4_hear 32 = .ok (.goto 8, 3) := by decide +kernel
theorem dX4_hear_35 : decode cX4_hear 35 = .ok (.aload_n 0, 1) := by decide +kernel
theorem dX4_hear_36 : decode cX4_hear 36 = .ok (.iconst 2, 1) := by decide +kernel
theorem dX4_hear_37 : decode cX4_hear 37 = .ok (.invokevirtual 91, 3) := by decide +kernel
theorem dX4_hear_40 : decode cX4_hear 40 = .ok (.ireturn, 1) := by decide +kernel
set_option maxRecDepth 20000 in
theorem ggX4_wordTold_X4_heardOf : GoodIn wsX4_wordTold wsX4_heardOf := goodIn_r _ [6, 7, 8, 9, 10, 5, 11, 12, 13, 14, 15, 16, 17, 18, 19, 20, 21, 22, 23, 24, 25, 26, 27, 28, 29, 1, 30, 31, 32, 33, 34, 35, 36, 37, 38, 39, 47, 48, 49, 50, 51, 52, 53, 54, 55] (by decide +kernel) (by decide +kernel)
set_option maxRecDepth 20000 in
theorem gX4_wordTold_X4_heardOf : GoodIn wsX4_wordTold (wsV RX4 64 RX4 yX4_heardOf wsX4_heardOf) := goodIn_app (goodIn_of _ (by decide +kernel)) ggX4_wordTold_X4_heardOf
set_option maxRecDepth 20000 in
theorem ggX4_wordTold_X4_isWrong : GoodIn wsX4_wordTold wsX4_isWrong := goodIn_r _ [43, 1, 2, 3, 4, 5, 6, 7, 8, 9, 10, 11, 12, 13, 14, 15, 16, 17, 18, 19, 20, 21, 22, 23, 24, 25, 26, 27, 28, 29, 30, 31, 32, 33, 34, 35, 36, 37, 38, 39, 44, 45, 46, 47, 48, 49, 50, 51, 52, 53, 54, 55] (by decide +kernel) (by decide +kernel)
set_option maxRecDepth 20000 in
theorem gX4_wordTold_X4_isWrong : GoodIn wsX4_wordTold (wsV RX4 70 RX4 yX4_isWrong wsX4_isWrong) := goodIn_app (goodIn_of _ (by decide +kernel)) ggX4_wordTold_X4_isWrong
theorem dX4_wordTold_0 : decode cX4_wordTold 0 = .ok (.iload_n 3, 1) := by decide +kernel
theorem dX4_wordTold_1 : decode cX4_wordTold 1 = .ok (.ifCond .ne 17, 3) := by decide +kernel
theorem dX4_wordTold_4 : decode cX4_wordTold 4 = .ok (.aload_n 0, 1) := by decide +kernel
theorem dX4_wordTold_5 : decode cX4_wordTold 5 = .ok (.getfield 26, 3) := by decide +kernel
theorem dX4_wordTold_8 : decode cX4_wordTold 8 = .ok (.bipush 12, 2) := by decide +kernel
theorem dX4_wordTold_10 : decode cX4_wordTold 10 = .ok (.iload_n 1, 1) := by decide +kernel
theorem dX4_wordTold_11 : decode cX4_wordTold 11 = .ok (.imul, 1) := by decide +kernel
theorem dX4_wordTold_12 : decode cX4_wordTold 12 = .ok (.iload_n 2, 1) := by decide +kernel
theorem dX4_wordTold_13 : decode cX4_wordTold 13 = .ok (.iadd, 1) := by decide +kernel
theorem dX4_wordTold_14 : decode cX4_wordTold 14 = .ok (.iaload, 1) := by decide +kernel
theorem dX4_wordTold_15 : decode cX4_wordTold 15 = .ok (.goto 23, 3) := by decide +kernel
theorem dX4_wordTold_18 : decode cX4_wordTold 18 = .ok (.iload_n 3, 1) := by decide +kernel
theorem dX4_wordTold_19 : decode cX4_wordTold 19 = .ok (.iconst 1, 1) := by decide +kernel
theorem dX4_wordTold_20 : decode cX4_wordTold 20 = .ok (.if_icmp .ne 12, 3) := by decide +kernel
theorem dX4_wordTold_23 : decode cX4_wordTold 23 = .ok (.aload_n 0, 1) := by decide +kernel
theorem dX4_wordTold_24 : decode cX4_wordTold 24 = .ok (.iload_n 1, 1) := by decide +kernel
theorem dX4_wordTold_25 : decode cX4_wordTold 25 = .ok (.iload_n 2, 1) := by decide +kernel
theorem dX4_wordTold_26 : decode cX4_wordTold 26 = .ok (.invokevirtual 64, 3) := by decide +kernel
theorem dX4_wordTold_29 : decode cX4_wordTold 29 = .ok (.goto 9, 3) := by decide +kernel
theorem dX4_wordTold_32 : decode cX4_wordTold 32 = .ok (.aload_n 0, 1) := by decide +kernel
theorem dX4_wordTold_33 : decode cX4_wordTold 33 = .ok (.iload_n 1, 1) := by decide +kernel
theorem dX4_wordTold_34 : decode cX4_wordTold 34 = .ok (.iload_n 2, 1) := by decide +kernel
theorem dX4_wordTold_35 : decode cX4_wordTold 35 = .ok (.invokevirtual 70, 3) := by decide +kernel
theorem dX4_wordTold_38 : decode cX4_wordTold 38 = .ok (.ireturn, 1) := by decide +kernel
set_option maxRecDepth 20000 in
theorem ggX4_word_X4_isHill : GoodIn wsX4_word wsX4_isHill := goodIn_r _ [7, 8, 9, 10, 6, 11, 63, 64, 65, 66, 67, 68, 69, 70, 71] (by decide +kernel) (by decide +kernel)
set_option maxRecDepth 20000 in
theorem gX4_word_X4_isHill : GoodIn wsX4_word (wsV RX4 101 RX4 yX4_isHill wsX4_isHill) := goodIn_app (goodIn_of _ (by decide +kernel)) ggX4_word_X4_isHill
set_option maxRecDepth 20000 in
theorem ggX4_word_X4_isIn : GoodIn wsX4_word wsX4_isIn := goodIn_r _ [11] (by decide +kernel) (by decide +kernel)
set_option maxRecDepth 20000 in
theorem gX4_word_X4_isIn : GoodIn wsX4_word (va_wsS RX4 35 yX4_isIn wsX4_isIn) := goodIn_app (goodIn_of _ (by decide +kernel)) ggX4_word_X4_isIn
set_option maxRecDepth 20000 in
theorem ggX4_word_X4_wordTold : GoodIn wsX4_word wsX4_wordTold := goodIn_r _ [15, 16, 17, 18, 19, 6, 20, 21, 22, 23, 24, 25, 26, 27, 28, 29, 30, 31, 32, 33, 34, 35, 36, 8, 37, 38, 39, 40, 2, 41, 42, 43, 44, 45, 46, 47, 48, 49, 50, 51, 52, 53, 54, 55, 56, 57, 58, 63, 64, 65, 66, 67, 68, 69, 70, 71] (by decide +kernel) (by decide +kernel)
set_option maxRecDepth 20000 in
theorem gX4_word_X4_wordTold : GoodIn wsX4_word (wsV RX4 107 RX4 yX4_wordTold wsX4_wordTold) := goodIn_app (goodIn_of _ (by decide +kernel)) ggX4_word_X4_wordTold
set_option maxRecDepth 20000 in
theorem ggX4_word_X4_no : GoodIn wsX4_word wsX4_no := goodIn_r _ [62, 1, 63, 64, 65, 66, 67, 68, 69, 70, 71] (by decide +kernel) (by decide +kernel)
set_option maxRecDepth 20000 in
theorem gX4_word_X4_no : GoodIn wsX4_word (wsV RX4 91 RX4 yX4_no wsX4_no) := goodIn_app (goodIn_of _ (by decide +kernel)) ggX4_word_X4_no
theorem dX4_word_0 : decode cX4_word 0 = .ok (.aload_n 0, 1) := by decide +kernel
theorem dX4_word_1 : decode cX4_word 1 = .ok (.iconst 0, 1) := by decide +kernel
theorem dX4_word_2 : decode cX4_word 2 = .ok (.putfield 32, 3) := by decide +kernel
theorem dX4_word_5 : decode cX4_word 5 = .ok (.aload_n 0, 1) := by decide +kernel
theorem dX4_word_6 : decode cX4_word 6 = .ok (.iload_n 1, 1) := by decide +kernel
theorem dX4_word_7 : decode cX4_word 7 = .ok (.invokevirtual 101, 3) := by decide +kernel
theorem dX4_word_10 : decode cX4_word 10 = .ok (.ifCond .eq 38, 3) := by decide +kernel
theorem dX4_word_13 : decode cX4_word 13 = .ok (.iload_n 2, 1) := by decide +kernel
theorem dX4_word_14 : decode cX4_word 14 = .ok (.iconst 0, 1) := by decide +kernel
theorem dX4_word_15 : decode cX4_word 15 = .ok (.aload_n 0, 1) := by decide +kernel
theorem dX4_word_16 : decode cX4_word 16 = .ok (.getfield 23, 3) := by decide +kernel
theorem dX4_word_19 : decode cX4_word 19 = .ok (.iload_n 1, 1) := by decide +kernel
theorem dX4_word_20 : decode cX4_word 20 = .ok (.iaload, 1) := by decide +kernel
theorem dX4_word_21 : decode cX4_word 21 = .ok (.iconst 1, 1) := by decide +kernel
theorem dX4_word_22 : decode cX4_word 22 = .ok (.isub, 1) := by decide +kernel
theorem dX4_word_23 : decode cX4_word 23 = .ok (.invokestatic 35, 3) := by decide +kernel
theorem dX4_word_26 : decode cX4_word 26 = .ok (.ifCond .eq 22, 3) := by decide +kernel
theorem dX4_word_29 : decode cX4_word 29 = .ok (.iload_n 3, 1) := by decide +kernel
theorem dX4_word_30 : decode cX4_word 30 = .ok (.iconst 0, 1) := by decide +kernel
theorem dX4_word_31 : decode cX4_word 31 = .ok (.iconst 2, 1) := by decide +kernel
theorem dX4_word_32 : decode cX4_word 32 = .ok (.invokestatic 35, 3) := by decide +kernel
theorem dX4_word_35 : decode cX4_word 35 = .ok (.ifCond .eq 13, 3) := by decide +kernel
theorem dX4_word_38 : decode cX4_word 38 = .ok (.aload_n 0, 1) := by decide +kernel
theorem dX4_word_39 : decode cX4_word 39 = .ok (.iload_n 1, 1) := by decide +kernel
theorem dX4_word_40 : decode cX4_word 40 = .ok (.iload_n 2, 1) := by decide +kernel
theorem dX4_word_41 : decode cX4_word 41 = .ok (.iload_n 3, 1) := by decide +kernel
theorem dX4_word_42 : decode cX4_word 42 = .ok (.invokevirtual 107, 3) := by decide +kernel
theorem dX4_word_45 : decode cX4_word 45 = .ok (.goto 8, 3) := by decide +kernel
theorem dX4_word_48 : decode cX4_word 48 = .ok (.aload_n 0, 1) := by decide +kernel
theorem dX4_word_49 : decode cX4_word 49 = .ok (.iconst 1, 1) := by decide +kernel
theorem dX4_word_50 : decode cX4_word 50 = .ok (.invokevirtual 91, 3) := by decide +kernel
theorem dX4_word_53 : decode cX4_word 53 = .ok (.ireturn, 1) := by decide +kernel
set_option maxRecDepth 20000 in
theorem ggX4_faintest_X4_heardOf : GoodIn wsX4_faintest wsX4_heardOf := goodIn_r _ [13, 14, 15, 16, 17, 12, 18, 19, 20, 21, 22, 23, 24, 25, 26, 27, 28, 29, 30, 31, 32, 33, 34, 1, 35, 36, 37, 38, 39, 40, 41, 42, 43, 44, 45, 46, 47, 48, 49, 50, 51, 52, 53, 54, 55] (by decide +kernel) (by decide +kernel)
set_option maxRecDepth 20000 in
theorem gX4_faintest_X4_heardOf : GoodIn wsX4_faintest (wsV RX4 64 RX4 yX4_heardOf wsX4_heardOf) := goodIn_app (goodIn_of _ (by decide +kernel)) ggX4_faintest_X4_heardOf
theorem dX4_faintest_0 : decode cX4_faintest 0 = .ok (.iconst 0, 1) := by decide +kernel
theorem dX4_faintest_1 : decode cX4_faintest 1 = .ok (.istore_n 2, 1) := by decide +kernel
theorem dX4_faintest_2 : decode cX4_faintest 2 = .ok (.iconst 0, 1) := by decide +kernel
theorem dX4_faintest_3 : decode cX4_faintest 3 = .ok (.istore_n 3, 1) := by decide +kernel
theorem dX4_faintest_4 : decode cX4_faintest 4 = .ok (.iload_n 3, 1) := by decide +kernel
theorem dX4_faintest_5 : decode cX4_faintest 5 = .ok (.aload_n 0, 1) := by decide +kernel
theorem dX4_faintest_6 : decode cX4_faintest 6 = .ok (.getfield 23, 3) := by decide +kernel
theorem dX4_faintest_9 : decode cX4_faintest 9 = .ok (.iload_n 1, 1) := by decide +kernel
theorem dX4_faintest_10 : decode cX4_faintest 10 = .ok (.iaload, 1) := by decide +kernel
theorem dX4_faintest_11 : decode cX4_faintest 11 = .ok (.if_icmp .ge 39, 3) := by decide +kernel
theorem dX4_faintest_14 : decode cX4_faintest 14 = .ok (.iload_n 3, 1) := by decide +kernel
theorem dX4_faintest_15 : decode cX4_faintest 15 = .ok (.ifCond .ne 15, 3) := by decide +kernel
theorem dX4_faintest_18 : decode cX4_faintest 18 = .ok (.aload_n 0, 1) := by decide +kernel
theorem dX4_faintest_19 : decode cX4_faintest 19 = .ok (.iload_n 1, 1) := by decide +kernel
theorem dX4_faintest_20 : decode cX4_faintest 20 = .ok (.iload_n 3, 1) := by decide +kernel
theorem dX4_faintest_21 : decode cX4_faintest 21 = .ok (.invokevirtual 64, 3) := by decide +kernel
theorem dX4_faintest_24 : decode cX4_faintest 24 = .ok (.invokestatic 88, 3) := by decide +kernel
theorem dX4_faintest_27 : decode cX4_faintest 27 = .ok (.goto 16, 3) := by decide +kernel
theorem dX4_faintest_30 : decode cX4_faintest 30 = .ok (.iload_n 2, 1) := by decide +kernel
theorem dX4_faintest_31 : decode cX4_faintest 31 = .ok (.aload_n 0, 1) := by decide +kernel
theorem dX4_faintest_32 : decode cX4_faintest 32 = .ok (.iload_n 1, 1) := by decide +kernel
theorem dX4_faintest_33 : decode cX4_faintest 33 = .ok (.iload_n 3, 1) := by decide +kernel
theorem dX4_faintest_34 : decode cX4_faintest 34 = .ok (.invokevirtual 64, 3) := by decide +kernel
theorem dX4_faintest_37 : decode cX4_faintest 37 = .ok (.invokestatic 88, 3) := by decide +kernel
theorem dX4_faintest_40 : decode cX4_faintest 40 = .ok (.invokestatic 111, 3) := by decide +kernel
theorem dX4_faintest_43 : decode cX4_faintest 43 = .ok (.istore_n 2, 1) := by decide +kernel
theorem dX4_faintest_44 : decode cX4_faintest 44 = .ok (.iinc 3 1, 3) := by decide +kernel
theorem dX4_faintest_47 : decode cX4_faintest 47 = .ok (.goto (-43), 3) := by decide +kernel
theorem dX4_faintest_50 : decode cX4_faintest 50 = .ok (.iload_n 2, 1) := by decide +kernel
theorem dX4_faintest_51 : decode cX4_faintest 51 = .ok (.ireturn, 1) := by decide +kernel
set_option maxRecDepth 20000 in
theorem ggX4_hillTold_X4_wrongOf : GoodIn wsX4_hillTold wsX4_wrongOf := goodIn_r _ [9, 4, 10, 11, 12, 8, 13, 14, 15, 16, 17, 18, 1, 19, 20, 21, 22, 3, 23, 24, 25, 26, 27, 28, 29, 30, 31, 32, 33, 34, 35, 36, 37, 2, 38, 39, 40, 41, 42, 43, 44, 45, 46, 47, 48, 49, 50, 66, 67, 68, 69, 70, 71, 72, 73, 74] (by decide +kernel) (by decide +kernel)
set_option maxRecDepth 20000 in
theorem gX4_hillTold_X4_wrongOf : GoodIn wsX4_hillTold (wsV RX4 73 RX4 yX4_wrongOf wsX4_wrongOf) := goodIn_app (goodIn_of _ (by decide +kernel)) ggX4_hillTold_X4_wrongOf
set_option maxRecDepth 20000 in
theorem ggX4_hillTold_X4_endOf : GoodIn wsX4_hillTold wsX4_endOf := goodIn_r _ [54, 4, 19, 20, 21, 8, 22, 3, 23, 66, 67, 68, 69, 70, 71, 72, 73, 74] (by decide +kernel) (by decide +kernel)
set_option maxRecDepth 20000 in
theorem gX4_hillTold_X4_endOf : GoodIn wsX4_hillTold (wsV RX4 76 RX4 yX4_endOf wsX4_endOf) := goodIn_app (goodIn_of _ (by decide +kernel)) ggX4_hillTold_X4_endOf
set_option maxRecDepth 20000 in
theorem ggX4_hillTold_X4_faintest : GoodIn wsX4_hillTold wsX4_faintest := goodIn_r _ [58, 4, 59, 60, 61, 62, 63, 64, 65, 15, 16, 17, 8, 18, 1, 19, 20, 21, 22, 3, 23, 24, 25, 26, 27, 28, 29, 30, 31, 32, 33, 34, 35, 36, 37, 2, 14, 38, 39, 40, 41, 42, 43, 44, 45, 46, 47, 66, 67, 68, 69, 70, 71, 72, 73, 74] (by decide +kernel) (by decide +kernel)
set_option maxRecDepth 20000 in
theorem gX4_hillTold_X4_faintest : GoodIn wsX4_hillTold (wsV RX4 114 RX4 yX4_faintest wsX4_faintest) := goodIn_app (goodIn_of _ (by decide +kernel)) ggX4_hillTold_X4_faintest
theorem dX4_hillTold_0 : decode cX4_hillTold 0 = .ok (.iload_n 2, 1) := by decide +kernel
theorem dX4_hillTold_1 : decode cX4_hillTold 1 = .ok (.tableswitch 79 0 5 #[39, 46, 53, 60, 67, 73], 39) := by decide +kernel
theorem dX4_hillTold_40 : decode cX4_hillTold 40 = .ok (.aload_n 0, 1) := by decide +kernel
theorem dX4_hillTold_41 : decode cX4_hillTold 41 = .ok (.getfield 13, 3) := by decide +kernel
theorem dX4_hillTold_44 : decode cX4_hillTold 44 = .ok (.iload_n 1, 1) := by decide +kernel
theorem dX4_hillTold_45 : decode cX4_hillTold 45 = .ok (.iaload, 1) := by decide +kernel
theorem dX4_hillTold_46 : decode cX4_hillTold 46 = .ok (.ireturn, 1) := by decide +kernel
theorem dX4_hillTold_47 : decode cX4_hillTold 47 = .ok (.aload_n 0, 1) := by decide +kernel
theorem dX4_hillTold_48 : decode cX4_hillTold 48 = .ok (.getfield 17, 3) := by decide +kernel
theorem dX4_hillTold_51 : decode cX4_hillTold 51 = .ok (.iload_n 1, 1) := by decide +kernel
theorem dX4_hillTold_52 : decode cX4_hillTold 52 = .ok (.iaload, 1) := by decide +kernel
theorem dX4_hillTold_53 : decode cX4_hillTold 53 = .ok (.ireturn, 1) := by decide +kernel
theorem dX4_hillTold_54 : decode cX4_hillTold 54 = .ok (.aload_n 0, 1) := by decide +kernel
theorem dX4_hillTold_55 : decode cX4_hillTold 55 = .ok (.getfield 20, 3) := by decide +kernel
theorem dX4_hillTold_58 : decode cX4_hillTold 58 = .ok (.iload_n 1, 1) := by decide +kernel
theorem dX4_hillTold_59 : decode cX4_hillTold 59 = .ok (.iaload, 1) := by decide +kernel
theorem dX4_hillTold_60 : decode cX4_hillTold 60 = .ok (.ireturn, 1) := by decide +kernel
theorem dX4_hillTold_61 : decode cX4_hillTold 61 = .ok (.aload_n 0, 1) := by decide +kernel
theorem dX4_hillTold_62 : decode cX4_hillTold 62 = .ok (.getfield 23, 3) := by decide +kernel
theorem dX4_hillTold_65 : decode cX4_hillTold 65 = .ok (.iload_n 1, 1) := by decide +kernel
theorem dX4_hillTold_66 : decode cX4_hillTold 66 = .ok (.iaload, 1) := by decide +kernel
theorem dX4_hillTold_67 : decode cX4_hillTold 67 = .ok (.ireturn, 1) := by decide +kernel
theorem dX4_hillTold_68 : decode cX4_hillTold 68 = .ok (.aload_n 0, 1) := by decide +kernel
theorem dX4_hillTold_69 : decode cX4_hillTold 69 = .ok (.iload_n 1, 1) := by decide +kernel
theorem dX4_hillTold_70 : decode cX4_hillTold 70 = .ok (.invokevirtual 73, 3) := by decide +kernel
theorem dX4_hillTold_73 : decode cX4_hillTold 73 = .ok (.ireturn, 1) := by decide +kernel
theorem dX4_hillTold_74 : decode cX4_hillTold 74 = .ok (.aload_n 0, 1) := by decide +kernel
theorem dX4_hillTold_75 : decode cX4_hillTold 75 = .ok (.iload_n 1, 1) := by decide +kernel
theorem dX4_hillTold_76 : decode cX4_hillTold 76 = .ok (.invokevirtual 76, 3) := by decide +kernel
theorem dX4_hillTold_79 : decode cX4_hillTold 79 = .ok (.ireturn, 1) := by decide +kernel
theorem dX4_hillTold_80 : decode cX4_hillTold 80 = .ok (.aload_n 0, 1) := by decide +kernel
theorem dX4_hillTold_81 : decode cX4_hillTold 81 = .ok (.iload_n 1, 1) := by decide +kernel
theorem dX4_hillTold_82 : decode cX4_hillTold 82 = .ok (.invokevirtual 114, 3) := by decide +kernel
theorem dX4_hillTold_85 : decode cX4_hillTold 85 = .ok (.ireturn, 1) := by decide +kernel
set_option maxRecDepth 20000 in
theorem ggX4_about_X4_isHill : GoodIn wsX4_about wsX4_isHill := goodIn_r _ [6, 7, 8, 9, 5, 10, 82, 83, 84, 85, 86, 87, 88, 89, 90] (by decide +kernel) (by decide +kernel)
set_option maxRecDepth 20000 in
theorem gX4_about_X4_isHill : GoodIn wsX4_about (wsV RX4 101 RX4 yX4_isHill wsX4_isHill) := goodIn_app (goodIn_of _ (by decide +kernel)) ggX4_about_X4_isHill
set_option maxRecDepth 20000 in
theorem ggX4_about_X4_isIn : GoodIn wsX4_about wsX4_isIn := goodIn_r _ [10] (by decide +kernel) (by decide +kernel)
set_option maxRecDepth 20000 in
theorem gX4_about_X4_isIn : GoodIn wsX4_about (va_wsS RX4 35 yX4_isIn wsX4_isIn) := goodIn_app (goodIn_of _ (by decide +kernel)) ggX4_about_X4_isIn
set_option maxRecDepth 20000 in
theorem ggX4_about_X4_hillTold : GoodIn wsX4_about wsX4_hillTold := goodIn_r _ [14, 15, 16, 17, 18, 19, 20, 21, 5, 22, 23, 24, 25, 26, 27, 28, 29, 30, 31, 32, 33, 34, 35, 36, 37, 38, 39, 40, 41, 42, 43, 44, 45, 7, 46, 47, 48, 49, 50, 51, 52, 53, 54, 55, 56, 57, 58, 59, 60, 61, 62, 63, 64, 65, 66, 67, 68, 69, 70, 71, 72, 73, 74, 75, 76, 77, 82, 83, 84, 85, 86, 87, 88, 89, 90] (by decide +kernel) (by decide +kernel)
set_option maxRecDepth 20000 in
theorem gX4_about_X4_hillTold : GoodIn wsX4_about (wsV RX4 117 RX4 yX4_hillTold wsX4_hillTold) := goodIn_app (goodIn_of _ (by decide +kernel)) ggX4_about_X4_hillTold
set_option maxRecDepth 20000 in
theorem ggX4_about_X4_no : GoodIn wsX4_about wsX4_no := goodIn_r _ [81, 1, 82, 83, 84, 85, 86, 87, 88, 89, 90] (by decide +kernel) (by decide +kernel)
set_option maxRecDepth 20000 in
theorem gX4_about_X4_no : GoodIn wsX4_about (wsV RX4 91 RX4 yX4_no wsX4_no) := goodIn_app (goodIn_of _ (by decide +kernel)) ggX4_about_X4_no
theorem dX4_about_0 : decode cX4_about 0 = .ok (.aload_n 0, 1) := by decide +kernel
theorem dX4_about_1 : decode cX4_about 1 = .ok (.iconst 0, 1) := by decide +kernel
theorem dX4_about_2 : decode cX4_about 2 = .ok (.putfield 32, 3) := by decide +kernel
theorem dX4_about_5 : decode cX4_about 5 = .ok (.aload_n 0, 1) := by decide +kernel
theorem dX4_about_6 : decode cX4_about 6 = .ok (.iload_n 1, 1) := by decide +kernel
theorem dX4_about_7 : decode cX4_about 7 = .ok (.invokevirtual 101, 3) := by decide +kernel
theorem dX4_about_10 : decode cX4_about 10 = .ok (.ifCond .eq 22, 3) := by decide +kernel
theorem dX4_about_13 : decode cX4_about 13 = .ok (.iload_n 2, 1) := by decide +kernel
theorem dX4_about_14 : decode cX4_about 14 = .ok (.iconst 0, 1) := by decide +kernel
theorem dX4_about_15 : decode cX4_about 15 = .ok (.bipush 6, 2) := by decide +kernel
theorem dX4_about_17 : decode cX4_about 17 = .ok (.invokestatic 35, 3) := by decide +kernel
theorem dX4_about_20 : decode cX4_about 20 = .ok (.ifCond .eq 12, 3) := by decide +kernel
theorem dX4_about_23 : decode cX4_about 23 = .ok (.aload_n 0, 1) := by decide +kernel
theorem dX4_about_24 : decode cX4_about 24 = .ok (.iload_n 1, 1) := by decide +kernel
theorem dX4_about_25 : decode cX4_about 25 = .ok (.iload_n 2, 1) := by decide +kernel
theorem dX4_about_26 : decode cX4_about 26 = .ok (.invokevirtual 117, 3) := by decide +kernel
theorem dX4_about_29 : decode cX4_about 29 = .ok (.goto 8, 3) := by decide +kernel
theorem dX4_about_32 : decode cX4_about 32 = .ok (.aload_n 0, 1) := by decide +kernel
theorem dX4_about_33 : decode cX4_about 33 = .ok (.iconst 1, 1) := by decide +kernel
theorem dX4_about_34 : decode cX4_about 34 = .ok (.invokevirtual 91, 3) := by decide +kernel
theorem dX4_about_37 : decode cX4_about 37 = .ok (.ireturn, 1) := by decide +kernel
set_option maxRecDepth 20000 in
theorem ggX4_counted_X4_allWrong : GoodIn wsX4_counted wsX4_allWrong := goodIn_r _ [8, 2, 9, 10, 11, 7, 12, 3, 13, 14, 15, 16, 17, 18, 19, 20, 21, 22, 23, 24, 25, 26, 27, 1, 28, 29, 30, 31, 32, 33, 34, 35, 36, 37, 38, 39, 40, 41, 42, 43, 44, 45, 46, 47, 48, 49, 50, 51, 52, 53, 54, 78, 79, 80, 81, 82, 83, 84, 85, 86] (by decide +kernel) (by decide +kernel)
set_option maxRecDepth 20000 in
theorem gX4_counted_X4_allWrong : GoodIn wsX4_counted (wsV RX4 120 RX4 yX4_allWrong wsX4_allWrong) := goodIn_app (goodIn_of _ (by decide +kernel)) ggX4_counted_X4_allWrong
set_option maxRecDepth 20000 in
theorem ggX4_counted_X4_end : GoodIn wsX4_counted wsX4_end := goodIn_r _ [58, 2, 59, 60, 61, 62, 63, 64, 65, 7, 66, 3, 23, 24, 25, 26, 27, 1, 78, 79, 80, 81, 82, 83, 84, 85, 86] (by decide +kernel) (by decide +kernel)
set_option maxRecDepth 20000 in
theorem gX4_counted_X4_end : GoodIn wsX4_counted (wsV RX4 84 RX4 yX4_end wsX4_end) := goodIn_app (goodIn_of _ (by decide +kernel)) ggX4_counted_X4_end
set_option maxRecDepth 20000 in
theorem ggX4_counted_X4_highest : GoodIn wsX4_counted wsX4_highest := goodIn_r _ [70, 71, 72, 61, 73, 59, 60, 62, 55, 56, 57, 7, 58, 2, 63, 64, 65, 66, 3, 23, 24, 25, 26, 27, 1, 32, 33, 34, 35, 36, 37, 38, 39, 40, 41, 17, 22, 42, 43, 44, 45, 46, 47, 48, 49, 50, 51, 78, 79, 80, 81, 82, 83, 84, 85, 86] (by decide +kernel) (by decide +kernel)
set_option maxRecDepth 20000 in
theorem gX4_counted_X4_highest : GoodIn wsX4_counted (wsV RX4 123 RX4 yX4_highest wsX4_highest) := goodIn_app (goodIn_of _ (by decide +kernel)) ggX4_counted_X4_highest
set_option maxRecDepth 20000 in
theorem ggX4_counted_X4_isTaken : GoodIn wsX4_counted wsX4_isTaken := goodIn_r _ [77, 2, 22, 78, 79, 80, 81, 82, 83, 84, 85, 86] (by decide +kernel) (by decide +kernel)
set_option maxRecDepth 20000 in
theorem gX4_counted_X4_isTaken : GoodIn wsX4_counted (wsV RX4 126 RX4 yX4_isTaken wsX4_isTaken) := goodIn_app (goodIn_of _ (by decide +kernel)) ggX4_counted_X4_isTaken
theorem dX4_counted_0 : decode cX4_counted 0 = .ok (.iconst 0, 1) := by decide +kernel
theorem dX4_counted_1 : decode cX4_counted 1 = .ok (.istore_n 2, 1) := by decide +kernel
theorem dX4_counted_2 : decode cX4_counted 2 = .ok (.iload_n 1, 1) := by decide +kernel
theorem dX4_counted_3 : decode cX4_counted 3 = .ok (.tableswitch 89 0 5 #[37, 42, 47, 74, 79, 84], 37) := by decide +kernel
theorem dX4_counted_40 : decode cX4_counted 40 = .ok (.aload_n 0, 1) := by decide +kernel
theorem dX4_counted_41 : decode cX4_counted 41 = .ok (.getfield 7, 3) := by decide +kernel
theorem dX4_counted_44 : decode cX4_counted 44 = .ok (.ireturn, 1) := by decide +kernel
theorem dX4_counted_45 : decode cX4_counted 45 = .ok (.aload_n 0, 1) := by decide +kernel
theorem dX4_counted_46 : decode cX4_counted 46 = .ok (.getfield 39, 3) := by decide +kernel
theorem dX4_counted_49 : decode cX4_counted 49 = .ok (.ireturn, 1) := by decide +kernel
theorem dX4_counted_50 : decode cX4_counted 50 = .ok (.iconst 0, 1) := by decide +kernel
theorem dX4_counted_51 : decode cX4_counted 51 = .ok (.istore_n 3, 1) := by decide +kernel
theorem dX4_counted_52 : decode cX4_counted 52 = .ok (.iload_n 3, 1) := by decide +kernel
theorem dX4_counted_53 : decode cX4_counted 53 = .ok (.aload_n 0, 1) := by decide +kernel
theorem dX4_counted_54 : decode cX4_counted 54 = .ok (.getfield 39, 3) := by decide +kernel
theorem dX4_counted_57 : decode cX4_counted 57 = .ok (.if_icmp .ge 18, 3) := by decide +kernel
theorem dX4_counted_60 : decode cX4_counted 60 = .ok (.iload_n 2, 1) := by decide +kernel
theorem dX4_counted_61 : decode cX4_counted 61 = .ok (.aload_n 0, 1) := by decide +kernel
theorem dX4_counted_62 : decode cX4_counted 62 = .ok (.getfield 23, 3) := by decide +kernel
theorem dX4_counted_65 : decode cX4_counted 65 = .ok (.iload_n 3, 1) := by decide +kernel
theorem dX4_counted_66 : decode cX4_counted 66 = .ok (.iaload, 1) := by decide +kernel
theorem dX4_counted_67 : decode cX4_counted 67 = .ok (.iadd, 1) := by decide +kernel
theorem dX4_counted_68 : decode cX4_counted 68 = .ok (.istore_n 2, 1) := by decide +kernel
theorem dX4_counted_69 : decode cX4_counted 69 = .ok (.iinc 3 1, 3) := by decide +kernel
theorem dX4_counted_72 : decode cX4_counted 72 = .ok (.goto (-20), 3) := by decide +kernel
theorem dX4_counted_75 : decode cX4_counted 75 = .ok (.iload_n 2, 1) := by decide +kernel
theorem dX4_counted_76 : decode cX4_counted 76 = .ok (.ireturn, 1) := by decide +kernel
theorem dX4_counted_77 : decode cX4_counted 77 = .ok (.aload_n 0, 1) := by decide +kernel
theorem dX4_counted_78 : decode cX4_counted 78 = .ok (.invokevirtual 120, 3) := by decide +kernel
theorem dX4_counted_81 : decode cX4_counted 81 = .ok (.ireturn, 1) := by decide +kernel
theorem dX4_counted_82 : decode cX4_counted 82 = .ok (.aload_n 0, 1) := by decide +kernel
theorem dX4_counted_83 : decode cX4_counted 83 = .ok (.invokevirtual 84, 3) := by decide +kernel
theorem dX4_counted_86 : decode cX4_counted 86 = .ok (.ireturn, 1) := by decide +kernel
theorem dX4_counted_87 : decode cX4_counted 87 = .ok (.aload_n 0, 1) := by decide +kernel
theorem dX4_counted_88 : decode cX4_counted 88 = .ok (.invokevirtual 123, 3) := by decide +kernel
theorem dX4_counted_91 : decode cX4_counted 91 = .ok (.ireturn, 1) := by decide +kernel
theorem dX4_counted_92 : decode cX4_counted 92 = .ok (.iconst 0, 1) := by decide +kernel
theorem dX4_counted_93 : decode cX4_counted 93 = .ok (.istore_n 3, 1) := by decide +kernel
theorem dX4_counted_94 : decode cX4_counted 94 = .ok (.iload_n 3, 1) := by decide +kernel
theorem dX4_counted_95 : decode cX4_counted 95 = .ok (.aload_n 0, 1) := by decide +kernel
theorem dX4_counted_96 : decode cX4_counted 96 = .ok (.getfield 7, 3) := by decide +kernel
theorem dX4_counted_99 : decode cX4_counted 99 = .ok (.if_icmp .ge 25, 3) := by decide +kernel
theorem dX4_counted_102 : decode cX4_counted 102 = .ok (.iload_n 2, 1) := by decide +kernel
theorem dX4_counted_103 : decode cX4_counted 103 = .ok (.aload_n 0, 1) := by decide +kernel
theorem dX4_counted_104 : decode cX4_counted 104 = .ok (.iload_n 3, 1) := by decide +kernel
theorem dX4_counted_105 : decode cX4_counted 105 = .ok (.invokevirtual 126, 3) := by decide +kernel
theorem dX4_counted_108 : decode cX4_counted 108 = .ok (.ifCond .eq 7, 3) := by decide +kernel
theorem dX4_counted_111 : decode cX4_counted 111 = .ok (.iconst 0, 1) := by decide +kernel
theorem dX4_counted_112 : decode cX4_counted 112 = .ok (.goto 4, 3) := by decide +kernel
theorem dX4_counted_115 : decode cX4_counted 115 = .ok (.iconst 1, 1) := by decide +kernel
theorem dX4_counted_116 : decode cX4_counted 116 = .ok (.iadd, 1) := by decide +kernel
theorem dX4_counted_117 : decode cX4_counted 117 = .ok (.istore_n 2, 1) := by decide +kernel
theorem dX4_counted_118 : decode cX4_counted 118 = .ok (.iinc 3 1, 3) := by decide +kernel
theorem dX4_counted_121 : decode cX4_counted 121 = .ok (.goto (-27), 3) := by decide +kernel
theorem dX4_counted_124 : decode cX4_counted 124 = .ok (.iload_n 2, 1) := by decide +kernel
theorem dX4_counted_125 : decode cX4_counted 125 = .ok (.ireturn, 1) := by decide +kernel
set_option maxRecDepth 20000 in
theorem ggX4_count_X4_isIn : GoodIn wsX4_count wsX4_isIn := goodIn_r _ [5] (by decide +kernel) (by decide +kernel)
set_option maxRecDepth 20000 in
theorem gX4_count_X4_isIn : GoodIn wsX4_count (va_wsS RX4 35 yX4_isIn wsX4_isIn) := goodIn_app (goodIn_of _ (by decide +kernel)) ggX4_count_X4_isIn
set_option maxRecDepth 20000 in
theorem ggX4_count_X4_counted : GoodIn wsX4_count wsX4_counted := goodIn_r _ [9, 10, 11, 12, 13, 14, 15, 4, 16, 17, 18, 19, 20, 21, 22, 23, 24, 25, 26, 27, 28, 29, 30, 31, 32, 33, 34, 35, 36, 37, 38, 39, 40, 41, 42, 43, 44, 45, 46, 47, 48, 49, 50, 51, 52, 53, 54, 55, 56, 57, 58, 59, 60, 61, 62, 63, 64, 65, 66, 67, 68, 69, 70, 71, 72, 73, 74, 75, 76, 77, 78, 79, 80, 81, 82, 83, 84, 85, 90, 91, 92, 93, 94, 95, 96, 97, 98] (by decide +kernel) (by decide +kernel)
set_option maxRecDepth 20000 in
theorem gX4_count_X4_counted : GoodIn wsX4_count (wsV RX4 129 RX4 yX4_counted wsX4_counted) := goodIn_app (goodIn_of _ (by decide +kernel)) ggX4_count_X4_counted
set_option maxRecDepth 20000 in
theorem ggX4_count_X4_no : GoodIn wsX4_count wsX4_no := goodIn_r _ [89, 1, 90, 91, 92, 93, 94, 95, 96, 97, 98] (by decide +kernel) (by decide +kernel)
set_option maxRecDepth 20000 in
theorem gX4_count_X4_no : GoodIn wsX4_count (wsV RX4 91 RX4 yX4_no wsX4_no) := goodIn_app (goodIn_of _ (by decide +kernel)) ggX4_count_X4_no
theorem dX4_count_0 : decode cX4_count 0 = .ok (.aload_n 0, 1) := by decide +kernel
theorem dX4_count_1 : decode cX4_count 1 = .ok (.iconst 0, 1) := by decide +kernel
theorem dX4_count_2 : decode cX4_count 2 = .ok (.putfield 32, 3) := by decide +kernel
theorem dX4_count_5 : decode cX4_count 5 = .ok (.iload_n 1, 1) := by decide +kernel
theorem dX4_count_6 : decode cX4_count 6 = .ok (.iconst 0, 1) := by decide +kernel
theorem dX4_count_7 : decode cX4_count 7 = .ok (.bipush 6, 2) := by decide +kernel
theorem dX4_count_9 : decode cX4_count 9 = .ok (.invokestatic 35, 3) := by decide +kernel
theorem dX4_count_12 : decode cX4_count 12 = .ok (.ifCond .eq 11, 3) := by decide +kernel
theorem dX4_count_15 : decode cX4_count 15 = .ok (.aload_n 0, 1) := by decide +kernel
theorem dX4_count_16 : decode cX4_count 16 = .ok (.iload_n 1, 1) := by decide +kernel
theorem dX4_count_17 : decode cX4_count 17 = .ok (.invokevirtual 129, 3) := by decide +kernel
theorem dX4_count_20 : decode cX4_count 20 = .ok (.goto 8, 3) := by decide +kernel
theorem dX4_count_23 : decode cX4_count 23 = .ok (.aload_n 0, 1) := by decide +kernel
theorem dX4_count_24 : decode cX4_count 24 = .ok (.iconst 1, 1) := by decide +kernel
theorem dX4_count_25 : decode cX4_count 25 = .ok (.invokevirtual 91, 3) := by decide +kernel
theorem dX4_count_28 : decode cX4_count 28 = .ok (.ireturn, 1) := by decide +kernel
set_option maxRecDepth 20000 in
theorem ggX4_alike_X4_isCode : GoodIn wsX4_alike wsX4_isCode := goodIn_r _ [6, 7, 8, 9, 5, 10, 33, 34, 35, 36, 37, 38, 39, 40, 41] (by decide +kernel) (by decide +kernel)
set_option maxRecDepth 20000 in
theorem gX4_alike_X4_isCode : GoodIn wsX4_alike (wsV RX4 94 RX4 yX4_isCode wsX4_isCode) := goodIn_app (goodIn_of _ (by decide +kernel)) ggX4_alike_X4_isCode
set_option maxRecDepth 20000 in
theorem ggX4_alike_X4_no : GoodIn wsX4_alike wsX4_no := goodIn_r _ [14, 1, 33, 34, 35, 36, 37, 38, 39, 40, 41] (by decide +kernel) (by decide +kernel)
set_option maxRecDepth 20000 in
theorem gX4_alike_X4_no : GoodIn wsX4_alike (wsV RX4 91 RX4 yX4_no wsX4_no) := goodIn_app (goodIn_of _ (by decide +kernel)) ggX4_alike_X4_no
set_option maxRecDepth 20000 in
theorem ggX4_alike_X4_likeness : GoodIn wsX4_alike wsX4_likeness := goodIn_r _ [18, 7, 19, 20, 21, 22, 23, 24, 5, 25, 26, 27, 28, 29, 30, 31, 32, 33, 34, 35, 36, 37, 38, 39, 40, 41] (by decide +kernel) (by decide +kernel)
set_option maxRecDepth 20000 in
theorem gX4_alike_X4_likeness : GoodIn wsX4_alike (wsV RX4 132 RX4 yX4_likeness wsX4_likeness) := goodIn_app (goodIn_of _ (by decide +kernel)) ggX4_alike_X4_likeness
theorem dX4_alike_0 : decode cX4_alike 0 = .ok (.aload_n 0, 1) := by decide +kernel
theorem dX4_alike_1 : decode cX4_alike 1 = .ok (.iconst 0, 1) := by decide +kernel
theorem dX4_alike_2 : decode cX4_alike 2 = .ok (.putfield 32, 3) := by decide +kernel
theorem dX4_alike_5 : decode cX4_alike 5 = .ok (.aload_n 0, 1) := by decide +kernel
theorem dX4_alike_6 : decode cX4_alike 6 = .ok (.iload_n 1, 1) := by decide +kernel
theorem dX4_alike_7 : decode cX4_alike 7 = .ok (.invokevirtual 94, 3) := by decide +kernel
theorem dX4_alike_10 : decode cX4_alike 10 = .ok (.ifCond .eq 11, 3) := by decide +kernel
theorem dX4_alike_13 : decode cX4_alike 13 = .ok (.aload_n 0, 1) := by decide +kernel
theorem dX4_alike_14 : decode cX4_alike 14 = .ok (.iload_n 2, 1) := by decide +kernel
theorem dX4_alike_15 : decode cX4_alike 15 = .ok (.invokevirtual 94, 3) := by decide +kernel
theorem dX4_alike_18 : decode cX4_alike 18 = .ok (.ifCond .ne 9, 3) := by decide +kernel
theorem dX4_alike_21 : decode cX4_alike 21 = .ok (.aload_n 0, 1) := by decide +kernel
theorem dX4_alike_22 : decode cX4_alike 22 = .ok (.iconst 1, 1) := by decide +kernel
theorem dX4_alike_23 : decode cX4_alike 23 = .ok (.invokevirtual 91, 3) := by decide +kernel
theorem dX4_alike_26 : decode cX4_alike 26 = .ok (.ireturn, 1) := by decide +kernel
theorem dX4_alike_27 : decode cX4_alike 27 = .ok (.aload_n 0, 1) := by decide +kernel
theorem dX4_alike_28 : decode cX4_alike 28 = .ok (.iload_n 3, 1) := by decide +kernel
theorem dX4_alike_29 : decode cX4_alike 29 = .ok (.invokevirtual 94, 3) := by decide +kernel
theorem dX4_alike_32 : decode cX4_alike 32 = .ok (.ifCond .eq 13, 3) := by decide +kernel
theorem dX4_alike_35 : decode cX4_alike 35 = .ok (.aload_n 0, 1) := by decide +kernel
theorem dX4_alike_36 : decode cX4_alike 36 = .ok (.iload_n 1, 1) := by decide +kernel
theorem dX4_alike_37 : decode cX4_alike 37 = .ok (.iload_n 2, 1) := by decide +kernel
theorem dX4_alike_38 : decode cX4_alike 38 = .ok (.iload_n 3, 1) := by decide +kernel
theorem dX4_alike_39 : decode cX4_alike 39 = .ok (.invokevirtual 132, 3) := by decide +kernel
theorem dX4_alike_42 : decode cX4_alike 42 = .ok (.goto 8, 3) := by decide +kernel
theorem dX4_alike_45 : decode cX4_alike 45 = .ok (.aload_n 0, 1) := by decide +kernel
theorem dX4_alike_46 : decode cX4_alike 46 = .ok (.iconst 2, 1) := by decide +kernel
theorem dX4_alike_47 : decode cX4_alike 47 = .ok (.invokevirtual 91, 3) := by decide +kernel
theorem dX4_alike_50 : decode cX4_alike 50 = .ok (.ireturn, 1) := by decide +kernel
set_option maxRecDepth 20000 in
theorem ggX4_shift_X4_isCode : GoodIn wsX4_shift wsX4_isCode := goodIn_r _ [7, 2, 8, 9, 6, 10, 33, 34, 35, 36, 37, 38, 39, 40, 41] (by decide +kernel) (by decide +kernel)
set_option maxRecDepth 20000 in
theorem gX4_shift_X4_isCode : GoodIn wsX4_shift (wsV RX4 94 RX4 yX4_isCode wsX4_isCode) := goodIn_app (goodIn_of _ (by decide +kernel)) ggX4_shift_X4_isCode
set_option maxRecDepth 20000 in
theorem ggX4_shift_X4_no : GoodIn wsX4_shift wsX4_no := goodIn_r _ [14, 1, 33, 34, 35, 36, 37, 38, 39, 40, 41] (by decide +kernel) (by decide +kernel)
set_option maxRecDepth 20000 in
theorem gX4_shift_X4_no : GoodIn wsX4_shift (wsV RX4 91 RX4 yX4_no wsX4_no) := goodIn_app (goodIn_of _ (by decide +kernel)) ggX4_shift_X4_no
set_option maxRecDepth 20000 in
theorem ggX4_shift_X4_likeness : GoodIn wsX4_shift wsX4_likeness := goodIn_r _ [18, 2, 19, 20, 21, 22, 23, 24, 6, 25, 26, 27, 28, 29, 30, 31, 32, 33, 34, 35, 36, 37, 38, 39, 40, 41] (by decide +kernel) (by decide +kernel)
set_option maxRecDepth 20000 in
theorem gX4_shift_X4_likeness : GoodIn wsX4_shift (wsV RX4 132 RX4 yX4_likeness wsX4_likeness) := goodIn_app (goodIn_of _ (by decide +kernel)) ggX4_shift_X4_likeness
theorem dX4_shift_0 : decode cX4_shift 0 = .ok (.aload_n 0, 1) := by decide +kernel
theorem dX4_shift_1 : decode cX4_shift 1 = .ok (.iconst 0, 1) := by decide +kernel
theorem dX4_shift_2 : decode cX4_shift 2 = .ok (.putfield 32, 3) := by decide +kernel
theorem dX4_shift_5 : decode cX4_shift 5 = .ok (.aload_n 0, 1) := by decide +kernel
theorem dX4_shift_6 : decode cX4_shift 6 = .ok (.iload_n 1, 1) := by decide +kernel
theorem dX4_shift_7 : decode cX4_shift 7 = .ok (.invokevirtual 94, 3) := by decide +kernel
theorem dX4_shift_10 : decode cX4_shift 10 = .ok (.ifCond .eq 11, 3) := by decide +kernel
theorem dX4_shift_13 : decode cX4_shift 13 = .ok (.aload_n 0, 1) := by decide +kernel
theorem dX4_shift_14 : decode cX4_shift 14 = .ok (.iload_n 2, 1) := by decide +kernel
theorem dX4_shift_15 : decode cX4_shift 15 = .ok (.invokevirtual 94, 3) := by decide +kernel
theorem dX4_shift_18 : decode cX4_shift 18 = .ok (.ifCond .ne 9, 3) := by decide +kernel
theorem dX4_shift_21 : decode cX4_shift 21 = .ok (.aload_n 0, 1) := by decide +kernel
theorem dX4_shift_22 : decode cX4_shift 22 = .ok (.iconst 1, 1) := by decide +kernel
theorem dX4_shift_23 : decode cX4_shift 23 = .ok (.invokevirtual 91, 3) := by decide +kernel
theorem dX4_shift_26 : decode cX4_shift 26 = .ok (.ireturn, 1) := by decide +kernel
theorem dX4_shift_27 : decode cX4_shift 27 = .ok (.iconst 0, 1) := by decide +kernel
theorem dX4_shift_28 : decode cX4_shift 28 = .ok (.istore_n 3, 1) := by decide +kernel
theorem dX4_shift_29 : decode cX4_shift 29 = .ok (.iconst 1, 1) := by decide +kernel
theorem dX4_shift_30 : decode cX4_shift 30 = .ok (.istore 4, 2) := by decide +kernel
theorem dX4_shift_32 : decode cX4_shift 32 = .ok (.iload 4, 2) := by decide +kernel
theorem dX4_shift_34 : decode cX4_shift 34 = .ok (.aload_n 0, 1) := by decide +kernel
theorem dX4_shift_35 : decode cX4_shift 35 = .ok (.getfield 7, 3) := by decide +kernel
theorem dX4_shift_38 : decode cX4_shift 38 = .ok (.if_icmp .ge 30, 3) := by decide +kernel
theorem dX4_shift_41 : decode cX4_shift 41 = .ok (.aload_n 0, 1) := by decide +kernel
theorem dX4_shift_42 : decode cX4_shift 42 = .ok (.iload_n 1, 1) := by decide +kernel
theorem dX4_shift_43 : decode cX4_shift 43 = .ok (.iload_n 2, 1) := by decide +kernel
theorem dX4_shift_44 : decode cX4_shift 44 = .ok (.iload 4, 2) := by decide +kernel
end
section
theorem dX4_shift_46 : decode cX4_shift 46 = .ok (.invokevirtual 132, 3) := by decide +kernel
theorem dX4_shift_49 : decode cX4_shift 49 = .ok (.aload_n 0, 1) := by decide +kernel
theorem dX4_shift_50 : decode cX4_shift 50 = .ok (.iload_n 1, 1) := by decide +kernel
theorem dX4_shift_51 : decode cX4_shift 51 = .ok (.iload_n 2, 1) := by decide +kernel
theorem dX4_shift_52 : decode cX4_shift 52 = .ok (.iload_n 3, 1) := by decide +kernel
theorem dX4_shift_53 : decode cX4_shift 53 = .ok (.invokevirtual 132, 3) := by decide +kernel
theorem dX4_shift_56 : decode cX4_shift 56 = .ok (.if_icmp .le 6, 3) := by decide +kernel
theorem dX4_shift_59 : decode cX4_shift 59 = .ok (.iload 4, 2) := by decide +kernel
theorem dX4_shift_61 : decode cX4_shift 61 = .ok (.istore_n 3, 1) := by decide +kernel
theorem dX4_shift_62 : decode cX4_shift 62 = .ok (.iinc 4 1, 3) := by decide +kernel
theorem dX4_shift_65 : decode cX4_shift 65 = .ok (.goto (-33), 3) := by decide +kernel
theorem dX4_shift_68 : decode cX4_shift 68 = .ok (.iload_n 3, 1) := by decide +kernel
theorem dX4_shift_69 : decode cX4_shift 69 = .ok (.ireturn, 1) := by decide +kernel
set_option maxRecDepth 20000 in
theorem ggX4_disturbed_X4_likeness : GoodIn wsX4_disturbed wsX4_likeness := goodIn_r _ [10, 5, 11, 12, 13, 14, 15, 16, 9, 17, 18, 19, 20, 21, 22, 23, 24, 25, 26, 27, 28, 29, 30, 31, 32, 33] (by decide +kernel) (by decide +kernel)
set_option maxRecDepth 20000 in
theorem gX4_disturbed_X4_likeness : GoodIn wsX4_disturbed (wsV RX4 132 RX4 yX4_likeness wsX4_likeness) := goodIn_app (goodIn_of _ (by decide +kernel)) ggX4_disturbed_X4_likeness
theorem dX4_disturbed_0 : decode cX4_disturbed 0 = .ok (.iconst 0, 1) := by decide +kernel
theorem dX4_disturbed_1 : decode cX4_disturbed 1 = .ok (.istore_n 3, 1) := by decide +kernel
theorem dX4_disturbed_2 : decode cX4_disturbed 2 = .ok (.iconst 0, 1) := by decide +kernel
theorem dX4_disturbed_3 : decode cX4_disturbed 3 = .ok (.istore 4, 2) := by decide +kernel
theorem dX4_disturbed_5 : decode cX4_disturbed 5 = .ok (.iload 4, 2) := by decide +kernel
theorem dX4_disturbed_7 : decode cX4_disturbed 7 = .ok (.aload_n 0, 1) := by decide +kernel
theorem dX4_disturbed_8 : decode cX4_disturbed 8 = .ok (.getfield 39, 3) := by decide +kernel
theorem dX4_disturbed_11 : decode cX4_disturbed 11 = .ok (.if_icmp .ge 51, 3) := by decide +kernel
theorem dX4_disturbed_14 : decode cX4_disturbed 14 = .ok (.iload_n 3, 1) := by decide +kernel
theorem dX4_disturbed_15 : decode cX4_disturbed 15 = .ok (.aload_n 0, 1) := by decide +kernel
theorem dX4_disturbed_16 : decode cX4_disturbed 16 = .ok (.getfield 17, 3) := by decide +kernel
theorem dX4_disturbed_19 : decode cX4_disturbed 19 = .ok (.iload 4, 2) := by decide +kernel
theorem dX4_disturbed_21 : decode cX4_disturbed 21 = .ok (.iaload, 1) := by decide +kernel
theorem dX4_disturbed_22 : decode cX4_disturbed 22 = .ok (.aload_n 0, 1) := by decide +kernel
theorem dX4_disturbed_23 : decode cX4_disturbed 23 = .ok (.iload_n 1, 1) := by decide +kernel
theorem dX4_disturbed_24 : decode cX4_disturbed 24 = .ok (.aload_n 0, 1) := by decide +kernel
theorem dX4_disturbed_25 : decode cX4_disturbed 25 = .ok (.getfield 13, 3) := by decide +kernel
theorem dX4_disturbed_28 : decode cX4_disturbed 28 = .ok (.iload 4, 2) := by decide +kernel
theorem dX4_disturbed_30 : decode cX4_disturbed 30 = .ok (.iaload, 1) := by decide +kernel
theorem dX4_disturbed_31 : decode cX4_disturbed 31 = .ok (.iload_n 2, 1) := by decide +kernel
theorem dX4_disturbed_32 : decode cX4_disturbed 32 = .ok (.aload_n 0, 1) := by decide +kernel
theorem dX4_disturbed_33 : decode cX4_disturbed 33 = .ok (.getfield 20, 3) := by decide +kernel
theorem dX4_disturbed_36 : decode cX4_disturbed 36 = .ok (.iload 4, 2) := by decide +kernel
theorem dX4_disturbed_38 : decode cX4_disturbed 38 = .ok (.iaload, 1) := by decide +kernel
theorem dX4_disturbed_39 : decode cX4_disturbed 39 = .ok (.isub, 1) := by decide +kernel
theorem dX4_disturbed_40 : decode cX4_disturbed 40 = .ok (.aload_n 0, 1) := by decide +kernel
theorem dX4_disturbed_41 : decode cX4_disturbed 41 = .ok (.getfield 7, 3) := by decide +kernel
theorem dX4_disturbed_44 : decode cX4_disturbed 44 = .ok (.iadd, 1) := by decide +kernel
theorem dX4_disturbed_45 : decode cX4_disturbed 45 = .ok (.aload_n 0, 1) := by decide +kernel
theorem dX4_disturbed_46 : decode cX4_disturbed 46 = .ok (.getfield 7, 3) := by decide +kernel
theorem dX4_disturbed_49 : decode cX4_disturbed 49 = .ok (.irem, 1) := by decide +kernel
theorem dX4_disturbed_50 : decode cX4_disturbed 50 = .ok (.invokevirtual 132, 3) := by decide +kernel
theorem dX4_disturbed_53 : decode cX4_disturbed 53 = .ok (.imul, 1) := by decide +kernel
theorem dX4_disturbed_54 : decode cX4_disturbed 54 = .ok (.iadd, 1) := by decide +kernel
theorem dX4_disturbed_55 : decode cX4_disturbed 55 = .ok (.istore_n 3, 1) := by decide +kernel
theorem dX4_disturbed_56 : decode cX4_disturbed 56 = .ok (.iinc 4 1, 3) := by decide +kernel
theorem dX4_disturbed_59 : decode cX4_disturbed 59 = .ok (.goto (-54), 3) := by decide +kernel
theorem dX4_disturbed_62 : decode cX4_disturbed 62 = .ok (.iload_n 3, 1) := by decide +kernel
theorem dX4_disturbed_63 : decode cX4_disturbed 63 = .ok (.ireturn, 1) := by decide +kernel
set_option maxRecDepth 20000 in
theorem ggX4_advise_X4_isCode : GoodIn wsX4_advise wsX4_isCode := goodIn_r _ [7, 2, 8, 9, 6, 10, 45, 46, 47, 48, 49, 50, 51, 52, 53] (by decide +kernel) (by decide +kernel)
set_option maxRecDepth 20000 in
theorem gX4_advise_X4_isCode : GoodIn wsX4_advise (wsV RX4 94 RX4 yX4_isCode wsX4_isCode) := goodIn_app (goodIn_of _ (by decide +kernel)) ggX4_advise_X4_isCode
set_option maxRecDepth 20000 in
theorem ggX4_advise_X4_no : GoodIn wsX4_advise wsX4_no := goodIn_r _ [14, 1, 45, 46, 47, 48, 49, 50, 51, 52, 53] (by decide +kernel) (by decide +kernel)
set_option maxRecDepth 20000 in
theorem gX4_advise_X4_no : GoodIn wsX4_advise (wsV RX4 91 RX4 yX4_no wsX4_no) := goodIn_app (goodIn_of _ (by decide +kernel)) ggX4_advise_X4_no
set_option maxRecDepth 20000 in
theorem ggX4_advise_X4_isTaken : GoodIn wsX4_advise wsX4_isTaken := goodIn_r _ [18, 19, 20, 45, 46, 47, 48, 49, 50, 51, 52, 53] (by decide +kernel) (by decide +kernel)
set_option maxRecDepth 20000 in
theorem gX4_advise_X4_isTaken : GoodIn wsX4_advise (wsV RX4 126 RX4 yX4_isTaken wsX4_isTaken) := goodIn_app (goodIn_of _ (by decide +kernel)) ggX4_advise_X4_isTaken
set_option maxRecDepth 20000 in
theorem ggX4_advise_X4_disturbed : GoodIn wsX4_advise wsX4_disturbed := goodIn_r _ [24, 19, 25, 20, 26, 2, 27, 28, 29, 6, 30, 31, 32, 33, 34, 35, 36, 37, 38, 39, 40, 41, 42, 43, 44, 45, 46, 47, 48, 49, 50, 51, 52, 53] (by decide +kernel) (by decide +kernel)
set_option maxRecDepth 20000 in
theorem gX4_advise_X4_disturbed : GoodIn wsX4_advise (wsV RX4 135 RX4 yX4_disturbed wsX4_disturbed) := goodIn_app (goodIn_of _ (by decide +kernel)) ggX4_advise_X4_disturbed
theorem dX4_advise_0 : decode cX4_advise 0 = .ok (.aload_n 0, 1) := by decide +kernel
theorem dX4_advise_1 : decode cX4_advise 1 = .ok (.iconst 0, 1) := by decide +kernel
theorem dX4_advise_2 : decode cX4_advise 2 = .ok (.putfield 32, 3) := by decide +kernel
theorem dX4_advise_5 : decode cX4_advise 5 = .ok (.aload_n 0, 1) := by decide +kernel
theorem dX4_advise_6 : decode cX4_advise 6 = .ok (.iload_n 1, 1) := by decide +kernel
theorem dX4_advise_7 : decode cX4_advise 7 = .ok (.invokevirtual 94, 3) := by decide +kernel
theorem dX4_advise_10 : decode cX4_advise 10 = .ok (.ifCond .ne 9, 3) := by decide +kernel
theorem dX4_advise_13 : decode cX4_advise 13 = .ok (.aload_n 0, 1) := by decide +kernel
theorem dX4_advise_14 : decode cX4_advise 14 = .ok (.iconst 1, 1) := by decide +kernel
theorem dX4_advise_15 : decode cX4_advise 15 = .ok (.invokevirtual 91, 3) := by decide +kernel
theorem dX4_advise_18 : decode cX4_advise 18 = .ok (.ireturn, 1) := by decide +kernel
theorem dX4_advise_19 : decode cX4_advise 19 = .ok (.iconst (-1), 1) := by decide +kernel
theorem dX4_advise_20 : decode cX4_advise 20 = .ok (.istore_n 2, 1) := by decide +kernel
theorem dX4_advise_21 : decode cX4_advise 21 = .ok (.iconst 0, 1) := by decide +kernel
theorem dX4_advise_22 : decode cX4_advise 22 = .ok (.istore_n 3, 1) := by decide +kernel
theorem dX4_advise_23 : decode cX4_advise 23 = .ok (.iconst 0, 1) := by decide +kernel
theorem dX4_advise_24 : decode cX4_advise 24 = .ok (.istore 4, 2) := by decide +kernel
theorem dX4_advise_26 : decode cX4_advise 26 = .ok (.iload 4, 2) := by decide +kernel
theorem dX4_advise_28 : decode cX4_advise 28 = .ok (.aload_n 0, 1) := by decide +kernel
theorem dX4_advise_29 : decode cX4_advise 29 = .ok (.getfield 7, 3) := by decide +kernel
theorem dX4_advise_32 : decode cX4_advise 32 = .ok (.if_icmp .ge 50, 3) := by decide +kernel
theorem dX4_advise_35 : decode cX4_advise 35 = .ok (.aload_n 0, 1) := by decide +kernel
theorem dX4_advise_36 : decode cX4_advise 36 = .ok (.iload 4, 2) := by decide +kernel
theorem dX4_advise_38 : decode cX4_advise 38 = .ok (.invokevirtual 126, 3) := by decide +kernel
theorem dX4_advise_41 : decode cX4_advise 41 = .ok (.ifCond .eq 6, 3) := by decide +kernel
theorem dX4_advise_44 : decode cX4_advise 44 = .ok (.goto 32, 3) := by decide +kernel
theorem dX4_advise_47 : decode cX4_advise 47 = .ok (.aload_n 0, 1) := by decide +kernel
theorem dX4_advise_48 : decode cX4_advise 48 = .ok (.iload 4, 2) := by decide +kernel
theorem dX4_advise_50 : decode cX4_advise 50 = .ok (.iload_n 1, 1) := by decide +kernel
theorem dX4_advise_51 : decode cX4_advise 51 = .ok (.invokevirtual 135, 3) := by decide +kernel
theorem dX4_advise_54 : decode cX4_advise 54 = .ok (.istore 5, 2) := by decide +kernel
theorem dX4_advise_56 : decode cX4_advise 56 = .ok (.iload_n 2, 1) := by decide +kernel
theorem dX4_advise_57 : decode cX4_advise 57 = .ok (.iconst (-1), 1) := by decide +kernel
theorem dX4_advise_58 : decode cX4_advise 58 = .ok (.if_icmp .eq 12, 3) := by decide +kernel
theorem dX4_advise_61 : decode cX4_advise 61 = .ok (.iload 5, 2) := by decide +kernel
theorem dX4_advise_63 : decode cX4_advise 63 = .ok (.iload_n 3, 1) := by decide +kernel
theorem dX4_advise_64 : decode cX4_advise 64 = .ok (.if_icmp .lt 6, 3) := by decide +kernel
theorem dX4_advise_67 : decode cX4_advise 67 = .ok (.goto 9, 3) := by decide +kernel
theorem dX4_advise_70 : decode cX4_advise 70 = .ok (.iload 4, 2) := by decide +kernel
theorem dX4_advise_72 : decode cX4_advise 72 = .ok (.istore_n 2, 1) := by decide +kernel
theorem dX4_advise_73 : decode cX4_advise 73 = .ok (.iload 5, 2) := by decide +kernel
theorem dX4_advise_75 : decode cX4_advise 75 = .ok (.istore_n 3, 1) := by decide +kernel
theorem dX4_advise_76 : decode cX4_advise 76 = .ok (.iinc 4 1, 3) := by decide +kernel
theorem dX4_advise_79 : decode cX4_advise 79 = .ok (.goto (-53), 3) := by decide +kernel
theorem dX4_advise_82 : decode cX4_advise 82 = .ok (.iload_n 2, 1) := by decide +kernel
theorem dX4_advise_83 : decode cX4_advise 83 = .ok (.ireturn, 1) := by decide +kernel
set_option maxRecDepth 20000 in
theorem ggX4_wrongWith_X4_allWrong : GoodIn wsX4_wrongWith wsX4_allWrong := goodIn_r _ [6, 7, 8, 9, 10, 5, 11, 12, 13, 14, 15, 16, 17, 18, 19, 20, 21, 22, 23, 24, 25, 26, 27, 28, 29, 30, 31, 32, 33, 34, 35, 36, 37, 38, 39, 40, 41, 1, 42, 43, 44, 45, 46, 47, 48, 49, 50, 51, 52, 53, 54, 55, 56, 57, 58, 59, 60, 61, 62, 63] (by decide +kernel) (by decide +kernel)
set_option maxRecDepth 20000 in
theorem gX4_wrongWith_X4_allWrong : GoodIn wsX4_wrongWith (wsV RX4 120 RX4 yX4_allWrong wsX4_allWrong) := goodIn_app (goodIn_of _ (by decide +kernel)) ggX4_wrongWith_X4_allWrong
theorem dX4_wrongWith_0 : decode cX4_wrongWith 0 = .ok (.aload_n 0, 1) := by decide +kernel
theorem dX4_wrongWith_1 : decode cX4_wrongWith 1 = .ok (.getfield 17, 3) := by decide +kernel
theorem dX4_wrongWith_4 : decode cX4_wrongWith 4 = .ok (.iload_n 1, 1) := by decide +kernel
theorem dX4_wrongWith_5 : decode cX4_wrongWith 5 = .ok (.iaload, 1) := by decide +kernel
theorem dX4_wrongWith_6 : decode cX4_wrongWith 6 = .ok (.istore_n 3, 1) := by decide +kernel
theorem dX4_wrongWith_7 : decode cX4_wrongWith 7 = .ok (.aload_n 0, 1) := by decide +kernel
theorem dX4_wrongWith_8 : decode cX4_wrongWith 8 = .ok (.getfield 17, 3) := by decide +kernel
theorem dX4_wrongWith_11 : decode cX4_wrongWith 11 = .ok (.iload_n 1, 1) := by decide +kernel
theorem dX4_wrongWith_12 : decode cX4_wrongWith 12 = .ok (.iload_n 2, 1) := by decide +kernel
theorem dX4_wrongWith_13 : decode cX4_wrongWith 13 = .ok (.iastore, 1) := by decide +kernel
theorem dX4_wrongWith_14 : decode cX4_wrongWith 14 = .ok (.aload_n 0, 1) := by decide +kernel
theorem dX4_wrongWith_15 : decode cX4_wrongWith 15 = .ok (.invokevirtual 120, 3) := by decide +kernel
theorem dX4_wrongWith_18 : decode cX4_wrongWith 18 = .ok (.istore 4, 2) := by decide +kernel
theorem dX4_wrongWith_20 : decode cX4_wrongWith 20 = .ok (.aload_n 0, 1) := by decide +kernel
theorem dX4_wrongWith_21 : decode cX4_wrongWith 21 = .ok (.getfield 17, 3) := by decide +kernel
theorem dX4_wrongWith_24 : decode cX4_wrongWith 24 = .ok (.iload_n 1, 1) := by decide +kernel
theorem dX4_wrongWith_25 : decode cX4_wrongWith 25 = .ok (.iload_n 3, 1) := by decide +kernel
theorem dX4_wrongWith_26 : decode cX4_wrongWith 26 = .ok (.iastore, 1) := by decide +kernel
theorem dX4_wrongWith_27 : decode cX4_wrongWith 27 = .ok (.iload 4, 2) := by decide +kernel
theorem dX4_wrongWith_29 : decode cX4_wrongWith 29 = .ok (.ireturn, 1) := by decide +kernel
set_option maxRecDepth 20000 in
theorem ggX4_would_X4_isHill : GoodIn wsX4_would wsX4_isHill := goodIn_r _ [6, 7, 8, 9, 5, 10, 74, 75, 76, 77, 78, 79, 80, 81, 82] (by decide +kernel) (by decide +kernel)
set_option maxRecDepth 20000 in
theorem gX4_would_X4_isHill : GoodIn wsX4_would (wsV RX4 101 RX4 yX4_isHill wsX4_isHill) := goodIn_app (goodIn_of _ (by decide +kernel)) ggX4_would_X4_isHill
set_option maxRecDepth 20000 in
theorem ggX4_would_X4_no : GoodIn wsX4_would wsX4_no := goodIn_r _ [14, 1, 74, 75, 76, 77, 78, 79, 80, 81, 82] (by decide +kernel) (by decide +kernel)
set_option maxRecDepth 20000 in
theorem gX4_would_X4_no : GoodIn wsX4_would (wsV RX4 91 RX4 yX4_no wsX4_no) := goodIn_app (goodIn_of _ (by decide +kernel)) ggX4_would_X4_no
set_option maxRecDepth 20000 in
theorem ggX4_would_X4_isStrength : GoodIn wsX4_would wsX4_isStrength := goodIn_r _ [17, 8, 9, 5, 10] (by decide +kernel) (by decide +kernel)
set_option maxRecDepth 20000 in
theorem gX4_would_X4_isStrength : GoodIn wsX4_would (va_wsS RX4 98 yX4_isStrength wsX4_isStrength) := goodIn_app (goodIn_of _ (by decide +kernel)) ggX4_would_X4_isStrength
set_option maxRecDepth 20000 in
theorem ggX4_would_X4_wrongWith : GoodIn wsX4_would wsX4_wrongWith := goodIn_r _ [21, 22, 23, 24, 25, 5, 26, 7, 27, 28, 29, 30, 31, 32, 33, 34, 35, 36, 37, 38, 39, 40, 41, 42, 43, 44, 45, 46, 47, 48, 49, 50, 51, 52, 53, 54, 55, 56, 57, 58, 59, 60, 61, 62, 63, 64, 65, 66, 67, 68, 69, 70, 71, 72, 73, 74, 75, 76, 77, 78, 79, 80, 81, 82] (by decide +kernel) (by decide +kernel)
set_option maxRecDepth 20000 in
theorem gX4_would_X4_wrongWith : GoodIn wsX4_would (wsV RX4 138 RX4 yX4_wrongWith wsX4_wrongWith) := goodIn_app (goodIn_of _ (by decide +kernel)) ggX4_would_X4_wrongWith
theorem dX4_would_0 : decode cX4_would 0 = .ok (.aload_n 0, 1) := by decide +kernel
theorem dX4_would_1 : decode cX4_would 1 = .ok (.iconst 0, 1) := by decide +kernel
theorem dX4_would_2 : decode cX4_would 2 = .ok (.putfield 32, 3) := by decide +kernel
theorem dX4_would_5 : decode cX4_would 5 = .ok (.aload_n 0, 1) := by decide +kernel
theorem dX4_would_6 : decode cX4_would 6 = .ok (.iload_n 1, 1) := by decide +kernel
theorem dX4_would_7 : decode cX4_would 7 = .ok (.invokevirtual 101, 3) := by decide +kernel
theorem dX4_would_10 : decode cX4_would 10 = .ok (.ifCond .ne 9, 3) := by decide +kernel
theorem dX4_would_13 : decode cX4_would 13 = .ok (.aload_n 0, 1) := by decide +kernel
theorem dX4_would_14 : decode cX4_would 14 = .ok (.iconst 1, 1) := by decide +kernel
theorem dX4_would_15 : decode cX4_would 15 = .ok (.invokevirtual 91, 3) := by decide +kernel
theorem dX4_would_18 : decode cX4_would 18 = .ok (.ireturn, 1) := by decide +kernel
theorem dX4_would_19 : decode cX4_would 19 = .ok (.iload_n 2, 1) := by decide +kernel
theorem dX4_would_20 : decode cX4_would 20 = .ok (.invokestatic 98, 3) := by decide +kernel
theorem dX4_would_23 : decode cX4_would 23 = .ok (.ifCond .eq 12, 3) := by decide +kernel
theorem dX4_would_26 : decode cX4_would 26 = .ok (.aload_n 0, 1) := by decide +kernel
theorem dX4_would_27 : decode cX4_would 27 = .ok (.iload_n 1, 1) := by decide +kernel
theorem dX4_would_28 : decode cX4_would 28 = .ok (.iload_n 2, 1) := by decide +kernel
theorem dX4_would_29 : decode cX4_would 29 = .ok (.invokevirtual 138, 3) := by decide +kernel
theorem dX4_would_32 : decode cX4_would 32 = .ok (.goto 8, 3) := by decide +kernel
theorem dX4_would_35 : decode cX4_would 35 = .ok (.aload_n 0, 1) := by decide +kernel
theorem dX4_would_36 : decode cX4_would 36 = .ok (.iconst 2, 1) := by decide +kernel
theorem dX4_would_37 : decode cX4_would 37 = .ok (.invokevirtual 91, 3) := by decide +kernel
theorem dX4_would_40 : decode cX4_would 40 = .ok (.ireturn, 1) := by decide +kernel
set_option maxRecDepth 20000 in
theorem ggX4_tune_X4_isHill : GoodIn wsX4_tune wsX4_isHill := goodIn_r _ [6, 7, 8, 9, 5, 10, 71, 72, 73, 74, 75, 76, 77, 78, 79] (by decide +kernel) (by decide +kernel)
set_option maxRecDepth 20000 in
theorem gX4_tune_X4_isHill : GoodIn wsX4_tune (wsV RX4 101 RX4 yX4_isHill wsX4_isHill) := goodIn_app (goodIn_of _ (by decide +kernel)) ggX4_tune_X4_isHill
set_option maxRecDepth 20000 in
theorem ggX4_tune_X4_no : GoodIn wsX4_tune wsX4_no := goodIn_r _ [14, 1, 71, 72, 73, 74, 75, 76, 77, 78, 79] (by decide +kernel) (by decide +kernel)
set_option maxRecDepth 20000 in
theorem gX4_tune_X4_no : GoodIn wsX4_tune (wsV RX4 91 RX4 yX4_no wsX4_no) := goodIn_app (goodIn_of _ (by decide +kernel)) ggX4_tune_X4_no
set_option maxRecDepth 20000 in
theorem ggX4_tune_X4_wrongWith : GoodIn wsX4_tune wsX4_wrongWith := goodIn_r _ [18, 19, 20, 21, 22, 5, 23, 7, 24, 25, 26, 27, 28, 29, 30, 31, 32, 33, 34, 35, 36, 37, 38, 39, 40, 41, 42, 43, 44, 45, 46, 47, 48, 49, 50, 51, 52, 53, 54, 55, 56, 57, 58, 59, 60, 61, 62, 63, 64, 65, 66, 67, 68, 69, 70, 71, 72, 73, 74, 75, 76, 77, 78, 79] (by decide +kernel) (by decide +kernel)
set_option maxRecDepth 20000 in
theorem gX4_tune_X4_wrongWith : GoodIn wsX4_tune (wsV RX4 138 RX4 yX4_wrongWith wsX4_wrongWith) := goodIn_app (goodIn_of _ (by decide +kernel)) ggX4_tune_X4_wrongWith
theorem dX4_tune_0 : decode cX4_tune 0 = .ok (.aload_n 0, 1) := by decide +kernel
theorem dX4_tune_1 : decode cX4_tune 1 = .ok (.iconst 0, 1) := by decide +kernel
theorem dX4_tune_2 : decode cX4_tune 2 = .ok (.putfield 32, 3) := by decide +kernel
theorem dX4_tune_5 : decode cX4_tune 5 = .ok (.aload_n 0, 1) := by decide +kernel
theorem dX4_tune_6 : decode cX4_tune 6 = .ok (.iload_n 1, 1) := by decide +kernel
theorem dX4_tune_7 : decode cX4_tune 7 = .ok (.invokevirtual 101, 3) := by decide +kernel
theorem dX4_tune_10 : decode cX4_tune 10 = .ok (.ifCond .ne 9, 3) := by decide +kernel
theorem dX4_tune_13 : decode cX4_tune 13 = .ok (.aload_n 0, 1) := by decide +kernel
theorem dX4_tune_14 : decode cX4_tune 14 = .ok (.iconst 1, 1) := by decide +kernel
theorem dX4_tune_15 : decode cX4_tune 15 = .ok (.invokevirtual 91, 3) := by decide +kernel
theorem dX4_tune_18 : decode cX4_tune 18 = .ok (.ireturn, 1) := by decide +kernel
theorem dX4_tune_19 : decode cX4_tune 19 = .ok (.iconst 1, 1) := by decide +kernel
theorem dX4_tune_20 : decode cX4_tune 20 = .ok (.istore_n 2, 1) := by decide +kernel
theorem dX4_tune_21 : decode cX4_tune 21 = .ok (.aload_n 0, 1) := by decide +kernel
theorem dX4_tune_22 : decode cX4_tune 22 = .ok (.iload_n 1, 1) := by decide +kernel
theorem dX4_tune_23 : decode cX4_tune 23 = .ok (.iconst 1, 1) := by decide +kernel
theorem dX4_tune_24 : decode cX4_tune 24 = .ok (.invokevirtual 138, 3) := by decide +kernel
theorem dX4_tune_27 : decode cX4_tune 27 = .ok (.istore_n 3, 1) := by decide +kernel
theorem dX4_tune_28 : decode cX4_tune 28 = .ok (.iconst 2, 1) := by decide +kernel
theorem dX4_tune_29 : decode cX4_tune 29 = .ok (.istore 4, 2) := by decide +kernel
theorem dX4_tune_31 : decode cX4_tune 31 = .ok (.iload 4, 2) := by decide +kernel
theorem dX4_tune_33 : decode cX4_tune 33 = .ok (.bipush 9, 2) := by decide +kernel
theorem dX4_tune_35 : decode cX4_tune 35 = .ok (.if_icmp .gt 33, 3) := by decide +kernel
theorem dX4_tune_38 : decode cX4_tune 38 = .ok (.aload_n 0, 1) := by decide +kernel
theorem dX4_tune_39 : decode cX4_tune 39 = .ok (.iload_n 1, 1) := by decide +kernel
theorem dX4_tune_40 : decode cX4_tune 40 = .ok (.iload 4, 2) := by decide +kernel
theorem dX4_tune_42 : decode cX4_tune 42 = .ok (.invokevirtual 138, 3) := by decide +kernel
theorem dX4_tune_45 : decode cX4_tune 45 = .ok (.istore 5, 2) := by decide +kernel
theorem dX4_tune_47 : decode cX4_tune 47 = .ok (.iload 5, 2) := by decide +kernel
theorem dX4_tune_49 : decode cX4_tune 49 = .ok (.iload_n 3, 1) := by decide +kernel
theorem dX4_tune_50 : decode cX4_tune 50 = .ok (.if_icmp .lt 6, 3) := by decide +kernel
theorem dX4_tune_53 : decode cX4_tune 53 = .ok (.goto 9, 3) := by decide +kernel
theorem dX4_tune_56 : decode cX4_tune 56 = .ok (.iload 4, 2) := by decide +kernel
theorem dX4_tune_58 : decode cX4_tune 58 = .ok (.istore_n 2, 1) := by decide +kernel
theorem dX4_tune_59 : decode cX4_tune 59 = .ok (.iload 5, 2) := by decide +kernel
theorem dX4_tune_61 : decode cX4_tune 61 = .ok (.istore_n 3, 1) := by decide +kernel
theorem dX4_tune_62 : decode cX4_tune 62 = .ok (.iinc 4 1, 3) := by decide +kernel
theorem dX4_tune_65 : decode cX4_tune 65 = .ok (.goto (-34), 3) := by decide +kernel
theorem dX4_tune_68 : decode cX4_tune 68 = .ok (.iload_n 2, 1) := by decide +kernel
theorem dX4_tune_69 : decode cX4_tune 69 = .ok (.ireturn, 1) := by decide +kernel
set_option maxRecDepth 20000 in
theorem ggX4_mean_X4_end : GoodIn wsX4_mean wsX4_end := goodIn_r _ [6, 7, 8, 9, 10, 11, 12, 13, 14, 5, 15, 16, 17, 18, 19, 20, 21, 22, 45, 46, 47, 48, 49, 50, 51, 52, 53] (by decide +kernel) (by decide +kernel)
set_option maxRecDepth 20000 in
theorem gX4_mean_X4_end : GoodIn wsX4_mean (wsV RX4 84 RX4 yX4_end wsX4_end) := goodIn_app (goodIn_of _ (by decide +kernel)) ggX4_mean_X4_end
set_option maxRecDepth 20000 in
theorem ggX4_mean_X4_skyAt : GoodIn wsX4_mean wsX4_skyAt := goodIn_r _ [26, 27, 7, 28, 29, 30, 5, 31, 21, 22, 16, 32, 33, 34, 35, 36, 37, 38, 39, 40, 41, 42, 43, 44, 45, 46, 47, 48, 49, 50, 51, 52, 53] (by decide +kernel) (by decide +kernel)
set_option maxRecDepth 20000 in
theorem gX4_mean_X4_skyAt : GoodIn wsX4_mean (wsV RX4 55 RX4 yX4_skyAt wsX4_skyAt) := goodIn_app (goodIn_of _ (by decide +kernel)) ggX4_mean_X4_skyAt
theorem dX4_mean_0 : decode cX4_mean 0 = .ok (.aload_n 0, 1) := by decide +kernel
theorem dX4_mean_1 : decode cX4_mean 1 = .ok (.iconst 0, 1) := by decide +kernel
theorem dX4_mean_2 : decode cX4_mean 2 = .ok (.putfield 32, 3) := by decide +kernel
theorem dX4_mean_5 : decode cX4_mean 5 = .ok (.aload_n 0, 1) := by decide +kernel
theorem dX4_mean_6 : decode cX4_mean 6 = .ok (.invokevirtual 84, 3) := by decide +kernel
theorem dX4_mean_9 : decode cX4_mean 9 = .ok (.istore_n 1, 1) := by decide +kernel
theorem dX4_mean_10 : decode cX4_mean 10 = .ok (.iconst 0, 1) := by decide +kernel
theorem dX4_mean_11 : decode cX4_mean 11 = .ok (.istore_n 2, 1) := by decide +kernel
theorem dX4_mean_12 : decode cX4_mean 12 = .ok (.iconst 0, 1) := by decide +kernel
theorem dX4_mean_13 : decode cX4_mean 13 = .ok (.istore_n 3, 1) := by decide +kernel
theorem dX4_mean_14 : decode cX4_mean 14 = .ok (.iload_n 3, 1) := by decide +kernel
theorem dX4_mean_15 : decode cX4_mean 15 = .ok (.iload_n 1, 1) := by decide +kernel
theorem dX4_mean_16 : decode cX4_mean 16 = .ok (.if_icmp .ge 17, 3) := by decide +kernel
theorem dX4_mean_19 : decode cX4_mean 19 = .ok (.iload_n 2, 1) := by decide +kernel
theorem dX4_mean_20 : decode cX4_mean 20 = .ok (.aload_n 0, 1) := by decide +kernel
theorem dX4_mean_21 : decode cX4_mean 21 = .ok (.iload_n 3, 1) := by decide +kernel
theorem dX4_mean_22 : decode cX4_mean 22 = .ok (.invokevirtual 55, 3) := by decide +kernel
theorem dX4_mean_25 : decode cX4_mean 25 = .ok (.iadd, 1) := by decide +kernel
theorem dX4_mean_26 : decode cX4_mean 26 = .ok (.istore_n 2, 1) := by decide +kernel
theorem dX4_mean_27 : decode cX4_mean 27 = .ok (.iinc 3 1, 3) := by decide +kernel
theorem dX4_mean_30 : decode cX4_mean 30 = .ok (.goto (-16), 3) := by decide +kernel
theorem dX4_mean_33 : decode cX4_mean 33 = .ok (.iload_n 1, 1) := by decide +kernel
theorem dX4_mean_34 : decode cX4_mean 34 = .ok (.ifCond .ne 7, 3) := by decide +kernel
theorem dX4_mean_37 : decode cX4_mean 37 = .ok (.dconst 0, 1) := by decide +kernel
theorem dX4_mean_38 : decode cX4_mean 38 = .ok (.goto 8, 3) := by decide +kernel
theorem dX4_mean_41 : decode cX4_mean 41 = .ok (.iload_n 2, 1) := by decide +kernel
theorem dX4_mean_42 : decode cX4_mean 42 = .ok (.i2d, 1) := by decide +kernel
theorem dX4_mean_43 : decode cX4_mean 43 = .ok (.iload_n 1, 1) := by decide +kernel
theorem dX4_mean_44 : decode cX4_mean 44 = .ok (.i2d, 1) := by decide +kernel
theorem dX4_mean_45 : decode cX4_mean 45 = .ok (.ddiv, 1) := by decide +kernel
theorem dX4_mean_46 : decode cX4_mean 46 = .ok (.dreturn, 1) := by decide +kernel
set_option maxRecDepth 20000 in
theorem ggX4_digest_X4_counted : GoodIn wsX4_digest wsX4_counted := goodIn_r _ [11, 12, 5, 6, 13, 14, 15, 10, 16, 17, 18, 19, 20, 21, 22, 23, 24, 25, 26, 27, 28, 29, 30, 31, 32, 33, 34, 35, 36, 37, 38, 39, 40, 41, 42, 43, 4, 44, 45, 46, 47, 48, 49, 50, 51, 52, 53, 54, 55, 56, 57, 58, 59, 60, 61, 62, 63, 64, 65, 66, 67, 68, 69, 70, 71, 72, 73, 74, 75, 76, 77, 78, 79, 80, 81, 82, 83, 84, 100, 101, 102, 103, 104, 105, 106, 107, 108] (by decide +kernel) (by decide +kernel)
set_option maxRecDepth 20000 in
theorem gX4_digest_X4_counted : GoodIn wsX4_digest (wsV RX4 129 RX4 yX4_counted wsX4_counted) := goodIn_app (goodIn_of _ (by decide +kernel)) ggX4_digest_X4_counted
set_option maxRecDepth 20000 in
theorem ggX4_digest_X4_hillTold : GoodIn wsX4_digest wsX4_hillTold := goodIn_r _ [88, 30, 48, 35, 6, 17, 18, 19, 10, 20, 21, 22, 23, 24, 25, 26, 27, 28, 29, 31, 32, 33, 34, 12, 36, 37, 38, 39, 40, 41, 42, 43, 4, 5, 44, 45, 46, 47, 49, 50, 51, 52, 53, 54, 55, 56, 57, 58, 59, 60, 61, 70, 71, 72, 73, 89, 90, 91, 92, 78, 79, 68, 80, 93, 94, 95, 100, 101, 102, 103, 104, 105, 106, 107, 108] (by decide +kernel) (by decide +kernel)
set_option maxRecDepth 20000 in
theorem gX4_digest_X4_hillTold : GoodIn wsX4_digest (wsV RX4 117 RX4 yX4_hillTold wsX4_hillTold) := goodIn_app (goodIn_of _ (by decide +kernel)) ggX4_digest_X4_hillTold
set_option maxRecDepth 20000 in
theorem ggX4_digest_X4_wordTold : GoodIn wsX4_digest wsX4_wordTold := goodIn_r _ [99, 25, 26, 27, 28, 10, 29, 30, 31, 32, 33, 34, 35, 12, 36, 37, 38, 39, 40, 41, 42, 43, 4, 5, 44, 45, 46, 47, 6, 48, 49, 50, 51, 52, 53, 54, 55, 56, 57, 58, 21, 22, 23, 24, 59, 60, 61, 100, 101, 102, 103, 104, 105, 106, 107, 108] (by decide +kernel) (by decide +kernel)
set_option maxRecDepth 20000 in
theorem gX4_digest_X4_wordTold : GoodIn wsX4_digest (wsV RX4 107 RX4 yX4_wordTold wsX4_wordTold) := goodIn_app (goodIn_of _ (by decide +kernel)) ggX4_digest_X4_wordTold
theorem dX4_digest_0 : decode cX4_digest 0 = .ok (.aload_n 0, 1) := by decide +kernel
theorem dX4_digest_1 : decode cX4_digest 1 = .ok (.iconst 0, 1) := by decide +kernel
theorem dX4_digest_2 : decode cX4_digest 2 = .ok (.putfield 32, 3) := by decide +kernel
theorem dX4_digest_5 : decode cX4_digest 5 = .ok (.ldc2_w 141, 3) := by decide +kernel
theorem dX4_digest_8 : decode cX4_digest 8 = .ok (.lstore_n 1, 1) := by decide +kernel
theorem dX4_digest_9 : decode cX4_digest 9 = .ok (.iconst 0, 1) := by decide +kernel
theorem dX4_digest_10 : decode cX4_digest 10 = .ok (.istore_n 3, 1) := by decide +kernel
theorem dX4_digest_11 : decode cX4_digest 11 = .ok (.iload_n 3, 1) := by decide +kernel
theorem dX4_digest_12 : decode cX4_digest 12 = .ok (.bipush 6, 2) := by decide +kernel
theorem dX4_digest_14 : decode cX4_digest 14 = .ok (.if_icmp .gt 22, 3) := by decide +kernel
theorem dX4_digest_17 : decode cX4_digest 17 = .ok (.lload_n 1, 1) := by decide +kernel
theorem dX4_digest_18 : decode cX4_digest 18 = .ok (.ldc2_w 143, 3) := by decide +kernel
theorem dX4_digest_21 : decode cX4_digest 21 = .ok (.lmul, 1) := by decide +kernel
theorem dX4_digest_22 : decode cX4_digest 22 = .ok (.aload_n 0, 1) := by decide +kernel
theorem dX4_digest_23 : decode cX4_digest 23 = .ok (.iload_n 3, 1) := by decide +kernel
theorem dX4_digest_24 : decode cX4_digest 24 = .ok (.invokevirtual 129, 3) := by decide +kernel
theorem dX4_digest_27 : decode cX4_digest 27 = .ok (.i2l, 1) := by decide +kernel
theorem dX4_digest_28 : decode cX4_digest 28 = .ok (.ladd, 1) := by decide +kernel
theorem dX4_digest_29 : decode cX4_digest 29 = .ok (.lstore_n 1, 1) := by decide +kernel
theorem dX4_digest_30 : decode cX4_digest 30 = .ok (.iinc 3 1, 3) := by decide +kernel
theorem dX4_digest_33 : decode cX4_digest 33 = .ok (.goto (-22), 3) := by decide +kernel
theorem dX4_digest_36 : decode cX4_digest 36 = .ok (.aload_n 0, 1) := by decide +kernel
theorem dX4_digest_37 : decode cX4_digest 37 = .ok (.getfield 29, 3) := by decide +kernel
theorem dX4_digest_40 : decode cX4_digest 40 = .ok (.astore_n 3, 1) := by decide +kernel
theorem dX4_digest_41 : decode cX4_digest 41 = .ok (.aload_n 3, 1) := by decide +kernel
theorem dX4_digest_42 : decode cX4_digest 42 = .ok (.arraylength, 1) := by decide +kernel
theorem dX4_digest_43 : decode cX4_digest 43 = .ok (.istore 4, 2) := by decide +kernel
theorem dX4_digest_45 : decode cX4_digest 45 = .ok (.iconst 0, 1) := by decide +kernel
theorem dX4_digest_46 : decode cX4_digest 46 = .ok (.istore 5, 2) := by decide +kernel
theorem dX4_digest_48 : decode cX4_digest 48 = .ok (.iload 5, 2) := by decide +kernel
theorem dX4_digest_50 : decode cX4_digest 50 = .ok (.iload 4, 2) := by decide +kernel
theorem dX4_digest_52 : decode cX4_digest 52 = .ok (.if_icmp .ge 25, 3) := by decide +kernel
theorem dX4_digest_55 : decode cX4_digest 55 = .ok (.aload_n 3, 1) := by decide +kernel
theorem dX4_digest_56 : decode cX4_digest 56 = .ok (.iload 5, 2) := by decide +kernel
theorem dX4_digest_58 : decode cX4_digest 58 = .ok (.iaload, 1) := by decide +kernel
theorem dX4_digest_59 : decode cX4_digest 59 = .ok (.istore 6, 2) := by decide +kernel
theorem dX4_digest_61 : decode cX4_digest 61 = .ok (.lload_n 1, 1) := by decide +kernel
theorem dX4_digest_62 : decode cX4_digest 62 = .ok (.ldc2_w 143, 3) := by decide +kernel
theorem dX4_digest_65 : decode cX4_digest 65 = .ok (.lmul, 1) := by decide +kernel
theorem dX4_digest_66 : decode cX4_digest 66 = .ok (.iload 6, 2) := by decide +kernel
theorem dX4_digest_68 : decode cX4_digest 68 = .ok (.i2l, 1) := by decide +kernel
theorem dX4_digest_69 : decode cX4_digest 69 = .ok (.ladd, 1) := by decide +kernel
theorem dX4_digest_70 : decode cX4_digest 70 = .ok (.lstore_n 1, 1) := by decide +kernel
theorem dX4_digest_71 : decode cX4_digest 71 = .ok (.iinc 5 1, 3) := by decide +kernel
theorem dX4_digest_74 : decode cX4_digest 74 = .ok (.goto (-26), 3) := by decide +kernel
theorem dX4_digest_77 : decode cX4_digest 77 = .ok (.iconst 0, 1) := by decide +kernel
theorem dX4_digest_78 : decode cX4_digest 78 = .ok (.istore_n 3, 1) := by decide +kernel
theorem dX4_digest_79 : decode cX4_digest 79 = .ok (.iload_n 3, 1) := by decide +kernel
theorem dX4_digest_80 : decode cX4_digest 80 = .ok (.aload_n 0, 1) := by decide +kernel
theorem dX4_digest_81 : decode cX4_digest 81 = .ok (.getfield 39, 3) := by decide +kernel
theorem dX4_digest_84 : decode cX4_digest 84 = .ok (.if_icmp .ge 92, 3) := by decide +kernel
theorem dX4_digest_87 : decode cX4_digest 87 = .ok (.iconst 0, 1) := by decide +kernel
theorem dX4_digest_88 : decode cX4_digest 88 = .ok (.istore 4, 2) := by decide +kernel
theorem dX4_digest_90 : decode cX4_digest 90 = .ok (.iload 4, 2) := by decide +kernel
theorem dX4_digest_92 : decode cX4_digest 92 = .ok (.bipush 6, 2) := by decide +kernel
theorem dX4_digest_94 : decode cX4_digest 94 = .ok (.if_icmp .gt 24, 3) := by decide +kernel
theorem dX4_digest_97 : decode cX4_digest 97 = .ok (.lload_n 1, 1) := by decide +kernel
theorem dX4_digest_98 : decode cX4_digest 98 = .ok (.ldc2_w 143, 3) := by decide +kernel
theorem dX4_digest_101 : decode cX4_digest 101 = .ok (.lmul, 1) := by decide +kernel
theorem dX4_digest_102 : decode cX4_digest 102 = .ok (.aload_n 0, 1) := by decide +kernel
theorem dX4_digest_103 : decode cX4_digest 103 = .ok (.iload_n 3, 1) := by decide +kernel
theorem dX4_digest_104 : decode cX4_digest 104 = .ok (.iload 4, 2) := by decide +kernel
theorem dX4_digest_106 : decode cX4_digest 106 = .ok (.invokevirtual 117, 3) := by decide +kernel
theorem dX4_digest_109 : decode cX4_digest 109 = .ok (.i2l, 1) := by decide +kernel
theorem dX4_digest_110 : decode cX4_digest 110 = .ok (.ladd, 1) := by decide +kernel
theorem dX4_digest_111 : decode cX4_digest 111 = .ok (.lstore_n 1, 1) := by decide +kernel
theorem dX4_digest_112 : decode cX4_digest 112 = .ok (.iinc 4 1, 3) := by decide +kernel
theorem dX4_digest_115 : decode cX4_digest 115 = .ok (.goto (-25), 3) := by decide +kernel
theorem dX4_digest_118 : decode cX4_digest 118 = .ok (.iconst 0, 1) := by decide +kernel
theorem dX4_digest_119 : decode cX4_digest 119 = .ok (.istore 4, 2) := by decide +kernel
theorem dX4_digest_121 : decode cX4_digest 121 = .ok (.iload 4, 2) := by decide +kernel
theorem dX4_digest_123 : decode cX4_digest 123 = .ok (.aload_n 0, 1) := by decide +kernel
theorem dX4_digest_124 : decode cX4_digest 124 = .ok (.getfield 23, 3) := by decide +kernel
theorem dX4_digest_127 : decode cX4_digest 127 = .ok (.iload_n 3, 1) := by decide +kernel
theorem dX4_digest_128 : decode cX4_digest 128 = .ok (.iaload, 1) := by decide +kernel
theorem dX4_digest_129 : decode cX4_digest 129 = .ok (.if_icmp .ge 41, 3) := by decide +kernel
theorem dX4_digest_132 : decode cX4_digest 132 = .ok (.iconst 0, 1) := by decide +kernel
theorem dX4_digest_133 : decode cX4_digest 133 = .ok (.istore 5, 2) := by decide +kernel
theorem dX4_digest_135 : decode cX4_digest 135 = .ok (.iload 5, 2) := by decide +kernel
theorem dX4_digest_137 : decode cX4_digest 137 = .ok (.iconst 2, 1) := by decide +kernel
theorem dX4_digest_138 : decode cX4_digest 138 = .ok (.if_icmp .gt 26, 3) := by decide +kernel
theorem dX4_digest_141 : decode cX4_digest 141 = .ok (.lload_n 1, 1) := by decide +kernel
theorem dX4_digest_142 : decode cX4_digest 142 = .ok (.ldc2_w 143, 3) := by decide +kernel
theorem dX4_digest_145 : decode cX4_digest 145 = .ok (.lmul, 1) := by decide +kernel
theorem dX4_digest_146 : decode cX4_digest 146 = .ok (.aload_n 0, 1) := by decide +kernel
theorem dX4_digest_147 : decode cX4_digest 147 = .ok (.iload_n 3, 1) := by decide +kernel
theorem dX4_digest_148 : decode cX4_digest 148 = .ok (.iload 4, 2) := by decide +kernel
theorem dX4_digest_150 : decode cX4_digest 150 = .ok (.iload 5, 2) := by decide +kernel
theorem dX4_digest_152 : decode cX4_digest 152 = .ok (.invokevirtual 107, 3) := by decide +kernel
theorem dX4_digest_155 : decode cX4_digest 155 = .ok (.i2l, 1) := by decide +kernel
theorem dX4_digest_156 : decode cX4_digest 156 = .ok (.ladd, 1) := by decide +kernel
theorem dX4_digest_157 : decode cX4_digest 157 = .ok (.lstore_n 1, 1) := by decide +kernel
theorem dX4_digest_158 : decode cX4_digest 158 = .ok (.iinc 5 1, 3) := by decide +kernel
theorem dX4_digest_161 : decode cX4_digest 161 = .ok (.goto (-26), 3) := by decide +kernel
theorem dX4_digest_164 : decode cX4_digest 164 = .ok (.iinc 4 1, 3) := by decide +kernel
theorem dX4_digest_167 : decode cX4_digest 167 = .ok (.goto (-46), 3) := by decide +kernel
theorem dX4_digest_170 : decode cX4_digest 170 = .ok (.iinc 3 1, 3) := by decide +kernel
theorem dX4_digest_173 : decode cX4_digest 173 = .ok (.goto (-94), 3) := by decide +kernel
theorem dX4_digest_176 : decode cX4_digest 176 = .ok (.lload_n 1, 1) := by decide +kernel
theorem dX4_digest_177 : decode cX4_digest 177 = .ok (.lreturn, 1) := by decide +kernel
theorem dJ6_bitCount_0f7a4_0 : decode cJ6_bitCount_0f7a4 0 = .ok (.iload_n 0, 1) := by decide +kernel
theorem dJ6_bitCount_0f7a4_1 : decode cJ6_bitCount_0f7a4 1 = .ok (.iload_n 0, 1) := by decide +kernel
theorem dJ6_bitCount_0f7a4_2 : decode cJ6_bitCount_0f7a4 2 = .ok (.iconst 1, 1) := by decide +kernel
theorem dJ6_bitCount_0f7a4_3 : decode cJ6_bitCount_0f7a4 3 = .ok (.iushr, 1) := by decide +kernel
theorem dJ6_bitCount_0f7a4_4 : decode cJ6_bitCount_0f7a4 4 = .ok (.ldc_w 265, 3) := by decide +kernel
theorem dJ6_bitCount_0f7a4_7 : decode cJ6_bitCount_0f7a4 7 = .ok (.iand, 1) := by decide +kernel
theorem dJ6_bitCount_0f7a4_8 : decode cJ6_bitCount_0f7a4 8 = .ok (.isub, 1) := by decide +kernel
theorem dJ6_bitCount_0f7a4_9 : decode cJ6_bitCount_0f7a4 9 = .ok (.istore_n 0, 1) := by decide +kernel
theorem dJ6_bitCount_0f7a4_10 : decode cJ6_bitCount_0f7a4 10 = .ok (.iload_n 0, 1) := by decide +kernel
theorem dJ6_bitCount_0f7a4_11 : decode cJ6_bitCount_0f7a4 11 = .ok (.ldc_w 266, 3) := by decide +kernel
theorem dJ6_bitCount_0f7a4_14 : decode cJ6_bitCount_0f7a4 14 = .ok (.iand, 1) := by decide +kernel
theorem dJ6_bitCount_0f7a4_15 : decode cJ6_bitCount_0f7a4 15 = .ok (.iload_n 0, 1) := by decide +kernel
theorem dJ6_bitCount_0f7a4_16 : decode cJ6_bitCount_0f7a4 16 = .ok (.iconst 2, 1) := by decide +kernel
theorem dJ6_bitCount_0f7a4_17 : decode cJ6_bitCount_0f7a4 17 = .ok (.iushr, 1) := by decide +kernel
theorem dJ6_bitCount_0f7a4_18 : decode cJ6_bitCount_0f7a4 18 = .ok (.ldc_w 266, 3) := by decide +kernel
theorem dJ6_bitCount_0f7a4_21 : decode cJ6_bitCount_0f7a4 21 = .ok (.iand, 1) := by decide +kernel
theorem dJ6_bitCount_0f7a4_22 : decode cJ6_bitCount_0f7a4 22 = .ok (.iadd, 1) := by decide +kernel
theorem dJ6_bitCount_0f7a4_23 : decode cJ6_bitCount_0f7a4 23 = .ok (.istore_n 0, 1) := by decide +kernel
theorem dJ6_bitCount_0f7a4_24 : decode cJ6_bitCount_0f7a4 24 = .ok (.iload_n 0, 1) := by decide +kernel
theorem dJ6_bitCount_0f7a4_25 : decode cJ6_bitCount_0f7a4 25 = .ok (.iload_n 0, 1) := by decide +kernel
theorem dJ6_bitCount_0f7a4_26 : decode cJ6_bitCount_0f7a4 26 = .ok (.iconst 4, 1) := by decide +kernel
theorem dJ6_bitCount_0f7a4_27 : decode cJ6_bitCount_0f7a4 27 = .ok (.iushr, 1) := by decide +kernel
theorem dJ6_bitCount_0f7a4_28 : decode cJ6_bitCount_0f7a4 28 = .ok (.iadd, 1) := by decide +kernel
theorem dJ6_bitCount_0f7a4_29 : decode cJ6_bitCount_0f7a4 29 = .ok (.ldc_w 267, 3) := by decide +kernel
theorem dJ6_bitCount_0f7a4_32 : decode cJ6_bitCount_0f7a4 32 = .ok (.iand, 1) := by decide +kernel
theorem dJ6_bitCount_0f7a4_33 : decode cJ6_bitCount_0f7a4 33 = .ok (.istore_n 0, 1) := by decide +kernel
theorem dJ6_bitCount_0f7a4_34 : decode cJ6_bitCount_0f7a4 34 = .ok (.iload_n 0, 1) := by decide +kernel
theorem dJ6_bitCount_0f7a4_35 : decode cJ6_bitCount_0f7a4 35 = .ok (.iload_n 0, 1) := by decide +kernel
theorem dJ6_bitCount_0f7a4_36 : decode cJ6_bitCount_0f7a4 36 = .ok (.bipush 8, 2) := by decide +kernel
theorem dJ6_bitCount_0f7a4_38 : decode cJ6_bitCount_0f7a4 38 = .ok (.iushr, 1) := by decide +kernel
theorem dJ6_bitCount_0f7a4_39 : decode cJ6_bitCount_0f7a4 39 = .ok (.iadd, 1) := by decide +kernel
theorem dJ6_bitCount_0f7a4_40 : decode cJ6_bitCount_0f7a4 40 = .ok (.istore_n 0, 1) := by decide +kernel
theorem dJ6_bitCount_0f7a4_41 : decode cJ6_bitCount_0f7a4 41 = .ok (.iload_n 0, 1) := by decide +kernel
theorem dJ6_bitCount_0f7a4_42 : decode cJ6_bitCount_0f7a4 42 = .ok (.iload_n 0, 1) := by decide +kernel
theorem dJ6_bitCount_0f7a4_43 : decode cJ6_bitCount_0f7a4 43 = .ok (.bipush 16, 2) := by decide +kernel
theorem dJ6_bitCount_0f7a4_45 : decode cJ6_bitCount_0f7a4 45 = .ok (.iushr, 1) := by decide +kernel
theorem dJ6_bitCount_0f7a4_46 : decode cJ6_bitCount_0f7a4 46 = .ok (.iadd, 1) := by decide +kernel
theorem dJ6_bitCount_0f7a4_47 : decode cJ6_bitCount_0f7a4 47 = .ok (.istore_n 0, 1) := by decide +kernel
theorem dJ6_bitCount_0f7a4_48 : decode cJ6_bitCount_0f7a4 48 = .ok (.iload_n 0, 1) := by decide +kernel
theorem dJ6_bitCount_0f7a4_49 : decode cJ6_bitCount_0f7a4 49 = .ok (.bipush 63, 2) := by decide +kernel
theorem dJ6_bitCount_0f7a4_51 : decode cJ6_bitCount_0f7a4 51 = .ok (.iand, 1) := by decide +kernel
theorem dJ6_bitCount_0f7a4_52 : decode cJ6_bitCount_0f7a4 52 = .ok (.ireturn, 1) := by decide +kernel
theorem dJ9_abs_0f7a4_0 : decode cJ9_abs_0f7a4 0 = .ok (.iload_n 0, 1) := by decide +kernel
theorem dJ9_abs_0f7a4_1 : decode cJ9_abs_0f7a4 1 = .ok (.ifCond .ge 8, 3) := by decide +kernel
theorem dJ9_abs_0f7a4_4 : decode cJ9_abs_0f7a4 4 = .ok (.iload_n 0, 1) := by decide +kernel
theorem dJ9_abs_0f7a4_5 : decode cJ9_abs_0f7a4 5 = .ok (.ineg, 1) := by decide +kernel
theorem dJ9_abs_0f7a4_6 : decode cJ9_abs_0f7a4 6 = .ok (.goto 4, 3) := by decide +kernel
theorem dJ9_abs_0f7a4_9 : decode cJ9_abs_0f7a4 9 = .ok (.iload_n 0, 1) := by decide +kernel
theorem dJ9_abs_0f7a4_10 : decode cJ9_abs_0f7a4 10 = .ok (.ireturn, 1) := by decide +kernel
theorem dJ9_max_7cf53_0 : decode cJ9_max_7cf53 0 = .ok (.iload_n 0, 1) := by decide +kernel
theorem dJ9_max_7cf53_1 : decode cJ9_max_7cf53 1 = .ok (.iload_n 1, 1) := by decide +kernel
theorem dJ9_max_7cf53_2 : decode cJ9_max_7cf53 2 = .ok (.if_icmp .lt 7, 3) := by decide +kernel
theorem dJ9_max_7cf53_5 : decode cJ9_max_7cf53 5 = .ok (.iload_n 0, 1) := by decide +kernel
theorem dJ9_max_7cf53_6 : decode cJ9_max_7cf53 6 = .ok (.goto 4, 3) := by decide +kernel
theorem dJ9_max_7cf53_9 : decode cJ9_max_7cf53 9 = .ok (.iload_n 1, 1) := by decide +kernel
theorem dJ9_max_7cf53_10 : decode cJ9_max_7cf53 10 = .ok (.ireturn, 1) := by decide +kernel
theorem dJ9_min_7cf53_0 : decode cJ9_min_7cf53 0 = .ok (.iload_n 0, 1) := by decide +kernel
theorem dJ9_min_7cf53_1 : decode cJ9_min_7cf53 1 = .ok (.iload_n 1, 1) := by decide +kernel
theorem dJ9_min_7cf53_2 : decode cJ9_min_7cf53 2 = .ok (.if_icmp .gt 7, 3) := by decide +kernel
theorem dJ9_min_7cf53_5 : decode cJ9_min_7cf53 5 = .ok (.iload_n 0, 1) := by decide +kernel
theorem dJ9_min_7cf53_6 : decode cJ9_min_7cf53 6 = .ok (.goto 4, 3) := by decide +kernel
theorem dJ9_min_7cf53_9 : decode cJ9_min_7cf53 9 = .ok (.iload_n 1, 1) := by decide +kernel
theorem dJ9_min_7cf53_10 : decode cJ9_min_7cf53 10 = .ok (.ireturn, 1) := by decide +kernel
theorem dJxa1e45_init_da8c8_0 : decode cJxa1e45_init_da8c8 0 = .ok (.aload_n 0, 1) := by decide +kernel
theorem dJxa1e45_init_da8c8_1 : decode cJxa1e45_init_da8c8 1 = .ok (.invokespecial 1, 3) := by decide +kernel
theorem dJxa1e45_init_da8c8_4 : decode cJxa1e45_init_da8c8 4 = .ok (.return_, 1) := by decide +kernel
set_option maxRecDepth 20000 in
theorem ggJxc12de_init_da8c8_Jxa1e45_init_da8c8 : GoodIn wsJxc12de_init_da8c8 wsJxa1e45_init_da8c8 := goodIn_r _ [5, 6, 7, 8] (by decide +kernel) (by decide +kernel)
set_option maxRecDepth 20000 in
theorem gJxc12de_init_da8c8_Jxa1e45_init_da8c8 : GoodIn wsJxc12de_init_da8c8 (wsJxa1e45_init_da8c8) := ggJxc12de_init_da8c8_Jxa1e45_init_da8c8
theorem dJxc12de_init_da8c8_0 : decode cJxc12de_init_da8c8 0 = .ok (.aload_n 0, 1) := by decide +kernel
theorem dJxc12de_init_da8c8_1 : decode cJxc12de_init_da8c8 1 = .ok (.invokespecial 1, 3) := by decide +kernel
theorem dJxc12de_init_da8c8_4 : decode cJxc12de_init_da8c8 4 = .ok (.aload_n 0, 1) := by decide +kernel
theorem dJxc12de_init_da8c8_5 : decode cJxc12de_init_da8c8 5 = .ok (.iconst 0, 1) := by decide +kernel
theorem dJxc12de_init_da8c8_6 : decode cJxc12de_init_da8c8 6 = .ok (.putfield 7, 3) := by decide +kernel
theorem dJxc12de_init_da8c8_9 : decode cJxc12de_init_da8c8 9 = .ok (.return_, 1) := by decide +kernel
set_option maxRecDepth 20000 in
theorem ggJx4a65c_init_da8c8_Jxc12de_init_da8c8 : GoodIn wsJx4a65c_init_da8c8 wsJxc12de_init_da8c8 := goodIn_r _ [6, 7, 8, 9, 10, 11, 12, 13, 14, 15, 16, 17] (by decide +kernel) (by decide +kernel)
set_option maxRecDepth 20000 in
theorem gJx4a65c_init_da8c8_Jxc12de_init_da8c8 : GoodIn wsJx4a65c_init_da8c8 (wsJxc12de_init_da8c8) := ggJx4a65c_init_da8c8_Jxc12de_init_da8c8
theorem dJx4a65c_init_da8c8_0 : decode cJx4a65c_init_da8c8 0 = .ok (.aload_n 0, 1) := by decide +kernel
theorem dJx4a65c_init_da8c8_1 : decode cJx4a65c_init_da8c8 1 = .ok (.invokespecial 1, 3) := by decide +kernel
theorem dJx4a65c_init_da8c8_4 : decode cJx4a65c_init_da8c8 4 = .ok (.aload_n 0, 1) := by decide +kernel
theorem dJx4a65c_init_da8c8_5 : decode cJx4a65c_init_da8c8 5 = .ok (.getstatic 39, 3) := by decide +kernel
theorem dJx4a65c_init_da8c8_8 : decode cJx4a65c_init_da8c8 8 = .ok (.putfield 9, 3) := by decide +kernel
theorem dJx4a65c_init_da8c8_11 : decode cJx4a65c_init_da8c8 11 = .ok (.return_, 1) := by decide +kernel
set_option maxRecDepth 20000 in
theorem ggJx4a65c_grow_92f84_J8_newLength_cabcc : GoodIn wsJx4a65c_grow_92f84 wsJ8_newLength_cabcc := goodIn_r _ [11, 12, 4, 5, 6, 13, 14, 15, 10, 16] (by decide +kernel) (by decide +kernel)
set_option maxRecDepth 20000 in
theorem gJx4a65c_grow_92f84_J8_newLength_cabcc : GoodIn wsJx4a65c_grow_92f84 (va_wsS RJx4a65c 73 yJ8_newLength_cabcc wsJ8_newLength_cabcc) := goodIn_app (goodIn_of _ (by decide +kernel)) ggJx4a65c_grow_92f84_J8_newLength_cabcc
set_option maxRecDepth 20000 in
theorem ggJx4a65c_grow_92f84_J7_copyOf_1904c : GoodIn wsJx4a65c_grow_92f84 wsJ7_copyOf_1904c := goodIn_r _ [20, 21, 22, 23, 24, 25, 26, 19, 27, 28, 29, 30, 31, 5, 32, 33, 34, 35, 36] (by decide +kernel) (by decide +kernel)
set_option maxRecDepth 20000 in
theorem gJx4a65c_grow_92f84_J7_copyOf_1904c : GoodIn wsJx4a65c_grow_92f84 (va_wsS RJx4a65c 66 yJ7_copyOf_1904c wsJ7_copyOf_1904c) := goodIn_app (goodIn_of _ (by decide +kernel)) ggJx4a65c_grow_92f84_J7_copyOf_1904c
theorem dJx4a65c_grow_92f84_0 : decode cJx4a65c_grow_92f84 0 = .ok (.aload_n 0, 1) := by decide +kernel
theorem dJx4a65c_grow_92f84_1 : decode cJx4a65c_grow_92f84 1 = .ok (.getfield 9, 3) := by decide +kernel
theorem dJx4a65c_grow_92f84_4 : decode cJx4a65c_grow_92f84 4 = .ok (.arraylength, 1) := by decide +kernel
theorem dJx4a65c_grow_92f84_5 : decode cJx4a65c_grow_92f84 5 = .ok (.istore_n 2, 1) := by decide +kernel
theorem dJx4a65c_grow_92f84_6 : decode cJx4a65c_grow_92f84 6 = .ok (.iload_n 2, 1) := by decide +kernel
theorem dJx4a65c_grow_92f84_7 : decode cJx4a65c_grow_92f84 7 = .ok (.ifCond .gt 13, 3) := by decide +kernel
theorem dJx4a65c_grow_92f84_10 : decode cJx4a65c_grow_92f84 10 = .ok (.aload_n 0, 1) := by decide +kernel
theorem dJx4a65c_grow_92f84_11 : decode cJx4a65c_grow_92f84 11 = .ok (.getfield 9, 3) := by decide +kernel
theorem dJx4a65c_grow_92f84_14 : decode cJx4a65c_grow_92f84 14 = .ok (.getstatic 39, 3) := by decide +kernel
theorem dJx4a65c_grow_92f84_17 : decode cJx4a65c_grow_92f84 17 = .ok (.if_acmp .eq 28, 3) := by decide +kernel
theorem dJx4a65c_grow_92f84_20 : decode cJx4a65c_grow_92f84 20 = .ok (.iload_n 2, 1) := by decide +kernel
theorem dJx4a65c_grow_92f84_21 : decode cJx4a65c_grow_92f84 21 = .ok (.iload_n 1, 1) := by decide +kernel
theorem dJx4a65c_grow_92f84_22 : decode cJx4a65c_grow_92f84 22 = .ok (.iload_n 2, 1) := by decide +kernel
theorem dJx4a65c_grow_92f84_23 : decode cJx4a65c_grow_92f84 23 = .ok (.isub, 1) := by decide +kernel
theorem dJx4a65c_grow_92f84_24 : decode cJx4a65c_grow_92f84 24 = .ok (.iload_n 2, 1) := by decide +kernel
theorem dJx4a65c_grow_92f84_25 : decode cJx4a65c_grow_92f84 25 = .ok (.iconst 1, 1) := by decide +kernel
theorem dJx4a65c_grow_92f84_26 : decode cJx4a65c_grow_92f84 26 = .ok (.ishr, 1) := by decide +kernel
theorem dJx4a65c_grow_92f84_27 : decode cJx4a65c_grow_92f84 27 = .ok (.invokestatic 73, 3) := by decide +kernel
theorem dJx4a65c_grow_92f84_30 : decode cJx4a65c_grow_92f84 30 = .ok (.istore_n 3, 1) := by decide +kernel
theorem dJx4a65c_grow_92f84_31 : decode cJx4a65c_grow_92f84 31 = .ok (.aload_n 0, 1) := by decide +kernel
theorem dJx4a65c_grow_92f84_32 : decode cJx4a65c_grow_92f84 32 = .ok (.aload_n 0, 1) := by decide +kernel
theorem dJx4a65c_grow_92f84_33 : decode cJx4a65c_grow_92f84 33 = .ok (.getfield 9, 3) := by decide +kernel
theorem dJx4a65c_grow_92f84_36 : decode cJx4a65c_grow_92f84 36 = .ok (.iload_n 3, 1) := by decide +kernel
theorem dJx4a65c_grow_92f84_37 : decode cJx4a65c_grow_92f84 37 = .ok (.invokestatic 66, 3) := by decide +kernel
theorem dJx4a65c_grow_92f84_40 : decode cJx4a65c_grow_92f84 40 = .ok (.dup_x1, 1) := by decide +kernel
theorem dJx4a65c_grow_92f84_41 : decode cJx4a65c_grow_92f84 41 = .ok (.putfield 9, 3) := by decide +kernel
theorem dJx4a65c_grow_92f84_44 : decode cJx4a65c_grow_92f84 44 = .ok (.areturn, 1) := by decide +kernel
theorem dJx4a65c_grow_92f84_45 : decode cJx4a65c_grow_92f84 45 = .ok (.aload_n 0, 1) := by decide +kernel
theorem dJx4a65c_grow_92f84_46 : decode cJx4a65c_grow_92f84 46 = .ok (.bipush 10, 2) := by decide +kernel
theorem dJx4a65c_grow_92f84_48 : decode cJx4a65c_grow_92f84 48 = .ok (.iload_n 1, 1) := by decide +kernel
theorem dJx4a65c_grow_92f84_49 : decode cJx4a65c_grow_92f84 49 = .ok (.invokestatic 79, 3) := by decide +kernel
theorem dJx4a65c_grow_92f84_52 : decode cJx4a65c_grow_92f84 52 = .ok (.anewarray 7, 3) := by decide +kernel
theorem dJx4a65c_grow_92f84_55 : decode cJx4a65c_grow_92f84 55 = .ok (.dup_x1, 1) := by decide +kernel
theorem dJx4a65c_grow_92f84_56 : decode cJx4a65c_grow_92f84 56 = .ok (.putfield 9, 3) := by decide +kernel
theorem dJx4a65c_grow_92f84_59 : decode cJx4a65c_grow_92f84 59 = .ok (.areturn, 1) := by decide +kernel
set_option maxRecDepth 20000 in
theorem ggJx4a65c_grow_d5877_Jx4a65c_grow_92f84 : GoodIn wsJx4a65c_grow_d5877 wsJx4a65c_grow_92f84 := goodIn_r _ [6, 7, 8, 9, 10, 11, 12, 13, 14, 15, 16, 17, 18, 19, 20, 21, 22, 23, 24, 25, 26, 27, 28, 29, 30, 31, 32, 33, 34, 35, 36, 37, 38, 39, 40, 41, 42, 43, 44, 45] (by decide +kernel) (by decide +kernel)
set_option maxRecDepth 20000 in
theorem gJx4a65c_grow_d5877_Jx4a65c_grow_92f84 : GoodIn wsJx4a65c_grow_d5877 (wsV RJx4a65c 69 RJx4a65c yJx4a65c_grow_92f84 wsJx4a65c_grow_92f84) := goodIn_app (goodIn_of _ (by decide +kernel)) ggJx4a65c_grow_d5877_Jx4a65c_grow_92f84
theorem dJx4a65c_grow_d5877_0 : decode cJx4a65c_grow_d5877 0 = .ok (.aload_n 0, 1) := by decide +kernel
theorem dJx4a65c_grow_d5877_1 : decode cJx4a65c_grow_d5877 1 = .ok (.aload_n 0, 1) := by decide +kernel
theorem dJx4a65c_grow_d5877_2 : decode cJx4a65c_grow_d5877 2 = .ok (.getfield 48, 3) := by decide +kernel
theorem dJx4a65c_grow_d5877_5 : decode cJx4a65c_grow_d5877 5 = .ok (.iconst 1, 1) := by decide +kernel
theorem dJx4a65c_grow_d5877_6 : decode cJx4a65c_grow_d5877 6 = .ok (.iadd, 1) := by decide +kernel
theorem dJx4a65c_grow_d5877_7 : decode cJx4a65c_grow_d5877 7 = .ok (.invokevirtual 69, 3) := by decide +kernel
theorem dJx4a65c_grow_d5877_10 : decode cJx4a65c_grow_d5877 10 = .ok (.areturn, 1) := by decide +kernel
theorem dJx4a65c_size_8abf5_0 : decode cJx4a65c_size_8abf5 0 = .ok (.aload_n 0, 1) := by decide +kernel
theorem dJx4a65c_size_8abf5_1 : decode cJx4a65c_size_8abf5 1 = .ok (.getfield 48, 3) := by decide +kernel
theorem dJx4a65c_size_8abf5_4 : decode cJx4a65c_size_8abf5 4 = .ok (.ireturn, 1) := by decide +kernel
theorem dJx4a65c_elementData_915e3_0 : decode cJx4a65c_elementData_915e3 0 = .ok (.aload_n 0, 1) := by decide +kernel
theorem dJx4a65c_elementData_915e3_1 : decode cJx4a65c_elementData_915e3 1 = .ok (.getfield 9, 3) := by decide +kernel
theorem dJx4a65c_elementData_915e3_4 : decode cJx4a65c_elementData_915e3 4 = .ok (.iload_n 1, 1) := by decide +kernel
theorem dJx4a65c_elementData_915e3_5 : decode cJx4a65c_elementData_915e3 5 = .ok (.aaload, 1) := by decide +kernel
theorem dJx4a65c_elementData_915e3_6 : decode cJx4a65c_elementData_915e3 6 = .ok (.areturn, 1) := by decide +kernel
set_option maxRecDepth 20000 in
theorem ggJx4a65c_get_915e3_J15_checkIndex_7cf53 : GoodIn wsJx4a65c_get_915e3 wsJ15_checkIndex_7cf53 := goodIn_r _ [5, 6, 7, 8, 9] (by decide +kernel) (by decide +kernel)
set_option maxRecDepth 20000 in
theorem gJx4a65c_get_915e3_J15_checkIndex_7cf53 : GoodIn wsJx4a65c_get_915e3 (va_wsS RJx4a65c 118 yJ15_checkIndex_7cf53 wsJ15_checkIndex_7cf53) := goodIn_app (goodIn_of _ (by decide +kernel)) ggJx4a65c_get_915e3_J15_checkIndex_7cf53
set_option maxRecDepth 20000 in
theorem ggJx4a65c_get_915e3_Jx4a65c_elementData_915e3 : GoodIn wsJx4a65c_get_915e3 wsJx4a65c_elementData_915e3 := goodIn_r _ [14, 15, 16, 17, 18] (by decide +kernel) (by decide +kernel)
set_option maxRecDepth 20000 in
theorem gJx4a65c_get_915e3_Jx4a65c_elementData_915e3 : GoodIn wsJx4a65c_get_915e3 (wsV RJx4a65c 123 RJx4a65c yJx4a65c_elementData_915e3 wsJx4a65c_elementData_915e3) := goodIn_app (goodIn_of _ (by decide +kernel)) ggJx4a65c_get_915e3_Jx4a65c_elementData_915e3
theorem dJx4a65c_get_915e3_0 : decode cJx4a65c_get_915e3 0 = .ok (.iload_n 1, 1) := by decide +kernel
theorem dJx4a65c_get_915e3_1 : decode cJx4a65c_get_915e3 1 = .ok (.aload_n 0, 1) := by decide +kernel
theorem dJx4a65c_get_915e3_2 : decode cJx4a65c_get_915e3 2 = .ok (.getfield 48, 3) := by decide +kernel
theorem dJx4a65c_get_915e3_5 : decode cJx4a65c_get_915e3 5 = .ok (.invokestatic 118, 3) := by decide +kernel
theorem dJx4a65c_get_915e3_8 : decode cJx4a65c_get_915e3 8 = .ok (.pop, 1) := by decide +kernel
theorem dJx4a65c_get_915e3_9 : decode cJx4a65c_get_915e3 9 = .ok (.aload_n 0, 1) := by decide +kernel
theorem dJx4a65c_get_915e3_10 : decode cJx4a65c_get_915e3 10 = .ok (.iload_n 1, 1) := by decide +kernel
theorem dJx4a65c_get_915e3_11 : decode cJx4a65c_get_915e3 11 = .ok (.invokevirtual 123, 3) := by decide +kernel
theorem dJx4a65c_get_915e3_14 : decode cJx4a65c_get_915e3 14 = .ok (.areturn, 1) := by decide +kernel
set_option maxRecDepth 20000 in
theorem ggJx4a65c_add_72be8_Jx4a65c_grow_d5877 : GoodIn wsJx4a65c_add_72be8 wsJx4a65c_grow_d5877 := goodIn_r _ [6, 1, 7, 8, 9, 5, 10, 11, 12, 13, 14, 15, 16, 17, 18, 19, 20, 21, 22, 23, 24, 25, 26, 27, 28, 29, 30, 31, 32, 33, 34, 35, 36, 37, 38, 39, 40, 41, 42, 43, 44, 45, 46, 47, 48, 49] (by decide +kernel) (by decide +kernel)
set_option maxRecDepth 20000 in
theorem gJx4a65c_add_72be8_Jx4a65c_grow_d5877 : GoodIn wsJx4a65c_add_72be8 (wsV RJx4a65c 129 RJx4a65c yJx4a65c_grow_d5877 wsJx4a65c_grow_d5877) := goodIn_app (goodIn_of _ (by decide +kernel)) ggJx4a65c_add_72be8_Jx4a65c_grow_d5877
theorem dJx4a65c_add_72be8_0 : decode cJx4a65c_add_72be8 0 = .ok (.iload_n 3, 1) := by decide +kernel
theorem dJx4a65c_add_72be8_1 : decode cJx4a65c_add_72be8 1 = .ok (.aload_n 2, 1) := by decide +kernel
theorem dJx4a65c_add_72be8_2 : decode cJx4a65c_add_72be8 2 = .ok (.arraylength, 1) := by decide +kernel
theorem dJx4a65c_add_72be8_3 : decode cJx4a65c_add_72be8 3 = .ok (.if_icmp .ne 8, 3) := by decide +kernel
theorem dJx4a65c_add_72be8_6 : decode cJx4a65c_add_72be8 6 = .ok (.aload_n 0, 1) := by decide +kernel
theorem dJx4a65c_add_72be8_7 : decode cJx4a65c_add_72be8 7 = .ok (.invokevirtual 129, 3) := by decide +kernel
theorem dJx4a65c_add_72be8_10 : decode cJx4a65c_add_72be8 10 = .ok (.astore_n 2, 1) := by decide +kernel
theorem dJx4a65c_add_72be8_11 : decode cJx4a65c_add_72be8 11 = .ok (.aload_n 2, 1) := by decide +kernel
theorem dJx4a65c_add_72be8_12 : decode cJx4a65c_add_72be8 12 = .ok (.iload_n 3, 1) := by decide +kernel
theorem dJx4a65c_add_72be8_13 : decode cJx4a65c_add_72be8 13 = .ok (.aload_n 1, 1) := by decide +kernel
theorem dJx4a65c_add_72be8_14 : decode cJx4a65c_add_72be8 14 = .ok (.aastore, 1) := by decide +kernel
theorem dJx4a65c_add_72be8_15 : decode cJx4a65c_add_72be8 15 = .ok (.aload_n 0, 1) := by decide +kernel
theorem dJx4a65c_add_72be8_16 : decode cJx4a65c_add_72be8 16 = .ok (.iload_n 3, 1) := by decide +kernel
theorem dJx4a65c_add_72be8_17 : decode cJx4a65c_add_72be8 17 = .ok (.iconst 1, 1) := by decide +kernel
theorem dJx4a65c_add_72be8_18 : decode cJx4a65c_add_72be8 18 = .ok (.iadd, 1) := by decide +kernel
theorem dJx4a65c_add_72be8_19 : decode cJx4a65c_add_72be8 19 = .ok (.putfield 48, 3) := by decide +kernel
theorem dJx4a65c_add_72be8_22 : decode cJx4a65c_add_72be8 22 = .ok (.return_, 1) := by decide +kernel
set_option maxRecDepth 20000 in
theorem ggJx4a65c_add_9ea2d_Jx4a65c_add_72be8 : GoodIn wsJx4a65c_add_9ea2d wsJx4a65c_add_72be8 := goodIn_r _ [9, 4, 10, 11, 12, 8, 13, 14, 15, 16, 17, 3, 18, 19, 20, 21, 22, 23, 24, 25, 26, 27, 28, 29, 30, 31, 32, 33, 34, 35, 36, 37, 38, 39, 40, 41, 42, 43, 44, 45, 46, 47, 48, 49, 50, 51, 52, 53, 54, 55] (by decide +kernel) (by decide +kernel)
set_option maxRecDepth 20000 in
theorem gJx4a65c_add_9ea2d_Jx4a65c_add_72be8 : GoodIn wsJx4a65c_add_9ea2d (wsV RJx4a65c 131 RJx4a65c yJx4a65c_add_72be8 wsJx4a65c_add_72be8) := goodIn_app (goodIn_of _ (by decide +kernel)) ggJx4a65c_add_9ea2d_Jx4a65c_add_72be8
theorem dJx4a65c_add_9ea2d_0 : decode cJx4a65c_add_9ea2d 0 = .ok (.aload_n 0, 1) := by decide +kernel
theorem dJx4a65c_add_9ea2d_1 : decode cJx4a65c_add_9ea2d 1 = .ok (.dup, 1) := by decide +kernel
theorem dJx4a65c_add_9ea2d_2 : decode cJx4a65c_add_9ea2d 2 = .ok (.getfield 63, 3) := by decide +kernel
theorem dJx4a65c_add_9ea2d_5 : decode cJx4a65c_add_9ea2d 5 = .ok (.iconst 1, 1) := by decide +kernel
theorem dJx4a65c_add_9ea2d_6 : decode cJx4a65c_add_9ea2d 6 = .ok (.iadd, 1) := by decide +kernel
theorem dJx4a65c_add_9ea2d_7 : decode cJx4a65c_add_9ea2d 7 = .ok (.putfield 63, 3) := by decide +kernel
theorem dJx4a65c_add_9ea2d_10 : decode cJx4a65c_add_9ea2d 10 = .ok (.aload_n 0, 1) := by decide +kernel
theorem dJx4a65c_add_9ea2d_11 : decode cJx4a65c_add_9ea2d 11 = .ok (.aload_n 1, 1) := by decide +kernel
theorem dJx4a65c_add_9ea2d_12 : decode cJx4a65c_add_9ea2d 12 = .ok (.aload_n 0, 1) := by decide +kernel
theorem dJx4a65c_add_9ea2d_13 : decode cJx4a65c_add_9ea2d 13 = .ok (.getfield 9, 3) := by decide +kernel
theorem dJx4a65c_add_9ea2d_16 : decode cJx4a65c_add_9ea2d 16 = .ok (.aload_n 0, 1) := by decide +kernel
theorem dJx4a65c_add_9ea2d_17 : decode cJx4a65c_add_9ea2d 17 = .ok (.getfield 48, 3) := by decide +kernel
theorem dJx4a65c_add_9ea2d_20 : decode cJx4a65c_add_9ea2d 20 = .ok (.invokevirtual 131, 3) := by decide +kernel
theorem dJx4a65c_add_9ea2d_23 : decode cJx4a65c_add_9ea2d 23 = .ok (.iconst 1, 1) := by decide +kernel
theorem dJx4a65c_add_9ea2d_24 : decode cJx4a65c_add_9ea2d 24 = .ok (.ireturn, 1) := by decide +kernel
theorem dJx4a65c_clear_da8c8_0 : decode cJx4a65c_clear_da8c8 0 = .ok (.aload_n 0, 1) := by decide +kernel
theorem dJx4a65c_clear_da8c8_1 : decode cJx4a65c_clear_da8c8 1 = .ok (.dup, 1) := by decide +kernel
theorem dJx4a65c_clear_da8c8_2 : decode cJx4a65c_clear_da8c8 2 = .ok (.getfield 63, 3) := by decide +kernel
theorem dJx4a65c_clear_da8c8_5 : decode cJx4a65c_clear_da8c8 5 = .ok (.iconst 1, 1) := by decide +kernel
theorem dJx4a65c_clear_da8c8_6 : decode cJx4a65c_clear_da8c8 6 = .ok (.iadd, 1) := by decide +kernel
theorem dJx4a65c_clear_da8c8_7 : decode cJx4a65c_clear_da8c8 7 = .ok (.putfield 63, 3) := by decide +kernel
theorem dJx4a65c_clear_da8c8_10 : decode cJx4a65c_clear_da8c8 10 = .ok (.aload_n 0, 1) := by decide +kernel
theorem dJx4a65c_clear_da8c8_11 : decode cJx4a65c_clear_da8c8 11 = .ok (.getfield 9, 3) := by decide +kernel
theorem dJx4a65c_clear_da8c8_14 : decode cJx4a65c_clear_da8c8 14 = .ok (.astore_n 1, 1) := by decide +kernel
theorem dJx4a65c_clear_da8c8_15 : decode cJx4a65c_clear_da8c8 15 = .ok (.aload_n 0, 1) := by decide +kernel
theorem dJx4a65c_clear_da8c8_16 : decode cJx4a65c_clear_da8c8 16 = .ok (.getfield 48, 3) := by decide +kernel
theorem dJx4a65c_clear_da8c8_19 : decode cJx4a65c_clear_da8c8 19 = .ok (.istore_n 2, 1) := by decide +kernel
theorem dJx4a65c_clear_da8c8_20 : decode cJx4a65c_clear_da8c8 20 = .ok (.aload_n 0, 1) := by decide +kernel
theorem dJx4a65c_clear_da8c8_21 : decode cJx4a65c_clear_da8c8 21 = .ok (.iconst 0, 1) := by decide +kernel
theorem dJx4a65c_clear_da8c8_22 : decode cJx4a65c_clear_da8c8 22 = .ok (.dup_x1, 1) := by decide +kernel
theorem dJx4a65c_clear_da8c8_23 : decode cJx4a65c_clear_da8c8 23 = .ok (.putfield 48, 3) := by decide +kernel
theorem dJx4a65c_clear_da8c8_26 : decode cJx4a65c_clear_da8c8 26 = .ok (.istore_n 3, 1) := by decide +kernel
theorem dJx4a65c_clear_da8c8_27 : decode cJx4a65c_clear_da8c8 27 = .ok (.iload_n 3, 1) := by decide +kernel
theorem dJx4a65c_clear_da8c8_28 : decode cJx4a65c_clear_da8c8 28 = .ok (.iload_n 2, 1) := by decide +kernel
theorem dJx4a65c_clear_da8c8_29 : decode cJx4a65c_clear_da8c8 29 = .ok (.if_icmp .ge 13, 3) := by decide +kernel
theorem dJx4a65c_clear_da8c8_32 : decode cJx4a65c_clear_da8c8 32 = .ok (.aload_n 1, 1) := by decide +kernel
theorem dJx4a65c_clear_da8c8_33 : decode cJx4a65c_clear_da8c8 33 = .ok (.iload_n 3, 1) := by decide +kernel
theorem dJx4a65c_clear_da8c8_34 : decode cJx4a65c_clear_da8c8 34 = .ok (.aconst_null, 1) := by decide +kernel
theorem dJx4a65c_clear_da8c8_35 : decode cJx4a65c_clear_da8c8 35 = .ok (.aastore, 1) := by decide +kernel
theorem dJx4a65c_clear_da8c8_36 : decode cJx4a65c_clear_da8c8 36 = .ok (.iinc 3 1, 3) := by decide +kernel
theorem dJx4a65c_clear_da8c8_39 : decode cJx4a65c_clear_da8c8 39 = .ok (.goto (-12), 3) := by decide +kernel
theorem dJx4a65c_clear_da8c8_42 : decode cJx4a65c_clear_da8c8 42 = .ok (.return_, 1) := by decide +kernel
theorem dJ7_fill_53178_0 : decode cJ7_fill_53178 0 = .ok (.iconst 0, 1) := by decide +kernel
theorem dJ7_fill_53178_1 : decode cJ7_fill_53178 1 = .ok (.istore_n 2, 1) := by decide +kernel
theorem dJ7_fill_53178_2 : decode cJ7_fill_53178 2 = .ok (.aload_n 0, 1) := by decide +kernel
theorem dJ7_fill_53178_3 : decode cJ7_fill_53178 3 = .ok (.arraylength, 1) := by decide +kernel
theorem dJ7_fill_53178_4 : decode cJ7_fill_53178 4 = .ok (.istore_n 3, 1) := by decide +kernel
theorem dJ7_fill_53178_5 : decode cJ7_fill_53178 5 = .ok (.iload_n 2, 1) := by decide +kernel
theorem dJ7_fill_53178_6 : decode cJ7_fill_53178 6 = .ok (.iload_n 3, 1) := by decide +kernel
theorem dJ7_fill_53178_7 : decode cJ7_fill_53178 7 = .ok (.if_icmp .ge 13, 3) := by decide +kernel
theorem dJ7_fill_53178_10 : decode cJ7_fill_53178 10 = .ok (.aload_n 0, 1) := by decide +kernel
theorem dJ7_fill_53178_11 : decode cJ7_fill_53178 11 = .ok (.iload_n 2, 1) := by decide +kernel
theorem dJ7_fill_53178_12 : decode cJ7_fill_53178 12 = .ok (.iload_n 1, 1) := by decide +kernel
theorem dJ7_fill_53178_13 : decode cJ7_fill_53178 13 = .ok (.iastore, 1) := by decide +kernel
theorem dJ7_fill_53178_14 : decode cJ7_fill_53178 14 = .ok (.iinc 2 1, 3) := by decide +kernel
theorem dJ7_fill_53178_17 : decode cJ7_fill_53178 17 = .ok (.goto (-12), 3) := by decide +kernel
theorem dJ7_fill_53178_20 : decode cJ7_fill_53178 20 = .ok (.return_, 1) := by decide +kernel
set_option maxRecDepth 20000 in
theorem ggJ7_copyOf_1904c_J7_copyOf_6403c : GoodIn wsJ7_copyOf_1904c wsJ7_copyOf_6403c := goodIn_r _ [8, 9, 10, 11, 12, 13, 14, 15, 16, 17, 18] (by decide +kernel) (by decide +kernel)
set_option maxRecDepth 20000 in
theorem gJ7_copyOf_1904c_J7_copyOf_6403c : GoodIn wsJ7_copyOf_1904c (va_wsS RJ7 300 yJ7_copyOf_6403c wsJ7_copyOf_6403c) := goodIn_app (goodIn_of _ (by decide +kernel)) ggJ7_copyOf_1904c_J7_copyOf_6403c
theorem dJ7_copyOf_1904c_0 : decode cJ7_copyOf_1904c 0 = .ok (.aload_n 0, 1) := by decide +kernel
theorem dJ7_copyOf_1904c_1 : decode cJ7_copyOf_1904c 1 = .ok (.iload_n 1, 1) := by decide +kernel
theorem dJ7_copyOf_1904c_2 : decode cJ7_copyOf_1904c 2 = .ok (.aload_n 0, 1) := by decide +kernel
theorem dJ7_copyOf_1904c_3 : decode cJ7_copyOf_1904c 3 = .ok (.invokevirtual 86, 3) := by decide +kernel
theorem dJ7_copyOf_1904c_6 : decode cJ7_copyOf_1904c 6 = .ok (.invokestatic 300, 3) := by decide +kernel
theorem dJ7_copyOf_1904c_9 : decode cJ7_copyOf_1904c 9 = .ok (.areturn, 1) := by decide +kernel
theorem dJ7_copyOf_6403c_0 : decode cJ7_copyOf_6403c 0 = .ok (.aload_n 2, 1) := by decide +kernel
theorem dJ7_copyOf_6403c_1 : decode cJ7_copyOf_6403c 1 = .ok (.ldc 110, 2) := by decide +kernel
theorem dJ7_copyOf_6403c_3 : decode cJ7_copyOf_6403c 3 = .ok (.if_acmp .ne 10, 3) := by decide +kernel
theorem dJ7_copyOf_6403c_6 : decode cJ7_copyOf_6403c 6 = .ok (.iload_n 1, 1) := by decide +kernel
theorem dJ7_copyOf_6403c_7 : decode cJ7_copyOf_6403c 7 = .ok (.anewarray 2, 3) := by decide +kernel
theorem dJ7_copyOf_6403c_10 : decode cJ7_copyOf_6403c 10 = .ok (.goto 14, 3) := by decide +kernel
theorem dJ7_copyOf_6403c_13 : decode cJ7_copyOf_6403c 13 = .ok (.aload_n 2, 1) := by decide +kernel
theorem dJ7_copyOf_6403c_14 : decode cJ7_copyOf_6403c 14 = .ok (.invokevirtual 90, 3) := by decide +kernel
theorem dJ7_copyOf_6403c_17 : decode cJ7_copyOf_6403c 17 = .ok (.iload_n 1, 1) := by decide +kernel
theorem dJ7_copyOf_6403c_18 : decode cJ7_copyOf_6403c 18 = .ok (.invokestatic 95, 3) := by decide +kernel
theorem dJ7_copyOf_6403c_21 : decode cJ7_copyOf_6403c 21 = .ok (.checkcast 110, 3) := by decide +kernel
theorem dJ7_copyOf_6403c_24 : decode cJ7_copyOf_6403c 24 = .ok (.astore_n 3, 1) := by decide +kernel
theorem dJ7_copyOf_6403c_25 : decode cJ7_copyOf_6403c 25 = .ok (.aload_n 0, 1) := by decide +kernel
theorem dJ7_copyOf_6403c_26 : decode cJ7_copyOf_6403c 26 = .ok (.iconst 0, 1) := by decide +kernel
theorem dJ7_copyOf_6403c_27 : decode cJ7_copyOf_6403c 27 = .ok (.aload_n 3, 1) := by decide +kernel
theorem dJ7_copyOf_6403c_28 : decode cJ7_copyOf_6403c 28 = .ok (.iconst 0, 1) := by decide +kernel
theorem dJ7_copyOf_6403c_29 : decode cJ7_copyOf_6403c 29 = .ok (.aload_n 0, 1) := by decide +kernel
theorem dJ7_copyOf_6403c_30 : decode cJ7_copyOf_6403c 30 = .ok (.arraylength, 1) := by decide +kernel
theorem dJ7_copyOf_6403c_31 : decode cJ7_copyOf_6403c 31 = .ok (.iload_n 1, 1) := by decide +kernel
theorem dJ7_copyOf_6403c_32 : decode cJ7_copyOf_6403c 32 = .ok (.invokestatic 304, 3) := by decide +kernel
theorem dJ7_copyOf_6403c_35 : decode cJ7_copyOf_6403c 35 = .ok (.invokestatic 150, 3) := by decide +kernel
theorem dJ7_copyOf_6403c_38 : decode cJ7_copyOf_6403c 38 = .ok (.aload_n 3, 1) := by decide +kernel
theorem dJ7_copyOf_6403c_39 : decode cJ7_copyOf_6403c 39 = .ok (.areturn, 1) := by decide +kernel
set_option maxRecDepth 20000 in
theorem ggJ15_checkIndex_7cf53_J3_checkIndex_8e157 : GoodIn wsJ15_checkIndex_7cf53 wsJ3_checkIndex_8e157 := goodIn_r _ [4] (by decide +kernel) (by decide +kernel)
set_option maxRecDepth 20000 in
theorem gJ15_checkIndex_7cf53_J3_checkIndex_8e157 : GoodIn wsJ15_checkIndex_7cf53 (va_wsS RJ15 105 yJ3_checkIndex_8e157 wsJ3_checkIndex_8e157) := goodIn_app (goodIn_of _ (by decide +kernel)) ggJ15_checkIndex_7cf53_J3_checkIndex_8e157
theorem dJ15_checkIndex_7cf53_0 : decode cJ15_checkIndex_7cf53 0 = .ok (.iload_n 0, 1) := by decide +kernel
theorem dJ15_checkIndex_7cf53_1 : decode cJ15_checkIndex_7cf53 1 = .ok (.iload_n 1, 1) := by decide +kernel
theorem dJ15_checkIndex_7cf53_2 : decode cJ15_checkIndex_7cf53 2 = .ok (.aconst_null, 1) := by decide +kernel
theorem dJ15_checkIndex_7cf53_3 : decode cJ15_checkIndex_7cf53 3 = .ok (.invokestatic 105, 3) := by decide +kernel
theorem dJ15_checkIndex_7cf53_6 : decode cJ15_checkIndex_7cf53 6 = .ok (.ireturn, 1) := by decide +kernel
set_option maxRecDepth 20000 in
theorem ggJ8_newLength_cabcc_J8_hugeLength_7cf53 : GoodIn wsJ8_newLength_cabcc wsJ8_hugeLength_7cf53 := goodIn_r _ [9, 5] (by decide +kernel) (by decide +kernel)
set_option maxRecDepth 20000 in
theorem gJ8_newLength_cabcc_J8_hugeLength_7cf53 : GoodIn wsJ8_newLength_cabcc (va_wsS RJ8 201 yJ8_hugeLength_7cf53 wsJ8_hugeLength_7cf53) := goodIn_app (goodIn_of _ (by decide +kernel)) ggJ8_newLength_cabcc_J8_hugeLength_7cf53
theorem dJ8_newLength_cabcc_0 : decode cJ8_newLength_cabcc 0 = .ok (.iload_n 0, 1) := by decide +kernel
theorem dJ8_newLength_cabcc_1 : decode cJ8_newLength_cabcc 1 = .ok (.iload_n 1, 1) := by decide +kernel
theorem dJ8_newLength_cabcc_2 : decode cJ8_newLength_cabcc 2 = .ok (.iload_n 2, 1) := by decide +kernel
theorem dJ8_newLength_cabcc_3 : decode cJ8_newLength_cabcc 3 = .ok (.invokestatic 194, 3) := by decide +kernel
theorem dJ8_newLength_cabcc_6 : decode cJ8_newLength_cabcc 6 = .ok (.iadd, 1) := by decide +kernel
theorem dJ8_newLength_cabcc_7 : decode cJ8_newLength_cabcc 7 = .ok (.istore_n 3, 1) := by decide +kernel
theorem dJ8_newLength_cabcc_8 : decode cJ8_newLength_cabcc 8 = .ok (.iconst 0, 1) := by decide +kernel
theorem dJ8_newLength_cabcc_9 : decode cJ8_newLength_cabcc 9 = .ok (.iload_n 3, 1) := by decide +kernel
theorem dJ8_newLength_cabcc_10 : decode cJ8_newLength_cabcc 10 = .ok (.if_icmp .ge 11, 3) := by decide +kernel
theorem dJ8_newLength_cabcc_13 : decode cJ8_newLength_cabcc 13 = .ok (.iload_n 3, 1) := by decide +kernel
theorem dJ8_newLength_cabcc_14 : decode cJ8_newLength_cabcc 14 = .ok (.ldc 200, 2) := by decide +kernel
theorem dJ8_newLength_cabcc_16 : decode cJ8_newLength_cabcc 16 = .ok (.if_icmp .gt 5, 3) := by decide +kernel
theorem dJ8_newLength_cabcc_19 : decode cJ8_newLength_cabcc 19 = .ok (.iload_n 3, 1) := by decide +kernel
theorem dJ8_newLength_cabcc_20 : decode cJ8_newLength_cabcc 20 = .ok (.ireturn, 1) := by decide +kernel
theorem dJ8_newLength_cabcc_21 : decode cJ8_newLength_cabcc 21 = .ok (.iload_n 0, 1) := by decide +kernel
theorem dJ8_newLength_cabcc_22 : decode cJ8_newLength_cabcc 22 = .ok (.iload_n 1, 1) := by decide +kernel
theorem dJ8_newLength_cabcc_23 : decode cJ8_newLength_cabcc 23 = .ok (.invokestatic 201, 3) := by decide +kernel
theorem dJ8_newLength_cabcc_26 : decode cJ8_newLength_cabcc 26 = .ok (.ireturn, 1) := by decide +kernel
theorem dJ8_hugeLength_7cf53_0 : decode cJ8_hugeLength_7cf53 0 = .ok (.iload_n 0, 1) := by decide +kernel
theorem dJ8_hugeLength_7cf53_1 : decode cJ8_hugeLength_7cf53 1 = .ok (.iload_n 1, 1) := by decide +kernel
theorem dJ8_hugeLength_7cf53_2 : decode cJ8_hugeLength_7cf53 2 = .ok (.iadd, 1) := by decide +kernel
theorem dJ8_hugeLength_7cf53_3 : decode cJ8_hugeLength_7cf53 3 = .ok (.istore_n 2, 1) := by decide +kernel
theorem dJ8_hugeLength_7cf53_4 : decode cJ8_hugeLength_7cf53 4 = .ok (.iload_n 2, 1) := by decide +kernel
end
section
theorem dJ8_hugeLength_7cf53_5 : decode cJ8_hugeLength_7cf53 5 = .ok (.ifCond .ge 44, 3) := by decide +kernel
theorem dJ8_hugeLength_7cf53_8 : decode cJ8_hugeLength_7cf53 8 = .ok (.new 204, 3) := by decide +kernel
theorem dJ8_hugeLength_7cf53_11 : decode cJ8_hugeLength_7cf53 11 = .ok (.dup, 1) := by decide +kernel
theorem dJ8_hugeLength_7cf53_12 : decode cJ8_hugeLength_7cf53 12 = .ok (.new 89, 3) := by decide +kernel
theorem dJ8_hugeLength_7cf53_15 : decode cJ8_hugeLength_7cf53 15 = .ok (.dup, 1) := by decide +kernel
theorem dJ8_hugeLength_7cf53_16 : decode cJ8_hugeLength_7cf53 16 = .ok (.invokespecial 91, 3) := by decide +kernel
theorem dJ8_hugeLength_7cf53_19 : decode cJ8_hugeLength_7cf53 19 = .ok (.ldc 206, 2) := by decide +kernel
theorem dJ8_hugeLength_7cf53_21 : decode cJ8_hugeLength_7cf53 21 = .ok (.invokevirtual 94, 3) := by decide +kernel
theorem dJ8_hugeLength_7cf53_24 : decode cJ8_hugeLength_7cf53 24 = .ok (.iload_n 0, 1) := by decide +kernel
theorem dJ8_hugeLength_7cf53_25 : decode cJ8_hugeLength_7cf53 25 = .ok (.invokevirtual 98, 3) := by decide +kernel
theorem dJ8_hugeLength_7cf53_28 : decode cJ8_hugeLength_7cf53 28 = .ok (.ldc 208, 2) := by decide +kernel
theorem dJ8_hugeLength_7cf53_30 : decode cJ8_hugeLength_7cf53 30 = .ok (.invokevirtual 94, 3) := by decide +kernel
theorem dJ8_hugeLength_7cf53_33 : decode cJ8_hugeLength_7cf53 33 = .ok (.iload_n 1, 1) := by decide +kernel
theorem dJ8_hugeLength_7cf53_34 : decode cJ8_hugeLength_7cf53 34 = .ok (.invokevirtual 98, 3) := by decide +kernel
theorem dJ8_hugeLength_7cf53_37 : decode cJ8_hugeLength_7cf53 37 = .ok (.ldc 210, 2) := by decide +kernel
theorem dJ8_hugeLength_7cf53_39 : decode cJ8_hugeLength_7cf53 39 = .ok (.invokevirtual 94, 3) := by decide +kernel
theorem dJ8_hugeLength_7cf53_42 : decode cJ8_hugeLength_7cf53 42 = .ok (.invokevirtual 101, 3) := by decide +kernel
theorem dJ8_hugeLength_7cf53_45 : decode cJ8_hugeLength_7cf53 45 = .ok (.invokespecial 212, 3) := by decide +kernel
theorem dJ8_hugeLength_7cf53_48 : decode cJ8_hugeLength_7cf53 48 = .ok (.athrow, 1) := by decide +kernel
theorem dJ8_hugeLength_7cf53_49 : decode cJ8_hugeLength_7cf53 49 = .ok (.iload_n 2, 1) := by decide +kernel
theorem dJ8_hugeLength_7cf53_50 : decode cJ8_hugeLength_7cf53 50 = .ok (.ldc 200, 2) := by decide +kernel
theorem dJ8_hugeLength_7cf53_52 : decode cJ8_hugeLength_7cf53 52 = .ok (.if_icmp .gt 6, 3) := by decide +kernel
theorem dJ8_hugeLength_7cf53_55 : decode cJ8_hugeLength_7cf53 55 = .ok (.ldc 200, 2) := by decide +kernel
theorem dJ8_hugeLength_7cf53_57 : decode cJ8_hugeLength_7cf53 57 = .ok (.ireturn, 1) := by decide +kernel
theorem dJ8_hugeLength_7cf53_58 : decode cJ8_hugeLength_7cf53 58 = .ok (.iload_n 2, 1) := by decide +kernel
theorem dJ8_hugeLength_7cf53_59 : decode cJ8_hugeLength_7cf53 59 = .ok (.ireturn, 1) := by decide +kernel
theorem dJ3_checkIndex_8e157_0 : decode cJ3_checkIndex_8e157 0 = .ok (.iload_n 0, 1) := by decide +kernel
theorem dJ3_checkIndex_8e157_1 : decode cJ3_checkIndex_8e157 1 = .ok (.ifCond .lt 8, 3) := by decide +kernel
theorem dJ3_checkIndex_8e157_4 : decode cJ3_checkIndex_8e157 4 = .ok (.iload_n 0, 1) := by decide +kernel
theorem dJ3_checkIndex_8e157_5 : decode cJ3_checkIndex_8e157 5 = .ok (.iload_n 1, 1) := by decide +kernel
theorem dJ3_checkIndex_8e157_6 : decode cJ3_checkIndex_8e157 6 = .ok (.if_icmp .lt 10, 3) := by decide +kernel
theorem dJ3_checkIndex_8e157_9 : decode cJ3_checkIndex_8e157 9 = .ok (.aload_n 2, 1) := by decide +kernel
theorem dJ3_checkIndex_8e157_10 : decode cJ3_checkIndex_8e157 10 = .ok (.iload_n 0, 1) := by decide +kernel
theorem dJ3_checkIndex_8e157_11 : decode cJ3_checkIndex_8e157 11 = .ok (.iload_n 1, 1) := by decide +kernel
theorem dJ3_checkIndex_8e157_12 : decode cJ3_checkIndex_8e157 12 = .ok (.invokestatic 95, 3) := by decide +kernel
theorem dJ3_checkIndex_8e157_15 : decode cJ3_checkIndex_8e157 15 = .ok (.athrow, 1) := by decide +kernel
theorem dJ3_checkIndex_8e157_16 : decode cJ3_checkIndex_8e157 16 = .ok (.iload_n 0, 1) := by decide +kernel
theorem dJ3_checkIndex_8e157_17 : decode cJ3_checkIndex_8e157 17 = .ok (.ireturn, 1) := by decide +kernel
set_option maxRecDepth 20000 in
theorem ggL_setCodes_X3_setCodes : GoodIn wsL_setCodes wsX3_setCodes := goodIn_ca (goodIn_r _ [6, 7, 8, 9, 10, 11, 12, 13, 14, 15, 16, 17, 18, 19, 20, 21, 22, 23, 24, 25, 26, 27, 28, 29, 30, 31, 32, 33, 34, 35, 36, 37, 38, 39, 40, 41] (by decide +kernel) (by decide +kernel)) (goodIn_sub (fun _ h => List.mem_cons_of_mem _ (List.mem_append_right _ h)) (by decide +kernel))
set_option maxRecDepth 20000 in
theorem gL_setCodes_X3_setCodes : GoodIn wsL_setCodes (wsV RL 7 RX3 yX3_setCodes wsX3_setCodes) := goodIn_app (goodIn_of _ (by decide +kernel)) ggL_setCodes_X3_setCodes
theorem dL_setCodes_0 : decode cL_setCodes 0 = .ok (.aload_n 2, 1) := by decide +kernel
theorem dL_setCodes_1 : decode cL_setCodes 1 = .ok (.iconst 0, 1) := by decide +kernel
theorem dL_setCodes_2 : decode cL_setCodes 2 = .ok (.aload_n 0, 1) := by decide +kernel
theorem dL_setCodes_3 : decode cL_setCodes 3 = .ok (.iload_n 1, 1) := by decide +kernel
theorem dL_setCodes_4 : decode cL_setCodes 4 = .ok (.invokevirtual 7, 3) := by decide +kernel
theorem dL_setCodes_7 : decode cL_setCodes 7 = .ok (.i2l, 1) := by decide +kernel
theorem dL_setCodes_8 : decode cL_setCodes 8 = .ok (.lastore, 1) := by decide +kernel
theorem dL_setCodes_9 : decode cL_setCodes 9 = .ok (.goto 6, 3) := by decide +kernel
theorem dL_setCodes_12 : decode cL_setCodes 12 = .ok (.astore_n 3, 1) := by decide +kernel
theorem dL_setCodes_13 : decode cL_setCodes 13 = .ok (.iconst 1, 1) := by decide +kernel
theorem dL_setCodes_14 : decode cL_setCodes 14 = .ok (.ireturn, 1) := by decide +kernel
theorem dL_setCodes_15 : decode cL_setCodes 15 = .ok (.iconst 0, 1) := by decide +kernel
theorem dL_setCodes_16 : decode cL_setCodes 16 = .ok (.ireturn, 1) := by decide +kernel
set_option maxRecDepth 20000 in
theorem ggL_hill_X3_hill : GoodIn wsL_hill wsX3_hill := goodIn_ca (goodIn_ca (goodIn_ca (goodIn_r _ [8, 9, 10, 11, 12, 13, 14, 15, 16, 17, 7, 18, 19, 20, 21, 22, 23, 24, 25, 26, 27, 28, 29, 30, 31, 32, 33, 34, 35, 36, 37, 38, 39, 40, 41, 42, 43, 44, 45, 46, 47, 48, 49, 50, 51, 52, 53, 54, 55, 56, 57, 58, 59, 60, 61, 62, 63, 64, 65, 66, 67, 68, 69, 70, 71, 72, 73, 74, 75, 76, 77, 78, 79, 80, 81, 82, 83, 84, 85, 86, 87, 88, 89, 90, 91, 92, 93, 94, 95, 96, 97, 98, 99, 100, 101, 102, 103, 104, 105, 106, 107, 108, 109, 110, 111, 112, 113, 114, 115, 116, 117] (by decide +kernel) (by decide +kernel)) (goodIn_sub (fun _ h => List.mem_cons_of_mem _ (List.mem_append_left _ (List.mem_append_left _ (List.mem_append_right _ h)))) (by decide +kernel))) (goodIn_sub (fun _ h => List.mem_cons_of_mem _ (List.mem_append_left _ (List.mem_append_right _ h))) (by decide +kernel))) (goodIn_sub (fun _ h => List.mem_cons_of_mem _ (List.mem_append_right _ h)) (by decide +kernel))
set_option maxRecDepth 20000 in
theorem gL_hill_X3_hill : GoodIn wsL_hill (wsV RL 15 RX3 yX3_hill wsX3_hill) := goodIn_app (goodIn_of _ (by decide +kernel)) ggL_hill_X3_hill
theorem dL_hill_0 : decode cL_hill 0 = .ok (.aload_n 3, 1) := by decide +kernel
theorem dL_hill_1 : decode cL_hill 1 = .ok (.iconst 0, 1) := by decide +kernel
theorem dL_hill_2 : decode cL_hill 2 = .ok (.aload_n 0, 1) := by decide +kernel
theorem dL_hill_3 : decode cL_hill 3 = .ok (.iload_n 1, 1) := by decide +kernel
theorem dL_hill_4 : decode cL_hill 4 = .ok (.iload_n 2, 1) := by decide +kernel
theorem dL_hill_5 : decode cL_hill 5 = .ok (.invokevirtual 15, 3) := by decide +kernel
theorem dL_hill_8 : decode cL_hill 8 = .ok (.i2l, 1) := by decide +kernel
theorem dL_hill_9 : decode cL_hill 9 = .ok (.lastore, 1) := by decide +kernel
theorem dL_hill_10 : decode cL_hill 10 = .ok (.goto 15, 3) := by decide +kernel
theorem dL_hill_13 : decode cL_hill 13 = .ok (.astore 4, 2) := by decide +kernel
theorem dL_hill_15 : decode cL_hill 15 = .ok (.iconst 1, 1) := by decide +kernel
theorem dL_hill_16 : decode cL_hill 16 = .ok (.ireturn, 1) := by decide +kernel
theorem dL_hill_17 : decode cL_hill 17 = .ok (.astore 4, 2) := by decide +kernel
theorem dL_hill_19 : decode cL_hill 19 = .ok (.iconst 2, 1) := by decide +kernel
theorem dL_hill_20 : decode cL_hill 20 = .ok (.ireturn, 1) := by decide +kernel
theorem dL_hill_21 : decode cL_hill 21 = .ok (.astore 4, 2) := by decide +kernel
theorem dL_hill_23 : decode cL_hill 23 = .ok (.iconst 3, 1) := by decide +kernel
theorem dL_hill_24 : decode cL_hill 24 = .ok (.ireturn, 1) := by decide +kernel
theorem dL_hill_25 : decode cL_hill 25 = .ok (.iconst 0, 1) := by decide +kernel
theorem dL_hill_26 : decode cL_hill 26 = .ok (.ireturn, 1) := by decide +kernel
set_option maxRecDepth 20000 in
theorem ggL_say_X3_say : GoodIn wsL_say wsX3_say := goodIn_ca (goodIn_ca (goodIn_r _ [7, 8, 9, 10, 11, 12, 13, 14, 15, 6, 16, 17, 18, 19, 20, 21, 22, 23, 24, 25, 26, 27, 28, 29, 30, 31, 32, 33, 34, 35, 36, 37, 38, 39, 40, 41, 42, 43, 44, 45, 46, 47, 48, 49, 50, 51, 52, 53, 54, 55, 56, 57, 58, 59, 60, 61, 62, 63, 64, 65, 66, 67, 68, 69, 70, 71, 72, 73, 74, 75, 76, 77, 78, 79, 80, 81, 82, 83, 84, 85, 86, 87, 88, 89, 90, 91, 92, 93, 94, 95, 96, 97, 98, 99, 100] (by decide +kernel) (by decide +kernel)) (goodIn_sub (fun _ h => List.mem_cons_of_mem _ (List.mem_append_left _ (List.mem_append_right _ h))) (by decide +kernel))) (goodIn_sub (fun _ h => List.mem_cons_of_mem _ (List.mem_append_right _ h)) (by decide +kernel))
set_option maxRecDepth 20000 in
theorem gL_say_X3_say : GoodIn wsL_say (wsV RL 23 RX3 yX3_say wsX3_say) := goodIn_app (goodIn_of _ (by decide +kernel)) ggL_say_X3_say
theorem dL_say_0 : decode cL_say 0 = .ok (.aload_n 3, 1) := by decide +kernel
theorem dL_say_1 : decode cL_say 1 = .ok (.iconst 0, 1) := by decide +kernel
theorem dL_say_2 : decode cL_say 2 = .ok (.aload_n 0, 1) := by decide +kernel
theorem dL_say_3 : decode cL_say 3 = .ok (.iload_n 1, 1) := by decide +kernel
theorem dL_say_4 : decode cL_say 4 = .ok (.iload_n 2, 1) := by decide +kernel
theorem dL_say_5 : decode cL_say 5 = .ok (.invokevirtual 23, 3) := by decide +kernel
theorem dL_say_8 : decode cL_say 8 = .ok (.i2l, 1) := by decide +kernel
theorem dL_say_9 : decode cL_say 9 = .ok (.lastore, 1) := by decide +kernel
theorem dL_say_10 : decode cL_say 10 = .ok (.goto 11, 3) := by decide +kernel
theorem dL_say_13 : decode cL_say 13 = .ok (.astore 4, 2) := by decide +kernel
theorem dL_say_15 : decode cL_say 15 = .ok (.iconst 1, 1) := by decide +kernel
theorem dL_say_16 : decode cL_say 16 = .ok (.ireturn, 1) := by decide +kernel
theorem dL_say_17 : decode cL_say 17 = .ok (.astore 4, 2) := by decide +kernel
theorem dL_say_19 : decode cL_say 19 = .ok (.iconst 2, 1) := by decide +kernel
theorem dL_say_20 : decode cL_say 20 = .ok (.ireturn, 1) := by decide +kernel
theorem dL_say_21 : decode cL_say 21 = .ok (.iconst 0, 1) := by decide +kernel
theorem dL_say_22 : decode cL_say 22 = .ok (.ireturn, 1) := by decide +kernel
set_option maxRecDepth 20000 in
theorem ggL_hush_X3_hush : GoodIn wsL_hush wsX3_hush := goodIn_ca (goodIn_r _ [6, 7, 8, 9, 10, 11, 12, 5, 13, 14, 15, 16, 17, 18, 19, 20, 21, 22, 23, 24, 25, 26, 27, 28, 29, 30, 31, 32, 33, 34, 35, 36, 37, 38, 39, 40, 41, 42, 43, 44, 45, 46, 47, 48, 49, 50, 51, 52, 53, 54, 55, 56, 57, 58, 59, 60, 61, 62, 63, 64, 65, 66, 67, 68, 69, 70, 71, 72, 73, 74, 75, 76, 77, 78, 79, 80, 81, 82, 83, 84, 85, 86, 87, 88, 89, 90, 91, 92] (by decide +kernel) (by decide +kernel)) (goodIn_sub (fun _ h => List.mem_cons_of_mem _ (List.mem_append_right _ h)) (by decide +kernel))
set_option maxRecDepth 20000 in
theorem gL_hush_X3_hush : GoodIn wsL_hush (wsV RL 27 RX3 yX3_hush wsX3_hush) := goodIn_app (goodIn_of _ (by decide +kernel)) ggL_hush_X3_hush
theorem dL_hush_0 : decode cL_hush 0 = .ok (.aload_n 2, 1) := by decide +kernel
theorem dL_hush_1 : decode cL_hush 1 = .ok (.iconst 0, 1) := by decide +kernel
theorem dL_hush_2 : decode cL_hush 2 = .ok (.aload_n 0, 1) := by decide +kernel
theorem dL_hush_3 : decode cL_hush 3 = .ok (.iload_n 1, 1) := by decide +kernel
theorem dL_hush_4 : decode cL_hush 4 = .ok (.invokevirtual 27, 3) := by decide +kernel
theorem dL_hush_7 : decode cL_hush 7 = .ok (.i2l, 1) := by decide +kernel
theorem dL_hush_8 : decode cL_hush 8 = .ok (.lastore, 1) := by decide +kernel
theorem dL_hush_9 : decode cL_hush 9 = .ok (.goto 6, 3) := by decide +kernel
theorem dL_hush_12 : decode cL_hush 12 = .ok (.astore_n 3, 1) := by decide +kernel
theorem dL_hush_13 : decode cL_hush 13 = .ok (.iconst 1, 1) := by decide +kernel
theorem dL_hush_14 : decode cL_hush 14 = .ok (.ireturn, 1) := by decide +kernel
theorem dL_hush_15 : decode cL_hush 15 = .ok (.iconst 0, 1) := by decide +kernel
theorem dL_hush_16 : decode cL_hush 16 = .ok (.ireturn, 1) := by decide +kernel
set_option maxRecDepth 20000 in
theorem ggL_setDelay_X3_setDelay : GoodIn wsL_setDelay wsX3_setDelay := goodIn_ca (goodIn_ca (goodIn_r _ [7, 8, 9, 10, 11, 12, 13, 6, 14, 15, 16, 17, 18, 19, 20, 21, 22, 23, 24, 25, 26, 27, 28, 29, 30, 31, 32, 33, 34, 35, 36, 37, 38, 39, 40, 41, 42, 43, 44, 45, 46, 47, 48, 49, 50, 51, 52, 53, 54, 55, 56, 57, 58, 59, 60, 61, 62, 63, 64, 65, 66, 67, 68, 69, 70, 71, 72, 73, 74, 75, 76, 77, 78, 79, 80, 81, 82, 83, 84, 85, 86, 87, 88, 89, 90, 91, 92, 93, 94, 95, 96, 97, 98, 99, 100, 101] (by decide +kernel) (by decide +kernel)) (goodIn_sub (fun _ h => List.mem_cons_of_mem _ (List.mem_append_left _ (List.mem_append_right _ h))) (by decide +kernel))) (goodIn_sub (fun _ h => List.mem_cons_of_mem _ (List.mem_append_right _ h)) (by decide +kernel))
set_option maxRecDepth 20000 in
theorem gL_setDelay_X3_setDelay : GoodIn wsL_setDelay (wsV RL 30 RX3 yX3_setDelay wsX3_setDelay) := goodIn_app (goodIn_of _ (by decide +kernel)) ggL_setDelay_X3_setDelay
theorem dL_setDelay_0 : decode cL_setDelay 0 = .ok (.aload_n 3, 1) := by decide +kernel
theorem dL_setDelay_1 : decode cL_setDelay 1 = .ok (.iconst 0, 1) := by decide +kernel
theorem dL_setDelay_2 : decode cL_setDelay 2 = .ok (.aload_n 0, 1) := by decide +kernel
theorem dL_setDelay_3 : decode cL_setDelay 3 = .ok (.iload_n 1, 1) := by decide +kernel
theorem dL_setDelay_4 : decode cL_setDelay 4 = .ok (.iload_n 2, 1) := by decide +kernel
theorem dL_setDelay_5 : decode cL_setDelay 5 = .ok (.invokevirtual 30, 3) := by decide +kernel
theorem dL_setDelay_8 : decode cL_setDelay 8 = .ok (.i2l, 1) := by decide +kernel
theorem dL_setDelay_9 : decode cL_setDelay 9 = .ok (.lastore, 1) := by decide +kernel
theorem dL_setDelay_10 : decode cL_setDelay 10 = .ok (.goto 11, 3) := by decide +kernel
theorem dL_setDelay_13 : decode cL_setDelay 13 = .ok (.astore 4, 2) := by decide +kernel
theorem dL_setDelay_15 : decode cL_setDelay 15 = .ok (.iconst 1, 1) := by decide +kernel
theorem dL_setDelay_16 : decode cL_setDelay 16 = .ok (.ireturn, 1) := by decide +kernel
theorem dL_setDelay_17 : decode cL_setDelay 17 = .ok (.astore 4, 2) := by decide +kernel
theorem dL_setDelay_19 : decode cL_setDelay 19 = .ok (.iconst 2, 1) := by decide +kernel
theorem dL_setDelay_20 : decode cL_setDelay 20 = .ok (.ireturn, 1) := by decide +kernel
theorem dL_setDelay_21 : decode cL_setDelay 21 = .ok (.iconst 0, 1) := by decide +kernel
theorem dL_setDelay_22 : decode cL_setDelay 22 = .ok (.ireturn, 1) := by decide +kernel
set_option maxRecDepth 20000 in
theorem ggL_setStrength_X3_setStrength : GoodIn wsL_setStrength wsX3_setStrength := goodIn_ca (goodIn_ca (goodIn_r _ [7, 8, 9, 10, 11, 12, 6, 13, 14, 15, 16, 17, 18, 19, 20, 21, 22, 23, 24, 25, 26, 27, 28, 29, 30, 31, 32, 33, 34, 35, 36, 37, 38, 39, 40, 41, 42, 43, 44, 45, 46, 47, 48, 49, 50, 51, 52, 53, 54, 55, 56, 57, 58, 59, 60, 61, 62, 63, 64, 65, 66, 67, 68, 69, 70, 71, 72, 73, 74, 75, 76, 77, 78, 79, 80, 81, 82, 83, 84, 85, 86, 87, 88, 89, 90, 91, 92, 93, 94, 95, 96, 97, 98] (by decide +kernel) (by decide +kernel)) (goodIn_sub (fun _ h => List.mem_cons_of_mem _ (List.mem_append_left _ (List.mem_append_right _ h))) (by decide +kernel))) (goodIn_sub (fun _ h => List.mem_cons_of_mem _ (List.mem_append_right _ h)) (by decide +kernel))
set_option maxRecDepth 20000 in
theorem gL_setStrength_X3_setStrength : GoodIn wsL_setStrength (wsV RL 33 RX3 yX3_setStrength wsX3_setStrength) := goodIn_app (goodIn_of _ (by decide +kernel)) ggL_setStrength_X3_setStrength
theorem dL_setStrength_0 : decode cL_setStrength 0 = .ok (.aload_n 3, 1) := by decide +kernel
theorem dL_setStrength_1 : decode cL_setStrength 1 = .ok (.iconst 0, 1) := by decide +kernel
theorem dL_setStrength_2 : decode cL_setStrength 2 = .ok (.aload_n 0, 1) := by decide +kernel
theorem dL_setStrength_3 : decode cL_setStrength 3 = .ok (.iload_n 1, 1) := by decide +kernel
theorem dL_setStrength_4 : decode cL_setStrength 4 = .ok (.iload_n 2, 1) := by decide +kernel
theorem dL_setStrength_5 : decode cL_setStrength 5 = .ok (.invokevirtual 33, 3) := by decide +kernel
theorem dL_setStrength_8 : decode cL_setStrength 8 = .ok (.i2l, 1) := by decide +kernel
theorem dL_setStrength_9 : decode cL_setStrength 9 = .ok (.lastore, 1) := by decide +kernel
theorem dL_setStrength_10 : decode cL_setStrength 10 = .ok (.goto 11, 3) := by decide +kernel
theorem dL_setStrength_13 : decode cL_setStrength 13 = .ok (.astore 4, 2) := by decide +kernel
theorem dL_setStrength_15 : decode cL_setStrength 15 = .ok (.iconst 1, 1) := by decide +kernel
theorem dL_setStrength_16 : decode cL_setStrength 16 = .ok (.ireturn, 1) := by decide +kernel
theorem dL_setStrength_17 : decode cL_setStrength 17 = .ok (.astore 4, 2) := by decide +kernel
theorem dL_setStrength_19 : decode cL_setStrength 19 = .ok (.iconst 2, 1) := by decide +kernel
theorem dL_setStrength_20 : decode cL_setStrength 20 = .ok (.ireturn, 1) := by decide +kernel
theorem dL_setStrength_21 : decode cL_setStrength 21 = .ok (.iconst 0, 1) := by decide +kernel
theorem dL_setStrength_22 : decode cL_setStrength 22 = .ok (.ireturn, 1) := by decide +kernel
set_option maxRecDepth 20000 in
theorem ggL_setStorm_X3_setStorm : GoodIn wsL_setStorm wsX3_setStorm := goodIn_ca (goodIn_ca (goodIn_r _ [7, 8, 9, 10, 11, 12, 13, 14, 15, 16, 17, 18, 19] (by decide +kernel) (by decide +kernel)) (goodIn_sub (fun _ h => List.mem_cons_of_mem _ (List.mem_append_left _ (List.mem_append_right _ h))) (by decide +kernel))) (goodIn_sub (fun _ h => List.mem_cons_of_mem _ (List.mem_append_right _ h)) (by decide +kernel))
set_option maxRecDepth 20000 in
theorem gL_setStorm_X3_setStorm : GoodIn wsL_setStorm (wsV RL 36 RX3 yX3_setStorm wsX3_setStorm) := goodIn_app (goodIn_of _ (by decide +kernel)) ggL_setStorm_X3_setStorm
theorem dL_setStorm_0 : decode cL_setStorm 0 = .ok (.aload_n 3, 1) := by decide +kernel
theorem dL_setStorm_1 : decode cL_setStorm 1 = .ok (.iconst 0, 1) := by decide +kernel
theorem dL_setStorm_2 : decode cL_setStorm 2 = .ok (.aload_n 0, 1) := by decide +kernel
theorem dL_setStorm_3 : decode cL_setStorm 3 = .ok (.iload_n 1, 1) := by decide +kernel
theorem dL_setStorm_4 : decode cL_setStorm 4 = .ok (.iload_n 2, 1) := by decide +kernel
theorem dL_setStorm_5 : decode cL_setStorm 5 = .ok (.invokevirtual 36, 3) := by decide +kernel
theorem dL_setStorm_8 : decode cL_setStorm 8 = .ok (.i2l, 1) := by decide +kernel
theorem dL_setStorm_9 : decode cL_setStorm 9 = .ok (.lastore, 1) := by decide +kernel
theorem dL_setStorm_10 : decode cL_setStorm 10 = .ok (.goto 11, 3) := by decide +kernel
theorem dL_setStorm_13 : decode cL_setStorm 13 = .ok (.astore 4, 2) := by decide +kernel
theorem dL_setStorm_15 : decode cL_setStorm 15 = .ok (.iconst 1, 1) := by decide +kernel
theorem dL_setStorm_16 : decode cL_setStorm 16 = .ok (.ireturn, 1) := by decide +kernel
theorem dL_setStorm_17 : decode cL_setStorm 17 = .ok (.astore 4, 2) := by decide +kernel
theorem dL_setStorm_19 : decode cL_setStorm 19 = .ok (.iconst 2, 1) := by decide +kernel
theorem dL_setStorm_20 : decode cL_setStorm 20 = .ok (.ireturn, 1) := by decide +kernel
theorem dL_setStorm_21 : decode cL_setStorm 21 = .ok (.iconst 0, 1) := by decide +kernel
theorem dL_setStorm_22 : decode cL_setStorm 22 = .ok (.ireturn, 1) := by decide +kernel
set_option maxRecDepth 20000 in
theorem ggL_chip_X3_chip : GoodIn wsL_chip wsX3_chip := goodIn_ca (goodIn_r _ [6, 7, 8, 9, 10, 11, 12, 5, 13, 14, 15, 16, 17, 18, 19, 20, 21, 22, 23, 24, 25, 26, 27, 28, 29, 30, 31, 32, 33, 34] (by decide +kernel) (by decide +kernel)) (goodIn_sub (fun _ h => List.mem_cons_of_mem _ (List.mem_append_right _ h)) (by decide +kernel))
set_option maxRecDepth 20000 in
theorem gL_chip_X3_chip : GoodIn wsL_chip (wsV RL 39 RX3 yX3_chip wsX3_chip) := goodIn_app (goodIn_of _ (by decide +kernel)) ggL_chip_X3_chip
theorem dL_chip_0 : decode cL_chip 0 = .ok (.aload_n 3, 1) := by decide +kernel
theorem dL_chip_1 : decode cL_chip 1 = .ok (.iconst 0, 1) := by decide +kernel
theorem dL_chip_2 : decode cL_chip 2 = .ok (.aload_n 0, 1) := by decide +kernel
theorem dL_chip_3 : decode cL_chip 3 = .ok (.iload_n 1, 1) := by decide +kernel
theorem dL_chip_4 : decode cL_chip 4 = .ok (.iload_n 2, 1) := by decide +kernel
theorem dL_chip_5 : decode cL_chip 5 = .ok (.invokevirtual 39, 3) := by decide +kernel
theorem dL_chip_8 : decode cL_chip 8 = .ok (.i2l, 1) := by decide +kernel
theorem dL_chip_9 : decode cL_chip 9 = .ok (.lastore, 1) := by decide +kernel
theorem dL_chip_10 : decode cL_chip 10 = .ok (.goto 7, 3) := by decide +kernel
theorem dL_chip_13 : decode cL_chip 13 = .ok (.astore 4, 2) := by decide +kernel
theorem dL_chip_15 : decode cL_chip 15 = .ok (.iconst 1, 1) := by decide +kernel
theorem dL_chip_16 : decode cL_chip 16 = .ok (.ireturn, 1) := by decide +kernel
theorem dL_chip_17 : decode cL_chip 17 = .ok (.iconst 0, 1) := by decide +kernel
theorem dL_chip_18 : decode cL_chip 18 = .ok (.ireturn, 1) := by decide +kernel
set_option maxRecDepth 20000 in
theorem ggL_sky_X3_sky : GoodIn wsL_sky wsX3_sky := goodIn_ca (goodIn_r _ [6, 7, 8, 9, 10, 5, 11, 12, 13, 14, 15, 16, 17, 18, 19, 20, 21, 22, 23, 24, 25, 26] (by decide +kernel) (by decide +kernel)) (goodIn_sub (fun _ h => List.mem_cons_of_mem _ (List.mem_append_right _ h)) (by decide +kernel))
set_option maxRecDepth 20000 in
theorem gL_sky_X3_sky : GoodIn wsL_sky (wsV RL 42 RX3 yX3_sky wsX3_sky) := goodIn_app (goodIn_of _ (by decide +kernel)) ggL_sky_X3_sky
theorem dL_sky_0 : decode cL_sky 0 = .ok (.aload_n 2, 1) := by decide +kernel
theorem dL_sky_1 : decode cL_sky 1 = .ok (.iconst 0, 1) := by decide +kernel
theorem dL_sky_2 : decode cL_sky 2 = .ok (.aload_n 0, 1) := by decide +kernel
theorem dL_sky_3 : decode cL_sky 3 = .ok (.iload_n 1, 1) := by decide +kernel
theorem dL_sky_4 : decode cL_sky 4 = .ok (.invokevirtual 42, 3) := by decide +kernel
theorem dL_sky_7 : decode cL_sky 7 = .ok (.i2l, 1) := by decide +kernel
theorem dL_sky_8 : decode cL_sky 8 = .ok (.lastore, 1) := by decide +kernel
theorem dL_sky_9 : decode cL_sky 9 = .ok (.goto 6, 3) := by decide +kernel
theorem dL_sky_12 : decode cL_sky 12 = .ok (.astore_n 3, 1) := by decide +kernel
theorem dL_sky_13 : decode cL_sky 13 = .ok (.iconst 1, 1) := by decide +kernel
theorem dL_sky_14 : decode cL_sky 14 = .ok (.ireturn, 1) := by decide +kernel
theorem dL_sky_15 : decode cL_sky 15 = .ok (.iconst 0, 1) := by decide +kernel
theorem dL_sky_16 : decode cL_sky 16 = .ok (.ireturn, 1) := by decide +kernel
set_option maxRecDepth 20000 in
theorem ggL_hear_X3_hear : GoodIn wsL_hear wsX3_hear := goodIn_ca (goodIn_ca (goodIn_r _ [7, 8, 9, 10, 11, 6, 12, 13, 14, 15, 16, 17, 18, 19, 20, 21, 22, 23, 24, 25, 26, 27, 28, 29, 30, 31, 32, 33, 34, 35, 36, 37, 38, 39, 40, 41, 42, 43, 44, 45, 46, 47, 48, 49, 50, 51, 52, 53, 54, 55, 56, 57, 58] (by decide +kernel) (by decide +kernel)) (goodIn_sub (fun _ h => List.mem_cons_of_mem _ (List.mem_append_left _ (List.mem_append_right _ h))) (by decide +kernel))) (goodIn_sub (fun _ h => List.mem_cons_of_mem _ (List.mem_append_right _ h)) (by decide +kernel))
set_option maxRecDepth 20000 in
theorem gL_hear_X3_hear : GoodIn wsL_hear (wsV RL 45 RX3 yX3_hear wsX3_hear) := goodIn_app (goodIn_of _ (by decide +kernel)) ggL_hear_X3_hear
theorem dL_hear_0 : decode cL_hear 0 = .ok (.aload_n 3, 1) := by decide +kernel
theorem dL_hear_1 : decode cL_hear 1 = .ok (.iconst 0, 1) := by decide +kernel
theorem dL_hear_2 : decode cL_hear 2 = .ok (.aload_n 0, 1) := by decide +kernel
theorem dL_hear_3 : decode cL_hear 3 = .ok (.iload_n 1, 1) := by decide +kernel
theorem dL_hear_4 : decode cL_hear 4 = .ok (.iload_n 2, 1) := by decide +kernel
theorem dL_hear_5 : decode cL_hear 5 = .ok (.invokevirtual 45, 3) := by decide +kernel
theorem dL_hear_8 : decode cL_hear 8 = .ok (.i2l, 1) := by decide +kernel
theorem dL_hear_9 : decode cL_hear 9 = .ok (.lastore, 1) := by decide +kernel
theorem dL_hear_10 : decode cL_hear 10 = .ok (.goto 11, 3) := by decide +kernel
theorem dL_hear_13 : decode cL_hear 13 = .ok (.astore 4, 2) := by decide +kernel
theorem dL_hear_15 : decode cL_hear 15 = .ok (.iconst 1, 1) := by decide +kernel
theorem dL_hear_16 : decode cL_hear 16 = .ok (.ireturn, 1) := by decide +kernel
theorem dL_hear_17 : decode cL_hear 17 = .ok (.astore 4, 2) := by decide +kernel
theorem dL_hear_19 : decode cL_hear 19 = .ok (.iconst 2, 1) := by decide +kernel
theorem dL_hear_20 : decode cL_hear 20 = .ok (.ireturn, 1) := by decide +kernel
theorem dL_hear_21 : decode cL_hear 21 = .ok (.iconst 0, 1) := by decide +kernel
theorem dL_hear_22 : decode cL_hear 22 = .ok (.ireturn, 1) := by decide +kernel
set_option maxRecDepth 20000 in
theorem ggL_word_X3_word : GoodIn wsL_word wsX3_word := goodIn_ca (goodIn_r _ [6, 7, 8, 9, 10, 11, 12, 13, 5, 14, 15, 16, 17, 18, 19, 20, 21, 22, 23, 24, 25, 26, 27, 28, 29, 30, 31, 32, 33, 34, 35, 36, 37, 38, 39, 40, 41, 42, 43, 44, 45, 46, 47, 48, 49, 50, 51, 52, 53, 54, 55, 56, 57, 58, 59, 60, 61, 62, 63, 64, 65, 66, 67, 68, 69, 70, 71, 72, 73, 74, 75, 76, 77, 78, 79, 80, 81, 82, 83, 84, 85, 86, 87, 88, 89, 90, 91, 92, 93, 94, 95, 96, 97, 98, 99, 100] (by decide +kernel) (by decide +kernel)) (goodIn_sub (fun _ h => List.mem_cons_of_mem _ (List.mem_append_right _ h)) (by decide +kernel))
set_option maxRecDepth 20000 in
theorem gL_word_X3_word : GoodIn wsL_word (wsV RL 48 RX3 yX3_word wsX3_word) := goodIn_app (goodIn_of _ (by decide +kernel)) ggL_word_X3_word
theorem dL_word_0 : decode cL_word 0 = .ok (.aload 4, 2) := by decide +kernel
theorem dL_word_2 : decode cL_word 2 = .ok (.iconst 0, 1) := by decide +kernel
theorem dL_word_3 : decode cL_word 3 = .ok (.aload_n 0, 1) := by decide +kernel
theorem dL_word_4 : decode cL_word 4 = .ok (.iload_n 1, 1) := by decide +kernel
theorem dL_word_5 : decode cL_word 5 = .ok (.iload_n 2, 1) := by decide +kernel
theorem dL_word_6 : decode cL_word 6 = .ok (.iload_n 3, 1) := by decide +kernel
theorem dL_word_7 : decode cL_word 7 = .ok (.invokevirtual 48, 3) := by decide +kernel
theorem dL_word_10 : decode cL_word 10 = .ok (.i2l, 1) := by decide +kernel
theorem dL_word_11 : decode cL_word 11 = .ok (.lastore, 1) := by decide +kernel
theorem dL_word_12 : decode cL_word 12 = .ok (.goto 7, 3) := by decide +kernel
theorem dL_word_15 : decode cL_word 15 = .ok (.astore 5, 2) := by decide +kernel
theorem dL_word_17 : decode cL_word 17 = .ok (.iconst 1, 1) := by decide +kernel
theorem dL_word_18 : decode cL_word 18 = .ok (.ireturn, 1) := by decide +kernel
theorem dL_word_19 : decode cL_word 19 = .ok (.iconst 0, 1) := by decide +kernel
theorem dL_word_20 : decode cL_word 20 = .ok (.ireturn, 1) := by decide +kernel
set_option maxRecDepth 20000 in
theorem ggL_about_X3_about : GoodIn wsL_about wsX3_about := goodIn_ca (goodIn_r _ [6, 7, 8, 9, 10, 11, 12, 13, 14, 15, 16, 17, 18, 5, 19, 20, 21, 22, 23, 24, 25, 26, 27, 28, 29, 30, 31, 32, 33, 34, 35, 36, 37, 38, 39, 40, 41, 42, 43, 44, 45, 46, 47, 48, 49, 50, 51, 52, 53, 54, 55, 56, 57, 58, 59, 60, 61, 62, 63, 64, 65, 66, 67, 68, 69, 70, 71, 72, 73, 74, 75, 76, 77, 78, 79, 80, 81, 82, 83, 84, 85, 86, 87, 88, 89, 90, 91, 92, 93, 94, 95, 96, 97, 98, 99, 100, 101, 102, 103, 104, 105, 106, 107, 108, 109, 110, 111, 112, 113, 114, 115, 116, 117, 118, 119, 120, 121, 122, 123] (by decide +kernel) (by decide +kernel)) (goodIn_sub (fun _ h => List.mem_cons_of_mem _ (List.mem_append_right _ h)) (by decide +kernel))
set_option maxRecDepth 20000 in
theorem gL_about_X3_about : GoodIn wsL_about (wsV RL 52 RX3 yX3_about wsX3_about) := goodIn_app (goodIn_of _ (by decide +kernel)) ggL_about_X3_about
theorem dL_about_0 : decode cL_about 0 = .ok (.aload_n 3, 1) := by decide +kernel
theorem dL_about_1 : decode cL_about 1 = .ok (.iconst 0, 1) := by decide +kernel
theorem dL_about_2 : decode cL_about 2 = .ok (.aload_n 0, 1) := by decide +kernel
theorem dL_about_3 : decode cL_about 3 = .ok (.iload_n 1, 1) := by decide +kernel
theorem dL_about_4 : decode cL_about 4 = .ok (.iload_n 2, 1) := by decide +kernel
theorem dL_about_5 : decode cL_about 5 = .ok (.invokevirtual 52, 3) := by decide +kernel
theorem dL_about_8 : decode cL_about 8 = .ok (.i2l, 1) := by decide +kernel
theorem dL_about_9 : decode cL_about 9 = .ok (.lastore, 1) := by decide +kernel
theorem dL_about_10 : decode cL_about 10 = .ok (.goto 7, 3) := by decide +kernel
theorem dL_about_13 : decode cL_about 13 = .ok (.astore 4, 2) := by decide +kernel
theorem dL_about_15 : decode cL_about 15 = .ok (.iconst 1, 1) := by decide +kernel
theorem dL_about_16 : decode cL_about 16 = .ok (.ireturn, 1) := by decide +kernel
theorem dL_about_17 : decode cL_about 17 = .ok (.iconst 0, 1) := by decide +kernel
theorem dL_about_18 : decode cL_about 18 = .ok (.ireturn, 1) := by decide +kernel
set_option maxRecDepth 20000 in
theorem ggL_count_X3_count : GoodIn wsL_count wsX3_count := goodIn_ca (goodIn_r _ [6, 7, 8, 9, 10, 11, 12, 13, 14, 15, 16, 17, 18, 19, 20, 21, 5, 22, 23, 24, 25, 26, 27, 28, 29, 30, 31, 32, 33, 34, 35, 36, 37, 38, 39, 40, 41, 42, 43, 44, 45, 46, 47, 48, 49, 50, 51, 52, 53, 54, 55, 56, 57, 58, 59, 60, 61, 62, 63, 64, 65, 66, 67, 68, 69, 70, 71, 72, 73, 74, 75, 76, 77, 78, 79, 80, 81, 82, 83, 84, 85, 86, 87, 88, 89, 90, 91, 92, 93, 94, 95, 96, 97, 98, 99, 100, 101, 102, 103, 104, 105, 106, 107, 108, 109, 110, 111, 112, 113, 114, 115, 116, 117, 118, 119, 120, 121, 122, 123, 124, 125, 126, 127, 128, 129, 130, 131, 132, 133, 134, 135, 136, 137, 138, 139, 140, 141] (by decide +kernel) (by decide +kernel)) (goodIn_sub (fun _ h => List.mem_cons_of_mem _ (List.mem_append_right _ h)) (by decide +kernel))
set_option maxRecDepth 20000 in
theorem gL_count_X3_count : GoodIn wsL_count (wsV RL 55 RX3 yX3_count wsX3_count) := goodIn_app (goodIn_of _ (by decide +kernel)) ggL_count_X3_count
theorem dL_count_0 : decode cL_count 0 = .ok (.aload_n 2, 1) := by decide +kernel
theorem dL_count_1 : decode cL_count 1 = .ok (.iconst 0, 1) := by decide +kernel
theorem dL_count_2 : decode cL_count 2 = .ok (.aload_n 0, 1) := by decide +kernel
theorem dL_count_3 : decode cL_count 3 = .ok (.iload_n 1, 1) := by decide +kernel
theorem dL_count_4 : decode cL_count 4 = .ok (.invokevirtual 55, 3) := by decide +kernel
theorem dL_count_7 : decode cL_count 7 = .ok (.i2l, 1) := by decide +kernel
theorem dL_count_8 : decode cL_count 8 = .ok (.lastore, 1) := by decide +kernel
theorem dL_count_9 : decode cL_count 9 = .ok (.goto 6, 3) := by decide +kernel
theorem dL_count_12 : decode cL_count 12 = .ok (.astore_n 3, 1) := by decide +kernel
theorem dL_count_13 : decode cL_count 13 = .ok (.iconst 1, 1) := by decide +kernel
theorem dL_count_14 : decode cL_count 14 = .ok (.ireturn, 1) := by decide +kernel
theorem dL_count_15 : decode cL_count 15 = .ok (.iconst 0, 1) := by decide +kernel
theorem dL_count_16 : decode cL_count 16 = .ok (.ireturn, 1) := by decide +kernel
set_option maxRecDepth 20000 in
theorem ggL_alike_X3_alike : GoodIn wsL_alike wsX3_alike := goodIn_ca (goodIn_ca (goodIn_r _ [7, 8, 9, 10, 11, 12, 13, 6, 14, 15, 16, 17, 18, 19, 20, 21, 22, 23, 24, 25, 26, 27, 28, 29, 30, 31, 32, 33, 34, 35, 36, 37, 38, 39, 40, 41, 42, 43, 44, 45] (by decide +kernel) (by decide +kernel)) (goodIn_sub (fun _ h => List.mem_cons_of_mem _ (List.mem_append_left _ (List.mem_append_right _ h))) (by decide +kernel))) (goodIn_sub (fun _ h => List.mem_cons_of_mem _ (List.mem_append_right _ h)) (by decide +kernel))
set_option maxRecDepth 20000 in
theorem gL_alike_X3_alike : GoodIn wsL_alike (wsV RL 58 RX3 yX3_alike wsX3_alike) := goodIn_app (goodIn_of _ (by decide +kernel)) ggL_alike_X3_alike
theorem dL_alike_0 : decode cL_alike 0 = .ok (.aload 4, 2) := by decide +kernel
theorem dL_alike_2 : decode cL_alike 2 = .ok (.iconst 0, 1) := by decide +kernel
theorem dL_alike_3 : decode cL_alike 3 = .ok (.aload_n 0, 1) := by decide +kernel
theorem dL_alike_4 : decode cL_alike 4 = .ok (.iload_n 1, 1) := by decide +kernel
theorem dL_alike_5 : decode cL_alike 5 = .ok (.iload_n 2, 1) := by decide +kernel
theorem dL_alike_6 : decode cL_alike 6 = .ok (.iload_n 3, 1) := by decide +kernel
theorem dL_alike_7 : decode cL_alike 7 = .ok (.invokevirtual 58, 3) := by decide +kernel
theorem dL_alike_10 : decode cL_alike 10 = .ok (.i2l, 1) := by decide +kernel
theorem dL_alike_11 : decode cL_alike 11 = .ok (.lastore, 1) := by decide +kernel
theorem dL_alike_12 : decode cL_alike 12 = .ok (.goto 11, 3) := by decide +kernel
theorem dL_alike_15 : decode cL_alike 15 = .ok (.astore 5, 2) := by decide +kernel
theorem dL_alike_17 : decode cL_alike 17 = .ok (.iconst 1, 1) := by decide +kernel
theorem dL_alike_18 : decode cL_alike 18 = .ok (.ireturn, 1) := by decide +kernel
theorem dL_alike_19 : decode cL_alike 19 = .ok (.astore 5, 2) := by decide +kernel
theorem dL_alike_21 : decode cL_alike 21 = .ok (.iconst 2, 1) := by decide +kernel
theorem dL_alike_22 : decode cL_alike 22 = .ok (.ireturn, 1) := by decide +kernel
theorem dL_alike_23 : decode cL_alike 23 = .ok (.iconst 0, 1) := by decide +kernel
theorem dL_alike_24 : decode cL_alike 24 = .ok (.ireturn, 1) := by decide +kernel
set_option maxRecDepth 20000 in
theorem ggL_shift_X3_shift : GoodIn wsL_shift wsX3_shift := goodIn_ca (goodIn_r _ [6, 7, 8, 9, 10, 11, 5, 12, 13, 14, 15, 16, 17, 18, 19, 20, 21, 22, 23, 24, 25, 26, 27, 28, 29, 30, 31, 32, 33, 34, 35, 36, 37, 38, 39, 40, 41, 42, 43] (by decide +kernel) (by decide +kernel)) (goodIn_sub (fun _ h => List.mem_cons_of_mem _ (List.mem_append_right _ h)) (by decide +kernel))
set_option maxRecDepth 20000 in
theorem gL_shift_X3_shift : GoodIn wsL_shift (wsV RL 61 RX3 yX3_shift wsX3_shift) := goodIn_app (goodIn_of _ (by decide +kernel)) ggL_shift_X3_shift
theorem dL_shift_0 : decode cL_shift 0 = .ok (.aload_n 3, 1) := by decide +kernel
theorem dL_shift_1 : decode cL_shift 1 = .ok (.iconst 0, 1) := by decide +kernel
theorem dL_shift_2 : decode cL_shift 2 = .ok (.aload_n 0, 1) := by decide +kernel
theorem dL_shift_3 : decode cL_shift 3 = .ok (.iload_n 1, 1) := by decide +kernel
theorem dL_shift_4 : decode cL_shift 4 = .ok (.iload_n 2, 1) := by decide +kernel
theorem dL_shift_5 : decode cL_shift 5 = .ok (.invokevirtual 61, 3) := by decide +kernel
theorem dL_shift_8 : decode cL_shift 8 = .ok (.i2l, 1) := by decide +kernel
theorem dL_shift_9 : decode cL_shift 9 = .ok (.lastore, 1) := by decide +kernel
theorem dL_shift_10 : decode cL_shift 10 = .ok (.goto 7, 3) := by decide +kernel
theorem dL_shift_13 : decode cL_shift 13 = .ok (.astore 4, 2) := by decide +kernel
theorem dL_shift_15 : decode cL_shift 15 = .ok (.iconst 1, 1) := by decide +kernel
theorem dL_shift_16 : decode cL_shift 16 = .ok (.ireturn, 1) := by decide +kernel
theorem dL_shift_17 : decode cL_shift 17 = .ok (.iconst 0, 1) := by decide +kernel
theorem dL_shift_18 : decode cL_shift 18 = .ok (.ireturn, 1) := by decide +kernel
set_option maxRecDepth 20000 in
theorem ggL_advise_X3_advise : GoodIn wsL_advise wsX3_advise := goodIn_ca (goodIn_r _ [6, 7, 8, 9, 10, 11, 5, 12, 13, 14, 15, 16, 17, 18, 19, 20, 21, 22, 23, 24, 25, 26, 27, 28, 29, 30, 31, 32, 33, 34, 35, 36, 37, 38, 39, 40, 41, 42, 43, 44, 45, 46, 47, 48, 49, 50, 51, 52, 53, 54, 55, 56, 57, 58, 59, 60, 61, 62, 63, 64, 65, 66, 67, 68, 69, 70, 71, 72, 73, 74, 75, 76, 77, 78, 79, 80, 81, 82, 83] (by decide +kernel) (by decide +kernel)) (goodIn_sub (fun _ h => List.mem_cons_of_mem _ (List.mem_append_right _ h)) (by decide +kernel))
set_option maxRecDepth 20000 in
theorem gL_advise_X3_advise : GoodIn wsL_advise (wsV RL 64 RX3 yX3_advise wsX3_advise) := goodIn_app (goodIn_of _ (by decide +kernel)) ggL_advise_X3_advise
theorem dL_advise_0 : decode cL_advise 0 = .ok (.aload_n 2, 1) := by decide +kernel
theorem dL_advise_1 : decode cL_advise 1 = .ok (.iconst 0, 1) := by decide +kernel
theorem dL_advise_2 : decode cL_advise 2 = .ok (.aload_n 0, 1) := by decide +kernel
theorem dL_advise_3 : decode cL_advise 3 = .ok (.iload_n 1, 1) := by decide +kernel
theorem dL_advise_4 : decode cL_advise 4 = .ok (.invokevirtual 64, 3) := by decide +kernel
theorem dL_advise_7 : decode cL_advise 7 = .ok (.i2l, 1) := by decide +kernel
theorem dL_advise_8 : decode cL_advise 8 = .ok (.lastore, 1) := by decide +kernel
theorem dL_advise_9 : decode cL_advise 9 = .ok (.goto 6, 3) := by decide +kernel
theorem dL_advise_12 : decode cL_advise 12 = .ok (.astore_n 3, 1) := by decide +kernel
theorem dL_advise_13 : decode cL_advise 13 = .ok (.iconst 1, 1) := by decide +kernel
theorem dL_advise_14 : decode cL_advise 14 = .ok (.ireturn, 1) := by decide +kernel
theorem dL_advise_15 : decode cL_advise 15 = .ok (.iconst 0, 1) := by decide +kernel
theorem dL_advise_16 : decode cL_advise 16 = .ok (.ireturn, 1) := by decide +kernel
set_option maxRecDepth 20000 in
theorem ggL_would_X3_would : GoodIn wsL_would wsX3_would := goodIn_ca (goodIn_ca (goodIn_r _ [7, 8, 9, 10, 6, 11, 12, 13, 14, 15, 16, 17, 18, 19, 20, 21, 22, 23, 24, 25, 26, 27, 28, 29, 30, 31, 32, 33, 34, 35, 36, 37, 38, 39, 40, 41, 42, 43, 44, 45, 46, 47, 48, 49, 50, 51, 52, 53, 54, 55, 56, 57, 58, 59, 60, 61, 62, 63, 64, 65, 66, 67, 68, 69, 70, 71, 72, 73, 74, 75, 76, 77, 78, 79, 80, 81, 82, 83, 84, 85, 86, 87, 88, 89, 90, 91, 92, 93, 94, 95, 96, 97, 98, 99, 100, 101, 102, 103, 104, 105, 106, 107, 108, 109, 110, 111, 112, 113, 114, 115, 116, 117, 118, 119, 120, 121, 122, 123, 124, 125, 126, 127, 128] (by decide +kernel) (by decide +kernel)) (goodIn_sub (fun _ h => List.mem_cons_of_mem _ (List.mem_append_left _ (List.mem_append_right _ h))) (by decide +kernel))) (goodIn_sub (fun _ h => List.mem_cons_of_mem _ (List.mem_append_right _ h)) (by decide +kernel))
set_option maxRecDepth 20000 in
theorem gL_would_X3_would : GoodIn wsL_would (wsV RL 67 RX3 yX3_would wsX3_would) := goodIn_app (goodIn_of _ (by decide +kernel)) ggL_would_X3_would
theorem dL_would_0 : decode cL_would 0 = .ok (.aload_n 3, 1) := by decide +kernel
theorem dL_would_1 : decode cL_would 1 = .ok (.iconst 0, 1) := by decide +kernel
theorem dL_would_2 : decode cL_would 2 = .ok (.aload_n 0, 1) := by decide +kernel
theorem dL_would_3 : decode cL_would 3 = .ok (.iload_n 1, 1) := by decide +kernel
theorem dL_would_4 : decode cL_would 4 = .ok (.iload_n 2, 1) := by decide +kernel
theorem dL_would_5 : decode cL_would 5 = .ok (.invokevirtual 67, 3) := by decide +kernel
theorem dL_would_8 : decode cL_would 8 = .ok (.i2l, 1) := by decide +kernel
theorem dL_would_9 : decode cL_would 9 = .ok (.lastore, 1) := by decide +kernel
theorem dL_would_10 : decode cL_would 10 = .ok (.goto 11, 3) := by decide +kernel
theorem dL_would_13 : decode cL_would 13 = .ok (.astore 4, 2) := by decide +kernel
theorem dL_would_15 : decode cL_would 15 = .ok (.iconst 1, 1) := by decide +kernel
theorem dL_would_16 : decode cL_would 16 = .ok (.ireturn, 1) := by decide +kernel
theorem dL_would_17 : decode cL_would 17 = .ok (.astore 4, 2) := by decide +kernel
theorem dL_would_19 : decode cL_would 19 = .ok (.iconst 2, 1) := by decide +kernel
theorem dL_would_20 : decode cL_would 20 = .ok (.ireturn, 1) := by decide +kernel
theorem dL_would_21 : decode cL_would 21 = .ok (.iconst 0, 1) := by decide +kernel
theorem dL_would_22 : decode cL_would 22 = .ok (.ireturn, 1) := by decide +kernel
set_option maxRecDepth 20000 in
theorem ggL_tune_X3_tune : GoodIn wsL_tune wsX3_tune := goodIn_ca (goodIn_r _ [6, 7, 8, 9, 5, 10, 11, 12, 13, 14, 15, 16, 17, 18, 19, 20, 21, 22, 23, 24, 25, 26, 27, 28, 29, 30, 31, 32, 33, 34, 35, 36, 37, 38, 39, 40, 41, 42, 43, 44, 45, 46, 47, 48, 49, 50, 51, 52, 53, 54, 55, 56, 57, 58, 59, 60, 61, 62, 63, 64, 65, 66, 67, 68, 69, 70, 71, 72, 73, 74, 75, 76, 77, 78, 79, 80, 81, 82, 83, 84, 85, 86, 87, 88, 89, 90, 91, 92, 93, 94, 95, 96, 97, 98, 99, 100, 101, 102, 103, 104, 105, 106, 107, 108, 109, 110, 111, 112, 113, 114, 115, 116, 117, 118, 119, 120, 121] (by decide +kernel) (by decide +kernel)) (goodIn_sub (fun _ h => List.mem_cons_of_mem _ (List.mem_append_right _ h)) (by decide +kernel))
set_option maxRecDepth 20000 in
theorem gL_tune_X3_tune : GoodIn wsL_tune (wsV RL 70 RX3 yX3_tune wsX3_tune) := goodIn_app (goodIn_of _ (by decide +kernel)) ggL_tune_X3_tune
theorem dL_tune_0 : decode cL_tune 0 = .ok (.aload_n 2, 1) := by decide +kernel
theorem dL_tune_1 : decode cL_tune 1 = .ok (.iconst 0, 1) := by decide +kernel
theorem dL_tune_2 : decode cL_tune 2 = .ok (.aload_n 0, 1) := by decide +kernel
theorem dL_tune_3 : decode cL_tune 3 = .ok (.iload_n 1, 1) := by decide +kernel
theorem dL_tune_4 : decode cL_tune 4 = .ok (.invokevirtual 70, 3) := by decide +kernel
theorem dL_tune_7 : decode cL_tune 7 = .ok (.i2l, 1) := by decide +kernel
theorem dL_tune_8 : decode cL_tune 8 = .ok (.lastore, 1) := by decide +kernel
theorem dL_tune_9 : decode cL_tune 9 = .ok (.goto 6, 3) := by decide +kernel
theorem dL_tune_12 : decode cL_tune 12 = .ok (.astore_n 3, 1) := by decide +kernel
theorem dL_tune_13 : decode cL_tune 13 = .ok (.iconst 1, 1) := by decide +kernel
theorem dL_tune_14 : decode cL_tune 14 = .ok (.ireturn, 1) := by decide +kernel
theorem dL_tune_15 : decode cL_tune 15 = .ok (.iconst 0, 1) := by decide +kernel
theorem dL_tune_16 : decode cL_tune 16 = .ok (.ireturn, 1) := by decide +kernel
set_option maxRecDepth 20000 in
theorem ggL_law_X3_init : GoodIn wsL_law wsX3_init := goodIn_r _ [9, 10, 11, 12, 13, 14, 15, 16, 17, 18, 19, 20, 21, 22, 23, 24, 25, 26, 27, 28, 29, 30, 31, 32, 33, 34, 35, 36, 37, 38, 39, 40, 41, 42, 43, 44, 45, 46, 47, 48, 49, 50, 51, 673, 661, 662, 663, 674, 675, 676, 677, 678, 679] (by decide +kernel) (by decide +kernel)
set_option maxRecDepth 20000 in
theorem gL_law_X3_init : GoodIn wsL_law (wsX3_init) := ggL_law_X3_init
set_option maxRecDepth 20000 in
theorem ggL_law_X4_init : GoodIn wsL_law wsX4_init := goodIn_r _ [54, 55, 11, 12, 56, 33, 57, 58, 59, 60, 61, 62, 664, 665, 666, 667, 668, 669, 670, 671, 672] (by decide +kernel) (by decide +kernel)
set_option maxRecDepth 20000 in
theorem gL_law_X4_init : GoodIn wsL_law (wsX4_init) := ggL_law_X4_init
set_option maxRecDepth 20000 in
theorem ggL_law_L_setCodes : GoodIn wsL_law wsL_setCodes := goodIn_ca (goodIn_r _ [66, 67, 68, 69, 70, 2, 71, 72, 73, 16, 74, 24, 20, 75, 76, 77, 23, 78, 79, 80, 41, 81, 82, 83, 84, 19, 85, 35, 86, 87, 88, 89, 661, 662, 663, 673, 677, 678, 679, 674, 675, 676] (by decide +kernel) (by decide +kernel)) (goodIn_sub (fun _ h => List.mem_append_left _ (List.mem_append_left _ (List.mem_append_right _ h))) (by decide +kernel))
set_option maxRecDepth 20000 in
theorem gL_law_L_setCodes : GoodIn wsL_law (va_wsS RL 77 yL_setCodes wsL_setCodes) := goodIn_app (goodIn_of _ (by decide +kernel)) ggL_law_L_setCodes
set_option maxRecDepth 20000 in
theorem ggL_law_X4_setCodes : GoodIn wsL_law wsX4_setCodes := goodIn_r _ [93, 94, 56, 95, 96, 97, 5, 98, 99, 100, 101, 102, 664, 665, 666, 667, 668, 669, 670, 671, 672] (by decide +kernel) (by decide +kernel)
set_option maxRecDepth 20000 in
theorem gL_law_X4_setCodes : GoodIn wsL_law (wsV RL 82 RX4 yX4_setCodes wsX4_setCodes) := goodIn_app (goodIn_of _ (by decide +kernel)) ggL_law_X4_setCodes
set_option maxRecDepth 20000 in
theorem ggL_law_X4_thrown : GoodIn wsL_law wsX4_thrown := goodIn_r _ [106, 94, 664, 665, 666, 667, 668, 669, 670, 671, 672] (by decide +kernel) (by decide +kernel)
set_option maxRecDepth 20000 in
theorem gL_law_X4_thrown : GoodIn wsL_law (wsV RL 83 RX4 yX4_thrown wsX4_thrown) := goodIn_app (goodIn_of _ (by decide +kernel)) ggL_law_X4_thrown
set_option maxRecDepth 20000 in
theorem ggL_law_L_hill : GoodIn wsL_law wsL_hill := goodIn_ca (goodIn_ca (goodIn_ca (goodIn_r _ [109, 110, 67, 111, 112, 113, 114, 2, 115, 116, 117, 24, 118, 119, 120, 121, 122, 123, 124, 125, 126, 16, 127, 128, 129, 15, 130, 28, 131, 132, 133, 134, 72, 73, 135, 136, 137, 23, 138, 81, 139, 140, 141, 142, 11, 12, 143, 144, 33, 145, 146, 147, 148, 149, 150, 151, 79, 80, 41, 152, 153, 154, 155, 156, 157, 158, 159, 160, 161, 162, 163, 40, 164, 165, 166, 167, 168, 169, 170, 171, 172, 173, 174, 175, 176, 177, 178, 179, 88, 180, 181, 182, 183, 184, 185, 186, 187, 188, 189, 190, 191, 192, 193, 194, 195, 196, 661, 662, 663, 680, 681, 682, 683, 684, 673, 677, 678, 679] (by decide +kernel) (by decide +kernel)) (goodIn_sub (fun _ h => List.mem_append_left _ (List.mem_append_right _ h)) (by decide +kernel))) (goodIn_sub (fun _ h => List.mem_append_right _ h) (by decide +kernel))) (goodIn_sub (fun _ h => List.mem_append_left _ (List.mem_append_left _ (List.mem_append_right _ h))) (by decide +kernel))
set_option maxRecDepth 20000 in
theorem gL_law_L_hill : GoodIn wsL_law (va_wsS RL 87 yL_hill wsL_hill) := goodIn_app (goodIn_of _ (by decide +kernel)) ggL_law_L_hill
set_option maxRecDepth 20000 in
theorem ggL_law_X4_hill : GoodIn wsL_law wsX4_hill := goodIn_r _ [200, 94, 95, 57, 58, 59, 60, 201, 202, 203, 5, 204, 56, 96, 97, 98, 99, 100, 101, 102, 205, 206, 207, 664, 665, 666, 667, 668, 669, 670, 671, 672] (by decide +kernel) (by decide +kernel)
set_option maxRecDepth 20000 in
theorem gL_law_X4_hill : GoodIn wsL_law (wsV RL 90 RX4 yX4_hill wsX4_hill) := goodIn_app (goodIn_of _ (by decide +kernel)) ggL_law_X4_hill
set_option maxRecDepth 20000 in
theorem ggL_law_L_say : GoodIn wsL_law wsL_say := goodIn_ca (goodIn_ca (goodIn_r _ [210, 110, 111, 211, 212, 213, 2, 214, 116, 117, 20, 215, 216, 217, 218, 219, 220, 125, 126, 24, 221, 135, 136, 137, 23, 138, 81, 222, 223, 224, 225, 226, 227, 228, 229, 230, 231, 232, 233, 234, 235, 236, 237, 41, 238, 239, 240, 120, 241, 144, 145, 242, 243, 244, 245, 246, 247, 248, 249, 19, 250, 36, 251, 35, 252, 253, 254, 255, 256, 257, 258, 259, 260, 143, 261, 262, 263, 15, 264, 265, 266, 267, 268, 269, 270, 271, 661, 662, 663, 680, 681, 682, 683, 684, 677, 678, 679, 674, 675, 676, 673] (by decide +kernel) (by decide +kernel)) (goodIn_sub (fun _ h => List.mem_append_left _ (List.mem_append_right _ h)) (by decide +kernel))) (goodIn_sub (fun _ h => List.mem_append_right _ h) (by decide +kernel))
set_option maxRecDepth 20000 in
theorem gL_law_L_say : GoodIn wsL_law (va_wsS RL 91 yL_say wsL_say) := goodIn_app (goodIn_of _ (by decide +kernel)) ggL_law_L_say
set_option maxRecDepth 20000 in
theorem ggL_law_X4_say : GoodIn wsL_law wsX4_say := goodIn_r _ [275, 94, 60, 61, 276, 277, 278, 5, 279, 95, 96, 97, 98, 99, 100, 101, 102, 664, 665, 666, 667, 668, 669, 670, 671, 672] (by decide +kernel) (by decide +kernel)
set_option maxRecDepth 20000 in
theorem gL_law_X4_say : GoodIn wsL_law (wsV RL 94 RX4 yX4_say wsX4_say) := goodIn_app (goodIn_of _ (by decide +kernel)) ggL_law_X4_say
set_option maxRecDepth 20000 in
theorem ggL_law_L_hush : GoodIn wsL_law wsL_hush := goodIn_ca (goodIn_r _ [282, 110, 283, 284, 285, 2, 286, 215, 20, 216, 217, 218, 219, 220, 125, 126, 24, 221, 135, 136, 137, 23, 138, 81, 222, 223, 224, 225, 226, 227, 228, 229, 230, 231, 232, 233, 234, 235, 236, 237, 41, 287, 288, 289, 19, 290, 291, 292, 248, 249, 250, 36, 251, 35, 252, 253, 254, 255, 120, 256, 145, 257, 258, 259, 260, 143, 261, 262, 263, 15, 264, 265, 266, 267, 268, 269, 270, 271, 680, 681, 682, 683, 684, 661, 662, 663, 677, 678, 679, 674, 675, 676, 673] (by decide +kernel) (by decide +kernel)) (goodIn_sub (fun _ h => List.mem_append_right _ h) (by decide +kernel))
set_option maxRecDepth 20000 in
theorem gL_law_L_hush : GoodIn wsL_law (va_wsS RL 95 yL_hush wsL_hush) := goodIn_app (goodIn_of _ (by decide +kernel)) ggL_law_L_hush
set_option maxRecDepth 20000 in
theorem ggL_law_X4_hush : GoodIn wsL_law wsX4_hush := goodIn_r _ [296, 94, 60, 276, 277, 278, 5, 279, 95, 96, 97, 98, 99, 100, 101, 102, 664, 665, 666, 667, 668, 669, 670, 671, 672] (by decide +kernel) (by decide +kernel)
set_option maxRecDepth 20000 in
theorem gL_law_X4_hush : GoodIn wsL_law (wsV RL 97 RX4 yX4_hush wsX4_hush) := goodIn_app (goodIn_of _ (by decide +kernel)) ggL_law_X4_hush
set_option maxRecDepth 20000 in
theorem ggL_law_L_setDelay : GoodIn wsL_law wsL_setDelay := goodIn_ca (goodIn_ca (goodIn_r _ [299, 110, 67, 300, 301, 302, 2, 303, 304, 20, 216, 217, 218, 219, 220, 125, 126, 24, 221, 135, 136, 137, 23, 138, 81, 222, 223, 224, 225, 226, 227, 228, 229, 230, 231, 232, 233, 234, 235, 236, 237, 41, 305, 306, 307, 308, 72, 73, 16, 74, 287, 288, 289, 19, 290, 291, 292, 248, 249, 250, 36, 251, 35, 252, 253, 254, 255, 120, 256, 145, 257, 258, 259, 260, 143, 261, 262, 263, 15, 264, 265, 266, 267, 268, 269, 270, 271, 680, 681, 682, 683, 684, 661, 662, 663, 677, 678, 679, 673, 674, 675, 676] (by decide +kernel) (by decide +kernel)) (goodIn_sub (fun _ h => List.mem_append_right _ h) (by decide +kernel))) (goodIn_sub (fun _ h => List.mem_append_left _ (List.mem_append_left _ (List.mem_append_right _ h))) (by decide +kernel))
set_option maxRecDepth 20000 in
theorem gL_law_L_setDelay : GoodIn wsL_law (va_wsS RL 98 yL_setDelay wsL_setDelay) := goodIn_app (goodIn_of _ (by decide +kernel)) ggL_law_L_setDelay
set_option maxRecDepth 20000 in
theorem ggL_law_X4_setDelay : GoodIn wsL_law wsX4_setDelay := goodIn_r _ [312, 94, 59, 276, 277, 278, 5, 279, 95, 96, 97, 98, 99, 100, 101, 102, 201, 202, 203, 204, 56, 664, 665, 666, 667, 668, 669, 670, 671, 672] (by decide +kernel) (by decide +kernel)
set_option maxRecDepth 20000 in
theorem gL_law_X4_setDelay : GoodIn wsL_law (wsV RL 100 RX4 yX4_setDelay wsX4_setDelay) := goodIn_app (goodIn_of _ (by decide +kernel)) ggL_law_X4_setDelay
set_option maxRecDepth 20000 in
theorem ggL_law_L_setStrength : GoodIn wsL_law wsL_setStrength := goodIn_ca (goodIn_ca (goodIn_r _ [315, 110, 67, 316, 317, 318, 2, 319, 216, 20, 217, 218, 219, 220, 125, 126, 24, 221, 135, 136, 137, 23, 138, 81, 222, 223, 224, 225, 226, 227, 228, 229, 230, 231, 232, 233, 234, 235, 236, 237, 41, 131, 132, 133, 134, 72, 73, 287, 288, 289, 19, 290, 291, 292, 248, 249, 250, 36, 251, 35, 252, 253, 254, 255, 120, 256, 145, 257, 258, 259, 260, 143, 261, 262, 263, 15, 264, 265, 266, 267, 268, 269, 270, 271, 680, 681, 682, 683, 684, 661, 662, 663, 677, 678, 679, 674, 675, 676, 673] (by decide +kernel) (by decide +kernel)) (goodIn_sub (fun _ h => List.mem_append_right _ h) (by decide +kernel))) (goodIn_sub (fun _ h => List.mem_append_left _ (List.mem_append_left _ (List.mem_append_right _ h))) (by decide +kernel))
set_option maxRecDepth 20000 in
theorem gL_law_L_setStrength : GoodIn wsL_law (va_wsS RL 101 yL_setStrength wsL_setStrength) := goodIn_app (goodIn_of _ (by decide +kernel)) ggL_law_L_setStrength
set_option maxRecDepth 20000 in
theorem ggL_law_X4_setStrength : GoodIn wsL_law wsX4_setStrength := goodIn_r _ [323, 94, 58, 276, 277, 278, 5, 279, 95, 96, 97, 98, 99, 100, 101, 102, 205, 206, 207, 664, 665, 666, 667, 668, 669, 670, 671, 672] (by decide +kernel) (by decide +kernel)
set_option maxRecDepth 20000 in
theorem gL_law_X4_setStrength : GoodIn wsL_law (wsV RL 103 RX4 yX4_setStrength wsX4_setStrength) := goodIn_app (goodIn_of _ (by decide +kernel)) ggL_law_X4_setStrength
set_option maxRecDepth 20000 in
theorem ggL_law_L_setStorm : GoodIn wsL_law wsL_setStorm := goodIn_ca (goodIn_ca (goodIn_r _ [326, 110, 67, 327, 328, 329, 2, 330, 125, 126, 72, 73, 20, 331, 661, 662, 663, 674, 675, 676] (by decide +kernel) (by decide +kernel)) (goodIn_sub (fun _ h => List.mem_append_right _ h) (by decide +kernel))) (goodIn_sub (fun _ h => List.mem_append_left _ (List.mem_append_left _ (List.mem_append_right _ h))) (by decide +kernel))
set_option maxRecDepth 20000 in
theorem gL_law_L_setStorm : GoodIn wsL_law (va_wsS RL 104 yL_setStorm wsL_setStorm) := goodIn_app (goodIn_of _ (by decide +kernel)) ggL_law_L_setStorm
set_option maxRecDepth 20000 in
theorem ggL_law_X4_setStorm : GoodIn wsL_law wsX4_setStorm := goodIn_r _ [335, 94, 62, 96, 97, 5, 98, 99, 100, 101, 102, 664, 665, 666, 667, 668, 669, 670, 671, 672] (by decide +kernel) (by decide +kernel)
set_option maxRecDepth 20000 in
theorem gL_law_X4_setStorm : GoodIn wsL_law (wsV RL 106 RX4 yX4_setStorm wsX4_setStorm) := goodIn_app (goodIn_of _ (by decide +kernel)) ggL_law_X4_setStorm
set_option maxRecDepth 20000 in
theorem ggL_law_L_chip : GoodIn wsL_law wsL_chip := goodIn_ca (goodIn_r _ [338, 110, 339, 340, 341, 2, 342, 125, 126, 16, 121, 122, 123, 124, 127, 128, 129, 15, 130, 28, 343, 262, 263, 264, 265, 266, 267, 268, 269, 270, 271, 661, 662, 663, 673] (by decide +kernel) (by decide +kernel)) (goodIn_sub (fun _ h => List.mem_append_right _ h) (by decide +kernel))
set_option maxRecDepth 20000 in
theorem gL_law_L_chip : GoodIn wsL_law (va_wsS RL 107 yL_chip wsL_chip) := goodIn_app (goodIn_of _ (by decide +kernel)) ggL_law_L_chip
set_option maxRecDepth 20000 in
theorem ggL_law_X4_chip : GoodIn wsL_law wsX4_chip := goodIn_r _ [347, 94, 201, 202, 203, 5, 204, 56, 96, 97, 98, 348, 349, 350, 351, 266, 267, 268, 269, 270, 271, 99, 100, 101, 102, 664, 665, 666, 667, 668, 669, 670, 671, 672] (by decide +kernel) (by decide +kernel)
set_option maxRecDepth 20000 in
theorem gL_law_X4_chip : GoodIn wsL_law (wsV RL 109 RX4 yX4_chip wsX4_chip) := goodIn_app (goodIn_of _ (by decide +kernel)) ggL_law_X4_chip
set_option maxRecDepth 20000 in
theorem ggL_law_L_sky : GoodIn wsL_law wsL_sky := goodIn_ca (goodIn_r _ [354, 67, 355, 356, 357, 2, 358, 20, 359, 360, 361, 362, 72, 73, 363, 364, 365, 19, 366, 34, 35, 661, 662, 663, 674, 675, 676] (by decide +kernel) (by decide +kernel)) (goodIn_sub (fun _ h => List.mem_append_left _ (List.mem_append_left _ (List.mem_append_right _ h))) (by decide +kernel))
set_option maxRecDepth 20000 in
theorem gL_law_L_sky : GoodIn wsL_law (va_wsS RL 110 yL_sky wsL_sky) := goodIn_app (goodIn_of _ (by decide +kernel)) ggL_law_L_sky
set_option maxRecDepth 20000 in
theorem ggL_law_X4_sky : GoodIn wsL_law wsX4_sky := goodIn_r _ [370, 94, 371, 372, 5, 373, 96, 97, 98, 374, 375, 376, 377, 62, 95, 378, 379, 380, 381, 59, 56, 60, 58, 61, 57, 348, 349, 350, 351, 266, 267, 268, 269, 270, 271, 99, 100, 101, 102, 664, 665, 666, 667, 668, 669, 670, 671, 672] (by decide +kernel) (by decide +kernel)
set_option maxRecDepth 20000 in
theorem gL_law_X4_sky : GoodIn wsL_law (wsV RL 112 RX4 yX4_sky wsX4_sky) := goodIn_app (goodIn_of _ (by decide +kernel)) ggL_law_X4_sky
set_option maxRecDepth 20000 in
theorem ggL_law_L_hear : GoodIn wsL_law wsL_hear := goodIn_ca (goodIn_ca (goodIn_r _ [384, 110, 67, 385, 386, 387, 2, 388, 20, 121, 122, 123, 124, 125, 126, 16, 127, 128, 129, 15, 130, 28, 359, 360, 361, 362, 72, 73, 389, 390, 391, 19, 392, 36, 251, 393, 364, 365, 366, 34, 35, 261, 262, 263, 264, 265, 266, 267, 268, 269, 270, 271, 661, 662, 663, 673, 674, 675, 676] (by decide +kernel) (by decide +kernel)) (goodIn_sub (fun _ h => List.mem_append_right _ h) (by decide +kernel))) (goodIn_sub (fun _ h => List.mem_append_left _ (List.mem_append_left _ (List.mem_append_right _ h))) (by decide +kernel))
set_option maxRecDepth 20000 in
theorem gL_law_L_hear : GoodIn wsL_law (va_wsS RL 113 yL_hear wsL_hear) := goodIn_app (goodIn_of _ (by decide +kernel)) ggL_law_L_hear
set_option maxRecDepth 20000 in
theorem ggL_law_X4_hear : GoodIn wsL_law wsX4_hear := goodIn_r _ [397, 94, 201, 202, 203, 5, 204, 56, 96, 97, 98, 99, 100, 101, 102, 371, 372, 373, 398, 399, 400, 401, 374, 375, 376, 377, 62, 95, 378, 379, 380, 381, 59, 60, 58, 61, 57, 348, 349, 350, 351, 266, 267, 268, 269, 270, 271, 664, 665, 666, 667, 668, 669, 670, 671, 672] (by decide +kernel) (by decide +kernel)
set_option maxRecDepth 20000 in
theorem gL_law_X4_hear : GoodIn wsL_law (wsV RL 115 RX4 yX4_hear wsX4_hear) := goodIn_app (goodIn_of _ (by decide +kernel)) ggL_law_X4_hear
set_option maxRecDepth 20000 in
theorem ggL_law_L_word : GoodIn wsL_law wsL_word := goodIn_ca (goodIn_r _ [404, 110, 405, 406, 407, 2, 408, 125, 126, 215, 20, 217, 218, 219, 220, 24, 221, 135, 136, 137, 23, 138, 81, 222, 223, 224, 225, 226, 227, 228, 229, 230, 231, 232, 233, 234, 235, 236, 237, 41, 409, 254, 255, 120, 256, 145, 410, 411, 412, 19, 413, 252, 36, 251, 257, 258, 259, 260, 143, 414, 390, 391, 392, 393, 364, 365, 366, 34, 35, 261, 262, 263, 15, 264, 265, 266, 267, 268, 269, 270, 271, 415, 416, 417, 418, 419, 680, 681, 682, 683, 684, 661, 662, 663, 677, 678, 679, 674, 675, 676, 673] (by decide +kernel) (by decide +kernel)) (goodIn_sub (fun _ h => List.mem_append_right _ h) (by decide +kernel))
set_option maxRecDepth 20000 in
theorem gL_law_L_word : GoodIn wsL_law (va_wsS RL 116 yL_word wsL_word) := goodIn_app (goodIn_of _ (by decide +kernel)) ggL_law_L_word
set_option maxRecDepth 20000 in
theorem ggL_law_X4_word : GoodIn wsL_law wsX4_word := goodIn_r _ [423, 94, 60, 276, 277, 278, 5, 279, 95, 96, 97, 98, 424, 425, 426, 427, 61, 428, 429, 430, 431, 57, 432, 433, 434, 435, 59, 56, 398, 399, 400, 401, 374, 375, 376, 377, 62, 378, 379, 380, 381, 58, 348, 349, 350, 351, 266, 267, 268, 269, 270, 271, 436, 437, 438, 439, 440, 441, 442, 99, 100, 101, 102, 664, 665, 666, 667, 668, 669, 670, 671, 672] (by decide +kernel) (by decide +kernel)
set_option maxRecDepth 20000 in
theorem gL_law_X4_word : GoodIn wsL_law (wsV RL 119 RX4 yX4_word wsX4_word) := goodIn_app (goodIn_of _ (by decide +kernel)) ggL_law_X4_word
set_option maxRecDepth 20000 in
theorem ggL_law_L_about : GoodIn wsL_law wsL_about := goodIn_ca (goodIn_r _ [445, 110, 446, 447, 448, 2, 449, 125, 126, 450, 216, 304, 215, 20, 16, 74, 217, 218, 219, 220, 24, 221, 135, 136, 137, 23, 138, 81, 222, 223, 224, 225, 226, 227, 228, 229, 230, 231, 232, 233, 234, 235, 236, 237, 41, 451, 452, 453, 19, 454, 291, 455, 411, 412, 413, 252, 36, 251, 257, 258, 259, 120, 260, 143, 414, 390, 391, 392, 393, 364, 365, 366, 34, 35, 261, 262, 263, 15, 264, 265, 266, 267, 268, 269, 270, 271, 456, 416, 417, 418, 419, 254, 255, 256, 145, 457, 458, 459, 460, 144, 461, 462, 463, 464, 465, 466, 467, 166, 468, 680, 681, 682, 683, 684, 661, 662, 663, 673, 677, 678, 679, 674, 675, 676] (by decide +kernel) (by decide +kernel)) (goodIn_sub (fun _ h => List.mem_append_right _ h) (by decide +kernel))
set_option maxRecDepth 20000 in
theorem gL_law_L_about : GoodIn wsL_law (va_wsS RL 120 yL_about wsL_about) := goodIn_app (goodIn_of _ (by decide +kernel)) ggL_law_L_about
set_option maxRecDepth 20000 in
theorem ggL_law_X4_about : GoodIn wsL_law wsX4_about := goodIn_r _ [472, 94, 276, 277, 278, 5, 279, 95, 96, 97, 98, 473, 474, 475, 476, 57, 58, 59, 60, 477, 478, 479, 480, 436, 437, 438, 439, 61, 428, 429, 430, 431, 432, 433, 434, 435, 56, 398, 399, 400, 401, 374, 375, 376, 377, 62, 378, 379, 380, 381, 348, 349, 350, 351, 266, 267, 268, 269, 270, 271, 440, 441, 442, 481, 482, 483, 484, 485, 486, 487, 488, 489, 467, 166, 468, 490, 191, 192, 99, 100, 101, 102, 664, 665, 666, 667, 668, 669, 670, 671, 672] (by decide +kernel) (by decide +kernel)
set_option maxRecDepth 20000 in
theorem gL_law_X4_about : GoodIn wsL_law (wsV RL 122 RX4 yX4_about wsX4_about) := goodIn_app (goodIn_of _ (by decide +kernel)) ggL_law_X4_about
set_option maxRecDepth 20000 in
theorem ggL_law_L_count : GoodIn wsL_law wsL_count := goodIn_ca (goodIn_r _ [493, 110, 494, 495, 496, 2, 497, 125, 126, 16, 74, 24, 20, 135, 136, 137, 23, 138, 81, 498, 499, 500, 501, 221, 215, 222, 223, 224, 225, 226, 227, 228, 229, 230, 231, 232, 233, 234, 235, 236, 237, 41, 502, 503, 504, 505, 451, 452, 453, 19, 454, 291, 455, 411, 412, 413, 252, 36, 251, 257, 258, 259, 120, 260, 143, 414, 390, 391, 392, 393, 364, 365, 366, 34, 35, 261, 262, 263, 15, 264, 265, 266, 267, 268, 269, 270, 271, 456, 416, 417, 418, 419, 254, 255, 256, 145, 506, 507, 508, 509, 510, 165, 166, 167, 457, 458, 459, 460, 144, 461, 511, 512, 513, 514, 466, 467, 468, 515, 516, 517, 518, 519, 520, 521, 522, 523, 450, 661, 662, 663, 673, 677, 678, 679, 680, 681, 682, 683, 684, 674, 675, 676] (by decide +kernel) (by decide +kernel)) (goodIn_sub (fun _ h => List.mem_append_right _ h) (by decide +kernel))
set_option maxRecDepth 20000 in
theorem gL_law_L_count : GoodIn wsL_law (va_wsS RL 123 yL_count wsL_count) := goodIn_app (goodIn_of _ (by decide +kernel)) ggL_law_L_count
set_option maxRecDepth 20000 in
theorem ggL_law_X4_count : GoodIn wsL_law wsX4_count := goodIn_r _ [527, 94, 96, 97, 5, 98, 528, 529, 530, 531, 56, 95, 60, 532, 533, 534, 535, 477, 478, 479, 480, 436, 437, 438, 439, 61, 428, 429, 430, 431, 57, 432, 433, 434, 435, 59, 398, 399, 400, 401, 374, 375, 376, 377, 62, 378, 379, 380, 381, 58, 348, 349, 350, 351, 266, 267, 268, 269, 270, 271, 440, 441, 442, 536, 537, 538, 539, 540, 165, 166, 167, 481, 482, 483, 484, 541, 542, 543, 544, 489, 467, 468, 545, 546, 547, 548, 99, 100, 101, 102, 664, 665, 666, 667, 668, 669, 670, 671, 672] (by decide +kernel) (by decide +kernel)
set_option maxRecDepth 20000 in
theorem gL_law_X4_count : GoodIn wsL_law (wsV RL 125 RX4 yX4_count wsX4_count) := goodIn_app (goodIn_of _ (by decide +kernel)) ggL_law_X4_count
set_option maxRecDepth 20000 in
theorem ggL_law_L_alike : GoodIn wsL_law wsL_alike := goodIn_ca (goodIn_ca (goodIn_r _ [551, 110, 67, 552, 553, 554, 2, 555, 72, 73, 16, 121, 122, 123, 124, 125, 126, 127, 128, 129, 15, 130, 28, 556, 557, 558, 559, 560, 467, 166, 468, 561, 262, 263, 264, 265, 266, 267, 268, 269, 270, 271, 661, 662, 663, 673] (by decide +kernel) (by decide +kernel)) (goodIn_sub (fun _ h => List.mem_append_left _ (List.mem_append_left _ (List.mem_append_right _ h))) (by decide +kernel))) (goodIn_sub (fun _ h => List.mem_append_right _ h) (by decide +kernel))
set_option maxRecDepth 20000 in
theorem gL_law_L_alike : GoodIn wsL_law (va_wsS RL 126 yL_alike wsL_alike) := goodIn_app (goodIn_of _ (by decide +kernel)) ggL_law_L_alike
set_option maxRecDepth 20000 in
theorem ggL_law_X4_alike : GoodIn wsL_law wsX4_alike := goodIn_r _ [565, 94, 201, 202, 203, 5, 204, 56, 96, 97, 98, 99, 100, 101, 102, 566, 567, 568, 569, 489, 467, 166, 468, 348, 349, 350, 351, 266, 267, 268, 269, 270, 271, 664, 665, 666, 667, 668, 669, 670, 671, 672] (by decide +kernel) (by decide +kernel)
set_option maxRecDepth 20000 in
theorem gL_law_X4_alike : GoodIn wsL_law (wsV RL 128 RX4 yX4_alike wsX4_alike) := goodIn_app (goodIn_of _ (by decide +kernel)) ggL_law_X4_alike
set_option maxRecDepth 20000 in
theorem ggL_law_L_shift : GoodIn wsL_law wsL_shift := goodIn_ca (goodIn_r _ [572, 110, 573, 574, 575, 2, 576, 16, 74, 121, 122, 123, 124, 125, 126, 127, 128, 129, 15, 130, 28, 556, 557, 558, 559, 560, 467, 166, 468, 561, 262, 263, 264, 265, 266, 267, 268, 269, 270, 271, 661, 662, 663, 673] (by decide +kernel) (by decide +kernel)) (goodIn_sub (fun _ h => List.mem_append_right _ h) (by decide +kernel))
set_option maxRecDepth 20000 in
theorem gL_law_L_shift : GoodIn wsL_law (va_wsS RL 129 yL_shift wsL_shift) := goodIn_app (goodIn_of _ (by decide +kernel)) ggL_law_L_shift
set_option maxRecDepth 20000 in
theorem ggL_law_X4_shift : GoodIn wsL_law wsX4_shift := goodIn_r _ [580, 94, 56, 201, 202, 203, 5, 204, 96, 97, 98, 99, 100, 101, 102, 566, 567, 568, 569, 489, 467, 166, 468, 348, 349, 350, 351, 266, 267, 268, 269, 270, 271, 664, 665, 666, 667, 668, 669, 670, 671, 672] (by decide +kernel) (by decide +kernel)
set_option maxRecDepth 20000 in
theorem gL_law_X4_shift : GoodIn wsL_law (wsV RL 131 RX4 yX4_shift wsX4_shift) := goodIn_app (goodIn_of _ (by decide +kernel)) ggL_law_X4_shift
set_option maxRecDepth 20000 in
theorem ggL_law_L_advise : GoodIn wsL_law wsL_advise := goodIn_ca (goodIn_r _ [583, 67, 584, 585, 586, 2, 587, 16, 74, 305, 306, 307, 308, 72, 73, 520, 521, 522, 523, 24, 221, 450, 135, 136, 137, 23, 138, 81, 222, 223, 224, 225, 226, 227, 228, 229, 230, 231, 232, 233, 234, 235, 236, 237, 41, 588, 589, 590, 591, 304, 216, 556, 557, 558, 15, 559, 28, 560, 467, 166, 468, 561, 262, 263, 264, 265, 266, 267, 268, 269, 270, 271, 661, 662, 663, 673, 680, 681, 682, 683, 684, 677, 678, 679] (by decide +kernel) (by decide +kernel)) (goodIn_sub (fun _ h => List.mem_append_left _ (List.mem_append_left _ (List.mem_append_right _ h))) (by decide +kernel))
set_option maxRecDepth 20000 in
theorem gL_law_L_advise : GoodIn wsL_law (va_wsS RL 132 yL_advise wsL_advise) := goodIn_app (goodIn_of _ (by decide +kernel)) ggL_law_L_advise
set_option maxRecDepth 20000 in
theorem ggL_law_X4_advise : GoodIn wsL_law wsX4_advise := goodIn_r _ [595, 94, 56, 201, 202, 203, 5, 204, 96, 97, 98, 99, 100, 101, 102, 545, 546, 547, 548, 95, 57, 596, 597, 598, 599, 58, 59, 566, 567, 568, 569, 489, 467, 166, 468, 348, 349, 350, 351, 266, 267, 268, 269, 270, 271, 664, 665, 666, 667, 668, 669, 670, 671, 672] (by decide +kernel) (by decide +kernel)
set_option maxRecDepth 20000 in
theorem gL_law_X4_advise : GoodIn wsL_law (wsV RL 134 RX4 yX4_advise wsX4_advise) := goodIn_app (goodIn_of _ (by decide +kernel)) ggL_law_X4_advise
set_option maxRecDepth 20000 in
theorem ggL_law_L_would : GoodIn wsL_law wsL_would := goodIn_ca (goodIn_ca (goodIn_r _ [602, 110, 67, 603, 604, 605, 2, 606, 217, 218, 219, 220, 125, 126, 24, 221, 135, 136, 137, 23, 138, 81, 222, 223, 224, 225, 226, 227, 228, 229, 230, 231, 232, 233, 234, 235, 236, 237, 41, 131, 132, 133, 134, 72, 73, 607, 608, 609, 610, 216, 20, 287, 288, 289, 19, 290, 291, 292, 248, 249, 250, 36, 251, 35, 252, 253, 254, 255, 120, 256, 145, 257, 258, 259, 260, 143, 261, 262, 263, 15, 264, 265, 266, 267, 268, 269, 270, 271, 502, 503, 504, 505, 451, 452, 453, 454, 455, 411, 412, 413, 414, 390, 391, 392, 393, 364, 365, 366, 34, 456, 416, 417, 418, 419, 661, 662, 663, 677, 678, 679, 680, 681, 682, 683, 684, 674, 675, 676, 673] (by decide +kernel) (by decide +kernel)) (goodIn_sub (fun _ h => List.mem_append_right _ h) (by decide +kernel))) (goodIn_sub (fun _ h => List.mem_append_left _ (List.mem_append_left _ (List.mem_append_right _ h))) (by decide +kernel))
set_option maxRecDepth 20000 in
theorem gL_law_L_would : GoodIn wsL_law (va_wsS RL 135 yL_would wsL_would) := goodIn_app (goodIn_of _ (by decide +kernel)) ggL_law_L_would
set_option maxRecDepth 20000 in
theorem ggL_law_X4_would : GoodIn wsL_law wsX4_would := goodIn_r _ [614, 94, 276, 277, 278, 5, 279, 95, 96, 97, 98, 99, 100, 101, 102, 205, 206, 207, 615, 616, 617, 618, 58, 532, 533, 534, 535, 477, 478, 479, 480, 60, 436, 437, 438, 439, 61, 428, 429, 430, 431, 57, 432, 433, 434, 435, 59, 56, 398, 399, 400, 401, 374, 375, 376, 377, 62, 378, 379, 380, 381, 348, 349, 350, 351, 266, 267, 268, 269, 270, 271, 440, 441, 442, 664, 665, 666, 667, 668, 669, 670, 671, 672] (by decide +kernel) (by decide +kernel)
set_option maxRecDepth 20000 in
theorem gL_law_X4_would : GoodIn wsL_law (wsV RL 137 RX4 yX4_would wsX4_would) := goodIn_app (goodIn_of _ (by decide +kernel)) ggL_law_X4_would
set_option maxRecDepth 20000 in
theorem ggL_law_L_tune : GoodIn wsL_law wsL_tune := goodIn_ca (goodIn_r _ [621, 110, 622, 623, 624, 2, 625, 217, 218, 219, 220, 125, 126, 24, 221, 135, 136, 137, 23, 138, 81, 222, 223, 224, 225, 226, 227, 228, 229, 230, 231, 232, 233, 234, 235, 236, 237, 41, 607, 608, 609, 610, 216, 20, 287, 288, 289, 19, 290, 291, 292, 248, 249, 250, 36, 251, 35, 252, 253, 254, 255, 120, 256, 145, 257, 258, 259, 260, 143, 261, 262, 263, 15, 264, 265, 266, 267, 268, 269, 270, 271, 502, 503, 504, 505, 451, 452, 453, 454, 455, 411, 412, 413, 414, 390, 391, 392, 393, 364, 365, 366, 34, 456, 416, 417, 418, 419, 661, 662, 663, 677, 678, 679, 680, 681, 682, 683, 684, 674, 675, 676, 673] (by decide +kernel) (by decide +kernel)) (goodIn_sub (fun _ h => List.mem_append_right _ h) (by decide +kernel))
set_option maxRecDepth 20000 in
theorem gL_law_L_tune : GoodIn wsL_law (va_wsS RL 138 yL_tune wsL_tune) := goodIn_app (goodIn_of _ (by decide +kernel)) ggL_law_L_tune
set_option maxRecDepth 20000 in
theorem ggL_law_X4_tune : GoodIn wsL_law wsX4_tune := goodIn_r _ [629, 94, 276, 277, 278, 5, 279, 95, 96, 97, 98, 99, 100, 101, 102, 615, 616, 617, 618, 58, 532, 533, 534, 535, 477, 478, 479, 480, 60, 436, 437, 438, 439, 61, 428, 429, 430, 431, 57, 432, 433, 434, 435, 59, 56, 398, 399, 400, 401, 374, 375, 376, 377, 62, 378, 379, 380, 381, 348, 349, 350, 351, 266, 267, 268, 269, 270, 271, 440, 441, 442, 664, 665, 666, 667, 668, 669, 670, 671, 672] (by decide +kernel) (by decide +kernel)
set_option maxRecDepth 20000 in
theorem gL_law_X4_tune : GoodIn wsL_law (wsV RL 140 RX4 yX4_tune wsX4_tune) := goodIn_app (goodIn_of _ (by decide +kernel)) ggL_law_X4_tune
set_option maxRecDepth 20000 in
theorem ggL_law_X3_mean : GoodIn wsL_law wsX3_mean := goodIn_r _ [633, 20, 506, 507, 508, 2, 509, 24, 221, 16, 74, 510, 165, 166, 167, 135, 136, 137, 23, 138, 81, 222, 223, 224, 225, 226, 227, 228, 229, 230, 231, 232, 233, 234, 235, 236, 237, 41, 457, 458, 459, 120, 460, 144, 461, 258, 259, 260, 143, 634, 635, 636, 19, 637, 393, 364, 365, 366, 34, 35, 661, 662, 663, 673, 677, 678, 679, 680, 681, 682, 683, 684, 674, 675, 676] (by decide +kernel) (by decide +kernel)
set_option maxRecDepth 20000 in
theorem gL_law_X3_mean : GoodIn wsL_law (wsV RL 141 RX3 yX3_mean wsX3_mean) := goodIn_app (goodIn_of _ (by decide +kernel)) ggL_law_X3_mean
set_option maxRecDepth 20000 in
theorem ggL_law_X4_mean : GoodIn wsL_law wsX4_mean := goodIn_r _ [641, 94, 536, 537, 538, 5, 539, 95, 540, 165, 166, 167, 481, 482, 483, 484, 60, 432, 433, 434, 435, 59, 56, 374, 375, 376, 377, 62, 378, 379, 380, 381, 58, 61, 57, 348, 349, 350, 351, 266, 267, 268, 269, 270, 271, 664, 665, 666, 667, 668, 669, 670, 671, 672] (by decide +kernel) (by decide +kernel)
set_option maxRecDepth 20000 in
theorem gL_law_X4_mean : GoodIn wsL_law (wsV RL 145 RX4 yX4_mean wsX4_mean) := goodIn_app (goodIn_of _ (by decide +kernel)) ggL_law_X4_mean
set_option maxRecDepth 20000 in
theorem ggL_law_X3_digest : GoodIn wsL_law wsX3_digest := goodIn_ca (goodIn_r _ [645, 646, 647, 20, 331, 24, 648, 495, 496, 2, 497, 125, 126, 16, 74, 135, 136, 137, 23, 138, 81, 498, 499, 500, 501, 221, 215, 222, 223, 224, 225, 226, 227, 228, 229, 230, 231, 232, 233, 234, 235, 236, 237, 41, 502, 503, 504, 505, 451, 452, 453, 19, 454, 291, 455, 411, 412, 413, 252, 36, 251, 257, 258, 259, 120, 260, 143, 414, 390, 391, 392, 393, 364, 365, 366, 34, 35, 261, 262, 263, 15, 264, 265, 266, 267, 268, 269, 270, 271, 456, 416, 417, 418, 419, 254, 255, 256, 145, 506, 507, 508, 509, 510, 165, 166, 167, 457, 458, 459, 460, 144, 461, 511, 512, 513, 514, 466, 467, 468, 515, 516, 517, 518, 519, 520, 521, 522, 523, 450, 649, 650, 651, 652, 653, 447, 448, 449, 216, 304, 217, 218, 219, 220, 462, 463, 464, 465, 654, 406, 407, 408, 409, 410, 415, 661, 662, 663, 674, 675, 676, 673, 677, 678, 679, 680, 681, 682, 683, 684] (by decide +kernel) (by decide +kernel)) (goodIn_sub (fun _ h => List.mem_append_right _ h) (by decide +kernel))
set_option maxRecDepth 20000 in
theorem gL_law_X3_digest : GoodIn wsL_law (wsV RL 146 RX3 yX3_digest wsX3_digest) := goodIn_app (goodIn_of _ (by decide +kernel)) ggL_law_X3_digest
set_option maxRecDepth 20000 in
theorem ggL_law_X4_digest : GoodIn wsL_law wsX4_digest := goodIn_r _ [658, 94, 659, 660, 62, 95, 60, 528, 529, 530, 5, 531, 56, 532, 533, 534, 535, 477, 478, 479, 480, 436, 437, 438, 439, 61, 428, 429, 430, 431, 57, 432, 433, 434, 435, 59, 398, 399, 400, 401, 374, 375, 376, 377, 378, 379, 380, 381, 58, 348, 349, 350, 351, 266, 267, 268, 269, 270, 271, 440, 441, 442, 536, 537, 538, 539, 540, 165, 166, 167, 481, 482, 483, 484, 541, 542, 543, 544, 489, 467, 468, 545, 546, 547, 548, 473, 474, 475, 476, 485, 486, 487, 488, 490, 191, 192, 424, 425, 426, 427, 664, 665, 666, 667, 668, 669, 670, 671, 672] (by decide +kernel) (by decide +kernel)
set_option maxRecDepth 20000 in
theorem gL_law_X4_digest : GoodIn wsL_law (wsV RL 150 RX4 yX4_digest wsX4_digest) := goodIn_app (goodIn_of _ (by decide +kernel)) ggL_law_X4_digest
theorem dL_law_0 : decode cL_law 0 = .ok (.new 8, 3) := by decide +kernel
theorem dL_law_3 : decode cL_law 3 = .ok (.dup, 1) := by decide +kernel
theorem dL_law_4 : decode cL_law 4 = .ok (.invokespecial 73, 3) := by decide +kernel
theorem dL_law_7 : decode cL_law 7 = .ok (.astore_n 1, 1) := by decide +kernel
theorem dL_law_8 : decode cL_law 8 = .ok (.new 74, 3) := by decide +kernel
theorem dL_law_11 : decode cL_law 11 = .ok (.dup, 1) := by decide +kernel
theorem dL_law_12 : decode cL_law 12 = .ok (.invokespecial 76, 3) := by decide +kernel
theorem dL_law_15 : decode cL_law 15 = .ok (.astore_n 2, 1) := by decide +kernel
theorem dL_law_16 : decode cL_law 16 = .ok (.iconst 1, 1) := by decide +kernel
theorem dL_law_17 : decode cL_law 17 = .ok (.newarray .long, 2) := by decide +kernel
theorem dL_law_19 : decode cL_law 19 = .ok (.astore_n 3, 1) := by decide +kernel
theorem dL_law_20 : decode cL_law 20 = .ok (.iconst 0, 1) := by decide +kernel
theorem dL_law_21 : decode cL_law 21 = .ok (.istore 4, 2) := by decide +kernel
theorem dL_law_23 : decode cL_law 23 = .ok (.iload 4, 2) := by decide +kernel
theorem dL_law_25 : decode cL_law 25 = .ok (.aload_n 0, 1) := by decide +kernel
theorem dL_law_26 : decode cL_law 26 = .ok (.arraylength, 1) := by decide +kernel
theorem dL_law_27 : decode cL_law 27 = .ok (.iconst 4, 1) := by decide +kernel
theorem dL_law_28 : decode cL_law 28 = .ok (.isub, 1) := by decide +kernel
theorem dL_law_29 : decode cL_law 29 = .ok (.if_icmp .gt 1356, 3) := by decide +kernel
theorem dL_law_32 : decode cL_law 32 = .ok (.aload_n 0, 1) := by decide +kernel
theorem dL_law_33 : decode cL_law 33 = .ok (.iload 4, 2) := by decide +kernel
theorem dL_law_35 : decode cL_law 35 = .ok (.iaload, 1) := by decide +kernel
theorem dL_law_36 : decode cL_law 36 = .ok (.bipush 31, 2) := by decide +kernel
theorem dL_law_38 : decode cL_law 38 = .ok (.iand, 1) := by decide +kernel
theorem dL_law_39 : decode cL_law 39 = .ok (.tableswitch 1340 0 19 #[93, 149, 217, 301, 357, 425, 493, 561, 629, 685, 753, 833, 901, 957, 1037, 1105, 1161, 1229, 1285, 1326], 93) := by decide +kernel
theorem dL_law_132 : decode cL_law 132 = .ok (.aload_n 1, 1) := by decide +kernel
theorem dL_law_133 : decode cL_law 133 = .ok (.aload_n 0, 1) := by decide +kernel
theorem dL_law_134 : decode cL_law 134 = .ok (.iload 4, 2) := by decide +kernel
theorem dL_law_136 : decode cL_law 136 = .ok (.iconst 1, 1) := by decide +kernel
theorem dL_law_137 : decode cL_law 137 = .ok (.iadd, 1) := by decide +kernel
theorem dL_law_138 : decode cL_law 138 = .ok (.iaload, 1) := by decide +kernel
theorem dL_law_139 : decode cL_law 139 = .ok (.aload_n 3, 1) := by decide +kernel
theorem dL_law_140 : decode cL_law 140 = .ok (.invokestatic 77, 3) := by decide +kernel
theorem dL_law_143 : decode cL_law 143 = .ok (.istore 5, 2) := by decide +kernel
theorem dL_law_145 : decode cL_law 145 = .ok (.aload_n 2, 1) := by decide +kernel
theorem dL_law_146 : decode cL_law 146 = .ok (.aload_n 0, 1) := by decide +kernel
theorem dL_law_147 : decode cL_law 147 = .ok (.iload 4, 2) := by decide +kernel
theorem dL_law_149 : decode cL_law 149 = .ok (.iconst 1, 1) := by decide +kernel
theorem dL_law_150 : decode cL_law 150 = .ok (.iadd, 1) := by decide +kernel
theorem dL_law_151 : decode cL_law 151 = .ok (.iaload, 1) := by decide +kernel
theorem dL_law_152 : decode cL_law 152 = .ok (.invokevirtual 82, 3) := by decide +kernel
theorem dL_law_155 : decode cL_law 155 = .ok (.istore 6, 2) := by decide +kernel
theorem dL_law_157 : decode cL_law 157 = .ok (.aload_n 2, 1) := by decide +kernel
theorem dL_law_158 : decode cL_law 158 = .ok (.invokevirtual 83, 3) := by decide +kernel
theorem dL_law_161 : decode cL_law 161 = .ok (.iload 5, 2) := by decide +kernel
theorem dL_law_163 : decode cL_law 163 = .ok (.if_icmp .eq 5, 3) := by decide +kernel
theorem dL_law_166 : decode cL_law 166 = .ok (.iconst 0, 1) := by decide +kernel
theorem dL_law_167 : decode cL_law 167 = .ok (.ireturn, 1) := by decide +kernel
theorem dL_law_168 : decode cL_law 168 = .ok (.iload 5, 2) := by decide +kernel
theorem dL_law_170 : decode cL_law 170 = .ok (.ifCond .ne 15, 3) := by decide +kernel
theorem dL_law_173 : decode cL_law 173 = .ok (.aload_n 3, 1) := by decide +kernel
theorem dL_law_174 : decode cL_law 174 = .ok (.iconst 0, 1) := by decide +kernel
theorem dL_law_175 : decode cL_law 175 = .ok (.laload, 1) := by decide +kernel
theorem dL_law_176 : decode cL_law 176 = .ok (.iload 6, 2) := by decide +kernel
theorem dL_law_178 : decode cL_law 178 = .ok (.i2l, 1) := by decide +kernel
theorem dL_law_179 : decode cL_law 179 = .ok (.lcmp, 1) := by decide +kernel
theorem dL_law_180 : decode cL_law 180 = .ok (.ifCond .eq 5, 3) := by decide +kernel
theorem dL_law_183 : decode cL_law 183 = .ok (.iconst 0, 1) := by decide +kernel
theorem dL_law_184 : decode cL_law 184 = .ok (.ireturn, 1) := by decide +kernel
theorem dL_law_185 : decode cL_law 185 = .ok (.goto 1194, 3) := by decide +kernel
theorem dL_law_188 : decode cL_law 188 = .ok (.aload_n 1, 1) := by decide +kernel
theorem dL_law_189 : decode cL_law 189 = .ok (.aload_n 0, 1) := by decide +kernel
theorem dL_law_190 : decode cL_law 190 = .ok (.iload 4, 2) := by decide +kernel
theorem dL_law_192 : decode cL_law 192 = .ok (.iconst 1, 1) := by decide +kernel
theorem dL_law_193 : decode cL_law 193 = .ok (.iadd, 1) := by decide +kernel
theorem dL_law_194 : decode cL_law 194 = .ok (.iaload, 1) := by decide +kernel
theorem dL_law_195 : decode cL_law 195 = .ok (.aload_n 0, 1) := by decide +kernel
theorem dL_law_196 : decode cL_law 196 = .ok (.iload 4, 2) := by decide +kernel
theorem dL_law_198 : decode cL_law 198 = .ok (.iconst 2, 1) := by decide +kernel
theorem dL_law_199 : decode cL_law 199 = .ok (.iadd, 1) := by decide +kernel
theorem dL_law_200 : decode cL_law 200 = .ok (.iaload, 1) := by decide +kernel
theorem dL_law_201 : decode cL_law 201 = .ok (.aload_n 3, 1) := by decide +kernel
theorem dL_law_202 : decode cL_law 202 = .ok (.invokestatic 87, 3) := by decide +kernel
theorem dL_law_205 : decode cL_law 205 = .ok (.istore 5, 2) := by decide +kernel
theorem dL_law_207 : decode cL_law 207 = .ok (.aload_n 2, 1) := by decide +kernel
theorem dL_law_208 : decode cL_law 208 = .ok (.aload_n 0, 1) := by decide +kernel
theorem dL_law_209 : decode cL_law 209 = .ok (.iload 4, 2) := by decide +kernel
theorem dL_law_211 : decode cL_law 211 = .ok (.iconst 1, 1) := by decide +kernel
theorem dL_law_212 : decode cL_law 212 = .ok (.iadd, 1) := by decide +kernel
theorem dL_law_213 : decode cL_law 213 = .ok (.iaload, 1) := by decide +kernel
theorem dL_law_214 : decode cL_law 214 = .ok (.aload_n 0, 1) := by decide +kernel
theorem dL_law_215 : decode cL_law 215 = .ok (.iload 4, 2) := by decide +kernel
theorem dL_law_217 : decode cL_law 217 = .ok (.iconst 2, 1) := by decide +kernel
theorem dL_law_218 : decode cL_law 218 = .ok (.iadd, 1) := by decide +kernel
theorem dL_law_219 : decode cL_law 219 = .ok (.iaload, 1) := by decide +kernel
theorem dL_law_220 : decode cL_law 220 = .ok (.invokevirtual 90, 3) := by decide +kernel
theorem dL_law_223 : decode cL_law 223 = .ok (.istore 6, 2) := by decide +kernel
theorem dL_law_225 : decode cL_law 225 = .ok (.aload_n 2, 1) := by decide +kernel
theorem dL_law_226 : decode cL_law 226 = .ok (.invokevirtual 83, 3) := by decide +kernel
theorem dL_law_229 : decode cL_law 229 = .ok (.iload 5, 2) := by decide +kernel
theorem dL_law_231 : decode cL_law 231 = .ok (.if_icmp .eq 5, 3) := by decide +kernel
theorem dL_law_234 : decode cL_law 234 = .ok (.iconst 0, 1) := by decide +kernel
theorem dL_law_235 : decode cL_law 235 = .ok (.ireturn, 1) := by decide +kernel
theorem dL_law_236 : decode cL_law 236 = .ok (.iload 5, 2) := by decide +kernel
theorem dL_law_238 : decode cL_law 238 = .ok (.ifCond .ne 15, 3) := by decide +kernel
theorem dL_law_241 : decode cL_law 241 = .ok (.aload_n 3, 1) := by decide +kernel
theorem dL_law_242 : decode cL_law 242 = .ok (.iconst 0, 1) := by decide +kernel
theorem dL_law_243 : decode cL_law 243 = .ok (.laload, 1) := by decide +kernel
theorem dL_law_244 : decode cL_law 244 = .ok (.iload 6, 2) := by decide +kernel
theorem dL_law_246 : decode cL_law 246 = .ok (.i2l, 1) := by decide +kernel
theorem dL_law_247 : decode cL_law 247 = .ok (.lcmp, 1) := by decide +kernel
theorem dL_law_248 : decode cL_law 248 = .ok (.ifCond .eq 5, 3) := by decide +kernel
theorem dL_law_251 : decode cL_law 251 = .ok (.iconst 0, 1) := by decide +kernel
theorem dL_law_252 : decode cL_law 252 = .ok (.ireturn, 1) := by decide +kernel
theorem dL_law_253 : decode cL_law 253 = .ok (.goto 1126, 3) := by decide +kernel
theorem dL_law_256 : decode cL_law 256 = .ok (.aload_n 1, 1) := by decide +kernel
theorem dL_law_257 : decode cL_law 257 = .ok (.aload_n 0, 1) := by decide +kernel
theorem dL_law_258 : decode cL_law 258 = .ok (.iload 4, 2) := by decide +kernel
theorem dL_law_260 : decode cL_law 260 = .ok (.iconst 1, 1) := by decide +kernel
theorem dL_law_261 : decode cL_law 261 = .ok (.iadd, 1) := by decide +kernel
theorem dL_law_262 : decode cL_law 262 = .ok (.iaload, 1) := by decide +kernel
theorem dL_law_263 : decode cL_law 263 = .ok (.aload_n 0, 1) := by decide +kernel
theorem dL_law_264 : decode cL_law 264 = .ok (.iload 4, 2) := by decide +kernel
theorem dL_law_266 : decode cL_law 266 = .ok (.iconst 2, 1) := by decide +kernel
theorem dL_law_267 : decode cL_law 267 = .ok (.iadd, 1) := by decide +kernel
theorem dL_law_268 : decode cL_law 268 = .ok (.iaload, 1) := by decide +kernel
theorem dL_law_269 : decode cL_law 269 = .ok (.ifCond .eq 7, 3) := by decide +kernel
theorem dL_law_272 : decode cL_law 272 = .ok (.iconst 1, 1) := by decide +kernel
theorem dL_law_273 : decode cL_law 273 = .ok (.goto 4, 3) := by decide +kernel
theorem dL_law_276 : decode cL_law 276 = .ok (.iconst 0, 1) := by decide +kernel
theorem dL_law_277 : decode cL_law 277 = .ok (.aload_n 3, 1) := by decide +kernel
theorem dL_law_278 : decode cL_law 278 = .ok (.invokestatic 91, 3) := by decide +kernel
theorem dL_law_281 : decode cL_law 281 = .ok (.istore 5, 2) := by decide +kernel
theorem dL_law_283 : decode cL_law 283 = .ok (.aload_n 2, 1) := by decide +kernel
theorem dL_law_284 : decode cL_law 284 = .ok (.aload_n 0, 1) := by decide +kernel
theorem dL_law_285 : decode cL_law 285 = .ok (.iload 4, 2) := by decide +kernel
theorem dL_law_287 : decode cL_law 287 = .ok (.iconst 1, 1) := by decide +kernel
theorem dL_law_288 : decode cL_law 288 = .ok (.iadd, 1) := by decide +kernel
theorem dL_law_289 : decode cL_law 289 = .ok (.iaload, 1) := by decide +kernel
theorem dL_law_290 : decode cL_law 290 = .ok (.aload_n 0, 1) := by decide +kernel
theorem dL_law_291 : decode cL_law 291 = .ok (.iload 4, 2) := by decide +kernel
theorem dL_law_293 : decode cL_law 293 = .ok (.iconst 2, 1) := by decide +kernel
theorem dL_law_294 : decode cL_law 294 = .ok (.iadd, 1) := by decide +kernel
theorem dL_law_295 : decode cL_law 295 = .ok (.iaload, 1) := by decide +kernel
theorem dL_law_296 : decode cL_law 296 = .ok (.ifCond .eq 7, 3) := by decide +kernel
theorem dL_law_299 : decode cL_law 299 = .ok (.iconst 1, 1) := by decide +kernel
theorem dL_law_300 : decode cL_law 300 = .ok (.goto 4, 3) := by decide +kernel
theorem dL_law_303 : decode cL_law 303 = .ok (.iconst 0, 1) := by decide +kernel
theorem dL_law_304 : decode cL_law 304 = .ok (.invokevirtual 94, 3) := by decide +kernel
theorem dL_law_307 : decode cL_law 307 = .ok (.istore 6, 2) := by decide +kernel
theorem dL_law_309 : decode cL_law 309 = .ok (.aload_n 2, 1) := by decide +kernel
theorem dL_law_310 : decode cL_law 310 = .ok (.invokevirtual 83, 3) := by decide +kernel
theorem dL_law_313 : decode cL_law 313 = .ok (.iload 5, 2) := by decide +kernel
theorem dL_law_315 : decode cL_law 315 = .ok (.if_icmp .eq 5, 3) := by decide +kernel
theorem dL_law_318 : decode cL_law 318 = .ok (.iconst 0, 1) := by decide +kernel
theorem dL_law_319 : decode cL_law 319 = .ok (.ireturn, 1) := by decide +kernel
theorem dL_law_320 : decode cL_law 320 = .ok (.iload 5, 2) := by decide +kernel
theorem dL_law_322 : decode cL_law 322 = .ok (.ifCond .ne 15, 3) := by decide +kernel
theorem dL_law_325 : decode cL_law 325 = .ok (.aload_n 3, 1) := by decide +kernel
theorem dL_law_326 : decode cL_law 326 = .ok (.iconst 0, 1) := by decide +kernel
theorem dL_law_327 : decode cL_law 327 = .ok (.laload, 1) := by decide +kernel
theorem dL_law_328 : decode cL_law 328 = .ok (.iload 6, 2) := by decide +kernel
theorem dL_law_330 : decode cL_law 330 = .ok (.i2l, 1) := by decide +kernel
theorem dL_law_331 : decode cL_law 331 = .ok (.lcmp, 1) := by decide +kernel
theorem dL_law_332 : decode cL_law 332 = .ok (.ifCond .eq 5, 3) := by decide +kernel
theorem dL_law_335 : decode cL_law 335 = .ok (.iconst 0, 1) := by decide +kernel
theorem dL_law_336 : decode cL_law 336 = .ok (.ireturn, 1) := by decide +kernel
theorem dL_law_337 : decode cL_law 337 = .ok (.goto 1042, 3) := by decide +kernel
theorem dL_law_340 : decode cL_law 340 = .ok (.aload_n 1, 1) := by decide +kernel
theorem dL_law_341 : decode cL_law 341 = .ok (.aload_n 0, 1) := by decide +kernel
theorem dL_law_342 : decode cL_law 342 = .ok (.iload 4, 2) := by decide +kernel
theorem dL_law_344 : decode cL_law 344 = .ok (.iconst 1, 1) := by decide +kernel
theorem dL_law_345 : decode cL_law 345 = .ok (.iadd, 1) := by decide +kernel
theorem dL_law_346 : decode cL_law 346 = .ok (.iaload, 1) := by decide +kernel
theorem dL_law_347 : decode cL_law 347 = .ok (.aload_n 3, 1) := by decide +kernel
theorem dL_law_348 : decode cL_law 348 = .ok (.invokestatic 95, 3) := by decide +kernel
theorem dL_law_351 : decode cL_law 351 = .ok (.istore 5, 2) := by decide +kernel
theorem dL_law_353 : decode cL_law 353 = .ok (.aload_n 2, 1) := by decide +kernel
theorem dL_law_354 : decode cL_law 354 = .ok (.aload_n 0, 1) := by decide +kernel
theorem dL_law_355 : decode cL_law 355 = .ok (.iload 4, 2) := by decide +kernel
theorem dL_law_357 : decode cL_law 357 = .ok (.iconst 1, 1) := by decide +kernel
theorem dL_law_358 : decode cL_law 358 = .ok (.iadd, 1) := by decide +kernel
theorem dL_law_359 : decode cL_law 359 = .ok (.iaload, 1) := by decide +kernel
theorem dL_law_360 : decode cL_law 360 = .ok (.invokevirtual 97, 3) := by decide +kernel
theorem dL_law_363 : decode cL_law 363 = .ok (.istore 6, 2) := by decide +kernel
theorem dL_law_365 : decode cL_law 365 = .ok (.aload_n 2, 1) := by decide +kernel
theorem dL_law_366 : decode cL_law 366 = .ok (.invokevirtual 83, 3) := by decide +kernel
theorem dL_law_369 : decode cL_law 369 = .ok (.iload 5, 2) := by decide +kernel
theorem dL_law_371 : decode cL_law 371 = .ok (.if_icmp .eq 5, 3) := by decide +kernel
theorem dL_law_374 : decode cL_law 374 = .ok (.iconst 0, 1) := by decide +kernel
theorem dL_law_375 : decode cL_law 375 = .ok (.ireturn, 1) := by decide +kernel
theorem dL_law_376 : decode cL_law 376 = .ok (.iload 5, 2) := by decide +kernel
theorem dL_law_378 : decode cL_law 378 = .ok (.ifCond .ne 15, 3) := by decide +kernel
theorem dL_law_381 : decode cL_law 381 = .ok (.aload_n 3, 1) := by decide +kernel
theorem dL_law_382 : decode cL_law 382 = .ok (.iconst 0, 1) := by decide +kernel
theorem dL_law_383 : decode cL_law 383 = .ok (.laload, 1) := by decide +kernel
theorem dL_law_384 : decode cL_law 384 = .ok (.iload 6, 2) := by decide +kernel
theorem dL_law_386 : decode cL_law 386 = .ok (.i2l, 1) := by decide +kernel
theorem dL_law_387 : decode cL_law 387 = .ok (.lcmp, 1) := by decide +kernel
theorem dL_law_388 : decode cL_law 388 = .ok (.ifCond .eq 5, 3) := by decide +kernel
theorem dL_law_391 : decode cL_law 391 = .ok (.iconst 0, 1) := by decide +kernel
theorem dL_law_392 : decode cL_law 392 = .ok (.ireturn, 1) := by decide +kernel
theorem dL_law_393 : decode cL_law 393 = .ok (.goto 986, 3) := by decide +kernel
theorem dL_law_396 : decode cL_law 396 = .ok (.aload_n 1, 1) := by decide +kernel
theorem dL_law_397 : decode cL_law 397 = .ok (.aload_n 0, 1) := by decide +kernel
theorem dL_law_398 : decode cL_law 398 = .ok (.iload 4, 2) := by decide +kernel
theorem dL_law_400 : decode cL_law 400 = .ok (.iconst 1, 1) := by decide +kernel
theorem dL_law_401 : decode cL_law 401 = .ok (.iadd, 1) := by decide +kernel
theorem dL_law_402 : decode cL_law 402 = .ok (.iaload, 1) := by decide +kernel
theorem dL_law_403 : decode cL_law 403 = .ok (.aload_n 0, 1) := by decide +kernel
theorem dL_law_404 : decode cL_law 404 = .ok (.iload 4, 2) := by decide +kernel
theorem dL_law_406 : decode cL_law 406 = .ok (.iconst 2, 1) := by decide +kernel
theorem dL_law_407 : decode cL_law 407 = .ok (.iadd, 1) := by decide +kernel
theorem dL_law_408 : decode cL_law 408 = .ok (.iaload, 1) := by decide +kernel
theorem dL_law_409 : decode cL_law 409 = .ok (.aload_n 3, 1) := by decide +kernel
end
section
theorem dL_law_410 : decode cL_law 410 = .ok (.invokestatic 98, 3) := by decide +kernel
theorem dL_law_413 : decode cL_law 413 = .ok (.istore 5, 2) := by decide +kernel
theorem dL_law_415 : decode cL_law 415 = .ok (.aload_n 2, 1) := by decide +kernel
theorem dL_law_416 : decode cL_law 416 = .ok (.aload_n 0, 1) := by decide +kernel
theorem dL_law_417 : decode cL_law 417 = .ok (.iload 4, 2) := by decide +kernel
theorem dL_law_419 : decode cL_law 419 = .ok (.iconst 1, 1) := by decide +kernel
theorem dL_law_420 : decode cL_law 420 = .ok (.iadd, 1) := by decide +kernel
theorem dL_law_421 : decode cL_law 421 = .ok (.iaload, 1) := by decide +kernel
theorem dL_law_422 : decode cL_law 422 = .ok (.aload_n 0, 1) := by decide +kernel
theorem dL_law_423 : decode cL_law 423 = .ok (.iload 4, 2) := by decide +kernel
theorem dL_law_425 : decode cL_law 425 = .ok (.iconst 2, 1) := by decide +kernel
theorem dL_law_426 : decode cL_law 426 = .ok (.iadd, 1) := by decide +kernel
theorem dL_law_427 : decode cL_law 427 = .ok (.iaload, 1) := by decide +kernel
theorem dL_law_428 : decode cL_law 428 = .ok (.invokevirtual 100, 3) := by decide +kernel
theorem dL_law_431 : decode cL_law 431 = .ok (.istore 6, 2) := by decide +kernel
theorem dL_law_433 : decode cL_law 433 = .ok (.aload_n 2, 1) := by decide +kernel
theorem dL_law_434 : decode cL_law 434 = .ok (.invokevirtual 83, 3) := by decide +kernel
theorem dL_law_437 : decode cL_law 437 = .ok (.iload 5, 2) := by decide +kernel
theorem dL_law_439 : decode cL_law 439 = .ok (.if_icmp .eq 5, 3) := by decide +kernel
theorem dL_law_442 : decode cL_law 442 = .ok (.iconst 0, 1) := by decide +kernel
theorem dL_law_443 : decode cL_law 443 = .ok (.ireturn, 1) := by decide +kernel
theorem dL_law_444 : decode cL_law 444 = .ok (.iload 5, 2) := by decide +kernel
theorem dL_law_446 : decode cL_law 446 = .ok (.ifCond .ne 15, 3) := by decide +kernel
theorem dL_law_449 : decode cL_law 449 = .ok (.aload_n 3, 1) := by decide +kernel
theorem dL_law_450 : decode cL_law 450 = .ok (.iconst 0, 1) := by decide +kernel
theorem dL_law_451 : decode cL_law 451 = .ok (.laload, 1) := by decide +kernel
theorem dL_law_452 : decode cL_law 452 = .ok (.iload 6, 2) := by decide +kernel
theorem dL_law_454 : decode cL_law 454 = .ok (.i2l, 1) := by decide +kernel
theorem dL_law_455 : decode cL_law 455 = .ok (.lcmp, 1) := by decide +kernel
theorem dL_law_456 : decode cL_law 456 = .ok (.ifCond .eq 5, 3) := by decide +kernel
theorem dL_law_459 : decode cL_law 459 = .ok (.iconst 0, 1) := by decide +kernel
theorem dL_law_460 : decode cL_law 460 = .ok (.ireturn, 1) := by decide +kernel
theorem dL_law_461 : decode cL_law 461 = .ok (.goto 918, 3) := by decide +kernel
theorem dL_law_464 : decode cL_law 464 = .ok (.aload_n 1, 1) := by decide +kernel
theorem dL_law_465 : decode cL_law 465 = .ok (.aload_n 0, 1) := by decide +kernel
theorem dL_law_466 : decode cL_law 466 = .ok (.iload 4, 2) := by decide +kernel
theorem dL_law_468 : decode cL_law 468 = .ok (.iconst 1, 1) := by decide +kernel
theorem dL_law_469 : decode cL_law 469 = .ok (.iadd, 1) := by decide +kernel
theorem dL_law_470 : decode cL_law 470 = .ok (.iaload, 1) := by decide +kernel
theorem dL_law_471 : decode cL_law 471 = .ok (.aload_n 0, 1) := by decide +kernel
theorem dL_law_472 : decode cL_law 472 = .ok (.iload 4, 2) := by decide +kernel
theorem dL_law_474 : decode cL_law 474 = .ok (.iconst 2, 1) := by decide +kernel
theorem dL_law_475 : decode cL_law 475 = .ok (.iadd, 1) := by decide +kernel
theorem dL_law_476 : decode cL_law 476 = .ok (.iaload, 1) := by decide +kernel
theorem dL_law_477 : decode cL_law 477 = .ok (.aload_n 3, 1) := by decide +kernel
theorem dL_law_478 : decode cL_law 478 = .ok (.invokestatic 101, 3) := by decide +kernel
theorem dL_law_481 : decode cL_law 481 = .ok (.istore 5, 2) := by decide +kernel
theorem dL_law_483 : decode cL_law 483 = .ok (.aload_n 2, 1) := by decide +kernel
theorem dL_law_484 : decode cL_law 484 = .ok (.aload_n 0, 1) := by decide +kernel
theorem dL_law_485 : decode cL_law 485 = .ok (.iload 4, 2) := by decide +kernel
theorem dL_law_487 : decode cL_law 487 = .ok (.iconst 1, 1) := by decide +kernel
theorem dL_law_488 : decode cL_law 488 = .ok (.iadd, 1) := by decide +kernel
theorem dL_law_489 : decode cL_law 489 = .ok (.iaload, 1) := by decide +kernel
theorem dL_law_490 : decode cL_law 490 = .ok (.aload_n 0, 1) := by decide +kernel
theorem dL_law_491 : decode cL_law 491 = .ok (.iload 4, 2) := by decide +kernel
theorem dL_law_493 : decode cL_law 493 = .ok (.iconst 2, 1) := by decide +kernel
theorem dL_law_494 : decode cL_law 494 = .ok (.iadd, 1) := by decide +kernel
theorem dL_law_495 : decode cL_law 495 = .ok (.iaload, 1) := by decide +kernel
theorem dL_law_496 : decode cL_law 496 = .ok (.invokevirtual 103, 3) := by decide +kernel
theorem dL_law_499 : decode cL_law 499 = .ok (.istore 6, 2) := by decide +kernel
theorem dL_law_501 : decode cL_law 501 = .ok (.aload_n 2, 1) := by decide +kernel
theorem dL_law_502 : decode cL_law 502 = .ok (.invokevirtual 83, 3) := by decide +kernel
theorem dL_law_505 : decode cL_law 505 = .ok (.iload 5, 2) := by decide +kernel
theorem dL_law_507 : decode cL_law 507 = .ok (.if_icmp .eq 5, 3) := by decide +kernel
theorem dL_law_510 : decode cL_law 510 = .ok (.iconst 0, 1) := by decide +kernel
theorem dL_law_511 : decode cL_law 511 = .ok (.ireturn, 1) := by decide +kernel
theorem dL_law_512 : decode cL_law 512 = .ok (.iload 5, 2) := by decide +kernel
theorem dL_law_514 : decode cL_law 514 = .ok (.ifCond .ne 15, 3) := by decide +kernel
theorem dL_law_517 : decode cL_law 517 = .ok (.aload_n 3, 1) := by decide +kernel
theorem dL_law_518 : decode cL_law 518 = .ok (.iconst 0, 1) := by decide +kernel
theorem dL_law_519 : decode cL_law 519 = .ok (.laload, 1) := by decide +kernel
theorem dL_law_520 : decode cL_law 520 = .ok (.iload 6, 2) := by decide +kernel
theorem dL_law_522 : decode cL_law 522 = .ok (.i2l, 1) := by decide +kernel
theorem dL_law_523 : decode cL_law 523 = .ok (.lcmp, 1) := by decide +kernel
theorem dL_law_524 : decode cL_law 524 = .ok (.ifCond .eq 5, 3) := by decide +kernel
theorem dL_law_527 : decode cL_law 527 = .ok (.iconst 0, 1) := by decide +kernel
theorem dL_law_528 : decode cL_law 528 = .ok (.ireturn, 1) := by decide +kernel
theorem dL_law_529 : decode cL_law 529 = .ok (.goto 850, 3) := by decide +kernel
theorem dL_law_532 : decode cL_law 532 = .ok (.aload_n 1, 1) := by decide +kernel
theorem dL_law_533 : decode cL_law 533 = .ok (.aload_n 0, 1) := by decide +kernel
theorem dL_law_534 : decode cL_law 534 = .ok (.iload 4, 2) := by decide +kernel
theorem dL_law_536 : decode cL_law 536 = .ok (.iconst 1, 1) := by decide +kernel
theorem dL_law_537 : decode cL_law 537 = .ok (.iadd, 1) := by decide +kernel
theorem dL_law_538 : decode cL_law 538 = .ok (.iaload, 1) := by decide +kernel
theorem dL_law_539 : decode cL_law 539 = .ok (.aload_n 0, 1) := by decide +kernel
theorem dL_law_540 : decode cL_law 540 = .ok (.iload 4, 2) := by decide +kernel
theorem dL_law_542 : decode cL_law 542 = .ok (.iconst 2, 1) := by decide +kernel
theorem dL_law_543 : decode cL_law 543 = .ok (.iadd, 1) := by decide +kernel
theorem dL_law_544 : decode cL_law 544 = .ok (.iaload, 1) := by decide +kernel
theorem dL_law_545 : decode cL_law 545 = .ok (.aload_n 3, 1) := by decide +kernel
theorem dL_law_546 : decode cL_law 546 = .ok (.invokestatic 104, 3) := by decide +kernel
theorem dL_law_549 : decode cL_law 549 = .ok (.istore 5, 2) := by decide +kernel
theorem dL_law_551 : decode cL_law 551 = .ok (.aload_n 2, 1) := by decide +kernel
theorem dL_law_552 : decode cL_law 552 = .ok (.aload_n 0, 1) := by decide +kernel
theorem dL_law_553 : decode cL_law 553 = .ok (.iload 4, 2) := by decide +kernel
theorem dL_law_555 : decode cL_law 555 = .ok (.iconst 1, 1) := by decide +kernel
theorem dL_law_556 : decode cL_law 556 = .ok (.iadd, 1) := by decide +kernel
theorem dL_law_557 : decode cL_law 557 = .ok (.iaload, 1) := by decide +kernel
theorem dL_law_558 : decode cL_law 558 = .ok (.aload_n 0, 1) := by decide +kernel
theorem dL_law_559 : decode cL_law 559 = .ok (.iload 4, 2) := by decide +kernel
theorem dL_law_561 : decode cL_law 561 = .ok (.iconst 2, 1) := by decide +kernel
theorem dL_law_562 : decode cL_law 562 = .ok (.iadd, 1) := by decide +kernel
theorem dL_law_563 : decode cL_law 563 = .ok (.iaload, 1) := by decide +kernel
theorem dL_law_564 : decode cL_law 564 = .ok (.invokevirtual 106, 3) := by decide +kernel
theorem dL_law_567 : decode cL_law 567 = .ok (.istore 6, 2) := by decide +kernel
theorem dL_law_569 : decode cL_law 569 = .ok (.aload_n 2, 1) := by decide +kernel
theorem dL_law_570 : decode cL_law 570 = .ok (.invokevirtual 83, 3) := by decide +kernel
theorem dL_law_573 : decode cL_law 573 = .ok (.iload 5, 2) := by decide +kernel
theorem dL_law_575 : decode cL_law 575 = .ok (.if_icmp .eq 5, 3) := by decide +kernel
theorem dL_law_578 : decode cL_law 578 = .ok (.iconst 0, 1) := by decide +kernel
theorem dL_law_579 : decode cL_law 579 = .ok (.ireturn, 1) := by decide +kernel
theorem dL_law_580 : decode cL_law 580 = .ok (.iload 5, 2) := by decide +kernel
theorem dL_law_582 : decode cL_law 582 = .ok (.ifCond .ne 15, 3) := by decide +kernel
theorem dL_law_585 : decode cL_law 585 = .ok (.aload_n 3, 1) := by decide +kernel
theorem dL_law_586 : decode cL_law 586 = .ok (.iconst 0, 1) := by decide +kernel
theorem dL_law_587 : decode cL_law 587 = .ok (.laload, 1) := by decide +kernel
theorem dL_law_588 : decode cL_law 588 = .ok (.iload 6, 2) := by decide +kernel
theorem dL_law_590 : decode cL_law 590 = .ok (.i2l, 1) := by decide +kernel
theorem dL_law_591 : decode cL_law 591 = .ok (.lcmp, 1) := by decide +kernel
theorem dL_law_592 : decode cL_law 592 = .ok (.ifCond .eq 5, 3) := by decide +kernel
theorem dL_law_595 : decode cL_law 595 = .ok (.iconst 0, 1) := by decide +kernel
theorem dL_law_596 : decode cL_law 596 = .ok (.ireturn, 1) := by decide +kernel
theorem dL_law_597 : decode cL_law 597 = .ok (.goto 782, 3) := by decide +kernel
theorem dL_law_600 : decode cL_law 600 = .ok (.aload_n 1, 1) := by decide +kernel
theorem dL_law_601 : decode cL_law 601 = .ok (.aload_n 0, 1) := by decide +kernel
theorem dL_law_602 : decode cL_law 602 = .ok (.iload 4, 2) := by decide +kernel
theorem dL_law_604 : decode cL_law 604 = .ok (.iconst 1, 1) := by decide +kernel
theorem dL_law_605 : decode cL_law 605 = .ok (.iadd, 1) := by decide +kernel
theorem dL_law_606 : decode cL_law 606 = .ok (.iaload, 1) := by decide +kernel
theorem dL_law_607 : decode cL_law 607 = .ok (.aload_n 0, 1) := by decide +kernel
theorem dL_law_608 : decode cL_law 608 = .ok (.iload 4, 2) := by decide +kernel
theorem dL_law_610 : decode cL_law 610 = .ok (.iconst 2, 1) := by decide +kernel
theorem dL_law_611 : decode cL_law 611 = .ok (.iadd, 1) := by decide +kernel
theorem dL_law_612 : decode cL_law 612 = .ok (.iaload, 1) := by decide +kernel
theorem dL_law_613 : decode cL_law 613 = .ok (.aload_n 3, 1) := by decide +kernel
theorem dL_law_614 : decode cL_law 614 = .ok (.invokestatic 107, 3) := by decide +kernel
theorem dL_law_617 : decode cL_law 617 = .ok (.istore 5, 2) := by decide +kernel
theorem dL_law_619 : decode cL_law 619 = .ok (.aload_n 2, 1) := by decide +kernel
theorem dL_law_620 : decode cL_law 620 = .ok (.aload_n 0, 1) := by decide +kernel
theorem dL_law_621 : decode cL_law 621 = .ok (.iload 4, 2) := by decide +kernel
theorem dL_law_623 : decode cL_law 623 = .ok (.iconst 1, 1) := by decide +kernel
theorem dL_law_624 : decode cL_law 624 = .ok (.iadd, 1) := by decide +kernel
theorem dL_law_625 : decode cL_law 625 = .ok (.iaload, 1) := by decide +kernel
theorem dL_law_626 : decode cL_law 626 = .ok (.aload_n 0, 1) := by decide +kernel
theorem dL_law_627 : decode cL_law 627 = .ok (.iload 4, 2) := by decide +kernel
theorem dL_law_629 : decode cL_law 629 = .ok (.iconst 2, 1) := by decide +kernel
theorem dL_law_630 : decode cL_law 630 = .ok (.iadd, 1) := by decide +kernel
theorem dL_law_631 : decode cL_law 631 = .ok (.iaload, 1) := by decide +kernel
theorem dL_law_632 : decode cL_law 632 = .ok (.invokevirtual 109, 3) := by decide +kernel
theorem dL_law_635 : decode cL_law 635 = .ok (.istore 6, 2) := by decide +kernel
theorem dL_law_637 : decode cL_law 637 = .ok (.aload_n 2, 1) := by decide +kernel
theorem dL_law_638 : decode cL_law 638 = .ok (.invokevirtual 83, 3) := by decide +kernel
theorem dL_law_641 : decode cL_law 641 = .ok (.iload 5, 2) := by decide +kernel
theorem dL_law_643 : decode cL_law 643 = .ok (.if_icmp .eq 5, 3) := by decide +kernel
theorem dL_law_646 : decode cL_law 646 = .ok (.iconst 0, 1) := by decide +kernel
theorem dL_law_647 : decode cL_law 647 = .ok (.ireturn, 1) := by decide +kernel
theorem dL_law_648 : decode cL_law 648 = .ok (.iload 5, 2) := by decide +kernel
theorem dL_law_650 : decode cL_law 650 = .ok (.ifCond .ne 15, 3) := by decide +kernel
theorem dL_law_653 : decode cL_law 653 = .ok (.aload_n 3, 1) := by decide +kernel
theorem dL_law_654 : decode cL_law 654 = .ok (.iconst 0, 1) := by decide +kernel
theorem dL_law_655 : decode cL_law 655 = .ok (.laload, 1) := by decide +kernel
theorem dL_law_656 : decode cL_law 656 = .ok (.iload 6, 2) := by decide +kernel
theorem dL_law_658 : decode cL_law 658 = .ok (.i2l, 1) := by decide +kernel
theorem dL_law_659 : decode cL_law 659 = .ok (.lcmp, 1) := by decide +kernel
theorem dL_law_660 : decode cL_law 660 = .ok (.ifCond .eq 5, 3) := by decide +kernel
theorem dL_law_663 : decode cL_law 663 = .ok (.iconst 0, 1) := by decide +kernel
theorem dL_law_664 : decode cL_law 664 = .ok (.ireturn, 1) := by decide +kernel
theorem dL_law_665 : decode cL_law 665 = .ok (.goto 714, 3) := by decide +kernel
theorem dL_law_668 : decode cL_law 668 = .ok (.aload_n 1, 1) := by decide +kernel
theorem dL_law_669 : decode cL_law 669 = .ok (.aload_n 0, 1) := by decide +kernel
theorem dL_law_670 : decode cL_law 670 = .ok (.iload 4, 2) := by decide +kernel
theorem dL_law_672 : decode cL_law 672 = .ok (.iconst 1, 1) := by decide +kernel
theorem dL_law_673 : decode cL_law 673 = .ok (.iadd, 1) := by decide +kernel
theorem dL_law_674 : decode cL_law 674 = .ok (.iaload, 1) := by decide +kernel
theorem dL_law_675 : decode cL_law 675 = .ok (.aload_n 3, 1) := by decide +kernel
theorem dL_law_676 : decode cL_law 676 = .ok (.invokestatic 110, 3) := by decide +kernel
theorem dL_law_679 : decode cL_law 679 = .ok (.istore 5, 2) := by decide +kernel
theorem dL_law_681 : decode cL_law 681 = .ok (.aload_n 2, 1) := by decide +kernel
theorem dL_law_682 : decode cL_law 682 = .ok (.aload_n 0, 1) := by decide +kernel
theorem dL_law_683 : decode cL_law 683 = .ok (.iload 4, 2) := by decide +kernel
theorem dL_law_685 : decode cL_law 685 = .ok (.iconst 1, 1) := by decide +kernel
theorem dL_law_686 : decode cL_law 686 = .ok (.iadd, 1) := by decide +kernel
theorem dL_law_687 : decode cL_law 687 = .ok (.iaload, 1) := by decide +kernel
theorem dL_law_688 : decode cL_law 688 = .ok (.invokevirtual 112, 3) := by decide +kernel
theorem dL_law_691 : decode cL_law 691 = .ok (.istore 6, 2) := by decide +kernel
theorem dL_law_693 : decode cL_law 693 = .ok (.aload_n 2, 1) := by decide +kernel
theorem dL_law_694 : decode cL_law 694 = .ok (.invokevirtual 83, 3) := by decide +kernel
theorem dL_law_697 : decode cL_law 697 = .ok (.iload 5, 2) := by decide +kernel
theorem dL_law_699 : decode cL_law 699 = .ok (.if_icmp .eq 5, 3) := by decide +kernel
theorem dL_law_702 : decode cL_law 702 = .ok (.iconst 0, 1) := by decide +kernel
theorem dL_law_703 : decode cL_law 703 = .ok (.ireturn, 1) := by decide +kernel
theorem dL_law_704 : decode cL_law 704 = .ok (.iload 5, 2) := by decide +kernel
theorem dL_law_706 : decode cL_law 706 = .ok (.ifCond .ne 15, 3) := by decide +kernel
theorem dL_law_709 : decode cL_law 709 = .ok (.aload_n 3, 1) := by decide +kernel
theorem dL_law_710 : decode cL_law 710 = .ok (.iconst 0, 1) := by decide +kernel
theorem dL_law_711 : decode cL_law 711 = .ok (.laload, 1) := by decide +kernel
theorem dL_law_712 : decode cL_law 712 = .ok (.iload 6, 2) := by decide +kernel
theorem dL_law_714 : decode cL_law 714 = .ok (.i2l, 1) := by decide +kernel
theorem dL_law_715 : decode cL_law 715 = .ok (.lcmp, 1) := by decide +kernel
theorem dL_law_716 : decode cL_law 716 = .ok (.ifCond .eq 5, 3) := by decide +kernel
theorem dL_law_719 : decode cL_law 719 = .ok (.iconst 0, 1) := by decide +kernel
theorem dL_law_720 : decode cL_law 720 = .ok (.ireturn, 1) := by decide +kernel
theorem dL_law_721 : decode cL_law 721 = .ok (.goto 658, 3) := by decide +kernel
theorem dL_law_724 : decode cL_law 724 = .ok (.aload_n 1, 1) := by decide +kernel
theorem dL_law_725 : decode cL_law 725 = .ok (.aload_n 0, 1) := by decide +kernel
theorem dL_law_726 : decode cL_law 726 = .ok (.iload 4, 2) := by decide +kernel
theorem dL_law_728 : decode cL_law 728 = .ok (.iconst 1, 1) := by decide +kernel
theorem dL_law_729 : decode cL_law 729 = .ok (.iadd, 1) := by decide +kernel
theorem dL_law_730 : decode cL_law 730 = .ok (.iaload, 1) := by decide +kernel
theorem dL_law_731 : decode cL_law 731 = .ok (.aload_n 0, 1) := by decide +kernel
theorem dL_law_732 : decode cL_law 732 = .ok (.iload 4, 2) := by decide +kernel
theorem dL_law_734 : decode cL_law 734 = .ok (.iconst 2, 1) := by decide +kernel
theorem dL_law_735 : decode cL_law 735 = .ok (.iadd, 1) := by decide +kernel
theorem dL_law_736 : decode cL_law 736 = .ok (.iaload, 1) := by decide +kernel
theorem dL_law_737 : decode cL_law 737 = .ok (.aload_n 3, 1) := by decide +kernel
theorem dL_law_738 : decode cL_law 738 = .ok (.invokestatic 113, 3) := by decide +kernel
theorem dL_law_741 : decode cL_law 741 = .ok (.istore 5, 2) := by decide +kernel
theorem dL_law_743 : decode cL_law 743 = .ok (.aload_n 2, 1) := by decide +kernel
theorem dL_law_744 : decode cL_law 744 = .ok (.aload_n 0, 1) := by decide +kernel
theorem dL_law_745 : decode cL_law 745 = .ok (.iload 4, 2) := by decide +kernel
theorem dL_law_747 : decode cL_law 747 = .ok (.iconst 1, 1) := by decide +kernel
theorem dL_law_748 : decode cL_law 748 = .ok (.iadd, 1) := by decide +kernel
theorem dL_law_749 : decode cL_law 749 = .ok (.iaload, 1) := by decide +kernel
theorem dL_law_750 : decode cL_law 750 = .ok (.aload_n 0, 1) := by decide +kernel
theorem dL_law_751 : decode cL_law 751 = .ok (.iload 4, 2) := by decide +kernel
theorem dL_law_753 : decode cL_law 753 = .ok (.iconst 2, 1) := by decide +kernel
theorem dL_law_754 : decode cL_law 754 = .ok (.iadd, 1) := by decide +kernel
theorem dL_law_755 : decode cL_law 755 = .ok (.iaload, 1) := by decide +kernel
theorem dL_law_756 : decode cL_law 756 = .ok (.invokevirtual 115, 3) := by decide +kernel
theorem dL_law_759 : decode cL_law 759 = .ok (.istore 6, 2) := by decide +kernel
theorem dL_law_761 : decode cL_law 761 = .ok (.aload_n 2, 1) := by decide +kernel
theorem dL_law_762 : decode cL_law 762 = .ok (.invokevirtual 83, 3) := by decide +kernel
theorem dL_law_765 : decode cL_law 765 = .ok (.iload 5, 2) := by decide +kernel
theorem dL_law_767 : decode cL_law 767 = .ok (.if_icmp .eq 5, 3) := by decide +kernel
theorem dL_law_770 : decode cL_law 770 = .ok (.iconst 0, 1) := by decide +kernel
theorem dL_law_771 : decode cL_law 771 = .ok (.ireturn, 1) := by decide +kernel
theorem dL_law_772 : decode cL_law 772 = .ok (.iload 5, 2) := by decide +kernel
theorem dL_law_774 : decode cL_law 774 = .ok (.ifCond .ne 15, 3) := by decide +kernel
theorem dL_law_777 : decode cL_law 777 = .ok (.aload_n 3, 1) := by decide +kernel
theorem dL_law_778 : decode cL_law 778 = .ok (.iconst 0, 1) := by decide +kernel
theorem dL_law_779 : decode cL_law 779 = .ok (.laload, 1) := by decide +kernel
theorem dL_law_780 : decode cL_law 780 = .ok (.iload 6, 2) := by decide +kernel
theorem dL_law_782 : decode cL_law 782 = .ok (.i2l, 1) := by decide +kernel
theorem dL_law_783 : decode cL_law 783 = .ok (.lcmp, 1) := by decide +kernel
theorem dL_law_784 : decode cL_law 784 = .ok (.ifCond .eq 5, 3) := by decide +kernel
theorem dL_law_787 : decode cL_law 787 = .ok (.iconst 0, 1) := by decide +kernel
theorem dL_law_788 : decode cL_law 788 = .ok (.ireturn, 1) := by decide +kernel
theorem dL_law_789 : decode cL_law 789 = .ok (.goto 590, 3) := by decide +kernel
theorem dL_law_792 : decode cL_law 792 = .ok (.aload_n 1, 1) := by decide +kernel
theorem dL_law_793 : decode cL_law 793 = .ok (.aload_n 0, 1) := by decide +kernel
theorem dL_law_794 : decode cL_law 794 = .ok (.iload 4, 2) := by decide +kernel
theorem dL_law_796 : decode cL_law 796 = .ok (.iconst 1, 1) := by decide +kernel
theorem dL_law_797 : decode cL_law 797 = .ok (.iadd, 1) := by decide +kernel
theorem dL_law_798 : decode cL_law 798 = .ok (.iaload, 1) := by decide +kernel
theorem dL_law_799 : decode cL_law 799 = .ok (.aload_n 0, 1) := by decide +kernel
theorem dL_law_800 : decode cL_law 800 = .ok (.iload 4, 2) := by decide +kernel
theorem dL_law_802 : decode cL_law 802 = .ok (.iconst 2, 1) := by decide +kernel
theorem dL_law_803 : decode cL_law 803 = .ok (.iadd, 1) := by decide +kernel
theorem dL_law_804 : decode cL_law 804 = .ok (.iaload, 1) := by decide +kernel
theorem dL_law_805 : decode cL_law 805 = .ok (.aload_n 0, 1) := by decide +kernel
theorem dL_law_806 : decode cL_law 806 = .ok (.iload 4, 2) := by decide +kernel
theorem dL_law_808 : decode cL_law 808 = .ok (.iconst 3, 1) := by decide +kernel
theorem dL_law_809 : decode cL_law 809 = .ok (.iadd, 1) := by decide +kernel
theorem dL_law_810 : decode cL_law 810 = .ok (.iaload, 1) := by decide +kernel
theorem dL_law_811 : decode cL_law 811 = .ok (.aload_n 3, 1) := by decide +kernel
theorem dL_law_812 : decode cL_law 812 = .ok (.invokestatic 116, 3) := by decide +kernel
theorem dL_law_815 : decode cL_law 815 = .ok (.istore 5, 2) := by decide +kernel
theorem dL_law_817 : decode cL_law 817 = .ok (.aload_n 2, 1) := by decide +kernel
theorem dL_law_818 : decode cL_law 818 = .ok (.aload_n 0, 1) := by decide +kernel
theorem dL_law_819 : decode cL_law 819 = .ok (.iload 4, 2) := by decide +kernel
theorem dL_law_821 : decode cL_law 821 = .ok (.iconst 1, 1) := by decide +kernel
theorem dL_law_822 : decode cL_law 822 = .ok (.iadd, 1) := by decide +kernel
theorem dL_law_823 : decode cL_law 823 = .ok (.iaload, 1) := by decide +kernel
theorem dL_law_824 : decode cL_law 824 = .ok (.aload_n 0, 1) := by decide +kernel
theorem dL_law_825 : decode cL_law 825 = .ok (.iload 4, 2) := by decide +kernel
theorem dL_law_827 : decode cL_law 827 = .ok (.iconst 2, 1) := by decide +kernel
theorem dL_law_828 : decode cL_law 828 = .ok (.iadd, 1) := by decide +kernel
theorem dL_law_829 : decode cL_law 829 = .ok (.iaload, 1) := by decide +kernel
theorem dL_law_830 : decode cL_law 830 = .ok (.aload_n 0, 1) := by decide +kernel
theorem dL_law_831 : decode cL_law 831 = .ok (.iload 4, 2) := by decide +kernel
theorem dL_law_833 : decode cL_law 833 = .ok (.iconst 3, 1) := by decide +kernel
theorem dL_law_834 : decode cL_law 834 = .ok (.iadd, 1) := by decide +kernel
theorem dL_law_835 : decode cL_law 835 = .ok (.iaload, 1) := by decide +kernel
theorem dL_law_836 : decode cL_law 836 = .ok (.invokevirtual 119, 3) := by decide +kernel
theorem dL_law_839 : decode cL_law 839 = .ok (.istore 6, 2) := by decide +kernel
theorem dL_law_841 : decode cL_law 841 = .ok (.aload_n 2, 1) := by decide +kernel
theorem dL_law_842 : decode cL_law 842 = .ok (.invokevirtual 83, 3) := by decide +kernel
theorem dL_law_845 : decode cL_law 845 = .ok (.iload 5, 2) := by decide +kernel
theorem dL_law_847 : decode cL_law 847 = .ok (.if_icmp .eq 5, 3) := by decide +kernel
theorem dL_law_850 : decode cL_law 850 = .ok (.iconst 0, 1) := by decide +kernel
theorem dL_law_851 : decode cL_law 851 = .ok (.ireturn, 1) := by decide +kernel
theorem dL_law_852 : decode cL_law 852 = .ok (.iload 5, 2) := by decide +kernel
theorem dL_law_854 : decode cL_law 854 = .ok (.ifCond .ne 15, 3) := by decide +kernel
theorem dL_law_857 : decode cL_law 857 = .ok (.aload_n 3, 1) := by decide +kernel
theorem dL_law_858 : decode cL_law 858 = .ok (.iconst 0, 1) := by decide +kernel
theorem dL_law_859 : decode cL_law 859 = .ok (.laload, 1) := by decide +kernel
theorem dL_law_860 : decode cL_law 860 = .ok (.iload 6, 2) := by decide +kernel
theorem dL_law_862 : decode cL_law 862 = .ok (.i2l, 1) := by decide +kernel
theorem dL_law_863 : decode cL_law 863 = .ok (.lcmp, 1) := by decide +kernel
theorem dL_law_864 : decode cL_law 864 = .ok (.ifCond .eq 5, 3) := by decide +kernel
theorem dL_law_867 : decode cL_law 867 = .ok (.iconst 0, 1) := by decide +kernel
theorem dL_law_868 : decode cL_law 868 = .ok (.ireturn, 1) := by decide +kernel
theorem dL_law_869 : decode cL_law 869 = .ok (.goto 510, 3) := by decide +kernel
theorem dL_law_872 : decode cL_law 872 = .ok (.aload_n 1, 1) := by decide +kernel
theorem dL_law_873 : decode cL_law 873 = .ok (.aload_n 0, 1) := by decide +kernel
theorem dL_law_874 : decode cL_law 874 = .ok (.iload 4, 2) := by decide +kernel
theorem dL_law_876 : decode cL_law 876 = .ok (.iconst 1, 1) := by decide +kernel
theorem dL_law_877 : decode cL_law 877 = .ok (.iadd, 1) := by decide +kernel
theorem dL_law_878 : decode cL_law 878 = .ok (.iaload, 1) := by decide +kernel
theorem dL_law_879 : decode cL_law 879 = .ok (.aload_n 0, 1) := by decide +kernel
theorem dL_law_880 : decode cL_law 880 = .ok (.iload 4, 2) := by decide +kernel
theorem dL_law_882 : decode cL_law 882 = .ok (.iconst 2, 1) := by decide +kernel
theorem dL_law_883 : decode cL_law 883 = .ok (.iadd, 1) := by decide +kernel
theorem dL_law_884 : decode cL_law 884 = .ok (.iaload, 1) := by decide +kernel
theorem dL_law_885 : decode cL_law 885 = .ok (.aload_n 3, 1) := by decide +kernel
theorem dL_law_886 : decode cL_law 886 = .ok (.invokestatic 120, 3) := by decide +kernel
theorem dL_law_889 : decode cL_law 889 = .ok (.istore 5, 2) := by decide +kernel
theorem dL_law_891 : decode cL_law 891 = .ok (.aload_n 2, 1) := by decide +kernel
theorem dL_law_892 : decode cL_law 892 = .ok (.aload_n 0, 1) := by decide +kernel
theorem dL_law_893 : decode cL_law 893 = .ok (.iload 4, 2) := by decide +kernel
theorem dL_law_895 : decode cL_law 895 = .ok (.iconst 1, 1) := by decide +kernel
theorem dL_law_896 : decode cL_law 896 = .ok (.iadd, 1) := by decide +kernel
theorem dL_law_897 : decode cL_law 897 = .ok (.iaload, 1) := by decide +kernel
theorem dL_law_898 : decode cL_law 898 = .ok (.aload_n 0, 1) := by decide +kernel
theorem dL_law_899 : decode cL_law 899 = .ok (.iload 4, 2) := by decide +kernel
theorem dL_law_901 : decode cL_law 901 = .ok (.iconst 2, 1) := by decide +kernel
theorem dL_law_902 : decode cL_law 902 = .ok (.iadd, 1) := by decide +kernel
theorem dL_law_903 : decode cL_law 903 = .ok (.iaload, 1) := by decide +kernel
theorem dL_law_904 : decode cL_law 904 = .ok (.invokevirtual 122, 3) := by decide +kernel
theorem dL_law_907 : decode cL_law 907 = .ok (.istore 6, 2) := by decide +kernel
theorem dL_law_909 : decode cL_law 909 = .ok (.aload_n 2, 1) := by decide +kernel
theorem dL_law_910 : decode cL_law 910 = .ok (.invokevirtual 83, 3) := by decide +kernel
theorem dL_law_913 : decode cL_law 913 = .ok (.iload 5, 2) := by decide +kernel
theorem dL_law_915 : decode cL_law 915 = .ok (.if_icmp .eq 5, 3) := by decide +kernel
theorem dL_law_918 : decode cL_law 918 = .ok (.iconst 0, 1) := by decide +kernel
theorem dL_law_919 : decode cL_law 919 = .ok (.ireturn, 1) := by decide +kernel
theorem dL_law_920 : decode cL_law 920 = .ok (.iload 5, 2) := by decide +kernel
theorem dL_law_922 : decode cL_law 922 = .ok (.ifCond .ne 15, 3) := by decide +kernel
theorem dL_law_925 : decode cL_law 925 = .ok (.aload_n 3, 1) := by decide +kernel
theorem dL_law_926 : decode cL_law 926 = .ok (.iconst 0, 1) := by decide +kernel
theorem dL_law_927 : decode cL_law 927 = .ok (.laload, 1) := by decide +kernel
theorem dL_law_928 : decode cL_law 928 = .ok (.iload 6, 2) := by decide +kernel
theorem dL_law_930 : decode cL_law 930 = .ok (.i2l, 1) := by decide +kernel
theorem dL_law_931 : decode cL_law 931 = .ok (.lcmp, 1) := by decide +kernel
theorem dL_law_932 : decode cL_law 932 = .ok (.ifCond .eq 5, 3) := by decide +kernel
theorem dL_law_935 : decode cL_law 935 = .ok (.iconst 0, 1) := by decide +kernel
theorem dL_law_936 : decode cL_law 936 = .ok (.ireturn, 1) := by decide +kernel
theorem dL_law_937 : decode cL_law 937 = .ok (.goto 442, 3) := by decide +kernel
theorem dL_law_940 : decode cL_law 940 = .ok (.aload_n 1, 1) := by decide +kernel
theorem dL_law_941 : decode cL_law 941 = .ok (.aload_n 0, 1) := by decide +kernel
theorem dL_law_942 : decode cL_law 942 = .ok (.iload 4, 2) := by decide +kernel
theorem dL_law_944 : decode cL_law 944 = .ok (.iconst 1, 1) := by decide +kernel
theorem dL_law_945 : decode cL_law 945 = .ok (.iadd, 1) := by decide +kernel
theorem dL_law_946 : decode cL_law 946 = .ok (.iaload, 1) := by decide +kernel
theorem dL_law_947 : decode cL_law 947 = .ok (.aload_n 3, 1) := by decide +kernel
theorem dL_law_948 : decode cL_law 948 = .ok (.invokestatic 123, 3) := by decide +kernel
theorem dL_law_951 : decode cL_law 951 = .ok (.istore 5, 2) := by decide +kernel
theorem dL_law_953 : decode cL_law 953 = .ok (.aload_n 2, 1) := by decide +kernel
theorem dL_law_954 : decode cL_law 954 = .ok (.aload_n 0, 1) := by decide +kernel
theorem dL_law_955 : decode cL_law 955 = .ok (.iload 4, 2) := by decide +kernel
theorem dL_law_957 : decode cL_law 957 = .ok (.iconst 1, 1) := by decide +kernel
theorem dL_law_958 : decode cL_law 958 = .ok (.iadd, 1) := by decide +kernel
theorem dL_law_959 : decode cL_law 959 = .ok (.iaload, 1) := by decide +kernel
theorem dL_law_960 : decode cL_law 960 = .ok (.invokevirtual 125, 3) := by decide +kernel
theorem dL_law_963 : decode cL_law 963 = .ok (.istore 6, 2) := by decide +kernel
theorem dL_law_965 : decode cL_law 965 = .ok (.aload_n 2, 1) := by decide +kernel
theorem dL_law_966 : decode cL_law 966 = .ok (.invokevirtual 83, 3) := by decide +kernel
theorem dL_law_969 : decode cL_law 969 = .ok (.iload 5, 2) := by decide +kernel
theorem dL_law_971 : decode cL_law 971 = .ok (.if_icmp .eq 5, 3) := by decide +kernel
theorem dL_law_974 : decode cL_law 974 = .ok (.iconst 0, 1) := by decide +kernel
theorem dL_law_975 : decode cL_law 975 = .ok (.ireturn, 1) := by decide +kernel
theorem dL_law_976 : decode cL_law 976 = .ok (.iload 5, 2) := by decide +kernel
theorem dL_law_978 : decode cL_law 978 = .ok (.ifCond .ne 15, 3) := by decide +kernel
theorem dL_law_981 : decode cL_law 981 = .ok (.aload_n 3, 1) := by decide +kernel
theorem dL_law_982 : decode cL_law 982 = .ok (.iconst 0, 1) := by decide +kernel
theorem dL_law_983 : decode cL_law 983 = .ok (.laload, 1) := by decide +kernel
theorem dL_law_984 : decode cL_law 984 = .ok (.iload 6, 2) := by decide +kernel
theorem dL_law_986 : decode cL_law 986 = .ok (.i2l, 1) := by decide +kernel
theorem dL_law_987 : decode cL_law 987 = .ok (.lcmp, 1) := by decide +kernel
theorem dL_law_988 : decode cL_law 988 = .ok (.ifCond .eq 5, 3) := by decide +kernel
theorem dL_law_991 : decode cL_law 991 = .ok (.iconst 0, 1) := by decide +kernel
theorem dL_law_992 : decode cL_law 992 = .ok (.ireturn, 1) := by decide +kernel
theorem dL_law_993 : decode cL_law 993 = .ok (.goto 386, 3) := by decide +kernel
theorem dL_law_996 : decode cL_law 996 = .ok (.aload_n 1, 1) := by decide +kernel
theorem dL_law_997 : decode cL_law 997 = .ok (.aload_n 0, 1) := by decide +kernel
theorem dL_law_998 : decode cL_law 998 = .ok (.iload 4, 2) := by decide +kernel
theorem dL_law_1000 : decode cL_law 1000 = .ok (.iconst 1, 1) := by decide +kernel
theorem dL_law_1001 : decode cL_law 1001 = .ok (.iadd, 1) := by decide +kernel
theorem dL_law_1002 : decode cL_law 1002 = .ok (.iaload, 1) := by decide +kernel
theorem dL_law_1003 : decode cL_law 1003 = .ok (.aload_n 0, 1) := by decide +kernel
theorem dL_law_1004 : decode cL_law 1004 = .ok (.iload 4, 2) := by decide +kernel
theorem dL_law_1006 : decode cL_law 1006 = .ok (.iconst 2, 1) := by decide +kernel
theorem dL_law_1007 : decode cL_law 1007 = .ok (.iadd, 1) := by decide +kernel
theorem dL_law_1008 : decode cL_law 1008 = .ok (.iaload, 1) := by decide +kernel
theorem dL_law_1009 : decode cL_law 1009 = .ok (.aload_n 0, 1) := by decide +kernel
theorem dL_law_1010 : decode cL_law 1010 = .ok (.iload 4, 2) := by decide +kernel
theorem dL_law_1012 : decode cL_law 1012 = .ok (.iconst 3, 1) := by decide +kernel
theorem dL_law_1013 : decode cL_law 1013 = .ok (.iadd, 1) := by decide +kernel
theorem dL_law_1014 : decode cL_law 1014 = .ok (.iaload, 1) := by decide +kernel
theorem dL_law_1015 : decode cL_law 1015 = .ok (.aload_n 3, 1) := by decide +kernel
theorem dL_law_1016 : decode cL_law 1016 = .ok (.invokestatic 126, 3) := by decide +kernel
theorem dL_law_1019 : decode cL_law 1019 = .ok (.istore 5, 2) := by decide +kernel
theorem dL_law_1021 : decode cL_law 1021 = .ok (.aload_n 2, 1) := by decide +kernel
theorem dL_law_1022 : decode cL_law 1022 = .ok (.aload_n 0, 1) := by decide +kernel
theorem dL_law_1023 : decode cL_law 1023 = .ok (.iload 4, 2) := by decide +kernel
theorem dL_law_1025 : decode cL_law 1025 = .ok (.iconst 1, 1) := by decide +kernel
theorem dL_law_1026 : decode cL_law 1026 = .ok (.iadd, 1) := by decide +kernel
theorem dL_law_1027 : decode cL_law 1027 = .ok (.iaload, 1) := by decide +kernel
theorem dL_law_1028 : decode cL_law 1028 = .ok (.aload_n 0, 1) := by decide +kernel
theorem dL_law_1029 : decode cL_law 1029 = .ok (.iload 4, 2) := by decide +kernel
theorem dL_law_1031 : decode cL_law 1031 = .ok (.iconst 2, 1) := by decide +kernel
theorem dL_law_1032 : decode cL_law 1032 = .ok (.iadd, 1) := by decide +kernel
theorem dL_law_1033 : decode cL_law 1033 = .ok (.iaload, 1) := by decide +kernel
theorem dL_law_1034 : decode cL_law 1034 = .ok (.aload_n 0, 1) := by decide +kernel
theorem dL_law_1035 : decode cL_law 1035 = .ok (.iload 4, 2) := by decide +kernel
theorem dL_law_1037 : decode cL_law 1037 = .ok (.iconst 3, 1) := by decide +kernel
theorem dL_law_1038 : decode cL_law 1038 = .ok (.iadd, 1) := by decide +kernel
theorem dL_law_1039 : decode cL_law 1039 = .ok (.iaload, 1) := by decide +kernel
theorem dL_law_1040 : decode cL_law 1040 = .ok (.invokevirtual 128, 3) := by decide +kernel
theorem dL_law_1043 : decode cL_law 1043 = .ok (.istore 6, 2) := by decide +kernel
theorem dL_law_1045 : decode cL_law 1045 = .ok (.aload_n 2, 1) := by decide +kernel
theorem dL_law_1046 : decode cL_law 1046 = .ok (.invokevirtual 83, 3) := by decide +kernel
theorem dL_law_1049 : decode cL_law 1049 = .ok (.iload 5, 2) := by decide +kernel
theorem dL_law_1051 : decode cL_law 1051 = .ok (.if_icmp .eq 5, 3) := by decide +kernel
theorem dL_law_1054 : decode cL_law 1054 = .ok (.iconst 0, 1) := by decide +kernel
theorem dL_law_1055 : decode cL_law 1055 = .ok (.ireturn, 1) := by decide +kernel
theorem dL_law_1056 : decode cL_law 1056 = .ok (.iload 5, 2) := by decide +kernel
theorem dL_law_1058 : decode cL_law 1058 = .ok (.ifCond .ne 15, 3) := by decide +kernel
theorem dL_law_1061 : decode cL_law 1061 = .ok (.aload_n 3, 1) := by decide +kernel
theorem dL_law_1062 : decode cL_law 1062 = .ok (.iconst 0, 1) := by decide +kernel
theorem dL_law_1063 : decode cL_law 1063 = .ok (.laload, 1) := by decide +kernel
theorem dL_law_1064 : decode cL_law 1064 = .ok (.iload 6, 2) := by decide +kernel
theorem dL_law_1066 : decode cL_law 1066 = .ok (.i2l, 1) := by decide +kernel
theorem dL_law_1067 : decode cL_law 1067 = .ok (.lcmp, 1) := by decide +kernel
theorem dL_law_1068 : decode cL_law 1068 = .ok (.ifCond .eq 5, 3) := by decide +kernel
theorem dL_law_1071 : decode cL_law 1071 = .ok (.iconst 0, 1) := by decide +kernel
theorem dL_law_1072 : decode cL_law 1072 = .ok (.ireturn, 1) := by decide +kernel
theorem dL_law_1073 : decode cL_law 1073 = .ok (.goto 306, 3) := by decide +kernel
theorem dL_law_1076 : decode cL_law 1076 = .ok (.aload_n 1, 1) := by decide +kernel
theorem dL_law_1077 : decode cL_law 1077 = .ok (.aload_n 0, 1) := by decide +kernel
theorem dL_law_1078 : decode cL_law 1078 = .ok (.iload 4, 2) := by decide +kernel
theorem dL_law_1080 : decode cL_law 1080 = .ok (.iconst 1, 1) := by decide +kernel
theorem dL_law_1081 : decode cL_law 1081 = .ok (.iadd, 1) := by decide +kernel
theorem dL_law_1082 : decode cL_law 1082 = .ok (.iaload, 1) := by decide +kernel
theorem dL_law_1083 : decode cL_law 1083 = .ok (.aload_n 0, 1) := by decide +kernel
theorem dL_law_1084 : decode cL_law 1084 = .ok (.iload 4, 2) := by decide +kernel
theorem dL_law_1086 : decode cL_law 1086 = .ok (.iconst 2, 1) := by decide +kernel
theorem dL_law_1087 : decode cL_law 1087 = .ok (.iadd, 1) := by decide +kernel
theorem dL_law_1088 : decode cL_law 1088 = .ok (.iaload, 1) := by decide +kernel
theorem dL_law_1089 : decode cL_law 1089 = .ok (.aload_n 3, 1) := by decide +kernel
theorem dL_law_1090 : decode cL_law 1090 = .ok (.invokestatic 129, 3) := by decide +kernel
theorem dL_law_1093 : decode cL_law 1093 = .ok (.istore 5, 2) := by decide +kernel
theorem dL_law_1095 : decode cL_law 1095 = .ok (.aload_n 2, 1) := by decide +kernel
theorem dL_law_1096 : decode cL_law 1096 = .ok (.aload_n 0, 1) := by decide +kernel
theorem dL_law_1097 : decode cL_law 1097 = .ok (.iload 4, 2) := by decide +kernel
theorem dL_law_1099 : decode cL_law 1099 = .ok (.iconst 1, 1) := by decide +kernel
theorem dL_law_1100 : decode cL_law 1100 = .ok (.iadd, 1) := by decide +kernel
theorem dL_law_1101 : decode cL_law 1101 = .ok (.iaload, 1) := by decide +kernel
theorem dL_law_1102 : decode cL_law 1102 = .ok (.aload_n 0, 1) := by decide +kernel
theorem dL_law_1103 : decode cL_law 1103 = .ok (.iload 4, 2) := by decide +kernel
theorem dL_law_1105 : decode cL_law 1105 = .ok (.iconst 2, 1) := by decide +kernel
theorem dL_law_1106 : decode cL_law 1106 = .ok (.iadd, 1) := by decide +kernel
theorem dL_law_1107 : decode cL_law 1107 = .ok (.iaload, 1) := by decide +kernel
theorem dL_law_1108 : decode cL_law 1108 = .ok (.invokevirtual 131, 3) := by decide +kernel
theorem dL_law_1111 : decode cL_law 1111 = .ok (.istore 6, 2) := by decide +kernel
theorem dL_law_1113 : decode cL_law 1113 = .ok (.aload_n 2, 1) := by decide +kernel
theorem dL_law_1114 : decode cL_law 1114 = .ok (.invokevirtual 83, 3) := by decide +kernel
theorem dL_law_1117 : decode cL_law 1117 = .ok (.iload 5, 2) := by decide +kernel
theorem dL_law_1119 : decode cL_law 1119 = .ok (.if_icmp .eq 5, 3) := by decide +kernel
theorem dL_law_1122 : decode cL_law 1122 = .ok (.iconst 0, 1) := by decide +kernel
theorem dL_law_1123 : decode cL_law 1123 = .ok (.ireturn, 1) := by decide +kernel
theorem dL_law_1124 : decode cL_law 1124 = .ok (.iload 5, 2) := by decide +kernel
theorem dL_law_1126 : decode cL_law 1126 = .ok (.ifCond .ne 15, 3) := by decide +kernel
theorem dL_law_1129 : decode cL_law 1129 = .ok (.aload_n 3, 1) := by decide +kernel
theorem dL_law_1130 : decode cL_law 1130 = .ok (.iconst 0, 1) := by decide +kernel
theorem dL_law_1131 : decode cL_law 1131 = .ok (.laload, 1) := by decide +kernel
theorem dL_law_1132 : decode cL_law 1132 = .ok (.iload 6, 2) := by decide +kernel
theorem dL_law_1134 : decode cL_law 1134 = .ok (.i2l, 1) := by decide +kernel
theorem dL_law_1135 : decode cL_law 1135 = .ok (.lcmp, 1) := by decide +kernel
theorem dL_law_1136 : decode cL_law 1136 = .ok (.ifCond .eq 5, 3) := by decide +kernel
theorem dL_law_1139 : decode cL_law 1139 = .ok (.iconst 0, 1) := by decide +kernel
theorem dL_law_1140 : decode cL_law 1140 = .ok (.ireturn, 1) := by decide +kernel
theorem dL_law_1141 : decode cL_law 1141 = .ok (.goto 238, 3) := by decide +kernel
theorem dL_law_1144 : decode cL_law 1144 = .ok (.aload_n 1, 1) := by decide +kernel
theorem dL_law_1145 : decode cL_law 1145 = .ok (.aload_n 0, 1) := by decide +kernel
theorem dL_law_1146 : decode cL_law 1146 = .ok (.iload 4, 2) := by decide +kernel
theorem dL_law_1148 : decode cL_law 1148 = .ok (.iconst 1, 1) := by decide +kernel
theorem dL_law_1149 : decode cL_law 1149 = .ok (.iadd, 1) := by decide +kernel
theorem dL_law_1150 : decode cL_law 1150 = .ok (.iaload, 1) := by decide +kernel
theorem dL_law_1151 : decode cL_law 1151 = .ok (.aload_n 3, 1) := by decide +kernel
theorem dL_law_1152 : decode cL_law 1152 = .ok (.invokestatic 132, 3) := by decide +kernel
theorem dL_law_1155 : decode cL_law 1155 = .ok (.istore 5, 2) := by decide +kernel
theorem dL_law_1157 : decode cL_law 1157 = .ok (.aload_n 2, 1) := by decide +kernel
theorem dL_law_1158 : decode cL_law 1158 = .ok (.aload_n 0, 1) := by decide +kernel
theorem dL_law_1159 : decode cL_law 1159 = .ok (.iload 4, 2) := by decide +kernel
theorem dL_law_1161 : decode cL_law 1161 = .ok (.iconst 1, 1) := by decide +kernel
theorem dL_law_1162 : decode cL_law 1162 = .ok (.iadd, 1) := by decide +kernel
theorem dL_law_1163 : decode cL_law 1163 = .ok (.iaload, 1) := by decide +kernel
theorem dL_law_1164 : decode cL_law 1164 = .ok (.invokevirtual 134, 3) := by decide +kernel
theorem dL_law_1167 : decode cL_law 1167 = .ok (.istore 6, 2) := by decide +kernel
theorem dL_law_1169 : decode cL_law 1169 = .ok (.aload_n 2, 1) := by decide +kernel
theorem dL_law_1170 : decode cL_law 1170 = .ok (.invokevirtual 83, 3) := by decide +kernel
theorem dL_law_1173 : decode cL_law 1173 = .ok (.iload 5, 2) := by decide +kernel
theorem dL_law_1175 : decode cL_law 1175 = .ok (.if_icmp .eq 5, 3) := by decide +kernel
theorem dL_law_1178 : decode cL_law 1178 = .ok (.iconst 0, 1) := by decide +kernel
theorem dL_law_1179 : decode cL_law 1179 = .ok (.ireturn, 1) := by decide +kernel
theorem dL_law_1180 : decode cL_law 1180 = .ok (.iload 5, 2) := by decide +kernel
theorem dL_law_1182 : decode cL_law 1182 = .ok (.ifCond .ne 15, 3) := by decide +kernel
theorem dL_law_1185 : decode cL_law 1185 = .ok (.aload_n 3, 1) := by decide +kernel
theorem dL_law_1186 : decode cL_law 1186 = .ok (.iconst 0, 1) := by decide +kernel
theorem dL_law_1187 : decode cL_law 1187 = .ok (.laload, 1) := by decide +kernel
theorem dL_law_1188 : decode cL_law 1188 = .ok (.iload 6, 2) := by decide +kernel
theorem dL_law_1190 : decode cL_law 1190 = .ok (.i2l, 1) := by decide +kernel
theorem dL_law_1191 : decode cL_law 1191 = .ok (.lcmp, 1) := by decide +kernel
theorem dL_law_1192 : decode cL_law 1192 = .ok (.ifCond .eq 5, 3) := by decide +kernel
theorem dL_law_1195 : decode cL_law 1195 = .ok (.iconst 0, 1) := by decide +kernel
theorem dL_law_1196 : decode cL_law 1196 = .ok (.ireturn, 1) := by decide +kernel
theorem dL_law_1197 : decode cL_law 1197 = .ok (.goto 182, 3) := by decide +kernel
theorem dL_law_1200 : decode cL_law 1200 = .ok (.aload_n 1, 1) := by decide +kernel
theorem dL_law_1201 : decode cL_law 1201 = .ok (.aload_n 0, 1) := by decide +kernel
theorem dL_law_1202 : decode cL_law 1202 = .ok (.iload 4, 2) := by decide +kernel
theorem dL_law_1204 : decode cL_law 1204 = .ok (.iconst 1, 1) := by decide +kernel
theorem dL_law_1205 : decode cL_law 1205 = .ok (.iadd, 1) := by decide +kernel
theorem dL_law_1206 : decode cL_law 1206 = .ok (.iaload, 1) := by decide +kernel
theorem dL_law_1207 : decode cL_law 1207 = .ok (.aload_n 0, 1) := by decide +kernel
theorem dL_law_1208 : decode cL_law 1208 = .ok (.iload 4, 2) := by decide +kernel
theorem dL_law_1210 : decode cL_law 1210 = .ok (.iconst 2, 1) := by decide +kernel
theorem dL_law_1211 : decode cL_law 1211 = .ok (.iadd, 1) := by decide +kernel
theorem dL_law_1212 : decode cL_law 1212 = .ok (.iaload, 1) := by decide +kernel
theorem dL_law_1213 : decode cL_law 1213 = .ok (.aload_n 3, 1) := by decide +kernel
theorem dL_law_1214 : decode cL_law 1214 = .ok (.invokestatic 135, 3) := by decide +kernel
theorem dL_law_1217 : decode cL_law 1217 = .ok (.istore 5, 2) := by decide +kernel
theorem dL_law_1219 : decode cL_law 1219 = .ok (.aload_n 2, 1) := by decide +kernel
theorem dL_law_1220 : decode cL_law 1220 = .ok (.aload_n 0, 1) := by decide +kernel
theorem dL_law_1221 : decode cL_law 1221 = .ok (.iload 4, 2) := by decide +kernel
theorem dL_law_1223 : decode cL_law 1223 = .ok (.iconst 1, 1) := by decide +kernel
theorem dL_law_1224 : decode cL_law 1224 = .ok (.iadd, 1) := by decide +kernel
theorem dL_law_1225 : decode cL_law 1225 = .ok (.iaload, 1) := by decide +kernel
theorem dL_law_1226 : decode cL_law 1226 = .ok (.aload_n 0, 1) := by decide +kernel
theorem dL_law_1227 : decode cL_law 1227 = .ok (.iload 4, 2) := by decide +kernel
theorem dL_law_1229 : decode cL_law 1229 = .ok (.iconst 2, 1) := by decide +kernel
theorem dL_law_1230 : decode cL_law 1230 = .ok (.iadd, 1) := by decide +kernel
theorem dL_law_1231 : decode cL_law 1231 = .ok (.iaload, 1) := by decide +kernel
theorem dL_law_1232 : decode cL_law 1232 = .ok (.invokevirtual 137, 3) := by decide +kernel
theorem dL_law_1235 : decode cL_law 1235 = .ok (.istore 6, 2) := by decide +kernel
theorem dL_law_1237 : decode cL_law 1237 = .ok (.aload_n 2, 1) := by decide +kernel
theorem dL_law_1238 : decode cL_law 1238 = .ok (.invokevirtual 83, 3) := by decide +kernel
theorem dL_law_1241 : decode cL_law 1241 = .ok (.iload 5, 2) := by decide +kernel
theorem dL_law_1243 : decode cL_law 1243 = .ok (.if_icmp .eq 5, 3) := by decide +kernel
theorem dL_law_1246 : decode cL_law 1246 = .ok (.iconst 0, 1) := by decide +kernel
theorem dL_law_1247 : decode cL_law 1247 = .ok (.ireturn, 1) := by decide +kernel
theorem dL_law_1248 : decode cL_law 1248 = .ok (.iload 5, 2) := by decide +kernel
theorem dL_law_1250 : decode cL_law 1250 = .ok (.ifCond .ne 15, 3) := by decide +kernel
theorem dL_law_1253 : decode cL_law 1253 = .ok (.aload_n 3, 1) := by decide +kernel
theorem dL_law_1254 : decode cL_law 1254 = .ok (.iconst 0, 1) := by decide +kernel
theorem dL_law_1255 : decode cL_law 1255 = .ok (.laload, 1) := by decide +kernel
theorem dL_law_1256 : decode cL_law 1256 = .ok (.iload 6, 2) := by decide +kernel
theorem dL_law_1258 : decode cL_law 1258 = .ok (.i2l, 1) := by decide +kernel
theorem dL_law_1259 : decode cL_law 1259 = .ok (.lcmp, 1) := by decide +kernel
theorem dL_law_1260 : decode cL_law 1260 = .ok (.ifCond .eq 5, 3) := by decide +kernel
theorem dL_law_1263 : decode cL_law 1263 = .ok (.iconst 0, 1) := by decide +kernel
theorem dL_law_1264 : decode cL_law 1264 = .ok (.ireturn, 1) := by decide +kernel
theorem dL_law_1265 : decode cL_law 1265 = .ok (.goto 114, 3) := by decide +kernel
theorem dL_law_1268 : decode cL_law 1268 = .ok (.aload_n 1, 1) := by decide +kernel
theorem dL_law_1269 : decode cL_law 1269 = .ok (.aload_n 0, 1) := by decide +kernel
theorem dL_law_1270 : decode cL_law 1270 = .ok (.iload 4, 2) := by decide +kernel
theorem dL_law_1272 : decode cL_law 1272 = .ok (.iconst 1, 1) := by decide +kernel
theorem dL_law_1273 : decode cL_law 1273 = .ok (.iadd, 1) := by decide +kernel
theorem dL_law_1274 : decode cL_law 1274 = .ok (.iaload, 1) := by decide +kernel
theorem dL_law_1275 : decode cL_law 1275 = .ok (.aload_n 3, 1) := by decide +kernel
theorem dL_law_1276 : decode cL_law 1276 = .ok (.invokestatic 138, 3) := by decide +kernel
theorem dL_law_1279 : decode cL_law 1279 = .ok (.istore 5, 2) := by decide +kernel
theorem dL_law_1281 : decode cL_law 1281 = .ok (.aload_n 2, 1) := by decide +kernel
theorem dL_law_1282 : decode cL_law 1282 = .ok (.aload_n 0, 1) := by decide +kernel
theorem dL_law_1283 : decode cL_law 1283 = .ok (.iload 4, 2) := by decide +kernel
theorem dL_law_1285 : decode cL_law 1285 = .ok (.iconst 1, 1) := by decide +kernel
theorem dL_law_1286 : decode cL_law 1286 = .ok (.iadd, 1) := by decide +kernel
theorem dL_law_1287 : decode cL_law 1287 = .ok (.iaload, 1) := by decide +kernel
theorem dL_law_1288 : decode cL_law 1288 = .ok (.invokevirtual 140, 3) := by decide +kernel
theorem dL_law_1291 : decode cL_law 1291 = .ok (.istore 6, 2) := by decide +kernel
theorem dL_law_1293 : decode cL_law 1293 = .ok (.aload_n 2, 1) := by decide +kernel
theorem dL_law_1294 : decode cL_law 1294 = .ok (.invokevirtual 83, 3) := by decide +kernel
theorem dL_law_1297 : decode cL_law 1297 = .ok (.iload 5, 2) := by decide +kernel
theorem dL_law_1299 : decode cL_law 1299 = .ok (.if_icmp .eq 5, 3) := by decide +kernel
theorem dL_law_1302 : decode cL_law 1302 = .ok (.iconst 0, 1) := by decide +kernel
theorem dL_law_1303 : decode cL_law 1303 = .ok (.ireturn, 1) := by decide +kernel
theorem dL_law_1304 : decode cL_law 1304 = .ok (.iload 5, 2) := by decide +kernel
theorem dL_law_1306 : decode cL_law 1306 = .ok (.ifCond .ne 15, 3) := by decide +kernel
theorem dL_law_1309 : decode cL_law 1309 = .ok (.aload_n 3, 1) := by decide +kernel
theorem dL_law_1310 : decode cL_law 1310 = .ok (.iconst 0, 1) := by decide +kernel
theorem dL_law_1311 : decode cL_law 1311 = .ok (.laload, 1) := by decide +kernel
theorem dL_law_1312 : decode cL_law 1312 = .ok (.iload 6, 2) := by decide +kernel
theorem dL_law_1314 : decode cL_law 1314 = .ok (.i2l, 1) := by decide +kernel
theorem dL_law_1315 : decode cL_law 1315 = .ok (.lcmp, 1) := by decide +kernel
theorem dL_law_1316 : decode cL_law 1316 = .ok (.ifCond .eq 5, 3) := by decide +kernel
theorem dL_law_1319 : decode cL_law 1319 = .ok (.iconst 0, 1) := by decide +kernel
theorem dL_law_1320 : decode cL_law 1320 = .ok (.ireturn, 1) := by decide +kernel
theorem dL_law_1321 : decode cL_law 1321 = .ok (.goto 58, 3) := by decide +kernel
theorem dL_law_1324 : decode cL_law 1324 = .ok (.aload_n 1, 1) := by decide +kernel
theorem dL_law_1325 : decode cL_law 1325 = .ok (.invokevirtual 141, 3) := by decide +kernel
theorem dL_law_1328 : decode cL_law 1328 = .ok (.dstore 5, 2) := by decide +kernel
theorem dL_law_1330 : decode cL_law 1330 = .ok (.aload_n 2, 1) := by decide +kernel
theorem dL_law_1331 : decode cL_law 1331 = .ok (.invokevirtual 145, 3) := by decide +kernel
theorem dL_law_1334 : decode cL_law 1334 = .ok (.dstore 7, 2) := by decide +kernel
theorem dL_law_1336 : decode cL_law 1336 = .ok (.dload 5, 2) := by decide +kernel
theorem dL_law_1338 : decode cL_law 1338 = .ok (.dload 7, 2) := by decide +kernel
theorem dL_law_1340 : decode cL_law 1340 = .ok (.dcmp .l, 1) := by decide +kernel
theorem dL_law_1341 : decode cL_law 1341 = .ok (.ifCond .eq 21, 3) := by decide +kernel
theorem dL_law_1344 : decode cL_law 1344 = .ok (.dload 5, 2) := by decide +kernel
theorem dL_law_1346 : decode cL_law 1346 = .ok (.dload 5, 2) := by decide +kernel
theorem dL_law_1348 : decode cL_law 1348 = .ok (.dcmp .l, 1) := by decide +kernel
theorem dL_law_1349 : decode cL_law 1349 = .ok (.ifCond .eq 11, 3) := by decide +kernel
theorem dL_law_1352 : decode cL_law 1352 = .ok (.dload 7, 2) := by decide +kernel
theorem dL_law_1354 : decode cL_law 1354 = .ok (.dload 7, 2) := by decide +kernel
theorem dL_law_1356 : decode cL_law 1356 = .ok (.dcmp .l, 1) := by decide +kernel
theorem dL_law_1357 : decode cL_law 1357 = .ok (.ifCond .ne 5, 3) := by decide +kernel
theorem dL_law_1360 : decode cL_law 1360 = .ok (.iconst 0, 1) := by decide +kernel
theorem dL_law_1361 : decode cL_law 1361 = .ok (.ireturn, 1) := by decide +kernel
theorem dL_law_1362 : decode cL_law 1362 = .ok (.goto 17, 3) := by decide +kernel
theorem dL_law_1365 : decode cL_law 1365 = .ok (.aload_n 1, 1) := by decide +kernel
theorem dL_law_1366 : decode cL_law 1366 = .ok (.invokevirtual 146, 3) := by decide +kernel
theorem dL_law_1369 : decode cL_law 1369 = .ok (.aload_n 2, 1) := by decide +kernel
theorem dL_law_1370 : decode cL_law 1370 = .ok (.invokevirtual 150, 3) := by decide +kernel
theorem dL_law_1373 : decode cL_law 1373 = .ok (.lcmp, 1) := by decide +kernel
theorem dL_law_1374 : decode cL_law 1374 = .ok (.ifCond .eq 5, 3) := by decide +kernel
theorem dL_law_1377 : decode cL_law 1377 = .ok (.iconst 0, 1) := by decide +kernel
theorem dL_law_1378 : decode cL_law 1378 = .ok (.ireturn, 1) := by decide +kernel
theorem dL_law_1379 : decode cL_law 1379 = .ok (.iinc 4 4, 3) := by decide +kernel
theorem dL_law_1382 : decode cL_law 1382 = .ok (.goto (-1359), 3) := by decide +kernel
theorem dL_law_1385 : decode cL_law 1385 = .ok (.iconst 1, 1) := by decide +kernel
theorem dL_law_1386 : decode cL_law 1386 = .ok (.ireturn, 1) := by decide +kernel
abbrev vwCl : List vw_C := [(RJx4a65c, TJx4a65c, 3), (RX0, TX0, 1), (RX1, TX1, 5), (RX2, TX2, 3), (RX3, TX3, 3), (RX4, TX4, 9)]
end
section
theorem zz_probe : True := trivial
end
